set_option maxHeartbeats 4000000 in
set_option maxRecDepth 100000 in
theorem l_case_isHome {p : Program} {l : Launch} {e : Env} {s : State} {m : MethodId} {below : List Frame} {meth : Method} {c0 : Code} {b0 L : Nat} {xs : Nat → Int32} {D : va_G} {cI cZ cL : ClassId} {h hm o : Nat} {a a2 am am2 : Nat → Nat} (hC : LC p s m meth c0 b0 L xs D cI cZ cL) (hst : l.stackTraces = false) {c : Nat} (hcL : c + 3 ≤ L) (hL : L ≤ 1536) (hK : LH p l e s m below meth c0 b0 D cI cZ cL h hm o a a2 am am2 (c + 3)) {H : Heap} {locs : List Loc} {ls : Array Slot} {th : Int32} {w b n : Nat} {T : ct_T} {M : mt_T} {w2 b2 n2 : Nat} {T2 : ct_T} {w3 b3 n3 : Nat} {M2 : mt_T} {f : Nat → Int64} (hok : Lok w b n w2 b2 n2 w3 b3 n3) (hR : RR w b n T M) (hw : Wo D (fun q => s.heap.size ≤ q) s.heap (Lw cI cZ cL h hm o a a2 am am2 th w b n T M w2 b2 n2 T2 w3 b3 n3 M2 f) H locs) (hl : lv_has ls 9 [(4, .int (nI c)), (0, .ref b0), (1, .ref h), (2, .ref hm), (3, .ref o)]) : W p l e room_1 s m #[Value.ref b0] below meth c0 H locs (60 + c) (700 + 6 * c) (lw_Z below #[Value.ref b0] s) (F0 m 788 ls []) := by
  obtain ⟨hc, hTx, hX, hb0⟩ := id hC
  obtain ⟨hx, hb, hr, hml, hown, hts, hlk, hK9, hA⟩ := id hc
  obtain ⟨⟨o1, o2, o3⟩, ⟨o4, o5, o6⟩, ⟨o7, o8, o9⟩⟩ := id hok
  have hbA : ¬ (fun q : Nat => s.heap.size ≤ q) b0 := Nat.not_le.mpr hb0
  obtain ⟨x1, ex1⟩ : ∃ x : Int32, xs (nI (c + 1)).toNatClampNeg = x := ⟨_, rfl⟩
  have hop := op_isHome (w2 := w2) (b2 := b2) (n2 := n2) (T2 := T2) (w3 := w3) (b3 := b3) (n3 := n3) (M2 := M2) (th := th) o1 o2 o3 hR x1
  obtain ⟨hcd, hk, hv⟩ := hop
  refine lv_aload_n hx hb dL_law_788 rfl (lv_at hl 2 rfl) ?_
  refine lv_aload_n hx hb dL_law_789 rfl (lv_at hl 1 rfl) ?_
  refine lv_iload hx hb dL_law_790 (lv_at hl 0 rfl) ?_
  refine lv_iconst (v := 1) hx hb dL_law_792 (by decide) ?_
  refine lv_iadd hx hb dL_law_793 ?_
  rw [show nI c + 1 = nI (c + 1) from nI_add c 1]
  refine va_sld hx hb hX hb0 hbA hw.2.2 (vp_in_nI (show c + 1 < L by omega) (by omega)) dL_law_794 ?_
  rw [ex1]
  refine lv_aload_n hx hb dL_law_795 rfl (lv_at hl 4 rfl) ?_
  have hL1 := k_L_isHome D cI cZ cL h o x1 f (w0 := wb_c h a a2 cI cZ w b n T w2 b2 n2 T2) (w1 := wb_c h a a2 cI cZ w b n T w2 b2 n2 T2) rfl rfl (wo_X1_H ..) hcd (k_X1_isHome hst D cI cZ cL h a a2 w b n T w2 b2 n2 T2 o1 o2 o3 o4 o5 o6 x1)
  rw [hk] at hL1
  refine pl_callS (n := 3) (As := [.ref h, .int x1, .ref o]) (rest := []) hc hTx hw.2.2 (Pt.back (pre := wb_m hm am am2 cI th w b n M w3 b3 n3 M2) (wc := wb_c h a a2 cI cZ w b n T w2 b2 n2 T2 ++ [(o, .inl (cL, 1, .inr (.inl f)))]) hw hA) hL1 gL_law_L_isHome rfl (by decide +kernel) ⟨Nat.le_of_ble_eq_true rfl, Nat.le_of_ble_eq_true rfl⟩ rfl rfl hl.1 (Nat.le_of_ble_eq_true rfl) (st1 := [.int (t_X3_isHome th w b n M w3 b3 n3 M2 x1)]) rfl dL_law_796 (k2 := 60 + c + 1) (s2 := 700 + 6 * c + 6) rfl rfl ⟨(Nat.le_trans (show 60 + c + 1 ≤ 20000 by omega) (Nat.le_of_ble_eq_true rfl)), (Nat.le_trans (show 700 + 6 * c + 6 ≤ 40000 by omega) (Nat.le_of_ble_eq_true rfl))⟩ (fun H locs hw => ?_)
  refine lv_istore (lv' := [(5, .int (t_X3_isHome th w b n M w3 b3 n3 M2 x1)), (4, .int (nI c)), (0, .ref b0), (1, .ref h), (2, .ref hm), (3, .ref o)]) hx hb dL_law_799 hl (by decide) rfl (fun ls hl => ?_)
  refine lv_aload_n hx hb dL_law_801 rfl (lv_at hl 4 rfl) ?_
  refine lv_aload_n hx hb dL_law_802 rfl (lv_at hl 2 rfl) ?_
  refine lv_iload hx hb dL_law_803 (lv_at hl 1 rfl) ?_
  refine lv_iconst (v := 1) hx hb dL_law_805 (by decide) ?_
  refine lv_iadd hx hb dL_law_806 ?_
  rw [show nI c + 1 = nI (c + 1) from nI_add c 1]
  refine va_sld hx hb hX hb0 hbA hw.2.2 (vp_in_nI (show c + 1 < L by omega) (by omega)) dL_law_807 ?_
  rw [ex1]
  refine p_callV (n := 1) (As := [.int x1]) (rest := []) (q0 := 0) hc hw.2.2 (Pt.front (wc := wb_m hm am am2 cI th w b n M w3 b3 n3 M2) hw hA) (k_X3_isHome l D cI cZ cL hm am am2 th w b n M w3 b3 n3 M2 o1 o2 o3 o7 o8 o9 x1) gL_law_X3_isHome rfl (by decide +kernel) ⟨Nat.le_of_ble_eq_true rfl, Nat.le_of_ble_eq_true rfl⟩ (wo_X3_H ..) rfl rfl rfl rfl hl.1 (Nat.le_of_ble_eq_true rfl) (st1 := [.int (r_X3_isHome th w b n M w3 b3 n3 M2 x1)]) rfl dL_law_808 (k2 := 60 + c + 1 + 0) (s2 := 700 + 6 * c + 6 + 0) rfl rfl ⟨(Nat.le_trans (show 60 + c + 1 + 0 ≤ 20000 by omega) (Nat.le_of_ble_eq_true rfl)), (Nat.le_trans (show 700 + 6 * c + 6 + 0 ≤ 40000 by omega) (Nat.le_of_ble_eq_true rfl))⟩ (fun H locs hw => ?_)
  refine lv_istore (lv' := [(6, .int (r_X3_isHome th w b n M w3 b3 n3 M2 x1)), (5, .int (t_X3_isHome th w b n M w3 b3 n3 M2 x1)), (4, .int (nI c)), (0, .ref b0), (1, .ref h), (2, .ref hm), (3, .ref o)]) hx hb dL_law_811 hl (by decide) rfl (fun ls hl => ?_)
  refine lv_aload_n hx hb dL_law_813 rfl (lv_at hl 5 rfl) ?_
  refine p_callV (n := 0) (As := []) (rest := []) (q0 := 0) hc hw.2.2 (Pt.front (wc := wb_m hm am am2 cI (t_X3_isHome th w b n M w3 b3 n3 M2 x1) w b n M w3 b3 n3 M2) hw hA) (k_X3_thrown l D cI cZ cL hm am am2 (t_X3_isHome th w b n M w3 b3 n3 M2 x1) w b n M w3 b3 n3 M2 o1 o2 o3 o7 o8 o9) gL_law_X3_thrown rfl (by decide +kernel) ⟨Nat.le_of_ble_eq_true rfl, Nat.le_of_ble_eq_true rfl⟩ (wo_X3_H ..) rfl rfl rfl rfl hl.1 (Nat.le_of_ble_eq_true rfl) (st1 := [.int (t_X3_isHome th w b n M w3 b3 n3 M2 x1)]) rfl dL_law_814 (k2 := 60 + c + 1 + 0) (s2 := 700 + 6 * c + 6 + 0) rfl rfl ⟨(Nat.le_trans (show 60 + c + 1 + 0 ≤ 20000 by omega) (Nat.le_of_ble_eq_true rfl)), (Nat.le_trans (show 700 + 6 * c + 6 + 0 ≤ 40000 by omega) (Nat.le_of_ble_eq_true rfl))⟩ (fun H locs hw => ?_)
  refine lv_iload hx hb dL_law_817 (lv_at hl 1 rfl) ?_
  refine lv_icmp_eq (tgt := 824) hx hb dL_law_819 (by decide) (fun _ => ?_) (fun z => absurd rfl z)
  refine lv_iload hx hb dL_law_824 (lv_at hl 1 rfl) ?_
  refine lv_if_ne (tgt := 848) hx hb dL_law_826 (by decide) (fun z => ?_) (fun z => ?_)
  · have he : ¬ e_X1_isHome w b n T w2 b2 n2 T2 x1 = 0 := fun y => z (by rw [← hk, if_pos y])
    rw [if_neg he] at hw
    refine lv_goto (tgt := 1840) hx hb dL_law_848 (by decide) ?_
    exact l_back hC hK (f := f) hok hR hw (lv_sub hl [2, 3, 4, 5, 6] rfl) (by omega) (by omega)
  · have he : e_X1_isHome w b n T w2 b2 n2 T2 x1 = 0 := by
      by_cases y : e_X1_isHome w b n T w2 b2 n2 T2 x1 = 0
      · exact y
      · rw [← hk, if_neg y] at z; exfalso; revert z; (repeat' split) <;> decide
    rw [if_pos he] at hw
    refine lv_aload_n hx hb dL_law_829 rfl (lv_at hl 6 rfl) ?_
    refine lv_iconst (v := 0) hx hb dL_law_830 (by decide) ?_
    refine g_lald (f := (vp_updL f 0 (if (r_X1_isHome w b n T w2 b2 n2 T2 x1) = 0 then (0 : Int64) else (1 : Int64)))) hc hw 40 rfl (show vp_in (0 : Int32) 1 by unfold vp_in; decide) dL_law_831 ?_
    rw [show (vp_updL f 0 (if (r_X1_isHome w b n T w2 b2 n2 T2 x1) = 0 then (0 : Int64) else (1 : Int64))) (0 : Int32).toNatClampNeg = (if (r_X1_isHome w b n T w2 b2 n2 T2 x1) = 0 then (0 : Int64) else (1 : Int64)) from rfl, hv he]
    refine lv_iload hx hb dL_law_832 (lv_at hl 0 rfl) ?_
    refine lv_if_eq (tgt := 841) hx hb dL_law_834 (by decide) (fun y => ?_) (fun y => ?_)
    · rw [if_pos y]
      refine lv_lconst (v := 0) hx hb dL_law_841 (by decide) ?_
      refine W.lcmp hx hb dL_law_842 ?_
      rw [lg_same]
      refine lv_if_eq (tgt := 848) hx hb dL_law_843 (by decide) (fun _ => ?_) (fun z => absurd rfl z)
      refine lv_goto (tgt := 1840) hx hb dL_law_848 (by decide) ?_
      exact l_back hC hK (f := (vp_updL f 0 (if (r_X1_isHome w b n T w2 b2 n2 T2 x1) = 0 then (0 : Int64) else (1 : Int64)))) hok hR hw (lv_sub hl [2, 3, 4, 5, 6] rfl) (by omega) (by omega)
    · rw [if_neg y]
      refine lv_lconst (v := 1) hx hb dL_law_837 (by decide) ?_
      refine lv_goto (tgt := 842) hx hb dL_law_838 (by decide) ?_
      refine W.lcmp hx hb dL_law_842 ?_
      rw [lg_same]
      refine lv_if_eq (tgt := 848) hx hb dL_law_843 (by decide) (fun _ => ?_) (fun z => absurd rfl z)
      refine lv_goto (tgt := 1840) hx hb dL_law_848 (by decide) ?_
      exact l_back hC hK (f := (vp_updL f 0 (if (r_X1_isHome w b n T w2 b2 n2 T2 x1) = 0 then (0 : Int64) else (1 : Int64)))) hok hR hw (lv_sub hl [2, 3, 4, 5, 6] rfl) (by omega) (by omega)
set_option maxHeartbeats 4000000 in
set_option maxRecDepth 100000 in
theorem l_case_isInGreatHouse {p : Program} {l : Launch} {e : Env} {s : State} {m : MethodId} {below : List Frame} {meth : Method} {c0 : Code} {b0 L : Nat} {xs : Nat → Int32} {D : va_G} {cI cZ cL : ClassId} {h hm o : Nat} {a a2 am am2 : Nat → Nat} (hC : LC p s m meth c0 b0 L xs D cI cZ cL) (hst : l.stackTraces = false) {c : Nat} (hcL : c + 3 ≤ L) (hL : L ≤ 1536) (hK : LH p l e s m below meth c0 b0 D cI cZ cL h hm o a a2 am am2 (c + 3)) {H : Heap} {locs : List Loc} {ls : Array Slot} {th : Int32} {w b n : Nat} {T : ct_T} {M : mt_T} {w2 b2 n2 : Nat} {T2 : ct_T} {w3 b3 n3 : Nat} {M2 : mt_T} {f : Nat → Int64} (hok : Lok w b n w2 b2 n2 w3 b3 n3) (hR : RR w b n T M) (hw : Wo D (fun q => s.heap.size ≤ q) s.heap (Lw cI cZ cL h hm o a a2 am am2 th w b n T M w2 b2 n2 T2 w3 b3 n3 M2 f) H locs) (hl : lv_has ls 9 [(4, .int (nI c)), (0, .ref b0), (1, .ref h), (2, .ref hm), (3, .ref o)]) : W p l e room_1 s m #[Value.ref b0] below meth c0 H locs (60 + c) (700 + 6 * c) (lw_Z below #[Value.ref b0] s) (F0 m 851 ls []) := by
  obtain ⟨hc, hTx, hX, hb0⟩ := id hC
  obtain ⟨hx, hb, hr, hml, hown, hts, hlk, hK9, hA⟩ := id hc
  obtain ⟨⟨o1, o2, o3⟩, ⟨o4, o5, o6⟩, ⟨o7, o8, o9⟩⟩ := id hok
  have hbA : ¬ (fun q : Nat => s.heap.size ≤ q) b0 := Nat.not_le.mpr hb0
  obtain ⟨x1, ex1⟩ : ∃ x : Int32, xs (nI (c + 1)).toNatClampNeg = x := ⟨_, rfl⟩
  have hop := op_isInGreatHouse (w2 := w2) (b2 := b2) (n2 := n2) (T2 := T2) (w3 := w3) (b3 := b3) (n3 := n3) (M2 := M2) (th := th) o1 o2 o3 hR x1
  obtain ⟨hcd, hk, hv⟩ := hop
  refine lv_aload_n hx hb dL_law_851 rfl (lv_at hl 2 rfl) ?_
  refine lv_aload_n hx hb dL_law_852 rfl (lv_at hl 1 rfl) ?_
  refine lv_iload hx hb dL_law_853 (lv_at hl 0 rfl) ?_
  refine lv_iconst (v := 1) hx hb dL_law_855 (by decide) ?_
  refine lv_iadd hx hb dL_law_856 ?_
  rw [show nI c + 1 = nI (c + 1) from nI_add c 1]
  refine va_sld hx hb hX hb0 hbA hw.2.2 (vp_in_nI (show c + 1 < L by omega) (by omega)) dL_law_857 ?_
  rw [ex1]
  refine lv_aload_n hx hb dL_law_858 rfl (lv_at hl 4 rfl) ?_
  have hL1 := k_L_isInGreatHouse D cI cZ cL h o x1 f (w0 := wb_c h a a2 cI cZ w b n T w2 b2 n2 T2) (w1 := wb_c h a a2 cI cZ w b n T w2 b2 n2 T2) rfl rfl (wo_X1_H ..) hcd (k_X1_isInGreatHouse hst D cI cZ cL h a a2 w b n T w2 b2 n2 T2 o1 o2 o3 o4 o5 o6 x1)
  rw [hk] at hL1
  refine pl_callS (n := 3) (As := [.ref h, .int x1, .ref o]) (rest := []) hc hTx hw.2.2 (Pt.back (pre := wb_m hm am am2 cI th w b n M w3 b3 n3 M2) (wc := wb_c h a a2 cI cZ w b n T w2 b2 n2 T2 ++ [(o, .inl (cL, 1, .inr (.inl f)))]) hw hA) hL1 gL_law_L_isInGreatHouse rfl (by decide +kernel) ⟨Nat.le_of_ble_eq_true rfl, Nat.le_of_ble_eq_true rfl⟩ rfl rfl hl.1 (Nat.le_of_ble_eq_true rfl) (st1 := [.int (t_X3_isInGreatHouse th w b n M w3 b3 n3 M2 x1)]) rfl dL_law_859 (k2 := 60 + c + 1) (s2 := 700 + 6 * c + 6) rfl rfl ⟨(Nat.le_trans (show 60 + c + 1 ≤ 20000 by omega) (Nat.le_of_ble_eq_true rfl)), (Nat.le_trans (show 700 + 6 * c + 6 ≤ 40000 by omega) (Nat.le_of_ble_eq_true rfl))⟩ (fun H locs hw => ?_)
  refine lv_istore (lv' := [(5, .int (t_X3_isInGreatHouse th w b n M w3 b3 n3 M2 x1)), (4, .int (nI c)), (0, .ref b0), (1, .ref h), (2, .ref hm), (3, .ref o)]) hx hb dL_law_862 hl (by decide) rfl (fun ls hl => ?_)
  refine lv_aload_n hx hb dL_law_864 rfl (lv_at hl 4 rfl) ?_
  refine lv_aload_n hx hb dL_law_865 rfl (lv_at hl 2 rfl) ?_
  refine lv_iload hx hb dL_law_866 (lv_at hl 1 rfl) ?_
  refine lv_iconst (v := 1) hx hb dL_law_868 (by decide) ?_
  refine lv_iadd hx hb dL_law_869 ?_
  rw [show nI c + 1 = nI (c + 1) from nI_add c 1]
  refine va_sld hx hb hX hb0 hbA hw.2.2 (vp_in_nI (show c + 1 < L by omega) (by omega)) dL_law_870 ?_
  rw [ex1]
  refine p_callV (n := 1) (As := [.int x1]) (rest := []) (q0 := 0) hc hw.2.2 (Pt.front (wc := wb_m hm am am2 cI th w b n M w3 b3 n3 M2) hw hA) (k_X3_isInGreatHouse l D cI cZ cL hm am am2 th w b n M w3 b3 n3 M2 o1 o2 o3 o7 o8 o9 x1) gL_law_X3_isInGreatHouse rfl (by decide +kernel) ⟨Nat.le_of_ble_eq_true rfl, Nat.le_of_ble_eq_true rfl⟩ (wo_X3_H ..) rfl rfl rfl rfl hl.1 (Nat.le_of_ble_eq_true rfl) (st1 := [.int (r_X3_isInGreatHouse th w b n M w3 b3 n3 M2 x1)]) rfl dL_law_871 (k2 := 60 + c + 1 + 0) (s2 := 700 + 6 * c + 6 + 0) rfl rfl ⟨(Nat.le_trans (show 60 + c + 1 + 0 ≤ 20000 by omega) (Nat.le_of_ble_eq_true rfl)), (Nat.le_trans (show 700 + 6 * c + 6 + 0 ≤ 40000 by omega) (Nat.le_of_ble_eq_true rfl))⟩ (fun H locs hw => ?_)
  refine lv_istore (lv' := [(6, .int (r_X3_isInGreatHouse th w b n M w3 b3 n3 M2 x1)), (5, .int (t_X3_isInGreatHouse th w b n M w3 b3 n3 M2 x1)), (4, .int (nI c)), (0, .ref b0), (1, .ref h), (2, .ref hm), (3, .ref o)]) hx hb dL_law_874 hl (by decide) rfl (fun ls hl => ?_)
  refine lv_aload_n hx hb dL_law_876 rfl (lv_at hl 5 rfl) ?_
  refine p_callV (n := 0) (As := []) (rest := []) (q0 := 0) hc hw.2.2 (Pt.front (wc := wb_m hm am am2 cI (t_X3_isInGreatHouse th w b n M w3 b3 n3 M2 x1) w b n M w3 b3 n3 M2) hw hA) (k_X3_thrown l D cI cZ cL hm am am2 (t_X3_isInGreatHouse th w b n M w3 b3 n3 M2 x1) w b n M w3 b3 n3 M2 o1 o2 o3 o7 o8 o9) gL_law_X3_thrown rfl (by decide +kernel) ⟨Nat.le_of_ble_eq_true rfl, Nat.le_of_ble_eq_true rfl⟩ (wo_X3_H ..) rfl rfl rfl rfl hl.1 (Nat.le_of_ble_eq_true rfl) (st1 := [.int (t_X3_isInGreatHouse th w b n M w3 b3 n3 M2 x1)]) rfl dL_law_877 (k2 := 60 + c + 1 + 0) (s2 := 700 + 6 * c + 6 + 0) rfl rfl ⟨(Nat.le_trans (show 60 + c + 1 + 0 ≤ 20000 by omega) (Nat.le_of_ble_eq_true rfl)), (Nat.le_trans (show 700 + 6 * c + 6 + 0 ≤ 40000 by omega) (Nat.le_of_ble_eq_true rfl))⟩ (fun H locs hw => ?_)
  refine lv_iload hx hb dL_law_880 (lv_at hl 1 rfl) ?_
  refine lv_icmp_eq (tgt := 887) hx hb dL_law_882 (by decide) (fun _ => ?_) (fun z => absurd rfl z)
  refine lv_iload hx hb dL_law_887 (lv_at hl 1 rfl) ?_
  refine lv_if_ne (tgt := 911) hx hb dL_law_889 (by decide) (fun z => ?_) (fun z => ?_)
  · have he : ¬ e_X1_isInGreatHouse w b n T w2 b2 n2 T2 x1 = 0 := fun y => z (by rw [← hk, if_pos y])
    rw [if_neg he] at hw
    refine lv_goto (tgt := 1840) hx hb dL_law_911 (by decide) ?_
    exact l_back hC hK (f := f) hok hR hw (lv_sub hl [2, 3, 4, 5, 6] rfl) (by omega) (by omega)
  · have he : e_X1_isInGreatHouse w b n T w2 b2 n2 T2 x1 = 0 := by
      by_cases y : e_X1_isInGreatHouse w b n T w2 b2 n2 T2 x1 = 0
      · exact y
      · rw [← hk, if_neg y] at z; exfalso; revert z; (repeat' split) <;> decide
    rw [if_pos he] at hw
    refine lv_aload_n hx hb dL_law_892 rfl (lv_at hl 6 rfl) ?_
    refine lv_iconst (v := 0) hx hb dL_law_893 (by decide) ?_
    refine g_lald (f := (vp_updL f 0 (if (r_X1_isInGreatHouse w b n T w2 b2 n2 T2 x1) = 0 then (0 : Int64) else (1 : Int64)))) hc hw 40 rfl (show vp_in (0 : Int32) 1 by unfold vp_in; decide) dL_law_894 ?_
    rw [show (vp_updL f 0 (if (r_X1_isInGreatHouse w b n T w2 b2 n2 T2 x1) = 0 then (0 : Int64) else (1 : Int64))) (0 : Int32).toNatClampNeg = (if (r_X1_isInGreatHouse w b n T w2 b2 n2 T2 x1) = 0 then (0 : Int64) else (1 : Int64)) from rfl, hv he]
    refine lv_iload hx hb dL_law_895 (lv_at hl 0 rfl) ?_
    refine lv_if_eq (tgt := 904) hx hb dL_law_897 (by decide) (fun y => ?_) (fun y => ?_)
    · rw [if_pos y]
      refine lv_lconst (v := 0) hx hb dL_law_904 (by decide) ?_
      refine W.lcmp hx hb dL_law_905 ?_
      rw [lg_same]
      refine lv_if_eq (tgt := 911) hx hb dL_law_906 (by decide) (fun _ => ?_) (fun z => absurd rfl z)
      refine lv_goto (tgt := 1840) hx hb dL_law_911 (by decide) ?_
      exact l_back hC hK (f := (vp_updL f 0 (if (r_X1_isInGreatHouse w b n T w2 b2 n2 T2 x1) = 0 then (0 : Int64) else (1 : Int64)))) hok hR hw (lv_sub hl [2, 3, 4, 5, 6] rfl) (by omega) (by omega)
    · rw [if_neg y]
      refine lv_lconst (v := 1) hx hb dL_law_900 (by decide) ?_
      refine lv_goto (tgt := 905) hx hb dL_law_901 (by decide) ?_
      refine W.lcmp hx hb dL_law_905 ?_
      rw [lg_same]
      refine lv_if_eq (tgt := 911) hx hb dL_law_906 (by decide) (fun _ => ?_) (fun z => absurd rfl z)
      refine lv_goto (tgt := 1840) hx hb dL_law_911 (by decide) ?_
      exact l_back hC hK (f := (vp_updL f 0 (if (r_X1_isInGreatHouse w b n T w2 b2 n2 T2 x1) = 0 then (0 : Int64) else (1 : Int64)))) hok hR hw (lv_sub hl [2, 3, 4, 5, 6] rfl) (by omega) (by omega)
set_option maxHeartbeats 4000000 in
set_option maxRecDepth 100000 in
theorem l_case_hungryDaysOf {p : Program} {l : Launch} {e : Env} {s : State} {m : MethodId} {below : List Frame} {meth : Method} {c0 : Code} {b0 L : Nat} {xs : Nat → Int32} {D : va_G} {cI cZ cL : ClassId} {h hm o : Nat} {a a2 am am2 : Nat → Nat} (hC : LC p s m meth c0 b0 L xs D cI cZ cL) (hst : l.stackTraces = false) {c : Nat} (hcL : c + 3 ≤ L) (hL : L ≤ 1536) (hK : LH p l e s m below meth c0 b0 D cI cZ cL h hm o a a2 am am2 (c + 3)) {H : Heap} {locs : List Loc} {ls : Array Slot} {th : Int32} {w b n : Nat} {T : ct_T} {M : mt_T} {w2 b2 n2 : Nat} {T2 : ct_T} {w3 b3 n3 : Nat} {M2 : mt_T} {f : Nat → Int64} (hok : Lok w b n w2 b2 n2 w3 b3 n3) (hR : RR w b n T M) (hw : Wo D (fun q => s.heap.size ≤ q) s.heap (Lw cI cZ cL h hm o a a2 am am2 th w b n T M w2 b2 n2 T2 w3 b3 n3 M2 f) H locs) (hl : lv_has ls 9 [(4, .int (nI c)), (0, .ref b0), (1, .ref h), (2, .ref hm), (3, .ref o)]) : W p l e room_1 s m #[Value.ref b0] below meth c0 H locs (60 + c) (700 + 6 * c) (lw_Z below #[Value.ref b0] s) (F0 m 914 ls []) := by
  obtain ⟨hc, hTx, hX, hb0⟩ := id hC
  obtain ⟨hx, hb, hr, hml, hown, hts, hlk, hK9, hA⟩ := id hc
  obtain ⟨⟨o1, o2, o3⟩, ⟨o4, o5, o6⟩, ⟨o7, o8, o9⟩⟩ := id hok
  have hbA : ¬ (fun q : Nat => s.heap.size ≤ q) b0 := Nat.not_le.mpr hb0
  obtain ⟨x1, ex1⟩ : ∃ x : Int32, xs (nI (c + 1)).toNatClampNeg = x := ⟨_, rfl⟩
  have hop := op_hungryDaysOf (w2 := w2) (b2 := b2) (n2 := n2) (T2 := T2) (w3 := w3) (b3 := b3) (n3 := n3) (M2 := M2) (th := th) o1 o2 o3 hR x1
  obtain ⟨hcd, hk, hv⟩ := hop
  refine lv_aload_n hx hb dL_law_914 rfl (lv_at hl 2 rfl) ?_
  refine lv_aload_n hx hb dL_law_915 rfl (lv_at hl 1 rfl) ?_
  refine lv_iload hx hb dL_law_916 (lv_at hl 0 rfl) ?_
  refine lv_iconst (v := 1) hx hb dL_law_918 (by decide) ?_
  refine lv_iadd hx hb dL_law_919 ?_
  rw [show nI c + 1 = nI (c + 1) from nI_add c 1]
  refine va_sld hx hb hX hb0 hbA hw.2.2 (vp_in_nI (show c + 1 < L by omega) (by omega)) dL_law_920 ?_
  rw [ex1]
  refine lv_aload_n hx hb dL_law_921 rfl (lv_at hl 4 rfl) ?_
  have hL1 := k_L_hungryDaysOf D cI cZ cL h o x1 f (w0 := wb_c h a a2 cI cZ w b n T w2 b2 n2 T2) (w1 := wb_c h a a2 cI cZ w b n T w2 b2 n2 T2) rfl rfl (wo_X1_H ..) hcd (k_X1_hungryDaysOf hst D cI cZ cL h a a2 w b n T w2 b2 n2 T2 o1 o2 o3 o4 o5 o6 x1)
  rw [hk] at hL1
  refine pl_callS (n := 3) (As := [.ref h, .int x1, .ref o]) (rest := []) hc hTx hw.2.2 (Pt.back (pre := wb_m hm am am2 cI th w b n M w3 b3 n3 M2) (wc := wb_c h a a2 cI cZ w b n T w2 b2 n2 T2 ++ [(o, .inl (cL, 1, .inr (.inl f)))]) hw hA) hL1 gL_law_L_hungryDaysOf rfl (by decide +kernel) ⟨Nat.le_of_ble_eq_true rfl, Nat.le_of_ble_eq_true rfl⟩ rfl rfl hl.1 (Nat.le_of_ble_eq_true rfl) (st1 := [.int (t_X3_hungryDaysOf th w b n M w3 b3 n3 M2 x1)]) rfl dL_law_922 (k2 := 60 + c + 1) (s2 := 700 + 6 * c + 6) rfl rfl ⟨(Nat.le_trans (show 60 + c + 1 ≤ 20000 by omega) (Nat.le_of_ble_eq_true rfl)), (Nat.le_trans (show 700 + 6 * c + 6 ≤ 40000 by omega) (Nat.le_of_ble_eq_true rfl))⟩ (fun H locs hw => ?_)
  refine lv_istore (lv' := [(5, .int (t_X3_hungryDaysOf th w b n M w3 b3 n3 M2 x1)), (4, .int (nI c)), (0, .ref b0), (1, .ref h), (2, .ref hm), (3, .ref o)]) hx hb dL_law_925 hl (by decide) rfl (fun ls hl => ?_)
  refine lv_aload_n hx hb dL_law_927 rfl (lv_at hl 4 rfl) ?_
  refine lv_aload_n hx hb dL_law_928 rfl (lv_at hl 2 rfl) ?_
  refine lv_iload hx hb dL_law_929 (lv_at hl 1 rfl) ?_
  refine lv_iconst (v := 1) hx hb dL_law_931 (by decide) ?_
  refine lv_iadd hx hb dL_law_932 ?_
  rw [show nI c + 1 = nI (c + 1) from nI_add c 1]
  refine va_sld hx hb hX hb0 hbA hw.2.2 (vp_in_nI (show c + 1 < L by omega) (by omega)) dL_law_933 ?_
  rw [ex1]
  refine p_callV (n := 1) (As := [.int x1]) (rest := []) (q0 := 0) hc hw.2.2 (Pt.front (wc := wb_m hm am am2 cI th w b n M w3 b3 n3 M2) hw hA) (k_X3_hungryDaysOf l D cI cZ cL hm am am2 th w b n M w3 b3 n3 M2 o1 o2 o3 o7 o8 o9 x1) gL_law_X3_hungryDaysOf rfl (by decide +kernel) ⟨Nat.le_of_ble_eq_true rfl, Nat.le_of_ble_eq_true rfl⟩ (wo_X3_H ..) rfl rfl rfl rfl hl.1 (Nat.le_of_ble_eq_true rfl) (st1 := [.int (r_X3_hungryDaysOf th w b n M w3 b3 n3 M2 x1)]) rfl dL_law_934 (k2 := 60 + c + 1 + 0) (s2 := 700 + 6 * c + 6 + 0) rfl rfl ⟨(Nat.le_trans (show 60 + c + 1 + 0 ≤ 20000 by omega) (Nat.le_of_ble_eq_true rfl)), (Nat.le_trans (show 700 + 6 * c + 6 + 0 ≤ 40000 by omega) (Nat.le_of_ble_eq_true rfl))⟩ (fun H locs hw => ?_)
  refine lv_istore (lv' := [(6, .int (r_X3_hungryDaysOf th w b n M w3 b3 n3 M2 x1)), (5, .int (t_X3_hungryDaysOf th w b n M w3 b3 n3 M2 x1)), (4, .int (nI c)), (0, .ref b0), (1, .ref h), (2, .ref hm), (3, .ref o)]) hx hb dL_law_937 hl (by decide) rfl (fun ls hl => ?_)
  refine lv_aload_n hx hb dL_law_939 rfl (lv_at hl 5 rfl) ?_
  refine p_callV (n := 0) (As := []) (rest := []) (q0 := 0) hc hw.2.2 (Pt.front (wc := wb_m hm am am2 cI (t_X3_hungryDaysOf th w b n M w3 b3 n3 M2 x1) w b n M w3 b3 n3 M2) hw hA) (k_X3_thrown l D cI cZ cL hm am am2 (t_X3_hungryDaysOf th w b n M w3 b3 n3 M2 x1) w b n M w3 b3 n3 M2 o1 o2 o3 o7 o8 o9) gL_law_X3_thrown rfl (by decide +kernel) ⟨Nat.le_of_ble_eq_true rfl, Nat.le_of_ble_eq_true rfl⟩ (wo_X3_H ..) rfl rfl rfl rfl hl.1 (Nat.le_of_ble_eq_true rfl) (st1 := [.int (t_X3_hungryDaysOf th w b n M w3 b3 n3 M2 x1)]) rfl dL_law_940 (k2 := 60 + c + 1 + 0) (s2 := 700 + 6 * c + 6 + 0) rfl rfl ⟨(Nat.le_trans (show 60 + c + 1 + 0 ≤ 20000 by omega) (Nat.le_of_ble_eq_true rfl)), (Nat.le_trans (show 700 + 6 * c + 6 + 0 ≤ 40000 by omega) (Nat.le_of_ble_eq_true rfl))⟩ (fun H locs hw => ?_)
  refine lv_iload hx hb dL_law_943 (lv_at hl 1 rfl) ?_
  refine lv_icmp_eq (tgt := 950) hx hb dL_law_945 (by decide) (fun _ => ?_) (fun z => absurd rfl z)
  refine lv_iload hx hb dL_law_950 (lv_at hl 1 rfl) ?_
  refine lv_if_ne (tgt := 967) hx hb dL_law_952 (by decide) (fun z => ?_) (fun z => ?_)
  · have he : ¬ e_X1_hungryDaysOf w b n T w2 b2 n2 T2 x1 = 0 := fun y => z (by rw [← hk, if_pos y])
    rw [if_neg he] at hw
    refine lv_goto (tgt := 1840) hx hb dL_law_967 (by decide) ?_
    exact l_back hC hK (f := f) hok hR hw (lv_sub hl [2, 3, 4, 5, 6] rfl) (by omega) (by omega)
  · have he : e_X1_hungryDaysOf w b n T w2 b2 n2 T2 x1 = 0 := by
      by_cases y : e_X1_hungryDaysOf w b n T w2 b2 n2 T2 x1 = 0
      · exact y
      · rw [← hk, if_neg y] at z; exfalso; revert z; (repeat' split) <;> decide
    rw [if_pos he] at hw
    refine lv_aload_n hx hb dL_law_955 rfl (lv_at hl 6 rfl) ?_
    refine lv_iconst (v := 0) hx hb dL_law_956 (by decide) ?_
    refine g_lald (f := (vp_updL f 0 ((r_X1_hungryDaysOf w b n T w2 b2 n2 T2 x1)).toInt64)) hc hw 40 rfl (show vp_in (0 : Int32) 1 by unfold vp_in; decide) dL_law_957 ?_
    rw [show (vp_updL f 0 ((r_X1_hungryDaysOf w b n T w2 b2 n2 T2 x1)).toInt64) (0 : Int32).toNatClampNeg = ((r_X1_hungryDaysOf w b n T w2 b2 n2 T2 x1)).toInt64 from rfl, hv he]
    refine lv_iload hx hb dL_law_958 (lv_at hl 0 rfl) ?_
    refine lv_i2l (v := ((r_X3_hungryDaysOf th w b n M w3 b3 n3 M2 x1)).toInt64) hx hb dL_law_960 rfl ?_
    refine W.lcmp hx hb dL_law_961 ?_
    rw [lg_same]
    refine lv_if_eq (tgt := 967) hx hb dL_law_962 (by decide) (fun _ => ?_) (fun z => absurd rfl z)
    refine lv_goto (tgt := 1840) hx hb dL_law_967 (by decide) ?_
    exact l_back hC hK (f := (vp_updL f 0 ((r_X1_hungryDaysOf w b n T w2 b2 n2 T2 x1)).toInt64)) hok hR hw (lv_sub hl [2, 3, 4, 5, 6] rfl) (by omega) (by omega)
set_option maxHeartbeats 4000000 in
set_option maxRecDepth 100000 in
theorem l_case_placesOf {p : Program} {l : Launch} {e : Env} {s : State} {m : MethodId} {below : List Frame} {meth : Method} {c0 : Code} {b0 L : Nat} {xs : Nat → Int32} {D : va_G} {cI cZ cL : ClassId} {h hm o : Nat} {a a2 am am2 : Nat → Nat} (hC : LC p s m meth c0 b0 L xs D cI cZ cL) (hst : l.stackTraces = false) {c : Nat} (hcL : c + 3 ≤ L) (hL : L ≤ 1536) (hK : LH p l e s m below meth c0 b0 D cI cZ cL h hm o a a2 am am2 (c + 3)) {H : Heap} {locs : List Loc} {ls : Array Slot} {th : Int32} {w b n : Nat} {T : ct_T} {M : mt_T} {w2 b2 n2 : Nat} {T2 : ct_T} {w3 b3 n3 : Nat} {M2 : mt_T} {f : Nat → Int64} (hok : Lok w b n w2 b2 n2 w3 b3 n3) (hR : RR w b n T M) (hw : Wo D (fun q => s.heap.size ≤ q) s.heap (Lw cI cZ cL h hm o a a2 am am2 th w b n T M w2 b2 n2 T2 w3 b3 n3 M2 f) H locs) (hl : lv_has ls 9 [(4, .int (nI c)), (0, .ref b0), (1, .ref h), (2, .ref hm), (3, .ref o)]) : W p l e room_1 s m #[Value.ref b0] below meth c0 H locs (60 + c) (700 + 6 * c) (lw_Z below #[Value.ref b0] s) (F0 m 970 ls []) := by
  obtain ⟨hc, hTx, hX, hb0⟩ := id hC
  obtain ⟨hx, hb, hr, hml, hown, hts, hlk, hK9, hA⟩ := id hc
  obtain ⟨⟨o1, o2, o3⟩, ⟨o4, o5, o6⟩, ⟨o7, o8, o9⟩⟩ := id hok
  have hbA : ¬ (fun q : Nat => s.heap.size ≤ q) b0 := Nat.not_le.mpr hb0
  obtain ⟨x1, ex1⟩ : ∃ x : Int32, xs (nI (c + 1)).toNatClampNeg = x := ⟨_, rfl⟩
  have hop := op_placesOf (w2 := w2) (b2 := b2) (n2 := n2) (T2 := T2) (w3 := w3) (b3 := b3) (n3 := n3) (M2 := M2) (th := th) o1 o2 o3 hR x1
  obtain ⟨hcd, hk, hv⟩ := hop
  refine lv_aload_n hx hb dL_law_970 rfl (lv_at hl 2 rfl) ?_
  refine lv_aload_n hx hb dL_law_971 rfl (lv_at hl 1 rfl) ?_
  refine lv_iload hx hb dL_law_972 (lv_at hl 0 rfl) ?_
  refine lv_iconst (v := 1) hx hb dL_law_974 (by decide) ?_
  refine lv_iadd hx hb dL_law_975 ?_
  rw [show nI c + 1 = nI (c + 1) from nI_add c 1]
  refine va_sld hx hb hX hb0 hbA hw.2.2 (vp_in_nI (show c + 1 < L by omega) (by omega)) dL_law_976 ?_
  rw [ex1]
  refine lv_aload_n hx hb dL_law_977 rfl (lv_at hl 4 rfl) ?_
  have hL1 := k_L_placesOf D cI cZ cL h o x1 f (w0 := wb_c h a a2 cI cZ w b n T w2 b2 n2 T2) (w1 := wb_c h a a2 cI cZ w b n T w2 b2 n2 T2) rfl rfl (wo_X1_H ..) hcd (k_X1_placesOf hst D cI cZ cL h a a2 w b n T w2 b2 n2 T2 o1 o2 o3 o4 o5 o6 x1)
  rw [hk] at hL1
  refine pl_callS (n := 3) (As := [.ref h, .int x1, .ref o]) (rest := []) hc hTx hw.2.2 (Pt.back (pre := wb_m hm am am2 cI th w b n M w3 b3 n3 M2) (wc := wb_c h a a2 cI cZ w b n T w2 b2 n2 T2 ++ [(o, .inl (cL, 1, .inr (.inl f)))]) hw hA) hL1 gL_law_L_placesOf rfl (by decide +kernel) ⟨Nat.le_of_ble_eq_true rfl, Nat.le_of_ble_eq_true rfl⟩ rfl rfl hl.1 (Nat.le_of_ble_eq_true rfl) (st1 := [.int (t_X3_placesOf th w b n M w3 b3 n3 M2 x1)]) rfl dL_law_978 (k2 := 60 + c + 1) (s2 := 700 + 6 * c + 6) rfl rfl ⟨(Nat.le_trans (show 60 + c + 1 ≤ 20000 by omega) (Nat.le_of_ble_eq_true rfl)), (Nat.le_trans (show 700 + 6 * c + 6 ≤ 40000 by omega) (Nat.le_of_ble_eq_true rfl))⟩ (fun H locs hw => ?_)
  refine lv_istore (lv' := [(5, .int (t_X3_placesOf th w b n M w3 b3 n3 M2 x1)), (4, .int (nI c)), (0, .ref b0), (1, .ref h), (2, .ref hm), (3, .ref o)]) hx hb dL_law_981 hl (by decide) rfl (fun ls hl => ?_)
  refine lv_aload_n hx hb dL_law_983 rfl (lv_at hl 4 rfl) ?_
  refine lv_aload_n hx hb dL_law_984 rfl (lv_at hl 2 rfl) ?_
  refine lv_iload hx hb dL_law_985 (lv_at hl 1 rfl) ?_
  refine lv_iconst (v := 1) hx hb dL_law_987 (by decide) ?_
  refine lv_iadd hx hb dL_law_988 ?_
  rw [show nI c + 1 = nI (c + 1) from nI_add c 1]
  refine va_sld hx hb hX hb0 hbA hw.2.2 (vp_in_nI (show c + 1 < L by omega) (by omega)) dL_law_989 ?_
  rw [ex1]
  refine p_callV (n := 1) (As := [.int x1]) (rest := []) (q0 := 0) hc hw.2.2 (Pt.front (wc := wb_m hm am am2 cI th w b n M w3 b3 n3 M2) hw hA) (k_X3_placesOf l D cI cZ cL hm am am2 th w b n M w3 b3 n3 M2 o1 o2 o3 o7 o8 o9 x1) gL_law_X3_placesOf rfl (by decide +kernel) ⟨Nat.le_of_ble_eq_true rfl, Nat.le_of_ble_eq_true rfl⟩ (wo_X3_H ..) rfl rfl rfl rfl hl.1 (Nat.le_of_ble_eq_true rfl) (st1 := [.int (r_X3_placesOf th w b n M w3 b3 n3 M2 x1)]) rfl dL_law_990 (k2 := 60 + c + 1 + 0) (s2 := 700 + 6 * c + 6 + 0) rfl rfl ⟨(Nat.le_trans (show 60 + c + 1 + 0 ≤ 20000 by omega) (Nat.le_of_ble_eq_true rfl)), (Nat.le_trans (show 700 + 6 * c + 6 + 0 ≤ 40000 by omega) (Nat.le_of_ble_eq_true rfl))⟩ (fun H locs hw => ?_)
  refine lv_istore (lv' := [(6, .int (r_X3_placesOf th w b n M w3 b3 n3 M2 x1)), (5, .int (t_X3_placesOf th w b n M w3 b3 n3 M2 x1)), (4, .int (nI c)), (0, .ref b0), (1, .ref h), (2, .ref hm), (3, .ref o)]) hx hb dL_law_993 hl (by decide) rfl (fun ls hl => ?_)
  refine lv_aload_n hx hb dL_law_995 rfl (lv_at hl 5 rfl) ?_
  refine p_callV (n := 0) (As := []) (rest := []) (q0 := 0) hc hw.2.2 (Pt.front (wc := wb_m hm am am2 cI (t_X3_placesOf th w b n M w3 b3 n3 M2 x1) w b n M w3 b3 n3 M2) hw hA) (k_X3_thrown l D cI cZ cL hm am am2 (t_X3_placesOf th w b n M w3 b3 n3 M2 x1) w b n M w3 b3 n3 M2 o1 o2 o3 o7 o8 o9) gL_law_X3_thrown rfl (by decide +kernel) ⟨Nat.le_of_ble_eq_true rfl, Nat.le_of_ble_eq_true rfl⟩ (wo_X3_H ..) rfl rfl rfl rfl hl.1 (Nat.le_of_ble_eq_true rfl) (st1 := [.int (t_X3_placesOf th w b n M w3 b3 n3 M2 x1)]) rfl dL_law_996 (k2 := 60 + c + 1 + 0) (s2 := 700 + 6 * c + 6 + 0) rfl rfl ⟨(Nat.le_trans (show 60 + c + 1 + 0 ≤ 20000 by omega) (Nat.le_of_ble_eq_true rfl)), (Nat.le_trans (show 700 + 6 * c + 6 + 0 ≤ 40000 by omega) (Nat.le_of_ble_eq_true rfl))⟩ (fun H locs hw => ?_)
  refine lv_iload hx hb dL_law_999 (lv_at hl 1 rfl) ?_
  refine lv_icmp_eq (tgt := 1006) hx hb dL_law_1001 (by decide) (fun _ => ?_) (fun z => absurd rfl z)
  refine lv_iload hx hb dL_law_1006 (lv_at hl 1 rfl) ?_
  refine lv_if_ne (tgt := 1023) hx hb dL_law_1008 (by decide) (fun z => ?_) (fun z => ?_)
  · have he : ¬ e_X1_placesOf w b n T w2 b2 n2 T2 x1 = 0 := fun y => z (by rw [← hk, if_pos y])
    rw [if_neg he] at hw
    refine lv_goto (tgt := 1840) hx hb dL_law_1023 (by decide) ?_
    exact l_back hC hK (f := f) hok hR hw (lv_sub hl [2, 3, 4, 5, 6] rfl) (by omega) (by omega)
  · have he : e_X1_placesOf w b n T w2 b2 n2 T2 x1 = 0 := by
      by_cases y : e_X1_placesOf w b n T w2 b2 n2 T2 x1 = 0
      · exact y
      · rw [← hk, if_neg y] at z; exfalso; revert z; (repeat' split) <;> decide
    rw [if_pos he] at hw
    refine lv_aload_n hx hb dL_law_1011 rfl (lv_at hl 6 rfl) ?_
    refine lv_iconst (v := 0) hx hb dL_law_1012 (by decide) ?_
    refine g_lald (f := (vp_updL f 0 ((r_X1_placesOf w b n T w2 b2 n2 T2 x1)).toInt64)) hc hw 40 rfl (show vp_in (0 : Int32) 1 by unfold vp_in; decide) dL_law_1013 ?_
    rw [show (vp_updL f 0 ((r_X1_placesOf w b n T w2 b2 n2 T2 x1)).toInt64) (0 : Int32).toNatClampNeg = ((r_X1_placesOf w b n T w2 b2 n2 T2 x1)).toInt64 from rfl, hv he]
    refine lv_iload hx hb dL_law_1014 (lv_at hl 0 rfl) ?_
    refine lv_i2l (v := ((r_X3_placesOf th w b n M w3 b3 n3 M2 x1)).toInt64) hx hb dL_law_1016 rfl ?_
    refine W.lcmp hx hb dL_law_1017 ?_
    rw [lg_same]
    refine lv_if_eq (tgt := 1023) hx hb dL_law_1018 (by decide) (fun _ => ?_) (fun z => absurd rfl z)
    refine lv_goto (tgt := 1840) hx hb dL_law_1023 (by decide) ?_
    exact l_back hC hK (f := (vp_updL f 0 ((r_X1_placesOf w b n T w2 b2 n2 T2 x1)).toInt64)) hok hR hw (lv_sub hl [2, 3, 4, 5, 6] rfl) (by omega) (by omega)
set_option maxHeartbeats 4000000 in
set_option maxRecDepth 100000 in
theorem l_case_peopleIn {p : Program} {l : Launch} {e : Env} {s : State} {m : MethodId} {below : List Frame} {meth : Method} {c0 : Code} {b0 L : Nat} {xs : Nat → Int32} {D : va_G} {cI cZ cL : ClassId} {h hm o : Nat} {a a2 am am2 : Nat → Nat} (hC : LC p s m meth c0 b0 L xs D cI cZ cL) (hst : l.stackTraces = false) {c : Nat} (hcL : c + 3 ≤ L) (hL : L ≤ 1536) (hK : LH p l e s m below meth c0 b0 D cI cZ cL h hm o a a2 am am2 (c + 3)) {H : Heap} {locs : List Loc} {ls : Array Slot} {th : Int32} {w b n : Nat} {T : ct_T} {M : mt_T} {w2 b2 n2 : Nat} {T2 : ct_T} {w3 b3 n3 : Nat} {M2 : mt_T} {f : Nat → Int64} (hok : Lok w b n w2 b2 n2 w3 b3 n3) (hR : RR w b n T M) (hw : Wo D (fun q => s.heap.size ≤ q) s.heap (Lw cI cZ cL h hm o a a2 am am2 th w b n T M w2 b2 n2 T2 w3 b3 n3 M2 f) H locs) (hl : lv_has ls 9 [(4, .int (nI c)), (0, .ref b0), (1, .ref h), (2, .ref hm), (3, .ref o)]) : W p l e room_1 s m #[Value.ref b0] below meth c0 H locs (60 + c) (700 + 6 * c) (lw_Z below #[Value.ref b0] s) (F0 m 1026 ls []) := by
  obtain ⟨hc, hTx, hX, hb0⟩ := id hC
  obtain ⟨hx, hb, hr, hml, hown, hts, hlk, hK9, hA⟩ := id hc
  obtain ⟨⟨o1, o2, o3⟩, ⟨o4, o5, o6⟩, ⟨o7, o8, o9⟩⟩ := id hok
  have hbA : ¬ (fun q : Nat => s.heap.size ≤ q) b0 := Nat.not_le.mpr hb0
  obtain ⟨x1, ex1⟩ : ∃ x : Int32, xs (nI (c + 1)).toNatClampNeg = x := ⟨_, rfl⟩
  have hop := op_peopleIn (w2 := w2) (b2 := b2) (n2 := n2) (T2 := T2) (w3 := w3) (b3 := b3) (n3 := n3) (M2 := M2) (th := th) o1 o2 o3 hR x1
  obtain ⟨hcd, hk, hv⟩ := hop
  refine lv_aload_n hx hb dL_law_1026 rfl (lv_at hl 2 rfl) ?_
  refine lv_aload_n hx hb dL_law_1027 rfl (lv_at hl 1 rfl) ?_
  refine lv_iload hx hb dL_law_1028 (lv_at hl 0 rfl) ?_
  refine lv_iconst (v := 1) hx hb dL_law_1030 (by decide) ?_
  refine lv_iadd hx hb dL_law_1031 ?_
  rw [show nI c + 1 = nI (c + 1) from nI_add c 1]
  refine va_sld hx hb hX hb0 hbA hw.2.2 (vp_in_nI (show c + 1 < L by omega) (by omega)) dL_law_1032 ?_
  rw [ex1]
  refine lv_aload_n hx hb dL_law_1033 rfl (lv_at hl 4 rfl) ?_
  have hL1 := k_L_peopleIn D cI cZ cL h o x1 f (w0 := wb_c h a a2 cI cZ w b n T w2 b2 n2 T2) (w1 := wb_c h a a2 cI cZ w b n T w2 b2 n2 T2) rfl rfl (wo_X1_H ..) hcd (k_X1_peopleIn hst D cI cZ cL h a a2 w b n T w2 b2 n2 T2 o1 o2 o3 o4 o5 o6 x1)
  rw [hk] at hL1
  refine pl_callS (n := 3) (As := [.ref h, .int x1, .ref o]) (rest := []) hc hTx hw.2.2 (Pt.back (pre := wb_m hm am am2 cI th w b n M w3 b3 n3 M2) (wc := wb_c h a a2 cI cZ w b n T w2 b2 n2 T2 ++ [(o, .inl (cL, 1, .inr (.inl f)))]) hw hA) hL1 gL_law_L_peopleIn rfl (by decide +kernel) ⟨Nat.le_of_ble_eq_true rfl, Nat.le_of_ble_eq_true rfl⟩ rfl rfl hl.1 (Nat.le_of_ble_eq_true rfl) (st1 := [.int (t_X3_peopleIn th w b n M w3 b3 n3 M2 x1)]) rfl dL_law_1034 (k2 := 60 + c + 1) (s2 := 700 + 6 * c + 6) rfl rfl ⟨(Nat.le_trans (show 60 + c + 1 ≤ 20000 by omega) (Nat.le_of_ble_eq_true rfl)), (Nat.le_trans (show 700 + 6 * c + 6 ≤ 40000 by omega) (Nat.le_of_ble_eq_true rfl))⟩ (fun H locs hw => ?_)
  refine lv_istore (lv' := [(5, .int (t_X3_peopleIn th w b n M w3 b3 n3 M2 x1)), (4, .int (nI c)), (0, .ref b0), (1, .ref h), (2, .ref hm), (3, .ref o)]) hx hb dL_law_1037 hl (by decide) rfl (fun ls hl => ?_)
  refine lv_aload_n hx hb dL_law_1039 rfl (lv_at hl 4 rfl) ?_
  refine lv_aload_n hx hb dL_law_1040 rfl (lv_at hl 2 rfl) ?_
  refine lv_iload hx hb dL_law_1041 (lv_at hl 1 rfl) ?_
  refine lv_iconst (v := 1) hx hb dL_law_1043 (by decide) ?_
  refine lv_iadd hx hb dL_law_1044 ?_
  rw [show nI c + 1 = nI (c + 1) from nI_add c 1]
  refine va_sld hx hb hX hb0 hbA hw.2.2 (vp_in_nI (show c + 1 < L by omega) (by omega)) dL_law_1045 ?_
  rw [ex1]
  refine p_callV (n := 1) (As := [.int x1]) (rest := []) (q0 := 0) hc hw.2.2 (Pt.front (wc := wb_m hm am am2 cI th w b n M w3 b3 n3 M2) hw hA) (k_X3_peopleIn l D cI cZ cL hm am am2 th w b n M w3 b3 n3 M2 o1 o2 o3 o7 o8 o9 x1) gL_law_X3_peopleIn rfl (by decide +kernel) ⟨Nat.le_of_ble_eq_true rfl, Nat.le_of_ble_eq_true rfl⟩ (wo_X3_H ..) rfl rfl rfl rfl hl.1 (Nat.le_of_ble_eq_true rfl) (st1 := [.int (r_X3_peopleIn th w b n M w3 b3 n3 M2 x1)]) rfl dL_law_1046 (k2 := 60 + c + 1 + 0) (s2 := 700 + 6 * c + 6 + 0) rfl rfl ⟨(Nat.le_trans (show 60 + c + 1 + 0 ≤ 20000 by omega) (Nat.le_of_ble_eq_true rfl)), (Nat.le_trans (show 700 + 6 * c + 6 + 0 ≤ 40000 by omega) (Nat.le_of_ble_eq_true rfl))⟩ (fun H locs hw => ?_)
  refine lv_istore (lv' := [(6, .int (r_X3_peopleIn th w b n M w3 b3 n3 M2 x1)), (5, .int (t_X3_peopleIn th w b n M w3 b3 n3 M2 x1)), (4, .int (nI c)), (0, .ref b0), (1, .ref h), (2, .ref hm), (3, .ref o)]) hx hb dL_law_1049 hl (by decide) rfl (fun ls hl => ?_)
  refine lv_aload_n hx hb dL_law_1051 rfl (lv_at hl 5 rfl) ?_
  refine p_callV (n := 0) (As := []) (rest := []) (q0 := 0) hc hw.2.2 (Pt.front (wc := wb_m hm am am2 cI (t_X3_peopleIn th w b n M w3 b3 n3 M2 x1) w b n M w3 b3 n3 M2) hw hA) (k_X3_thrown l D cI cZ cL hm am am2 (t_X3_peopleIn th w b n M w3 b3 n3 M2 x1) w b n M w3 b3 n3 M2 o1 o2 o3 o7 o8 o9) gL_law_X3_thrown rfl (by decide +kernel) ⟨Nat.le_of_ble_eq_true rfl, Nat.le_of_ble_eq_true rfl⟩ (wo_X3_H ..) rfl rfl rfl rfl hl.1 (Nat.le_of_ble_eq_true rfl) (st1 := [.int (t_X3_peopleIn th w b n M w3 b3 n3 M2 x1)]) rfl dL_law_1052 (k2 := 60 + c + 1 + 0) (s2 := 700 + 6 * c + 6 + 0) rfl rfl ⟨(Nat.le_trans (show 60 + c + 1 + 0 ≤ 20000 by omega) (Nat.le_of_ble_eq_true rfl)), (Nat.le_trans (show 700 + 6 * c + 6 + 0 ≤ 40000 by omega) (Nat.le_of_ble_eq_true rfl))⟩ (fun H locs hw => ?_)
  refine lv_iload hx hb dL_law_1055 (lv_at hl 1 rfl) ?_
  refine lv_icmp_eq (tgt := 1062) hx hb dL_law_1057 (by decide) (fun _ => ?_) (fun z => absurd rfl z)
  refine lv_iload hx hb dL_law_1062 (lv_at hl 1 rfl) ?_
  refine lv_if_ne (tgt := 1079) hx hb dL_law_1064 (by decide) (fun z => ?_) (fun z => ?_)
  · have he : ¬ e_X1_peopleIn w b n T w2 b2 n2 T2 x1 = 0 := fun y => z (by rw [← hk, if_pos y])
    rw [if_neg he] at hw
    refine lv_goto (tgt := 1840) hx hb dL_law_1079 (by decide) ?_
    exact l_back hC hK (f := f) hok hR hw (lv_sub hl [2, 3, 4, 5, 6] rfl) (by omega) (by omega)
  · have he : e_X1_peopleIn w b n T w2 b2 n2 T2 x1 = 0 := by
      by_cases y : e_X1_peopleIn w b n T w2 b2 n2 T2 x1 = 0
      · exact y
      · rw [← hk, if_neg y] at z; exfalso; revert z; (repeat' split) <;> decide
    rw [if_pos he] at hw
    refine lv_aload_n hx hb dL_law_1067 rfl (lv_at hl 6 rfl) ?_
    refine lv_iconst (v := 0) hx hb dL_law_1068 (by decide) ?_
    refine g_lald (f := (vp_updL f 0 ((r_X1_peopleIn w b n T w2 b2 n2 T2 x1)).toInt64)) hc hw 40 rfl (show vp_in (0 : Int32) 1 by unfold vp_in; decide) dL_law_1069 ?_
    rw [show (vp_updL f 0 ((r_X1_peopleIn w b n T w2 b2 n2 T2 x1)).toInt64) (0 : Int32).toNatClampNeg = ((r_X1_peopleIn w b n T w2 b2 n2 T2 x1)).toInt64 from rfl, hv he]
    refine lv_iload hx hb dL_law_1070 (lv_at hl 0 rfl) ?_
    refine lv_i2l (v := ((r_X3_peopleIn th w b n M w3 b3 n3 M2 x1)).toInt64) hx hb dL_law_1072 rfl ?_
    refine W.lcmp hx hb dL_law_1073 ?_
    rw [lg_same]
    refine lv_if_eq (tgt := 1079) hx hb dL_law_1074 (by decide) (fun _ => ?_) (fun z => absurd rfl z)
    refine lv_goto (tgt := 1840) hx hb dL_law_1079 (by decide) ?_
    exact l_back hC hK (f := (vp_updL f 0 ((r_X1_peopleIn w b n T w2 b2 n2 T2 x1)).toInt64)) hok hR hw (lv_sub hl [2, 3, 4, 5, 6] rfl) (by omega) (by omega)