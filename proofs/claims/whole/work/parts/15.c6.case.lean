set_option maxHeartbeats 4000000 in
set_option maxRecDepth 100000 in
theorem l_case_bowlsEaten {p : Program} {l : Launch} {e : Env} {s : State} {m : MethodId} {below : List Frame} {meth : Method} {c0 : Code} {b0 L : Nat} {xs : Nat → Int32} {D : va_G} {cI cZ cL : ClassId} {h hm o : Nat} {a a2 am am2 : Nat → Nat} (hC : LC p s m meth c0 b0 L xs D cI cZ cL) (hst : l.stackTraces = false) {c : Nat} (hcL : c + 3 ≤ L) (hL : L ≤ 1536) (hK : LH p l e s m below meth c0 b0 D cI cZ cL h hm o a a2 am am2 (c + 3)) {H : Heap} {locs : List Loc} {ls : Array Slot} {th : Int32} {w b n : Nat} {T : ct_T} {M : mt_T} {w2 b2 n2 : Nat} {T2 : ct_T} {w3 b3 n3 : Nat} {M2 : mt_T} {f : Nat → Int64} (hok : Lok w b n w2 b2 n2 w3 b3 n3) (hR : RR w b n T M) (hw : Wo D (fun q => s.heap.size ≤ q) s.heap (Lw cI cZ cL h hm o a a2 am am2 th w b n T M w2 b2 n2 T2 w3 b3 n3 M2 f) H locs) (hl : lv_has ls 9 [(4, .int (nI c)), (0, .ref b0), (1, .ref h), (2, .ref hm), (3, .ref o)]) : W p l e room_1 s m #[Value.ref b0] below meth c0 H locs (60 + c) (700 + 6 * c) (lw_Z below #[Value.ref b0] s) (F0 m 1535 ls []) := by
  obtain ⟨hc, hTx, hX, hb0⟩ := id hC
  obtain ⟨hx, hb, hr, hml, hown, hts, hlk, hK9, hA⟩ := id hc
  obtain ⟨⟨o1, o2, o3⟩, ⟨o4, o5, o6⟩, ⟨o7, o8, o9⟩⟩ := id hok
  have hop := op_bowlsEaten (w2 := w2) (b2 := b2) (n2 := n2) (T2 := T2) (w3 := w3) (b3 := b3) (n3 := n3) (M2 := M2) (th := th) o1 o2 o3 hR
  refine lv_aload_n hx hb dL_law_1535 rfl (lv_at hl 2 rfl) ?_
  refine p_callV (n := 0) (As := []) (rest := []) (q0 := 0) (J := fun w1 => wb_m hm am am2 cI th w b n M w3 b3 n3 M2 ++ (w1 ++ [(o, .inl (cL, 1, .inr (.inl f)))])) hc hw.2.2 (Pt.mid (pre := wb_m hm am am2 cI th w b n M w3 b3 n3 M2) (wc := wb_c h a a2 cI cZ w b n T w2 b2 n2 T2) (suf := [(o, .inl (cL, 1, .inr (.inl f)))]) hw hA) (k_X1_bowlsEaten l D cI cZ cL h a a2 w b n T w2 b2 n2 T2 o1 o2 o3 o4 o5 o6) gL_law_X1_bowlsEaten rfl (by decide +kernel) ⟨Nat.le_of_ble_eq_true rfl, Nat.le_of_ble_eq_true rfl⟩ (wo_X1_H ..) rfl rfl rfl rfl hl.1 (Nat.le_of_ble_eq_true rfl) (st1 := [.int (r_X1_bowlsEaten w b n T w2 b2 n2 T2)]) rfl dL_law_1536 (k2 := 60 + c + 0) (s2 := 700 + 6 * c + 0) rfl rfl ⟨(Nat.le_trans (show 60 + c + 0 ≤ 20000 by omega) (Nat.le_of_ble_eq_true rfl)), (Nat.le_trans (show 700 + 6 * c + 0 ≤ 40000 by omega) (Nat.le_of_ble_eq_true rfl))⟩ (fun H locs hw => ?_)
  rw [hop]
  refine lv_aload_n hx hb dL_law_1539 rfl (lv_at hl 3 rfl) ?_
  refine p_callV (n := 0) (As := []) (rest := [.int (r_X3_bowlsEaten th w b n M w3 b3 n3 M2)]) (q0 := 0) hc hw.2.2 (Pt.front (wc := wb_m hm am am2 cI th w b n M w3 b3 n3 M2) hw hA) (k_X3_bowlsEaten l D cI cZ cL hm am am2 th w b n M w3 b3 n3 M2 o1 o2 o3 o7 o8 o9) gL_law_X3_bowlsEaten rfl (by decide +kernel) ⟨Nat.le_of_ble_eq_true rfl, Nat.le_of_ble_eq_true rfl⟩ (wo_X3_H ..) rfl rfl rfl rfl hl.1 (Nat.le_of_ble_eq_true rfl) (st1 := [.int (r_X3_bowlsEaten th w b n M w3 b3 n3 M2), .int (r_X3_bowlsEaten th w b n M w3 b3 n3 M2)]) rfl dL_law_1540 (k2 := 60 + c + 0 + 0) (s2 := 700 + 6 * c + 0 + 0) rfl rfl ⟨(Nat.le_trans (show 60 + c + 0 + 0 ≤ 20000 by omega) (Nat.le_of_ble_eq_true rfl)), (Nat.le_trans (show 700 + 6 * c + 0 + 0 ≤ 40000 by omega) (Nat.le_of_ble_eq_true rfl))⟩ (fun H locs hw => ?_)
  refine lv_icmp_eq (tgt := 1840) hx hb dL_law_1543 (by decide) (fun _ => ?_) (fun z => absurd rfl z)
  exact l_back hC hK hok hR hw hl (by omega) (by omega)
set_option maxHeartbeats 4000000 in
set_option maxRecDepth 100000 in
theorem l_case_daysUntilHome {p : Program} {l : Launch} {e : Env} {s : State} {m : MethodId} {below : List Frame} {meth : Method} {c0 : Code} {b0 L : Nat} {xs : Nat → Int32} {D : va_G} {cI cZ cL : ClassId} {h hm o : Nat} {a a2 am am2 : Nat → Nat} (hC : LC p s m meth c0 b0 L xs D cI cZ cL) (hst : l.stackTraces = false) {c : Nat} (hcL : c + 3 ≤ L) (hL : L ≤ 1536) (hK : LH p l e s m below meth c0 b0 D cI cZ cL h hm o a a2 am am2 (c + 3)) {H : Heap} {locs : List Loc} {ls : Array Slot} {th : Int32} {w b n : Nat} {T : ct_T} {M : mt_T} {w2 b2 n2 : Nat} {T2 : ct_T} {w3 b3 n3 : Nat} {M2 : mt_T} {f : Nat → Int64} (hok : Lok w b n w2 b2 n2 w3 b3 n3) (hR : RR w b n T M) (hw : Wo D (fun q => s.heap.size ≤ q) s.heap (Lw cI cZ cL h hm o a a2 am am2 th w b n T M w2 b2 n2 T2 w3 b3 n3 M2 f) H locs) (hl : lv_has ls 9 [(4, .int (nI c)), (0, .ref b0), (1, .ref h), (2, .ref hm), (3, .ref o)]) : W p l e room_1 s m #[Value.ref b0] below meth c0 H locs (60 + c) (700 + 6 * c) (lw_Z below #[Value.ref b0] s) (F0 m 1548 ls []) := by
  obtain ⟨hc, hTx, hX, hb0⟩ := id hC
  obtain ⟨hx, hb, hr, hml, hown, hts, hlk, hK9, hA⟩ := id hc
  obtain ⟨⟨o1, o2, o3⟩, ⟨o4, o5, o6⟩, ⟨o7, o8, o9⟩⟩ := id hok
  have hbA : ¬ (fun q : Nat => s.heap.size ≤ q) b0 := Nat.not_le.mpr hb0
  obtain ⟨x1, ex1⟩ : ∃ x : Int32, xs (nI (c + 1)).toNatClampNeg = x := ⟨_, rfl⟩
  have hop := op_daysUntilHome (w2 := w2) (b2 := b2) (n2 := n2) (T2 := T2) (w3 := w3) (b3 := b3) (n3 := n3) (M2 := M2) (th := th) o1 o2 o3 o7 o8 o9 hR x1
  obtain ⟨hcd, hk, hv, b5, b6, b7⟩ := hop
  refine lv_aload_n hx hb dL_law_1548 rfl (lv_at hl 2 rfl) ?_
  refine lv_aload_n hx hb dL_law_1549 rfl (lv_at hl 1 rfl) ?_
  refine lv_iload hx hb dL_law_1550 (lv_at hl 0 rfl) ?_
  refine lv_iconst (v := 1) hx hb dL_law_1552 (by decide) ?_
  refine lv_iadd hx hb dL_law_1553 ?_
  rw [show nI c + 1 = nI (c + 1) from nI_add c 1]
  refine va_sld hx hb hX hb0 hbA hw.2.2 (vp_in_nI (show c + 1 < L by omega) (by omega)) dL_law_1554 ?_
  rw [ex1]
  refine lv_aload_n hx hb dL_law_1555 rfl (lv_at hl 4 rfl) ?_
  have hL1 := k_L_daysUntilHome D cI cZ cL h o x1 f (w0 := wb_c h a a2 cI cZ w b n T w2 b2 n2 T2) (w1 := wb_c h a a2 cI cZ w b n T w b n (z_X1_daysUntilHome w b n T w2 b2 n2 T2 x1)) rfl rfl (wo_X1_H ..) hcd (k_X1_daysUntilHome hst D cI cZ cL h a a2 w b n T w2 b2 n2 T2 o1 o2 o3 o4 o5 o6 x1)
  rw [hk] at hL1
  refine pl_callS (n := 3) (As := [.ref h, .int x1, .ref o]) (rest := []) hc hTx hw.2.2 (Pt.back (pre := wb_m hm am am2 cI th w b n M w3 b3 n3 M2) (wc := wb_c h a a2 cI cZ w b n T w2 b2 n2 T2 ++ [(o, .inl (cL, 1, .inr (.inl f)))]) hw hA) hL1 gL_law_L_daysUntilHome rfl (by decide +kernel) ⟨Nat.le_of_ble_eq_true rfl, Nat.le_of_ble_eq_true rfl⟩ rfl rfl hl.1 (Nat.le_of_ble_eq_true rfl) (st1 := [.int (t_X3_daysUntilHome th w b n M w3 b3 n3 M2 x1)]) rfl dL_law_1556 (k2 := 60 + c + 1) (s2 := 700 + 6 * c + 6) rfl rfl ⟨(Nat.le_trans (show 60 + c + 1 ≤ 20000 by omega) (Nat.le_of_ble_eq_true rfl)), (Nat.le_trans (show 700 + 6 * c + 6 ≤ 40000 by omega) (Nat.le_of_ble_eq_true rfl))⟩ (fun H locs hw => ?_)
  refine lv_istore (lv' := [(5, .int (t_X3_daysUntilHome th w b n M w3 b3 n3 M2 x1)), (4, .int (nI c)), (0, .ref b0), (1, .ref h), (2, .ref hm), (3, .ref o)]) hx hb dL_law_1559 hl (by decide) rfl (fun ls hl => ?_)
  refine lv_aload_n hx hb dL_law_1561 rfl (lv_at hl 4 rfl) ?_
  refine lv_aload_n hx hb dL_law_1562 rfl (lv_at hl 2 rfl) ?_
  refine lv_iload hx hb dL_law_1563 (lv_at hl 1 rfl) ?_
  refine lv_iconst (v := 1) hx hb dL_law_1565 (by decide) ?_
  refine lv_iadd hx hb dL_law_1566 ?_
  rw [show nI c + 1 = nI (c + 1) from nI_add c 1]
  refine va_sld hx hb hX hb0 hbA hw.2.2 (vp_in_nI (show c + 1 < L by omega) (by omega)) dL_law_1567 ?_
  rw [ex1]
  refine p_callV (n := 1) (As := [.int x1]) (rest := []) (q0 := 0) hc hw.2.2 (Pt.front (wc := wb_m hm am am2 cI th w b n M w3 b3 n3 M2) hw hA) (k_X3_daysUntilHome l D cI cZ cL hm am am2 th w b n M w3 b3 n3 M2 o1 o2 o3 o7 o8 o9 x1) gL_law_X3_daysUntilHome rfl (by decide +kernel) ⟨Nat.le_of_ble_eq_true rfl, Nat.le_of_ble_eq_true rfl⟩ (wo_X3_H ..) rfl rfl rfl rfl hl.1 (Nat.le_of_ble_eq_true rfl) (st1 := [.int (r_X3_daysUntilHome th w b n M w3 b3 n3 M2 x1)]) rfl dL_law_1568 (k2 := 60 + c + 1 + 0) (s2 := 700 + 6 * c + 6 + 0) rfl rfl ⟨(Nat.le_trans (show 60 + c + 1 + 0 ≤ 20000 by omega) (Nat.le_of_ble_eq_true rfl)), (Nat.le_trans (show 700 + 6 * c + 6 + 0 ≤ 40000 by omega) (Nat.le_of_ble_eq_true rfl))⟩ (fun H locs hw => ?_)
  refine lv_istore (lv' := [(6, .int (r_X3_daysUntilHome th w b n M w3 b3 n3 M2 x1)), (5, .int (t_X3_daysUntilHome th w b n M w3 b3 n3 M2 x1)), (4, .int (nI c)), (0, .ref b0), (1, .ref h), (2, .ref hm), (3, .ref o)]) hx hb dL_law_1571 hl (by decide) rfl (fun ls hl => ?_)
  refine lv_aload_n hx hb dL_law_1573 rfl (lv_at hl 5 rfl) ?_
  refine p_callV (n := 0) (As := []) (rest := []) (q0 := 0) hc hw.2.2 (Pt.front (wc := wb_m hm am am2 cI (t_X3_daysUntilHome th w b n M w3 b3 n3 M2 x1) w b n M (nw2_X3_daysUntilHome th w b n M w3 b3 n3 M2 x1) (nb2_X3_daysUntilHome th w b n M w3 b3 n3 M2 x1) (nn2_X3_daysUntilHome th w b n M w3 b3 n3 M2 x1) (z_X3_daysUntilHome th w b n M w3 b3 n3 M2 x1)) hw hA) (k_X3_thrown l D cI cZ cL hm am am2 (t_X3_daysUntilHome th w b n M w3 b3 n3 M2 x1) w b n M (nw2_X3_daysUntilHome th w b n M w3 b3 n3 M2 x1) (nb2_X3_daysUntilHome th w b n M w3 b3 n3 M2 x1) (nn2_X3_daysUntilHome th w b n M w3 b3 n3 M2 x1) (z_X3_daysUntilHome th w b n M w3 b3 n3 M2 x1) o1 o2 o3 b5 b6 b7) gL_law_X3_thrown rfl (by decide +kernel) ⟨Nat.le_of_ble_eq_true rfl, Nat.le_of_ble_eq_true rfl⟩ (wo_X3_H ..) rfl rfl rfl rfl hl.1 (Nat.le_of_ble_eq_true rfl) (st1 := [.int (t_X3_daysUntilHome th w b n M w3 b3 n3 M2 x1)]) rfl dL_law_1574 (k2 := 60 + c + 1 + 0) (s2 := 700 + 6 * c + 6 + 0) rfl rfl ⟨(Nat.le_trans (show 60 + c + 1 + 0 ≤ 20000 by omega) (Nat.le_of_ble_eq_true rfl)), (Nat.le_trans (show 700 + 6 * c + 6 + 0 ≤ 40000 by omega) (Nat.le_of_ble_eq_true rfl))⟩ (fun H locs hw => ?_)
  refine lv_iload hx hb dL_law_1577 (lv_at hl 1 rfl) ?_
  refine lv_icmp_eq (tgt := 1584) hx hb dL_law_1579 (by decide) (fun _ => ?_) (fun z => absurd rfl z)
  refine lv_iload hx hb dL_law_1584 (lv_at hl 1 rfl) ?_
  refine lv_if_ne (tgt := 1601) hx hb dL_law_1586 (by decide) (fun z => ?_) (fun z => ?_)
  · have he : ¬ e_X1_daysUntilHome w b n T w2 b2 n2 T2 x1 = 0 := fun y => z (by rw [← hk, if_pos y])
    rw [if_neg he] at hw
    refine lv_goto (tgt := 1840) hx hb dL_law_1601 (by decide) ?_
    exact l_back hC hK (f := f) ⟨⟨o1, o2, o3⟩, ⟨o4, o5, o6⟩, b5, b6, b7⟩ hR hw (lv_sub hl [2, 3, 4, 5, 6] rfl) (by omega) (by omega)
  · have he : e_X1_daysUntilHome w b n T w2 b2 n2 T2 x1 = 0 := by
      by_cases y : e_X1_daysUntilHome w b n T w2 b2 n2 T2 x1 = 0
      · exact y
      · rw [← hk, if_neg y] at z; exfalso; revert z; (repeat' split) <;> decide
    rw [if_pos he] at hw
    refine lv_aload_n hx hb dL_law_1589 rfl (lv_at hl 6 rfl) ?_
    refine lv_iconst (v := 0) hx hb dL_law_1590 (by decide) ?_
    refine g_lald (f := (vp_updL f 0 ((r_X1_daysUntilHome w b n T w2 b2 n2 T2 x1)).toInt64)) hc hw 40 rfl (show vp_in (0 : Int32) 1 by unfold vp_in; decide) dL_law_1591 ?_
    rw [show (vp_updL f 0 ((r_X1_daysUntilHome w b n T w2 b2 n2 T2 x1)).toInt64) (0 : Int32).toNatClampNeg = ((r_X1_daysUntilHome w b n T w2 b2 n2 T2 x1)).toInt64 from rfl, hv he]
    refine lv_iload hx hb dL_law_1592 (lv_at hl 0 rfl) ?_
    refine lv_i2l (v := ((r_X3_daysUntilHome th w b n M w3 b3 n3 M2 x1)).toInt64) hx hb dL_law_1594 rfl ?_
    refine W.lcmp hx hb dL_law_1595 ?_
    rw [lg_same]
    refine lv_if_eq (tgt := 1601) hx hb dL_law_1596 (by decide) (fun _ => ?_) (fun z => absurd rfl z)
    refine lv_goto (tgt := 1840) hx hb dL_law_1601 (by decide) ?_
    exact l_back hC hK (f := (vp_updL f 0 ((r_X1_daysUntilHome w b n T w2 b2 n2 T2 x1)).toInt64)) ⟨⟨o1, o2, o3⟩, ⟨o1, o2, o3⟩, b5, b6, b7⟩ hR hw (lv_sub hl [2, 3, 4, 5, 6] rfl) (by omega) (by omega)
set_option maxHeartbeats 4000000 in
set_option maxRecDepth 100000 in
theorem l_case_homeAfter {p : Program} {l : Launch} {e : Env} {s : State} {m : MethodId} {below : List Frame} {meth : Method} {c0 : Code} {b0 L : Nat} {xs : Nat → Int32} {D : va_G} {cI cZ cL : ClassId} {h hm o : Nat} {a a2 am am2 : Nat → Nat} (hC : LC p s m meth c0 b0 L xs D cI cZ cL) (hst : l.stackTraces = false) {c : Nat} (hcL : c + 3 ≤ L) (hL : L ≤ 1536) (hK : LH p l e s m below meth c0 b0 D cI cZ cL h hm o a a2 am am2 (c + 3)) {H : Heap} {locs : List Loc} {ls : Array Slot} {th : Int32} {w b n : Nat} {T : ct_T} {M : mt_T} {w2 b2 n2 : Nat} {T2 : ct_T} {w3 b3 n3 : Nat} {M2 : mt_T} {f : Nat → Int64} (hok : Lok w b n w2 b2 n2 w3 b3 n3) (hR : RR w b n T M) (hw : Wo D (fun q => s.heap.size ≤ q) s.heap (Lw cI cZ cL h hm o a a2 am am2 th w b n T M w2 b2 n2 T2 w3 b3 n3 M2 f) H locs) (hl : lv_has ls 9 [(4, .int (nI c)), (0, .ref b0), (1, .ref h), (2, .ref hm), (3, .ref o)]) : W p l e room_1 s m #[Value.ref b0] below meth c0 H locs (60 + c) (700 + 6 * c) (lw_Z below #[Value.ref b0] s) (F0 m 1604 ls []) := by
  obtain ⟨hc, hTx, hX, hb0⟩ := id hC
  obtain ⟨hx, hb, hr, hml, hown, hts, hlk, hK9, hA⟩ := id hc
  obtain ⟨⟨o1, o2, o3⟩, ⟨o4, o5, o6⟩, ⟨o7, o8, o9⟩⟩ := id hok
  have hbA : ¬ (fun q : Nat => s.heap.size ≤ q) b0 := Nat.not_le.mpr hb0
  obtain ⟨x1, ex1⟩ : ∃ x : Int32, xs (nI (c + 1)).toNatClampNeg = x := ⟨_, rfl⟩
  have hop := op_homeAfter (w2 := w2) (b2 := b2) (n2 := n2) (T2 := T2) (w3 := w3) (b3 := b3) (n3 := n3) (M2 := M2) (th := th) o1 o2 o3 o7 o8 o9 hR x1
  obtain ⟨hcd, hk, hv, b5, b6, b7⟩ := hop
  refine lv_aload_n hx hb dL_law_1604 rfl (lv_at hl 2 rfl) ?_
  refine lv_aload_n hx hb dL_law_1605 rfl (lv_at hl 1 rfl) ?_
  refine lv_iload hx hb dL_law_1606 (lv_at hl 0 rfl) ?_
  refine lv_iconst (v := 1) hx hb dL_law_1608 (by decide) ?_
  refine lv_iadd hx hb dL_law_1609 ?_
  rw [show nI c + 1 = nI (c + 1) from nI_add c 1]
  refine va_sld hx hb hX hb0 hbA hw.2.2 (vp_in_nI (show c + 1 < L by omega) (by omega)) dL_law_1610 ?_
  rw [ex1]
  refine lv_aload_n hx hb dL_law_1611 rfl (lv_at hl 4 rfl) ?_
  have hL1 := k_L_homeAfter D cI cZ cL h o x1 f (w0 := wb_c h a a2 cI cZ w b n T w2 b2 n2 T2) (w1 := wb_c h a a2 cI cZ w b n T w b n (z_X1_homeAfter w b n T w2 b2 n2 T2 x1)) rfl rfl (wo_X1_H ..) hcd (k_X1_homeAfter hst D cI cZ cL h a a2 w b n T w2 b2 n2 T2 o1 o2 o3 o4 o5 o6 x1)
  rw [hk] at hL1
  refine pl_callS (n := 3) (As := [.ref h, .int x1, .ref o]) (rest := []) hc hTx hw.2.2 (Pt.back (pre := wb_m hm am am2 cI th w b n M w3 b3 n3 M2) (wc := wb_c h a a2 cI cZ w b n T w2 b2 n2 T2 ++ [(o, .inl (cL, 1, .inr (.inl f)))]) hw hA) hL1 gL_law_L_homeAfter rfl (by decide +kernel) ⟨Nat.le_of_ble_eq_true rfl, Nat.le_of_ble_eq_true rfl⟩ rfl rfl hl.1 (Nat.le_of_ble_eq_true rfl) (st1 := [.int (t_X3_homeAfter th w b n M w3 b3 n3 M2 x1)]) rfl dL_law_1612 (k2 := 60 + c + 1) (s2 := 700 + 6 * c + 6) rfl rfl ⟨(Nat.le_trans (show 60 + c + 1 ≤ 20000 by omega) (Nat.le_of_ble_eq_true rfl)), (Nat.le_trans (show 700 + 6 * c + 6 ≤ 40000 by omega) (Nat.le_of_ble_eq_true rfl))⟩ (fun H locs hw => ?_)
  refine lv_istore (lv' := [(5, .int (t_X3_homeAfter th w b n M w3 b3 n3 M2 x1)), (4, .int (nI c)), (0, .ref b0), (1, .ref h), (2, .ref hm), (3, .ref o)]) hx hb dL_law_1615 hl (by decide) rfl (fun ls hl => ?_)
  refine lv_aload_n hx hb dL_law_1617 rfl (lv_at hl 4 rfl) ?_
  refine lv_aload_n hx hb dL_law_1618 rfl (lv_at hl 2 rfl) ?_
  refine lv_iload hx hb dL_law_1619 (lv_at hl 1 rfl) ?_
  refine lv_iconst (v := 1) hx hb dL_law_1621 (by decide) ?_
  refine lv_iadd hx hb dL_law_1622 ?_
  rw [show nI c + 1 = nI (c + 1) from nI_add c 1]
  refine va_sld hx hb hX hb0 hbA hw.2.2 (vp_in_nI (show c + 1 < L by omega) (by omega)) dL_law_1623 ?_
  rw [ex1]
  refine p_callV (n := 1) (As := [.int x1]) (rest := []) (q0 := 0) hc hw.2.2 (Pt.front (wc := wb_m hm am am2 cI th w b n M w3 b3 n3 M2) hw hA) (k_X3_homeAfter l D cI cZ cL hm am am2 th w b n M w3 b3 n3 M2 o1 o2 o3 o7 o8 o9 x1) gL_law_X3_homeAfter rfl (by decide +kernel) ⟨Nat.le_of_ble_eq_true rfl, Nat.le_of_ble_eq_true rfl⟩ (wo_X3_H ..) rfl rfl rfl rfl hl.1 (Nat.le_of_ble_eq_true rfl) (st1 := [.int (r_X3_homeAfter th w b n M w3 b3 n3 M2 x1)]) rfl dL_law_1624 (k2 := 60 + c + 1 + 0) (s2 := 700 + 6 * c + 6 + 0) rfl rfl ⟨(Nat.le_trans (show 60 + c + 1 + 0 ≤ 20000 by omega) (Nat.le_of_ble_eq_true rfl)), (Nat.le_trans (show 700 + 6 * c + 6 + 0 ≤ 40000 by omega) (Nat.le_of_ble_eq_true rfl))⟩ (fun H locs hw => ?_)
  refine lv_istore (lv' := [(6, .int (r_X3_homeAfter th w b n M w3 b3 n3 M2 x1)), (5, .int (t_X3_homeAfter th w b n M w3 b3 n3 M2 x1)), (4, .int (nI c)), (0, .ref b0), (1, .ref h), (2, .ref hm), (3, .ref o)]) hx hb dL_law_1627 hl (by decide) rfl (fun ls hl => ?_)
  refine lv_aload_n hx hb dL_law_1629 rfl (lv_at hl 5 rfl) ?_
  refine p_callV (n := 0) (As := []) (rest := []) (q0 := 0) hc hw.2.2 (Pt.front (wc := wb_m hm am am2 cI (t_X3_homeAfter th w b n M w3 b3 n3 M2 x1) w b n M (nw2_X3_homeAfter th w b n M w3 b3 n3 M2 x1) (nb2_X3_homeAfter th w b n M w3 b3 n3 M2 x1) (nn2_X3_homeAfter th w b n M w3 b3 n3 M2 x1) (z_X3_homeAfter th w b n M w3 b3 n3 M2 x1)) hw hA) (k_X3_thrown l D cI cZ cL hm am am2 (t_X3_homeAfter th w b n M w3 b3 n3 M2 x1) w b n M (nw2_X3_homeAfter th w b n M w3 b3 n3 M2 x1) (nb2_X3_homeAfter th w b n M w3 b3 n3 M2 x1) (nn2_X3_homeAfter th w b n M w3 b3 n3 M2 x1) (z_X3_homeAfter th w b n M w3 b3 n3 M2 x1) o1 o2 o3 b5 b6 b7) gL_law_X3_thrown rfl (by decide +kernel) ⟨Nat.le_of_ble_eq_true rfl, Nat.le_of_ble_eq_true rfl⟩ (wo_X3_H ..) rfl rfl rfl rfl hl.1 (Nat.le_of_ble_eq_true rfl) (st1 := [.int (t_X3_homeAfter th w b n M w3 b3 n3 M2 x1)]) rfl dL_law_1630 (k2 := 60 + c + 1 + 0) (s2 := 700 + 6 * c + 6 + 0) rfl rfl ⟨(Nat.le_trans (show 60 + c + 1 + 0 ≤ 20000 by omega) (Nat.le_of_ble_eq_true rfl)), (Nat.le_trans (show 700 + 6 * c + 6 + 0 ≤ 40000 by omega) (Nat.le_of_ble_eq_true rfl))⟩ (fun H locs hw => ?_)
  refine lv_iload hx hb dL_law_1633 (lv_at hl 1 rfl) ?_
  refine lv_icmp_eq (tgt := 1640) hx hb dL_law_1635 (by decide) (fun _ => ?_) (fun z => absurd rfl z)
  refine lv_iload hx hb dL_law_1640 (lv_at hl 1 rfl) ?_
  refine lv_if_ne (tgt := 1657) hx hb dL_law_1642 (by decide) (fun z => ?_) (fun z => ?_)
  · have he : ¬ e_X1_homeAfter w b n T w2 b2 n2 T2 x1 = 0 := fun y => z (by rw [← hk, if_pos y])
    rw [if_neg he] at hw
    refine lv_goto (tgt := 1840) hx hb dL_law_1657 (by decide) ?_
    exact l_back hC hK (f := f) ⟨⟨o1, o2, o3⟩, ⟨o4, o5, o6⟩, b5, b6, b7⟩ hR hw (lv_sub hl [2, 3, 4, 5, 6] rfl) (by omega) (by omega)
  · have he : e_X1_homeAfter w b n T w2 b2 n2 T2 x1 = 0 := by
      by_cases y : e_X1_homeAfter w b n T w2 b2 n2 T2 x1 = 0
      · exact y
      · rw [← hk, if_neg y] at z; exfalso; revert z; (repeat' split) <;> decide
    rw [if_pos he] at hw
    refine lv_aload_n hx hb dL_law_1645 rfl (lv_at hl 6 rfl) ?_
    refine lv_iconst (v := 0) hx hb dL_law_1646 (by decide) ?_
    refine g_lald (f := (vp_updL f 0 ((r_X1_homeAfter w b n T w2 b2 n2 T2 x1)).toInt64)) hc hw 40 rfl (show vp_in (0 : Int32) 1 by unfold vp_in; decide) dL_law_1647 ?_
    rw [show (vp_updL f 0 ((r_X1_homeAfter w b n T w2 b2 n2 T2 x1)).toInt64) (0 : Int32).toNatClampNeg = ((r_X1_homeAfter w b n T w2 b2 n2 T2 x1)).toInt64 from rfl, hv he]
    refine lv_iload hx hb dL_law_1648 (lv_at hl 0 rfl) ?_
    refine lv_i2l (v := ((r_X3_homeAfter th w b n M w3 b3 n3 M2 x1)).toInt64) hx hb dL_law_1650 rfl ?_
    refine W.lcmp hx hb dL_law_1651 ?_
    rw [lg_same]
    refine lv_if_eq (tgt := 1657) hx hb dL_law_1652 (by decide) (fun _ => ?_) (fun z => absurd rfl z)
    refine lv_goto (tgt := 1840) hx hb dL_law_1657 (by decide) ?_
    exact l_back hC hK (f := (vp_updL f 0 ((r_X1_homeAfter w b n T w2 b2 n2 T2 x1)).toInt64)) ⟨⟨o1, o2, o3⟩, ⟨o1, o2, o3⟩, b5, b6, b7⟩ hR hw (lv_sub hl [2, 3, 4, 5, 6] rfl) (by omega) (by omega)
set_option maxHeartbeats 4000000 in
set_option maxRecDepth 100000 in
theorem l_case_greatHouseAfter {p : Program} {l : Launch} {e : Env} {s : State} {m : MethodId} {below : List Frame} {meth : Method} {c0 : Code} {b0 L : Nat} {xs : Nat → Int32} {D : va_G} {cI cZ cL : ClassId} {h hm o : Nat} {a a2 am am2 : Nat → Nat} (hC : LC p s m meth c0 b0 L xs D cI cZ cL) (hst : l.stackTraces = false) {c : Nat} (hcL : c + 3 ≤ L) (hL : L ≤ 1536) (hK : LH p l e s m below meth c0 b0 D cI cZ cL h hm o a a2 am am2 (c + 3)) {H : Heap} {locs : List Loc} {ls : Array Slot} {th : Int32} {w b n : Nat} {T : ct_T} {M : mt_T} {w2 b2 n2 : Nat} {T2 : ct_T} {w3 b3 n3 : Nat} {M2 : mt_T} {f : Nat → Int64} (hok : Lok w b n w2 b2 n2 w3 b3 n3) (hR : RR w b n T M) (hw : Wo D (fun q => s.heap.size ≤ q) s.heap (Lw cI cZ cL h hm o a a2 am am2 th w b n T M w2 b2 n2 T2 w3 b3 n3 M2 f) H locs) (hl : lv_has ls 9 [(4, .int (nI c)), (0, .ref b0), (1, .ref h), (2, .ref hm), (3, .ref o)]) : W p l e room_1 s m #[Value.ref b0] below meth c0 H locs (60 + c) (700 + 6 * c) (lw_Z below #[Value.ref b0] s) (F0 m 1660 ls []) := by
  obtain ⟨hc, hTx, hX, hb0⟩ := id hC
  obtain ⟨hx, hb, hr, hml, hown, hts, hlk, hK9, hA⟩ := id hc
  obtain ⟨⟨o1, o2, o3⟩, ⟨o4, o5, o6⟩, ⟨o7, o8, o9⟩⟩ := id hok
  have hbA : ¬ (fun q : Nat => s.heap.size ≤ q) b0 := Nat.not_le.mpr hb0
  obtain ⟨x1, ex1⟩ : ∃ x : Int32, xs (nI (c + 1)).toNatClampNeg = x := ⟨_, rfl⟩
  have hop := op_greatHouseAfter (w2 := w2) (b2 := b2) (n2 := n2) (T2 := T2) (w3 := w3) (b3 := b3) (n3 := n3) (M2 := M2) (th := th) o1 o2 o3 o7 o8 o9 hR x1
  obtain ⟨hcd, hk, hv, b5, b6, b7⟩ := hop
  refine lv_aload_n hx hb dL_law_1660 rfl (lv_at hl 2 rfl) ?_
  refine lv_aload_n hx hb dL_law_1661 rfl (lv_at hl 1 rfl) ?_
  refine lv_iload hx hb dL_law_1662 (lv_at hl 0 rfl) ?_
  refine lv_iconst (v := 1) hx hb dL_law_1664 (by decide) ?_
  refine lv_iadd hx hb dL_law_1665 ?_
  rw [show nI c + 1 = nI (c + 1) from nI_add c 1]
  refine va_sld hx hb hX hb0 hbA hw.2.2 (vp_in_nI (show c + 1 < L by omega) (by omega)) dL_law_1666 ?_
  rw [ex1]
  refine lv_aload_n hx hb dL_law_1667 rfl (lv_at hl 4 rfl) ?_
  have hL1 := k_L_greatHouseAfter D cI cZ cL h o x1 f (w0 := wb_c h a a2 cI cZ w b n T w2 b2 n2 T2) (w1 := wb_c h a a2 cI cZ w b n T w b n (z_X1_greatHouseAfter w b n T w2 b2 n2 T2 x1)) rfl rfl (wo_X1_H ..) hcd (k_X1_greatHouseAfter hst D cI cZ cL h a a2 w b n T w2 b2 n2 T2 o1 o2 o3 o4 o5 o6 x1)
  rw [hk] at hL1
  refine pl_callS (n := 3) (As := [.ref h, .int x1, .ref o]) (rest := []) hc hTx hw.2.2 (Pt.back (pre := wb_m hm am am2 cI th w b n M w3 b3 n3 M2) (wc := wb_c h a a2 cI cZ w b n T w2 b2 n2 T2 ++ [(o, .inl (cL, 1, .inr (.inl f)))]) hw hA) hL1 gL_law_L_greatHouseAfter rfl (by decide +kernel) ⟨Nat.le_of_ble_eq_true rfl, Nat.le_of_ble_eq_true rfl⟩ rfl rfl hl.1 (Nat.le_of_ble_eq_true rfl) (st1 := [.int (t_X3_greatHouseAfter th w b n M w3 b3 n3 M2 x1)]) rfl dL_law_1668 (k2 := 60 + c + 1) (s2 := 700 + 6 * c + 6) rfl rfl ⟨(Nat.le_trans (show 60 + c + 1 ≤ 20000 by omega) (Nat.le_of_ble_eq_true rfl)), (Nat.le_trans (show 700 + 6 * c + 6 ≤ 40000 by omega) (Nat.le_of_ble_eq_true rfl))⟩ (fun H locs hw => ?_)
  refine lv_istore (lv' := [(5, .int (t_X3_greatHouseAfter th w b n M w3 b3 n3 M2 x1)), (4, .int (nI c)), (0, .ref b0), (1, .ref h), (2, .ref hm), (3, .ref o)]) hx hb dL_law_1671 hl (by decide) rfl (fun ls hl => ?_)
  refine lv_aload_n hx hb dL_law_1673 rfl (lv_at hl 4 rfl) ?_
  refine lv_aload_n hx hb dL_law_1674 rfl (lv_at hl 2 rfl) ?_
  refine lv_iload hx hb dL_law_1675 (lv_at hl 1 rfl) ?_
  refine lv_iconst (v := 1) hx hb dL_law_1677 (by decide) ?_
  refine lv_iadd hx hb dL_law_1678 ?_
  rw [show nI c + 1 = nI (c + 1) from nI_add c 1]
  refine va_sld hx hb hX hb0 hbA hw.2.2 (vp_in_nI (show c + 1 < L by omega) (by omega)) dL_law_1679 ?_
  rw [ex1]
  refine p_callV (n := 1) (As := [.int x1]) (rest := []) (q0 := 0) hc hw.2.2 (Pt.front (wc := wb_m hm am am2 cI th w b n M w3 b3 n3 M2) hw hA) (k_X3_greatHouseAfter l D cI cZ cL hm am am2 th w b n M w3 b3 n3 M2 o1 o2 o3 o7 o8 o9 x1) gL_law_X3_greatHouseAfter rfl (by decide +kernel) ⟨Nat.le_of_ble_eq_true rfl, Nat.le_of_ble_eq_true rfl⟩ (wo_X3_H ..) rfl rfl rfl rfl hl.1 (Nat.le_of_ble_eq_true rfl) (st1 := [.int (r_X3_greatHouseAfter th w b n M w3 b3 n3 M2 x1)]) rfl dL_law_1680 (k2 := 60 + c + 1 + 0) (s2 := 700 + 6 * c + 6 + 0) rfl rfl ⟨(Nat.le_trans (show 60 + c + 1 + 0 ≤ 20000 by omega) (Nat.le_of_ble_eq_true rfl)), (Nat.le_trans (show 700 + 6 * c + 6 + 0 ≤ 40000 by omega) (Nat.le_of_ble_eq_true rfl))⟩ (fun H locs hw => ?_)
  refine lv_istore (lv' := [(6, .int (r_X3_greatHouseAfter th w b n M w3 b3 n3 M2 x1)), (5, .int (t_X3_greatHouseAfter th w b n M w3 b3 n3 M2 x1)), (4, .int (nI c)), (0, .ref b0), (1, .ref h), (2, .ref hm), (3, .ref o)]) hx hb dL_law_1683 hl (by decide) rfl (fun ls hl => ?_)
  refine lv_aload_n hx hb dL_law_1685 rfl (lv_at hl 5 rfl) ?_
  refine p_callV (n := 0) (As := []) (rest := []) (q0 := 0) hc hw.2.2 (Pt.front (wc := wb_m hm am am2 cI (t_X3_greatHouseAfter th w b n M w3 b3 n3 M2 x1) w b n M (nw2_X3_greatHouseAfter th w b n M w3 b3 n3 M2 x1) (nb2_X3_greatHouseAfter th w b n M w3 b3 n3 M2 x1) (nn2_X3_greatHouseAfter th w b n M w3 b3 n3 M2 x1) (z_X3_greatHouseAfter th w b n M w3 b3 n3 M2 x1)) hw hA) (k_X3_thrown l D cI cZ cL hm am am2 (t_X3_greatHouseAfter th w b n M w3 b3 n3 M2 x1) w b n M (nw2_X3_greatHouseAfter th w b n M w3 b3 n3 M2 x1) (nb2_X3_greatHouseAfter th w b n M w3 b3 n3 M2 x1) (nn2_X3_greatHouseAfter th w b n M w3 b3 n3 M2 x1) (z_X3_greatHouseAfter th w b n M w3 b3 n3 M2 x1) o1 o2 o3 b5 b6 b7) gL_law_X3_thrown rfl (by decide +kernel) ⟨Nat.le_of_ble_eq_true rfl, Nat.le_of_ble_eq_true rfl⟩ (wo_X3_H ..) rfl rfl rfl rfl hl.1 (Nat.le_of_ble_eq_true rfl) (st1 := [.int (t_X3_greatHouseAfter th w b n M w3 b3 n3 M2 x1)]) rfl dL_law_1686 (k2 := 60 + c + 1 + 0) (s2 := 700 + 6 * c + 6 + 0) rfl rfl ⟨(Nat.le_trans (show 60 + c + 1 + 0 ≤ 20000 by omega) (Nat.le_of_ble_eq_true rfl)), (Nat.le_trans (show 700 + 6 * c + 6 + 0 ≤ 40000 by omega) (Nat.le_of_ble_eq_true rfl))⟩ (fun H locs hw => ?_)
  refine lv_iload hx hb dL_law_1689 (lv_at hl 1 rfl) ?_
  refine lv_icmp_eq (tgt := 1696) hx hb dL_law_1691 (by decide) (fun _ => ?_) (fun z => absurd rfl z)
  refine lv_iload hx hb dL_law_1696 (lv_at hl 1 rfl) ?_
  refine lv_if_ne (tgt := 1713) hx hb dL_law_1698 (by decide) (fun z => ?_) (fun z => ?_)
  · have he : ¬ e_X1_greatHouseAfter w b n T w2 b2 n2 T2 x1 = 0 := fun y => z (by rw [← hk, if_pos y])
    rw [if_neg he] at hw
    refine lv_goto (tgt := 1840) hx hb dL_law_1713 (by decide) ?_
    exact l_back hC hK (f := f) ⟨⟨o1, o2, o3⟩, ⟨o4, o5, o6⟩, b5, b6, b7⟩ hR hw (lv_sub hl [2, 3, 4, 5, 6] rfl) (by omega) (by omega)
  · have he : e_X1_greatHouseAfter w b n T w2 b2 n2 T2 x1 = 0 := by
      by_cases y : e_X1_greatHouseAfter w b n T w2 b2 n2 T2 x1 = 0
      · exact y
      · rw [← hk, if_neg y] at z; exfalso; revert z; (repeat' split) <;> decide
    rw [if_pos he] at hw
    refine lv_aload_n hx hb dL_law_1701 rfl (lv_at hl 6 rfl) ?_
    refine lv_iconst (v := 0) hx hb dL_law_1702 (by decide) ?_
    refine g_lald (f := (vp_updL f 0 ((r_X1_greatHouseAfter w b n T w2 b2 n2 T2 x1)).toInt64)) hc hw 40 rfl (show vp_in (0 : Int32) 1 by unfold vp_in; decide) dL_law_1703 ?_
    rw [show (vp_updL f 0 ((r_X1_greatHouseAfter w b n T w2 b2 n2 T2 x1)).toInt64) (0 : Int32).toNatClampNeg = ((r_X1_greatHouseAfter w b n T w2 b2 n2 T2 x1)).toInt64 from rfl, hv he]
    refine lv_iload hx hb dL_law_1704 (lv_at hl 0 rfl) ?_
    refine lv_i2l (v := ((r_X3_greatHouseAfter th w b n M w3 b3 n3 M2 x1)).toInt64) hx hb dL_law_1706 rfl ?_
    refine W.lcmp hx hb dL_law_1707 ?_
    rw [lg_same]
    refine lv_if_eq (tgt := 1713) hx hb dL_law_1708 (by decide) (fun _ => ?_) (fun z => absurd rfl z)
    refine lv_goto (tgt := 1840) hx hb dL_law_1713 (by decide) ?_
    exact l_back hC hK (f := (vp_updL f 0 ((r_X1_greatHouseAfter w b n T w2 b2 n2 T2 x1)).toInt64)) ⟨⟨o1, o2, o3⟩, ⟨o1, o2, o3⟩, b5, b6, b7⟩ hR hw (lv_sub hl [2, 3, 4, 5, 6] rfl) (by omega) (by omega)
set_option maxHeartbeats 4000000 in
set_option maxRecDepth 100000 in
theorem l_case_bestStraw {p : Program} {l : Launch} {e : Env} {s : State} {m : MethodId} {below : List Frame} {meth : Method} {c0 : Code} {b0 L : Nat} {xs : Nat → Int32} {D : va_G} {cI cZ cL : ClassId} {h hm o : Nat} {a a2 am am2 : Nat → Nat} (hC : LC p s m meth c0 b0 L xs D cI cZ cL) (hst : l.stackTraces = false) {c : Nat} (hcL : c + 3 ≤ L) (hL : L ≤ 1536) (hK : LH p l e s m below meth c0 b0 D cI cZ cL h hm o a a2 am am2 (c + 3)) {H : Heap} {locs : List Loc} {ls : Array Slot} {th : Int32} {w b n : Nat} {T : ct_T} {M : mt_T} {w2 b2 n2 : Nat} {T2 : ct_T} {w3 b3 n3 : Nat} {M2 : mt_T} {f : Nat → Int64} (hok : Lok w b n w2 b2 n2 w3 b3 n3) (hR : RR w b n T M) (hw : Wo D (fun q => s.heap.size ≤ q) s.heap (Lw cI cZ cL h hm o a a2 am am2 th w b n T M w2 b2 n2 T2 w3 b3 n3 M2 f) H locs) (hl : lv_has ls 9 [(4, .int (nI c)), (0, .ref b0), (1, .ref h), (2, .ref hm), (3, .ref o)]) : W p l e room_1 s m #[Value.ref b0] below meth c0 H locs (60 + c) (700 + 6 * c) (lw_Z below #[Value.ref b0] s) (F0 m 1716 ls []) := by
  obtain ⟨hc, hTx, hX, hb0⟩ := id hC
  obtain ⟨hx, hb, hr, hml, hown, hts, hlk, hK9, hA⟩ := id hc
  obtain ⟨⟨o1, o2, o3⟩, ⟨o4, o5, o6⟩, ⟨o7, o8, o9⟩⟩ := id hok
  have hbA : ¬ (fun q : Nat => s.heap.size ≤ q) b0 := Nat.not_le.mpr hb0
  obtain ⟨x1, ex1⟩ : ∃ x : Int32, xs (nI (c + 1)).toNatClampNeg = x := ⟨_, rfl⟩
  have hop := op_bestStraw (w2 := w2) (b2 := b2) (n2 := n2) (T2 := T2) (w3 := w3) (b3 := b3) (n3 := n3) (M2 := M2) (th := th) o1 o2 o3 o7 o8 o9 hR x1
  obtain ⟨hcd, hk, hv, b5, b6, b7⟩ := hop
  refine lv_aload_n hx hb dL_law_1716 rfl (lv_at hl 2 rfl) ?_
  refine lv_aload_n hx hb dL_law_1717 rfl (lv_at hl 1 rfl) ?_
  refine lv_iload hx hb dL_law_1718 (lv_at hl 0 rfl) ?_
  refine lv_iconst (v := 1) hx hb dL_law_1720 (by decide) ?_
  refine lv_iadd hx hb dL_law_1721 ?_
  rw [show nI c + 1 = nI (c + 1) from nI_add c 1]
  refine va_sld hx hb hX hb0 hbA hw.2.2 (vp_in_nI (show c + 1 < L by omega) (by omega)) dL_law_1722 ?_
  rw [ex1]
  refine lv_aload_n hx hb dL_law_1723 rfl (lv_at hl 4 rfl) ?_
  have hL1 := k_L_bestStraw D cI cZ cL h o x1 f (w0 := wb_c h a a2 cI cZ w b n T w2 b2 n2 T2) (w1 := wb_c h a a2 cI cZ w b n T w b n (z_X1_bestStraw w b n T w2 b2 n2 T2 x1)) rfl rfl (wo_X1_H ..) hcd (k_X1_bestStraw hst D cI cZ cL h a a2 w b n T w2 b2 n2 T2 o1 o2 o3 o4 o5 o6 x1)
  rw [hk] at hL1
  refine pl_callS (n := 3) (As := [.ref h, .int x1, .ref o]) (rest := []) hc hTx hw.2.2 (Pt.back (pre := wb_m hm am am2 cI th w b n M w3 b3 n3 M2) (wc := wb_c h a a2 cI cZ w b n T w2 b2 n2 T2 ++ [(o, .inl (cL, 1, .inr (.inl f)))]) hw hA) hL1 gL_law_L_bestStraw rfl (by decide +kernel) ⟨Nat.le_of_ble_eq_true rfl, Nat.le_of_ble_eq_true rfl⟩ rfl rfl hl.1 (Nat.le_of_ble_eq_true rfl) (st1 := [.int (t_X3_bestStraw th w b n M w3 b3 n3 M2 x1)]) rfl dL_law_1724 (k2 := 60 + c + 1) (s2 := 700 + 6 * c + 6) rfl rfl ⟨(Nat.le_trans (show 60 + c + 1 ≤ 20000 by omega) (Nat.le_of_ble_eq_true rfl)), (Nat.le_trans (show 700 + 6 * c + 6 ≤ 40000 by omega) (Nat.le_of_ble_eq_true rfl))⟩ (fun H locs hw => ?_)
  refine lv_istore (lv' := [(5, .int (t_X3_bestStraw th w b n M w3 b3 n3 M2 x1)), (4, .int (nI c)), (0, .ref b0), (1, .ref h), (2, .ref hm), (3, .ref o)]) hx hb dL_law_1727 hl (by decide) rfl (fun ls hl => ?_)
  refine lv_aload_n hx hb dL_law_1729 rfl (lv_at hl 4 rfl) ?_
  refine lv_aload_n hx hb dL_law_1730 rfl (lv_at hl 2 rfl) ?_
  refine lv_iload hx hb dL_law_1731 (lv_at hl 1 rfl) ?_
  refine lv_iconst (v := 1) hx hb dL_law_1733 (by decide) ?_
  refine lv_iadd hx hb dL_law_1734 ?_
  rw [show nI c + 1 = nI (c + 1) from nI_add c 1]
  refine va_sld hx hb hX hb0 hbA hw.2.2 (vp_in_nI (show c + 1 < L by omega) (by omega)) dL_law_1735 ?_
  rw [ex1]
  refine p_callV (n := 1) (As := [.int x1]) (rest := []) (q0 := 0) hc hw.2.2 (Pt.front (wc := wb_m hm am am2 cI th w b n M w3 b3 n3 M2) hw hA) (k_X3_bestStraw l D cI cZ cL hm am am2 th w b n M w3 b3 n3 M2 o1 o2 o3 o7 o8 o9 x1) gL_law_X3_bestStraw rfl (by decide +kernel) ⟨Nat.le_of_ble_eq_true rfl, Nat.le_of_ble_eq_true rfl⟩ (wo_X3_H ..) rfl rfl rfl rfl hl.1 (Nat.le_of_ble_eq_true rfl) (st1 := [.int (r_X3_bestStraw th w b n M w3 b3 n3 M2 x1)]) rfl dL_law_1736 (k2 := 60 + c + 1 + 0) (s2 := 700 + 6 * c + 6 + 0) rfl rfl ⟨(Nat.le_trans (show 60 + c + 1 + 0 ≤ 20000 by omega) (Nat.le_of_ble_eq_true rfl)), (Nat.le_trans (show 700 + 6 * c + 6 + 0 ≤ 40000 by omega) (Nat.le_of_ble_eq_true rfl))⟩ (fun H locs hw => ?_)
  refine lv_istore (lv' := [(6, .int (r_X3_bestStraw th w b n M w3 b3 n3 M2 x1)), (5, .int (t_X3_bestStraw th w b n M w3 b3 n3 M2 x1)), (4, .int (nI c)), (0, .ref b0), (1, .ref h), (2, .ref hm), (3, .ref o)]) hx hb dL_law_1739 hl (by decide) rfl (fun ls hl => ?_)
  refine lv_aload_n hx hb dL_law_1741 rfl (lv_at hl 5 rfl) ?_
  refine p_callV (n := 0) (As := []) (rest := []) (q0 := 0) hc hw.2.2 (Pt.front (wc := wb_m hm am am2 cI (t_X3_bestStraw th w b n M w3 b3 n3 M2 x1) w b n M (nw2_X3_bestStraw th w b n M w3 b3 n3 M2 x1) (nb2_X3_bestStraw th w b n M w3 b3 n3 M2 x1) (nn2_X3_bestStraw th w b n M w3 b3 n3 M2 x1) (z_X3_bestStraw th w b n M w3 b3 n3 M2 x1)) hw hA) (k_X3_thrown l D cI cZ cL hm am am2 (t_X3_bestStraw th w b n M w3 b3 n3 M2 x1) w b n M (nw2_X3_bestStraw th w b n M w3 b3 n3 M2 x1) (nb2_X3_bestStraw th w b n M w3 b3 n3 M2 x1) (nn2_X3_bestStraw th w b n M w3 b3 n3 M2 x1) (z_X3_bestStraw th w b n M w3 b3 n3 M2 x1) o1 o2 o3 b5 b6 b7) gL_law_X3_thrown rfl (by decide +kernel) ⟨Nat.le_of_ble_eq_true rfl, Nat.le_of_ble_eq_true rfl⟩ (wo_X3_H ..) rfl rfl rfl rfl hl.1 (Nat.le_of_ble_eq_true rfl) (st1 := [.int (t_X3_bestStraw th w b n M w3 b3 n3 M2 x1)]) rfl dL_law_1742 (k2 := 60 + c + 1 + 0) (s2 := 700 + 6 * c + 6 + 0) rfl rfl ⟨(Nat.le_trans (show 60 + c + 1 + 0 ≤ 20000 by omega) (Nat.le_of_ble_eq_true rfl)), (Nat.le_trans (show 700 + 6 * c + 6 + 0 ≤ 40000 by omega) (Nat.le_of_ble_eq_true rfl))⟩ (fun H locs hw => ?_)
  refine lv_iload hx hb dL_law_1745 (lv_at hl 1 rfl) ?_
  refine lv_icmp_eq (tgt := 1752) hx hb dL_law_1747 (by decide) (fun _ => ?_) (fun z => absurd rfl z)
  refine lv_iload hx hb dL_law_1752 (lv_at hl 1 rfl) ?_
  refine lv_if_ne (tgt := 1769) hx hb dL_law_1754 (by decide) (fun z => ?_) (fun z => ?_)
  · have he : ¬ e_X1_bestStraw w b n T w2 b2 n2 T2 x1 = 0 := fun y => z (by rw [← hk, if_pos y])
    rw [if_neg he] at hw
    refine lv_goto (tgt := 1840) hx hb dL_law_1769 (by decide) ?_
    exact l_back hC hK (f := f) ⟨⟨o1, o2, o3⟩, ⟨o4, o5, o6⟩, b5, b6, b7⟩ hR hw (lv_sub hl [2, 3, 4, 5, 6] rfl) (by omega) (by omega)
  · have he : e_X1_bestStraw w b n T w2 b2 n2 T2 x1 = 0 := by
      by_cases y : e_X1_bestStraw w b n T w2 b2 n2 T2 x1 = 0
      · exact y
      · rw [← hk, if_neg y] at z; exfalso; revert z; (repeat' split) <;> decide
    rw [if_pos he] at hw
    refine lv_aload_n hx hb dL_law_1757 rfl (lv_at hl 6 rfl) ?_
    refine lv_iconst (v := 0) hx hb dL_law_1758 (by decide) ?_
    refine g_lald (f := (vp_updL f 0 ((r_X1_bestStraw w b n T w2 b2 n2 T2 x1)).toInt64)) hc hw 40 rfl (show vp_in (0 : Int32) 1 by unfold vp_in; decide) dL_law_1759 ?_
    rw [show (vp_updL f 0 ((r_X1_bestStraw w b n T w2 b2 n2 T2 x1)).toInt64) (0 : Int32).toNatClampNeg = ((r_X1_bestStraw w b n T w2 b2 n2 T2 x1)).toInt64 from rfl, hv he]
    refine lv_iload hx hb dL_law_1760 (lv_at hl 0 rfl) ?_
    refine lv_i2l (v := ((r_X3_bestStraw th w b n M w3 b3 n3 M2 x1)).toInt64) hx hb dL_law_1762 rfl ?_
    refine W.lcmp hx hb dL_law_1763 ?_
    rw [lg_same]
    refine lv_if_eq (tgt := 1769) hx hb dL_law_1764 (by decide) (fun _ => ?_) (fun z => absurd rfl z)
    refine lv_goto (tgt := 1840) hx hb dL_law_1769 (by decide) ?_
    exact l_back hC hK (f := (vp_updL f 0 ((r_X1_bestStraw w b n T w2 b2 n2 T2 x1)).toInt64)) ⟨⟨o1, o2, o3⟩, ⟨o1, o2, o3⟩, b5, b6, b7⟩ hR hw (lv_sub hl [2, 3, 4, 5, 6] rfl) (by omega) (by omega)