set_option maxHeartbeats 4000000 in
set_option maxRecDepth 100000 in
theorem l_case_strawOf {p : Program} {l : Launch} {e : Env} {s : State} {m : MethodId} {below : List Frame} {meth : Method} {c0 : Code} {b0 L : Nat} {xs : Nat → Int32} {D : va_G} {cI cZ cL : ClassId} {h hm o : Nat} {a a2 am am2 : Nat → Nat} (hC : LC p s m meth c0 b0 L xs D cI cZ cL) (hst : l.stackTraces = false) {c : Nat} (hcL : c + 3 ≤ L) (hL : L ≤ 1536) (hK : LH p l e s m below meth c0 b0 D cI cZ cL h hm o a a2 am am2 (c + 3)) {H : Heap} {locs : List Loc} {ls : Array Slot} {th : Int32} {w b n : Nat} {T : ct_T} {M : mt_T} {w2 b2 n2 : Nat} {T2 : ct_T} {w3 b3 n3 : Nat} {M2 : mt_T} {f : Nat → Int64} (hok : Lok w b n w2 b2 n2 w3 b3 n3) (hR : RR w b n T M) (hw : Wo D (fun q => s.heap.size ≤ q) s.heap (Lw cI cZ cL h hm o a a2 am am2 th w b n T M w2 b2 n2 T2 w3 b3 n3 M2 f) H locs) (hl : lv_has ls 9 [(4, .int (nI c)), (0, .ref b0), (1, .ref h), (2, .ref hm), (3, .ref o)]) : W p l e room_1 s m #[Value.ref b0] below meth c0 H locs (60 + c) (700 + 6 * c) (lw_Z below #[Value.ref b0] s) (F0 m 1082 ls []) := by
  obtain ⟨hc, hTx, hX, hb0⟩ := id hC
  obtain ⟨hx, hb, hr, hml, hown, hts, hlk, hK9, hA⟩ := id hc
  obtain ⟨⟨o1, o2, o3⟩, ⟨o4, o5, o6⟩, ⟨o7, o8, o9⟩⟩ := id hok
  have hbA : ¬ (fun q : Nat => s.heap.size ≤ q) b0 := Nat.not_le.mpr hb0
  obtain ⟨x1, ex1⟩ : ∃ x : Int32, xs (nI (c + 1)).toNatClampNeg = x := ⟨_, rfl⟩
  have hop := op_strawOf (w2 := w2) (b2 := b2) (n2 := n2) (T2 := T2) (w3 := w3) (b3 := b3) (n3 := n3) (M2 := M2) (th := th) o1 o2 o3 hR x1
  obtain ⟨hcd, hk, hv⟩ := hop
  refine lv_aload_n hx hb dL_law_1082 rfl (lv_at hl 2 rfl) ?_
  refine lv_aload_n hx hb dL_law_1083 rfl (lv_at hl 1 rfl) ?_
  refine lv_iload hx hb dL_law_1084 (lv_at hl 0 rfl) ?_
  refine lv_iconst (v := 1) hx hb dL_law_1086 (by decide) ?_
  refine lv_iadd hx hb dL_law_1087 ?_
  rw [show nI c + 1 = nI (c + 1) from nI_add c 1]
  refine va_sld hx hb hX hb0 hbA hw.2.2 (vp_in_nI (show c + 1 < L by omega) (by omega)) dL_law_1088 ?_
  rw [ex1]
  refine lv_aload_n hx hb dL_law_1089 rfl (lv_at hl 4 rfl) ?_
  have hL1 := k_L_strawOf D cI cZ cL h o x1 f (w0 := wb_c h a a2 cI cZ w b n T w2 b2 n2 T2) (w1 := wb_c h a a2 cI cZ w b n T w2 b2 n2 T2) rfl rfl (wo_X1_H ..) hcd (k_X1_strawOf hst D cI cZ cL h a a2 w b n T w2 b2 n2 T2 o1 o2 o3 o4 o5 o6 x1)
  rw [hk] at hL1
  refine pl_callS (n := 3) (As := [.ref h, .int x1, .ref o]) (rest := []) hc hTx hw.2.2 (Pt.back (pre := wb_m hm am am2 cI th w b n M w3 b3 n3 M2) (wc := wb_c h a a2 cI cZ w b n T w2 b2 n2 T2 ++ [(o, .inl (cL, 1, .inr (.inl f)))]) hw hA) hL1 gL_law_L_strawOf rfl (by decide +kernel) ⟨Nat.le_of_ble_eq_true rfl, Nat.le_of_ble_eq_true rfl⟩ rfl rfl hl.1 (Nat.le_of_ble_eq_true rfl) (st1 := [.int (t_X3_strawOf th w b n M w3 b3 n3 M2 x1)]) rfl dL_law_1090 (k2 := 60 + c + 1) (s2 := 700 + 6 * c + 6) rfl rfl ⟨(Nat.le_trans (show 60 + c + 1 ≤ 20000 by omega) (Nat.le_of_ble_eq_true rfl)), (Nat.le_trans (show 700 + 6 * c + 6 ≤ 40000 by omega) (Nat.le_of_ble_eq_true rfl))⟩ (fun H locs hw => ?_)
  refine lv_istore (lv' := [(5, .int (t_X3_strawOf th w b n M w3 b3 n3 M2 x1)), (4, .int (nI c)), (0, .ref b0), (1, .ref h), (2, .ref hm), (3, .ref o)]) hx hb dL_law_1093 hl (by decide) rfl (fun ls hl => ?_)
  refine lv_aload_n hx hb dL_law_1095 rfl (lv_at hl 4 rfl) ?_
  refine lv_aload_n hx hb dL_law_1096 rfl (lv_at hl 2 rfl) ?_
  refine lv_iload hx hb dL_law_1097 (lv_at hl 1 rfl) ?_
  refine lv_iconst (v := 1) hx hb dL_law_1099 (by decide) ?_
  refine lv_iadd hx hb dL_law_1100 ?_
  rw [show nI c + 1 = nI (c + 1) from nI_add c 1]
  refine va_sld hx hb hX hb0 hbA hw.2.2 (vp_in_nI (show c + 1 < L by omega) (by omega)) dL_law_1101 ?_
  rw [ex1]
  refine p_callV (n := 1) (As := [.int x1]) (rest := []) (q0 := 0) hc hw.2.2 (Pt.front (wc := wb_m hm am am2 cI th w b n M w3 b3 n3 M2) hw hA) (k_X3_strawOf l D cI cZ cL hm am am2 th w b n M w3 b3 n3 M2 o1 o2 o3 o7 o8 o9 x1) gL_law_X3_strawOf rfl (by decide +kernel) ⟨Nat.le_of_ble_eq_true rfl, Nat.le_of_ble_eq_true rfl⟩ (wo_X3_H ..) rfl rfl rfl rfl hl.1 (Nat.le_of_ble_eq_true rfl) (st1 := [.int (r_X3_strawOf th w b n M w3 b3 n3 M2 x1)]) rfl dL_law_1102 (k2 := 60 + c + 1 + 0) (s2 := 700 + 6 * c + 6 + 0) rfl rfl ⟨(Nat.le_trans (show 60 + c + 1 + 0 ≤ 20000 by omega) (Nat.le_of_ble_eq_true rfl)), (Nat.le_trans (show 700 + 6 * c + 6 + 0 ≤ 40000 by omega) (Nat.le_of_ble_eq_true rfl))⟩ (fun H locs hw => ?_)
  refine lv_istore (lv' := [(6, .int (r_X3_strawOf th w b n M w3 b3 n3 M2 x1)), (5, .int (t_X3_strawOf th w b n M w3 b3 n3 M2 x1)), (4, .int (nI c)), (0, .ref b0), (1, .ref h), (2, .ref hm), (3, .ref o)]) hx hb dL_law_1105 hl (by decide) rfl (fun ls hl => ?_)
  refine lv_aload_n hx hb dL_law_1107 rfl (lv_at hl 5 rfl) ?_
  refine p_callV (n := 0) (As := []) (rest := []) (q0 := 0) hc hw.2.2 (Pt.front (wc := wb_m hm am am2 cI (t_X3_strawOf th w b n M w3 b3 n3 M2 x1) w b n M w3 b3 n3 M2) hw hA) (k_X3_thrown l D cI cZ cL hm am am2 (t_X3_strawOf th w b n M w3 b3 n3 M2 x1) w b n M w3 b3 n3 M2 o1 o2 o3 o7 o8 o9) gL_law_X3_thrown rfl (by decide +kernel) ⟨Nat.le_of_ble_eq_true rfl, Nat.le_of_ble_eq_true rfl⟩ (wo_X3_H ..) rfl rfl rfl rfl hl.1 (Nat.le_of_ble_eq_true rfl) (st1 := [.int (t_X3_strawOf th w b n M w3 b3 n3 M2 x1)]) rfl dL_law_1108 (k2 := 60 + c + 1 + 0) (s2 := 700 + 6 * c + 6 + 0) rfl rfl ⟨(Nat.le_trans (show 60 + c + 1 + 0 ≤ 20000 by omega) (Nat.le_of_ble_eq_true rfl)), (Nat.le_trans (show 700 + 6 * c + 6 + 0 ≤ 40000 by omega) (Nat.le_of_ble_eq_true rfl))⟩ (fun H locs hw => ?_)
  refine lv_iload hx hb dL_law_1111 (lv_at hl 1 rfl) ?_
  refine lv_icmp_eq (tgt := 1118) hx hb dL_law_1113 (by decide) (fun _ => ?_) (fun z => absurd rfl z)
  refine lv_iload hx hb dL_law_1118 (lv_at hl 1 rfl) ?_
  refine lv_if_ne (tgt := 1135) hx hb dL_law_1120 (by decide) (fun z => ?_) (fun z => ?_)
  · have he : ¬ e_X1_strawOf w b n T w2 b2 n2 T2 x1 = 0 := fun y => z (by rw [← hk, if_pos y])
    rw [if_neg he] at hw
    refine lv_goto (tgt := 1840) hx hb dL_law_1135 (by decide) ?_
    exact l_back hC hK (f := f) hok hR hw (lv_sub hl [2, 3, 4, 5, 6] rfl) (by omega) (by omega)
  · have he : e_X1_strawOf w b n T w2 b2 n2 T2 x1 = 0 := by
      by_cases y : e_X1_strawOf w b n T w2 b2 n2 T2 x1 = 0
      · exact y
      · rw [← hk, if_neg y] at z; exfalso; revert z; (repeat' split) <;> decide
    rw [if_pos he] at hw
    refine lv_aload_n hx hb dL_law_1123 rfl (lv_at hl 6 rfl) ?_
    refine lv_iconst (v := 0) hx hb dL_law_1124 (by decide) ?_
    refine g_lald (f := (vp_updL f 0 ((r_X1_strawOf w b n T w2 b2 n2 T2 x1)).toInt64)) hc hw 40 rfl (show vp_in (0 : Int32) 1 by unfold vp_in; decide) dL_law_1125 ?_
    rw [show (vp_updL f 0 ((r_X1_strawOf w b n T w2 b2 n2 T2 x1)).toInt64) (0 : Int32).toNatClampNeg = ((r_X1_strawOf w b n T w2 b2 n2 T2 x1)).toInt64 from rfl, hv he]
    refine lv_iload hx hb dL_law_1126 (lv_at hl 0 rfl) ?_
    refine lv_i2l (v := ((r_X3_strawOf th w b n M w3 b3 n3 M2 x1)).toInt64) hx hb dL_law_1128 rfl ?_
    refine W.lcmp hx hb dL_law_1129 ?_
    rw [lg_same]
    refine lv_if_eq (tgt := 1135) hx hb dL_law_1130 (by decide) (fun _ => ?_) (fun z => absurd rfl z)
    refine lv_goto (tgt := 1840) hx hb dL_law_1135 (by decide) ?_
    exact l_back hC hK (f := (vp_updL f 0 ((r_X1_strawOf w b n T w2 b2 n2 T2 x1)).toInt64)) hok hR hw (lv_sub hl [2, 3, 4, 5, 6] rfl) (by omega) (by omega)
set_option maxHeartbeats 4000000 in
set_option maxRecDepth 100000 in
theorem l_case_feversIn {p : Program} {l : Launch} {e : Env} {s : State} {m : MethodId} {below : List Frame} {meth : Method} {c0 : Code} {b0 L : Nat} {xs : Nat → Int32} {D : va_G} {cI cZ cL : ClassId} {h hm o : Nat} {a a2 am am2 : Nat → Nat} (hC : LC p s m meth c0 b0 L xs D cI cZ cL) (hst : l.stackTraces = false) {c : Nat} (hcL : c + 3 ≤ L) (hL : L ≤ 1536) (hK : LH p l e s m below meth c0 b0 D cI cZ cL h hm o a a2 am am2 (c + 3)) {H : Heap} {locs : List Loc} {ls : Array Slot} {th : Int32} {w b n : Nat} {T : ct_T} {M : mt_T} {w2 b2 n2 : Nat} {T2 : ct_T} {w3 b3 n3 : Nat} {M2 : mt_T} {f : Nat → Int64} (hok : Lok w b n w2 b2 n2 w3 b3 n3) (hR : RR w b n T M) (hw : Wo D (fun q => s.heap.size ≤ q) s.heap (Lw cI cZ cL h hm o a a2 am am2 th w b n T M w2 b2 n2 T2 w3 b3 n3 M2 f) H locs) (hl : lv_has ls 9 [(4, .int (nI c)), (0, .ref b0), (1, .ref h), (2, .ref hm), (3, .ref o)]) : W p l e room_1 s m #[Value.ref b0] below meth c0 H locs (60 + c) (700 + 6 * c) (lw_Z below #[Value.ref b0] s) (F0 m 1138 ls []) := by
  obtain ⟨hc, hTx, hX, hb0⟩ := id hC
  obtain ⟨hx, hb, hr, hml, hown, hts, hlk, hK9, hA⟩ := id hc
  obtain ⟨⟨o1, o2, o3⟩, ⟨o4, o5, o6⟩, ⟨o7, o8, o9⟩⟩ := id hok
  have hbA : ¬ (fun q : Nat => s.heap.size ≤ q) b0 := Nat.not_le.mpr hb0
  obtain ⟨x1, ex1⟩ : ∃ x : Int32, xs (nI (c + 1)).toNatClampNeg = x := ⟨_, rfl⟩
  have hop := op_feversIn (w2 := w2) (b2 := b2) (n2 := n2) (T2 := T2) (w3 := w3) (b3 := b3) (n3 := n3) (M2 := M2) (th := th) o1 o2 o3 hR x1
  obtain ⟨hcd, hk, hv⟩ := hop
  refine lv_aload_n hx hb dL_law_1138 rfl (lv_at hl 2 rfl) ?_
  refine lv_aload_n hx hb dL_law_1139 rfl (lv_at hl 1 rfl) ?_
  refine lv_iload hx hb dL_law_1140 (lv_at hl 0 rfl) ?_
  refine lv_iconst (v := 1) hx hb dL_law_1142 (by decide) ?_
  refine lv_iadd hx hb dL_law_1143 ?_
  rw [show nI c + 1 = nI (c + 1) from nI_add c 1]
  refine va_sld hx hb hX hb0 hbA hw.2.2 (vp_in_nI (show c + 1 < L by omega) (by omega)) dL_law_1144 ?_
  rw [ex1]
  refine lv_aload_n hx hb dL_law_1145 rfl (lv_at hl 4 rfl) ?_
  have hL1 := k_L_feversIn D cI cZ cL h o x1 f (w0 := wb_c h a a2 cI cZ w b n T w2 b2 n2 T2) (w1 := wb_c h a a2 cI cZ w b n T w2 b2 n2 T2) rfl rfl (wo_X1_H ..) hcd (k_X1_feversIn hst D cI cZ cL h a a2 w b n T w2 b2 n2 T2 o1 o2 o3 o4 o5 o6 x1)
  rw [hk] at hL1
  refine pl_callS (n := 3) (As := [.ref h, .int x1, .ref o]) (rest := []) hc hTx hw.2.2 (Pt.back (pre := wb_m hm am am2 cI th w b n M w3 b3 n3 M2) (wc := wb_c h a a2 cI cZ w b n T w2 b2 n2 T2 ++ [(o, .inl (cL, 1, .inr (.inl f)))]) hw hA) hL1 gL_law_L_feversIn rfl (by decide +kernel) ⟨Nat.le_of_ble_eq_true rfl, Nat.le_of_ble_eq_true rfl⟩ rfl rfl hl.1 (Nat.le_of_ble_eq_true rfl) (st1 := [.int (t_X3_feversIn th w b n M w3 b3 n3 M2 x1)]) rfl dL_law_1146 (k2 := 60 + c + 1) (s2 := 700 + 6 * c + 6) rfl rfl ⟨(Nat.le_trans (show 60 + c + 1 ≤ 20000 by omega) (Nat.le_of_ble_eq_true rfl)), (Nat.le_trans (show 700 + 6 * c + 6 ≤ 40000 by omega) (Nat.le_of_ble_eq_true rfl))⟩ (fun H locs hw => ?_)
  refine lv_istore (lv' := [(5, .int (t_X3_feversIn th w b n M w3 b3 n3 M2 x1)), (4, .int (nI c)), (0, .ref b0), (1, .ref h), (2, .ref hm), (3, .ref o)]) hx hb dL_law_1149 hl (by decide) rfl (fun ls hl => ?_)
  refine lv_aload_n hx hb dL_law_1151 rfl (lv_at hl 4 rfl) ?_
  refine lv_aload_n hx hb dL_law_1152 rfl (lv_at hl 2 rfl) ?_
  refine lv_iload hx hb dL_law_1153 (lv_at hl 1 rfl) ?_
  refine lv_iconst (v := 1) hx hb dL_law_1155 (by decide) ?_
  refine lv_iadd hx hb dL_law_1156 ?_
  rw [show nI c + 1 = nI (c + 1) from nI_add c 1]
  refine va_sld hx hb hX hb0 hbA hw.2.2 (vp_in_nI (show c + 1 < L by omega) (by omega)) dL_law_1157 ?_
  rw [ex1]
  refine p_callV (n := 1) (As := [.int x1]) (rest := []) (q0 := 0) hc hw.2.2 (Pt.front (wc := wb_m hm am am2 cI th w b n M w3 b3 n3 M2) hw hA) (k_X3_feversIn l D cI cZ cL hm am am2 th w b n M w3 b3 n3 M2 o1 o2 o3 o7 o8 o9 x1) gL_law_X3_feversIn rfl (by decide +kernel) ⟨Nat.le_of_ble_eq_true rfl, Nat.le_of_ble_eq_true rfl⟩ (wo_X3_H ..) rfl rfl rfl rfl hl.1 (Nat.le_of_ble_eq_true rfl) (st1 := [.int (r_X3_feversIn th w b n M w3 b3 n3 M2 x1)]) rfl dL_law_1158 (k2 := 60 + c + 1 + 0) (s2 := 700 + 6 * c + 6 + 0) rfl rfl ⟨(Nat.le_trans (show 60 + c + 1 + 0 ≤ 20000 by omega) (Nat.le_of_ble_eq_true rfl)), (Nat.le_trans (show 700 + 6 * c + 6 + 0 ≤ 40000 by omega) (Nat.le_of_ble_eq_true rfl))⟩ (fun H locs hw => ?_)
  refine lv_istore (lv' := [(6, .int (r_X3_feversIn th w b n M w3 b3 n3 M2 x1)), (5, .int (t_X3_feversIn th w b n M w3 b3 n3 M2 x1)), (4, .int (nI c)), (0, .ref b0), (1, .ref h), (2, .ref hm), (3, .ref o)]) hx hb dL_law_1161 hl (by decide) rfl (fun ls hl => ?_)
  refine lv_aload_n hx hb dL_law_1163 rfl (lv_at hl 5 rfl) ?_
  refine p_callV (n := 0) (As := []) (rest := []) (q0 := 0) hc hw.2.2 (Pt.front (wc := wb_m hm am am2 cI (t_X3_feversIn th w b n M w3 b3 n3 M2 x1) w b n M w3 b3 n3 M2) hw hA) (k_X3_thrown l D cI cZ cL hm am am2 (t_X3_feversIn th w b n M w3 b3 n3 M2 x1) w b n M w3 b3 n3 M2 o1 o2 o3 o7 o8 o9) gL_law_X3_thrown rfl (by decide +kernel) ⟨Nat.le_of_ble_eq_true rfl, Nat.le_of_ble_eq_true rfl⟩ (wo_X3_H ..) rfl rfl rfl rfl hl.1 (Nat.le_of_ble_eq_true rfl) (st1 := [.int (t_X3_feversIn th w b n M w3 b3 n3 M2 x1)]) rfl dL_law_1164 (k2 := 60 + c + 1 + 0) (s2 := 700 + 6 * c + 6 + 0) rfl rfl ⟨(Nat.le_trans (show 60 + c + 1 + 0 ≤ 20000 by omega) (Nat.le_of_ble_eq_true rfl)), (Nat.le_trans (show 700 + 6 * c + 6 + 0 ≤ 40000 by omega) (Nat.le_of_ble_eq_true rfl))⟩ (fun H locs hw => ?_)
  refine lv_iload hx hb dL_law_1167 (lv_at hl 1 rfl) ?_
  refine lv_icmp_eq (tgt := 1174) hx hb dL_law_1169 (by decide) (fun _ => ?_) (fun z => absurd rfl z)
  refine lv_iload hx hb dL_law_1174 (lv_at hl 1 rfl) ?_
  refine lv_if_ne (tgt := 1191) hx hb dL_law_1176 (by decide) (fun z => ?_) (fun z => ?_)
  · have he : ¬ e_X1_feversIn w b n T w2 b2 n2 T2 x1 = 0 := fun y => z (by rw [← hk, if_pos y])
    rw [if_neg he] at hw
    refine lv_goto (tgt := 1840) hx hb dL_law_1191 (by decide) ?_
    exact l_back hC hK (f := f) hok hR hw (lv_sub hl [2, 3, 4, 5, 6] rfl) (by omega) (by omega)
  · have he : e_X1_feversIn w b n T w2 b2 n2 T2 x1 = 0 := by
      by_cases y : e_X1_feversIn w b n T w2 b2 n2 T2 x1 = 0
      · exact y
      · rw [← hk, if_neg y] at z; exfalso; revert z; (repeat' split) <;> decide
    rw [if_pos he] at hw
    refine lv_aload_n hx hb dL_law_1179 rfl (lv_at hl 6 rfl) ?_
    refine lv_iconst (v := 0) hx hb dL_law_1180 (by decide) ?_
    refine g_lald (f := (vp_updL f 0 ((r_X1_feversIn w b n T w2 b2 n2 T2 x1)).toInt64)) hc hw 40 rfl (show vp_in (0 : Int32) 1 by unfold vp_in; decide) dL_law_1181 ?_
    rw [show (vp_updL f 0 ((r_X1_feversIn w b n T w2 b2 n2 T2 x1)).toInt64) (0 : Int32).toNatClampNeg = ((r_X1_feversIn w b n T w2 b2 n2 T2 x1)).toInt64 from rfl, hv he]
    refine lv_iload hx hb dL_law_1182 (lv_at hl 0 rfl) ?_
    refine lv_i2l (v := ((r_X3_feversIn th w b n M w3 b3 n3 M2 x1)).toInt64) hx hb dL_law_1184 rfl ?_
    refine W.lcmp hx hb dL_law_1185 ?_
    rw [lg_same]
    refine lv_if_eq (tgt := 1191) hx hb dL_law_1186 (by decide) (fun _ => ?_) (fun z => absurd rfl z)
    refine lv_goto (tgt := 1840) hx hb dL_law_1191 (by decide) ?_
    exact l_back hC hK (f := (vp_updL f 0 ((r_X1_feversIn w b n T w2 b2 n2 T2 x1)).toInt64)) hok hR hw (lv_sub hl [2, 3, 4, 5, 6] rfl) (by omega) (by omega)
set_option maxHeartbeats 4000000 in
set_option maxRecDepth 100000 in
theorem l_case_daysToGo {p : Program} {l : Launch} {e : Env} {s : State} {m : MethodId} {below : List Frame} {meth : Method} {c0 : Code} {b0 L : Nat} {xs : Nat → Int32} {D : va_G} {cI cZ cL : ClassId} {h hm o : Nat} {a a2 am am2 : Nat → Nat} (hC : LC p s m meth c0 b0 L xs D cI cZ cL) (hst : l.stackTraces = false) {c : Nat} (hcL : c + 3 ≤ L) (hL : L ≤ 1536) (hK : LH p l e s m below meth c0 b0 D cI cZ cL h hm o a a2 am am2 (c + 3)) {H : Heap} {locs : List Loc} {ls : Array Slot} {th : Int32} {w b n : Nat} {T : ct_T} {M : mt_T} {w2 b2 n2 : Nat} {T2 : ct_T} {w3 b3 n3 : Nat} {M2 : mt_T} {f : Nat → Int64} (hok : Lok w b n w2 b2 n2 w3 b3 n3) (hR : RR w b n T M) (hw : Wo D (fun q => s.heap.size ≤ q) s.heap (Lw cI cZ cL h hm o a a2 am am2 th w b n T M w2 b2 n2 T2 w3 b3 n3 M2 f) H locs) (hl : lv_has ls 9 [(4, .int (nI c)), (0, .ref b0), (1, .ref h), (2, .ref hm), (3, .ref o)]) : W p l e room_1 s m #[Value.ref b0] below meth c0 H locs (60 + c) (700 + 6 * c) (lw_Z below #[Value.ref b0] s) (F0 m 1194 ls []) := by
  obtain ⟨hc, hTx, hX, hb0⟩ := id hC
  obtain ⟨hx, hb, hr, hml, hown, hts, hlk, hK9, hA⟩ := id hc
  obtain ⟨⟨o1, o2, o3⟩, ⟨o4, o5, o6⟩, ⟨o7, o8, o9⟩⟩ := id hok
  have hbA : ¬ (fun q : Nat => s.heap.size ≤ q) b0 := Nat.not_le.mpr hb0
  obtain ⟨x1, ex1⟩ : ∃ x : Int32, xs (nI (c + 1)).toNatClampNeg = x := ⟨_, rfl⟩
  have hop := op_daysToGo (w2 := w2) (b2 := b2) (n2 := n2) (T2 := T2) (w3 := w3) (b3 := b3) (n3 := n3) (M2 := M2) (th := th) o1 o2 o3 hR x1
  obtain ⟨hcd, hk, hv⟩ := hop
  refine lv_aload_n hx hb dL_law_1194 rfl (lv_at hl 2 rfl) ?_
  refine lv_aload_n hx hb dL_law_1195 rfl (lv_at hl 1 rfl) ?_
  refine lv_iload hx hb dL_law_1196 (lv_at hl 0 rfl) ?_
  refine lv_iconst (v := 1) hx hb dL_law_1198 (by decide) ?_
  refine lv_iadd hx hb dL_law_1199 ?_
  rw [show nI c + 1 = nI (c + 1) from nI_add c 1]
  refine va_sld hx hb hX hb0 hbA hw.2.2 (vp_in_nI (show c + 1 < L by omega) (by omega)) dL_law_1200 ?_
  rw [ex1]
  refine lv_aload_n hx hb dL_law_1201 rfl (lv_at hl 4 rfl) ?_
  have hL1 := k_L_daysToGo D cI cZ cL h o x1 f (w0 := wb_c h a a2 cI cZ w b n T w2 b2 n2 T2) (w1 := wb_c h a a2 cI cZ w b n T w2 b2 n2 T2) rfl rfl (wo_X1_H ..) hcd (k_X1_daysToGo hst D cI cZ cL h a a2 w b n T w2 b2 n2 T2 o1 o2 o3 o4 o5 o6 x1)
  rw [hk] at hL1
  refine pl_callS (n := 3) (As := [.ref h, .int x1, .ref o]) (rest := []) hc hTx hw.2.2 (Pt.back (pre := wb_m hm am am2 cI th w b n M w3 b3 n3 M2) (wc := wb_c h a a2 cI cZ w b n T w2 b2 n2 T2 ++ [(o, .inl (cL, 1, .inr (.inl f)))]) hw hA) hL1 gL_law_L_daysToGo rfl (by decide +kernel) ⟨Nat.le_of_ble_eq_true rfl, Nat.le_of_ble_eq_true rfl⟩ rfl rfl hl.1 (Nat.le_of_ble_eq_true rfl) (st1 := [.int (t_X3_daysToGo th w b n M w3 b3 n3 M2 x1)]) rfl dL_law_1202 (k2 := 60 + c + 1) (s2 := 700 + 6 * c + 6) rfl rfl ⟨(Nat.le_trans (show 60 + c + 1 ≤ 20000 by omega) (Nat.le_of_ble_eq_true rfl)), (Nat.le_trans (show 700 + 6 * c + 6 ≤ 40000 by omega) (Nat.le_of_ble_eq_true rfl))⟩ (fun H locs hw => ?_)
  refine lv_istore (lv' := [(5, .int (t_X3_daysToGo th w b n M w3 b3 n3 M2 x1)), (4, .int (nI c)), (0, .ref b0), (1, .ref h), (2, .ref hm), (3, .ref o)]) hx hb dL_law_1205 hl (by decide) rfl (fun ls hl => ?_)
  refine lv_aload_n hx hb dL_law_1207 rfl (lv_at hl 4 rfl) ?_
  refine lv_aload_n hx hb dL_law_1208 rfl (lv_at hl 2 rfl) ?_
  refine lv_iload hx hb dL_law_1209 (lv_at hl 1 rfl) ?_
  refine lv_iconst (v := 1) hx hb dL_law_1211 (by decide) ?_
  refine lv_iadd hx hb dL_law_1212 ?_
  rw [show nI c + 1 = nI (c + 1) from nI_add c 1]
  refine va_sld hx hb hX hb0 hbA hw.2.2 (vp_in_nI (show c + 1 < L by omega) (by omega)) dL_law_1213 ?_
  rw [ex1]
  refine p_callV (n := 1) (As := [.int x1]) (rest := []) (q0 := 0) hc hw.2.2 (Pt.front (wc := wb_m hm am am2 cI th w b n M w3 b3 n3 M2) hw hA) (k_X3_daysToGo l D cI cZ cL hm am am2 th w b n M w3 b3 n3 M2 o1 o2 o3 o7 o8 o9 x1) gL_law_X3_daysToGo rfl (by decide +kernel) ⟨Nat.le_of_ble_eq_true rfl, Nat.le_of_ble_eq_true rfl⟩ (wo_X3_H ..) rfl rfl rfl rfl hl.1 (Nat.le_of_ble_eq_true rfl) (st1 := [.int (r_X3_daysToGo th w b n M w3 b3 n3 M2 x1)]) rfl dL_law_1214 (k2 := 60 + c + 1 + 0) (s2 := 700 + 6 * c + 6 + 0) rfl rfl ⟨(Nat.le_trans (show 60 + c + 1 + 0 ≤ 20000 by omega) (Nat.le_of_ble_eq_true rfl)), (Nat.le_trans (show 700 + 6 * c + 6 + 0 ≤ 40000 by omega) (Nat.le_of_ble_eq_true rfl))⟩ (fun H locs hw => ?_)
  refine lv_istore (lv' := [(6, .int (r_X3_daysToGo th w b n M w3 b3 n3 M2 x1)), (5, .int (t_X3_daysToGo th w b n M w3 b3 n3 M2 x1)), (4, .int (nI c)), (0, .ref b0), (1, .ref h), (2, .ref hm), (3, .ref o)]) hx hb dL_law_1217 hl (by decide) rfl (fun ls hl => ?_)
  refine lv_aload_n hx hb dL_law_1219 rfl (lv_at hl 5 rfl) ?_
  refine p_callV (n := 0) (As := []) (rest := []) (q0 := 0) hc hw.2.2 (Pt.front (wc := wb_m hm am am2 cI (t_X3_daysToGo th w b n M w3 b3 n3 M2 x1) w b n M w3 b3 n3 M2) hw hA) (k_X3_thrown l D cI cZ cL hm am am2 (t_X3_daysToGo th w b n M w3 b3 n3 M2 x1) w b n M w3 b3 n3 M2 o1 o2 o3 o7 o8 o9) gL_law_X3_thrown rfl (by decide +kernel) ⟨Nat.le_of_ble_eq_true rfl, Nat.le_of_ble_eq_true rfl⟩ (wo_X3_H ..) rfl rfl rfl rfl hl.1 (Nat.le_of_ble_eq_true rfl) (st1 := [.int (t_X3_daysToGo th w b n M w3 b3 n3 M2 x1)]) rfl dL_law_1220 (k2 := 60 + c + 1 + 0) (s2 := 700 + 6 * c + 6 + 0) rfl rfl ⟨(Nat.le_trans (show 60 + c + 1 + 0 ≤ 20000 by omega) (Nat.le_of_ble_eq_true rfl)), (Nat.le_trans (show 700 + 6 * c + 6 + 0 ≤ 40000 by omega) (Nat.le_of_ble_eq_true rfl))⟩ (fun H locs hw => ?_)
  refine lv_iload hx hb dL_law_1223 (lv_at hl 1 rfl) ?_
  refine lv_icmp_eq (tgt := 1230) hx hb dL_law_1225 (by decide) (fun _ => ?_) (fun z => absurd rfl z)
  refine lv_iload hx hb dL_law_1230 (lv_at hl 1 rfl) ?_
  refine lv_if_ne (tgt := 1247) hx hb dL_law_1232 (by decide) (fun z => ?_) (fun z => ?_)
  · have he : ¬ e_X1_daysToGo w b n T w2 b2 n2 T2 x1 = 0 := fun y => z (by rw [← hk, if_pos y])
    rw [if_neg he] at hw
    refine lv_goto (tgt := 1840) hx hb dL_law_1247 (by decide) ?_
    exact l_back hC hK (f := f) hok hR hw (lv_sub hl [2, 3, 4, 5, 6] rfl) (by omega) (by omega)
  · have he : e_X1_daysToGo w b n T w2 b2 n2 T2 x1 = 0 := by
      by_cases y : e_X1_daysToGo w b n T w2 b2 n2 T2 x1 = 0
      · exact y
      · rw [← hk, if_neg y] at z; exfalso; revert z; (repeat' split) <;> decide
    rw [if_pos he] at hw
    refine lv_aload_n hx hb dL_law_1235 rfl (lv_at hl 6 rfl) ?_
    refine lv_iconst (v := 0) hx hb dL_law_1236 (by decide) ?_
    refine g_lald (f := (vp_updL f 0 ((r_X1_daysToGo w b n T w2 b2 n2 T2 x1)).toInt64)) hc hw 40 rfl (show vp_in (0 : Int32) 1 by unfold vp_in; decide) dL_law_1237 ?_
    rw [show (vp_updL f 0 ((r_X1_daysToGo w b n T w2 b2 n2 T2 x1)).toInt64) (0 : Int32).toNatClampNeg = ((r_X1_daysToGo w b n T w2 b2 n2 T2 x1)).toInt64 from rfl, hv he]
    refine lv_iload hx hb dL_law_1238 (lv_at hl 0 rfl) ?_
    refine lv_i2l (v := ((r_X3_daysToGo th w b n M w3 b3 n3 M2 x1)).toInt64) hx hb dL_law_1240 rfl ?_
    refine W.lcmp hx hb dL_law_1241 ?_
    rw [lg_same]
    refine lv_if_eq (tgt := 1247) hx hb dL_law_1242 (by decide) (fun _ => ?_) (fun z => absurd rfl z)
    refine lv_goto (tgt := 1840) hx hb dL_law_1247 (by decide) ?_
    exact l_back hC hK (f := (vp_updL f 0 ((r_X1_daysToGo w b n T w2 b2 n2 T2 x1)).toInt64)) hok hR hw (lv_sub hl [2, 3, 4, 5, 6] rfl) (by omega) (by omega)
set_option maxHeartbeats 4000000 in
set_option maxRecDepth 100000 in
theorem l_case_keptFor {p : Program} {l : Launch} {e : Env} {s : State} {m : MethodId} {below : List Frame} {meth : Method} {c0 : Code} {b0 L : Nat} {xs : Nat → Int32} {D : va_G} {cI cZ cL : ClassId} {h hm o : Nat} {a a2 am am2 : Nat → Nat} (hC : LC p s m meth c0 b0 L xs D cI cZ cL) (hst : l.stackTraces = false) {c : Nat} (hcL : c + 3 ≤ L) (hL : L ≤ 1536) (hK : LH p l e s m below meth c0 b0 D cI cZ cL h hm o a a2 am am2 (c + 3)) {H : Heap} {locs : List Loc} {ls : Array Slot} {th : Int32} {w b n : Nat} {T : ct_T} {M : mt_T} {w2 b2 n2 : Nat} {T2 : ct_T} {w3 b3 n3 : Nat} {M2 : mt_T} {f : Nat → Int64} (hok : Lok w b n w2 b2 n2 w3 b3 n3) (hR : RR w b n T M) (hw : Wo D (fun q => s.heap.size ≤ q) s.heap (Lw cI cZ cL h hm o a a2 am am2 th w b n T M w2 b2 n2 T2 w3 b3 n3 M2 f) H locs) (hl : lv_has ls 9 [(4, .int (nI c)), (0, .ref b0), (1, .ref h), (2, .ref hm), (3, .ref o)]) : W p l e room_1 s m #[Value.ref b0] below meth c0 H locs (60 + c) (700 + 6 * c) (lw_Z below #[Value.ref b0] s) (F0 m 1250 ls []) := by
  obtain ⟨hc, hTx, hX, hb0⟩ := id hC
  obtain ⟨hx, hb, hr, hml, hown, hts, hlk, hK9, hA⟩ := id hc
  obtain ⟨⟨o1, o2, o3⟩, ⟨o4, o5, o6⟩, ⟨o7, o8, o9⟩⟩ := id hok
  have hbA : ¬ (fun q : Nat => s.heap.size ≤ q) b0 := Nat.not_le.mpr hb0
  obtain ⟨x1, ex1⟩ : ∃ x : Int32, xs (nI (c + 1)).toNatClampNeg = x := ⟨_, rfl⟩
  have hop := op_keptFor (w2 := w2) (b2 := b2) (n2 := n2) (T2 := T2) (w3 := w3) (b3 := b3) (n3 := n3) (M2 := M2) (th := th) o1 o2 o3 hR x1
  obtain ⟨hcd, hk, hv⟩ := hop
  refine lv_aload_n hx hb dL_law_1250 rfl (lv_at hl 2 rfl) ?_
  refine lv_aload_n hx hb dL_law_1251 rfl (lv_at hl 1 rfl) ?_
  refine lv_iload hx hb dL_law_1252 (lv_at hl 0 rfl) ?_
  refine lv_iconst (v := 1) hx hb dL_law_1254 (by decide) ?_
  refine lv_iadd hx hb dL_law_1255 ?_
  rw [show nI c + 1 = nI (c + 1) from nI_add c 1]
  refine va_sld hx hb hX hb0 hbA hw.2.2 (vp_in_nI (show c + 1 < L by omega) (by omega)) dL_law_1256 ?_
  rw [ex1]
  refine lv_aload_n hx hb dL_law_1257 rfl (lv_at hl 4 rfl) ?_
  have hL1 := k_L_keptFor D cI cZ cL h o x1 f (w0 := wb_c h a a2 cI cZ w b n T w2 b2 n2 T2) (w1 := wb_c h a a2 cI cZ w b n T w2 b2 n2 T2) rfl rfl (wo_X1_H ..) hcd (k_X1_keptFor hst D cI cZ cL h a a2 w b n T w2 b2 n2 T2 o1 o2 o3 o4 o5 o6 x1)
  rw [hk] at hL1
  refine pl_callS (n := 3) (As := [.ref h, .int x1, .ref o]) (rest := []) hc hTx hw.2.2 (Pt.back (pre := wb_m hm am am2 cI th w b n M w3 b3 n3 M2) (wc := wb_c h a a2 cI cZ w b n T w2 b2 n2 T2 ++ [(o, .inl (cL, 1, .inr (.inl f)))]) hw hA) hL1 gL_law_L_keptFor rfl (by decide +kernel) ⟨Nat.le_of_ble_eq_true rfl, Nat.le_of_ble_eq_true rfl⟩ rfl rfl hl.1 (Nat.le_of_ble_eq_true rfl) (st1 := [.int (t_X3_keptFor th w b n M w3 b3 n3 M2 x1)]) rfl dL_law_1258 (k2 := 60 + c + 1) (s2 := 700 + 6 * c + 6) rfl rfl ⟨(Nat.le_trans (show 60 + c + 1 ≤ 20000 by omega) (Nat.le_of_ble_eq_true rfl)), (Nat.le_trans (show 700 + 6 * c + 6 ≤ 40000 by omega) (Nat.le_of_ble_eq_true rfl))⟩ (fun H locs hw => ?_)
  refine lv_istore (lv' := [(5, .int (t_X3_keptFor th w b n M w3 b3 n3 M2 x1)), (4, .int (nI c)), (0, .ref b0), (1, .ref h), (2, .ref hm), (3, .ref o)]) hx hb dL_law_1261 hl (by decide) rfl (fun ls hl => ?_)
  refine lv_aload_n hx hb dL_law_1263 rfl (lv_at hl 4 rfl) ?_
  refine lv_aload_n hx hb dL_law_1264 rfl (lv_at hl 2 rfl) ?_
  refine lv_iload hx hb dL_law_1265 (lv_at hl 1 rfl) ?_
  refine lv_iconst (v := 1) hx hb dL_law_1267 (by decide) ?_
  refine lv_iadd hx hb dL_law_1268 ?_
  rw [show nI c + 1 = nI (c + 1) from nI_add c 1]
  refine va_sld hx hb hX hb0 hbA hw.2.2 (vp_in_nI (show c + 1 < L by omega) (by omega)) dL_law_1269 ?_
  rw [ex1]
  refine p_callV (n := 1) (As := [.int x1]) (rest := []) (q0 := 0) hc hw.2.2 (Pt.front (wc := wb_m hm am am2 cI th w b n M w3 b3 n3 M2) hw hA) (k_X3_keptFor l D cI cZ cL hm am am2 th w b n M w3 b3 n3 M2 o1 o2 o3 o7 o8 o9 x1) gL_law_X3_keptFor rfl (by decide +kernel) ⟨Nat.le_of_ble_eq_true rfl, Nat.le_of_ble_eq_true rfl⟩ (wo_X3_H ..) rfl rfl rfl rfl hl.1 (Nat.le_of_ble_eq_true rfl) (st1 := [.int (r_X3_keptFor th w b n M w3 b3 n3 M2 x1)]) rfl dL_law_1270 (k2 := 60 + c + 1 + 0) (s2 := 700 + 6 * c + 6 + 0) rfl rfl ⟨(Nat.le_trans (show 60 + c + 1 + 0 ≤ 20000 by omega) (Nat.le_of_ble_eq_true rfl)), (Nat.le_trans (show 700 + 6 * c + 6 + 0 ≤ 40000 by omega) (Nat.le_of_ble_eq_true rfl))⟩ (fun H locs hw => ?_)
  refine lv_istore (lv' := [(6, .int (r_X3_keptFor th w b n M w3 b3 n3 M2 x1)), (5, .int (t_X3_keptFor th w b n M w3 b3 n3 M2 x1)), (4, .int (nI c)), (0, .ref b0), (1, .ref h), (2, .ref hm), (3, .ref o)]) hx hb dL_law_1273 hl (by decide) rfl (fun ls hl => ?_)
  refine lv_aload_n hx hb dL_law_1275 rfl (lv_at hl 5 rfl) ?_
  refine p_callV (n := 0) (As := []) (rest := []) (q0 := 0) hc hw.2.2 (Pt.front (wc := wb_m hm am am2 cI (t_X3_keptFor th w b n M w3 b3 n3 M2 x1) w b n M w3 b3 n3 M2) hw hA) (k_X3_thrown l D cI cZ cL hm am am2 (t_X3_keptFor th w b n M w3 b3 n3 M2 x1) w b n M w3 b3 n3 M2 o1 o2 o3 o7 o8 o9) gL_law_X3_thrown rfl (by decide +kernel) ⟨Nat.le_of_ble_eq_true rfl, Nat.le_of_ble_eq_true rfl⟩ (wo_X3_H ..) rfl rfl rfl rfl hl.1 (Nat.le_of_ble_eq_true rfl) (st1 := [.int (t_X3_keptFor th w b n M w3 b3 n3 M2 x1)]) rfl dL_law_1276 (k2 := 60 + c + 1 + 0) (s2 := 700 + 6 * c + 6 + 0) rfl rfl ⟨(Nat.le_trans (show 60 + c + 1 + 0 ≤ 20000 by omega) (Nat.le_of_ble_eq_true rfl)), (Nat.le_trans (show 700 + 6 * c + 6 + 0 ≤ 40000 by omega) (Nat.le_of_ble_eq_true rfl))⟩ (fun H locs hw => ?_)
  refine lv_iload hx hb dL_law_1279 (lv_at hl 1 rfl) ?_
  refine lv_icmp_eq (tgt := 1286) hx hb dL_law_1281 (by decide) (fun _ => ?_) (fun z => absurd rfl z)
  refine lv_iload hx hb dL_law_1286 (lv_at hl 1 rfl) ?_
  refine lv_if_ne (tgt := 1303) hx hb dL_law_1288 (by decide) (fun z => ?_) (fun z => ?_)
  · have he : ¬ e_X1_keptFor w b n T w2 b2 n2 T2 x1 = 0 := fun y => z (by rw [← hk, if_pos y])
    rw [if_neg he] at hw
    refine lv_goto (tgt := 1840) hx hb dL_law_1303 (by decide) ?_
    exact l_back hC hK (f := f) hok hR hw (lv_sub hl [2, 3, 4, 5, 6] rfl) (by omega) (by omega)
  · have he : e_X1_keptFor w b n T w2 b2 n2 T2 x1 = 0 := by
      by_cases y : e_X1_keptFor w b n T w2 b2 n2 T2 x1 = 0
      · exact y
      · rw [← hk, if_neg y] at z; exfalso; revert z; (repeat' split) <;> decide
    rw [if_pos he] at hw
    refine lv_aload_n hx hb dL_law_1291 rfl (lv_at hl 6 rfl) ?_
    refine lv_iconst (v := 0) hx hb dL_law_1292 (by decide) ?_
    refine g_lald (f := (vp_updL f 0 ((r_X1_keptFor w b n T w2 b2 n2 T2 x1)).toInt64)) hc hw 40 rfl (show vp_in (0 : Int32) 1 by unfold vp_in; decide) dL_law_1293 ?_
    rw [show (vp_updL f 0 ((r_X1_keptFor w b n T w2 b2 n2 T2 x1)).toInt64) (0 : Int32).toNatClampNeg = ((r_X1_keptFor w b n T w2 b2 n2 T2 x1)).toInt64 from rfl, hv he]
    refine lv_iload hx hb dL_law_1294 (lv_at hl 0 rfl) ?_
    refine lv_i2l (v := ((r_X3_keptFor th w b n M w3 b3 n3 M2 x1)).toInt64) hx hb dL_law_1296 rfl ?_
    refine W.lcmp hx hb dL_law_1297 ?_
    rw [lg_same]
    refine lv_if_eq (tgt := 1303) hx hb dL_law_1298 (by decide) (fun _ => ?_) (fun z => absurd rfl z)
    refine lv_goto (tgt := 1840) hx hb dL_law_1303 (by decide) ?_
    exact l_back hC hK (f := (vp_updL f 0 ((r_X1_keptFor w b n T w2 b2 n2 T2 x1)).toInt64)) hok hR hw (lv_sub hl [2, 3, 4, 5, 6] rfl) (by omega) (by omega)
set_option maxHeartbeats 4000000 in
set_option maxRecDepth 100000 in
theorem l_case_peopleOn {p : Program} {l : Launch} {e : Env} {s : State} {m : MethodId} {below : List Frame} {meth : Method} {c0 : Code} {b0 L : Nat} {xs : Nat → Int32} {D : va_G} {cI cZ cL : ClassId} {h hm o : Nat} {a a2 am am2 : Nat → Nat} (hC : LC p s m meth c0 b0 L xs D cI cZ cL) (hst : l.stackTraces = false) {c : Nat} (hcL : c + 3 ≤ L) (hL : L ≤ 1536) (hK : LH p l e s m below meth c0 b0 D cI cZ cL h hm o a a2 am am2 (c + 3)) {H : Heap} {locs : List Loc} {ls : Array Slot} {th : Int32} {w b n : Nat} {T : ct_T} {M : mt_T} {w2 b2 n2 : Nat} {T2 : ct_T} {w3 b3 n3 : Nat} {M2 : mt_T} {f : Nat → Int64} (hok : Lok w b n w2 b2 n2 w3 b3 n3) (hR : RR w b n T M) (hw : Wo D (fun q => s.heap.size ≤ q) s.heap (Lw cI cZ cL h hm o a a2 am am2 th w b n T M w2 b2 n2 T2 w3 b3 n3 M2 f) H locs) (hl : lv_has ls 9 [(4, .int (nI c)), (0, .ref b0), (1, .ref h), (2, .ref hm), (3, .ref o)]) : W p l e room_1 s m #[Value.ref b0] below meth c0 H locs (60 + c) (700 + 6 * c) (lw_Z below #[Value.ref b0] s) (F0 m 1306 ls []) := by
  obtain ⟨hc, hTx, hX, hb0⟩ := id hC
  obtain ⟨hx, hb, hr, hml, hown, hts, hlk, hK9, hA⟩ := id hc
  obtain ⟨⟨o1, o2, o3⟩, ⟨o4, o5, o6⟩, ⟨o7, o8, o9⟩⟩ := id hok
  have hbA : ¬ (fun q : Nat => s.heap.size ≤ q) b0 := Nat.not_le.mpr hb0
  obtain ⟨x1, ex1⟩ : ∃ x : Int32, xs (nI (c + 1)).toNatClampNeg = x := ⟨_, rfl⟩
  have hop := op_peopleOn (w2 := w2) (b2 := b2) (n2 := n2) (T2 := T2) (w3 := w3) (b3 := b3) (n3 := n3) (M2 := M2) (th := th) o1 o2 o3 hR x1
  obtain ⟨hcd, hk, hv⟩ := hop
  refine lv_aload_n hx hb dL_law_1306 rfl (lv_at hl 2 rfl) ?_
  refine lv_aload_n hx hb dL_law_1307 rfl (lv_at hl 1 rfl) ?_
  refine lv_iload hx hb dL_law_1308 (lv_at hl 0 rfl) ?_
  refine lv_iconst (v := 1) hx hb dL_law_1310 (by decide) ?_
  refine lv_iadd hx hb dL_law_1311 ?_
  rw [show nI c + 1 = nI (c + 1) from nI_add c 1]
  refine va_sld hx hb hX hb0 hbA hw.2.2 (vp_in_nI (show c + 1 < L by omega) (by omega)) dL_law_1312 ?_
  rw [ex1]
  refine lv_aload_n hx hb dL_law_1313 rfl (lv_at hl 4 rfl) ?_
  have hL1 := k_L_peopleOn D cI cZ cL h o x1 f (w0 := wb_c h a a2 cI cZ w b n T w2 b2 n2 T2) (w1 := wb_c h a a2 cI cZ w b n T w2 b2 n2 T2) rfl rfl (wo_X1_H ..) hcd (k_X1_peopleOn hst D cI cZ cL h a a2 w b n T w2 b2 n2 T2 o1 o2 o3 o4 o5 o6 x1)
  rw [hk] at hL1
  refine pl_callS (n := 3) (As := [.ref h, .int x1, .ref o]) (rest := []) hc hTx hw.2.2 (Pt.back (pre := wb_m hm am am2 cI th w b n M w3 b3 n3 M2) (wc := wb_c h a a2 cI cZ w b n T w2 b2 n2 T2 ++ [(o, .inl (cL, 1, .inr (.inl f)))]) hw hA) hL1 gL_law_L_peopleOn rfl (by decide +kernel) ⟨Nat.le_of_ble_eq_true rfl, Nat.le_of_ble_eq_true rfl⟩ rfl rfl hl.1 (Nat.le_of_ble_eq_true rfl) (st1 := [.int (t_X3_peopleOn th w b n M w3 b3 n3 M2 x1)]) rfl dL_law_1314 (k2 := 60 + c + 1) (s2 := 700 + 6 * c + 6) rfl rfl ⟨(Nat.le_trans (show 60 + c + 1 ≤ 20000 by omega) (Nat.le_of_ble_eq_true rfl)), (Nat.le_trans (show 700 + 6 * c + 6 ≤ 40000 by omega) (Nat.le_of_ble_eq_true rfl))⟩ (fun H locs hw => ?_)
  refine lv_istore (lv' := [(5, .int (t_X3_peopleOn th w b n M w3 b3 n3 M2 x1)), (4, .int (nI c)), (0, .ref b0), (1, .ref h), (2, .ref hm), (3, .ref o)]) hx hb dL_law_1317 hl (by decide) rfl (fun ls hl => ?_)
  refine lv_aload_n hx hb dL_law_1319 rfl (lv_at hl 4 rfl) ?_
  refine lv_aload_n hx hb dL_law_1320 rfl (lv_at hl 2 rfl) ?_
  refine lv_iload hx hb dL_law_1321 (lv_at hl 1 rfl) ?_
  refine lv_iconst (v := 1) hx hb dL_law_1323 (by decide) ?_
  refine lv_iadd hx hb dL_law_1324 ?_
  rw [show nI c + 1 = nI (c + 1) from nI_add c 1]
  refine va_sld hx hb hX hb0 hbA hw.2.2 (vp_in_nI (show c + 1 < L by omega) (by omega)) dL_law_1325 ?_
  rw [ex1]
  refine p_callV (n := 1) (As := [.int x1]) (rest := []) (q0 := 0) hc hw.2.2 (Pt.front (wc := wb_m hm am am2 cI th w b n M w3 b3 n3 M2) hw hA) (k_X3_peopleOn l D cI cZ cL hm am am2 th w b n M w3 b3 n3 M2 o1 o2 o3 o7 o8 o9 x1) gL_law_X3_peopleOn rfl (by decide +kernel) ⟨Nat.le_of_ble_eq_true rfl, Nat.le_of_ble_eq_true rfl⟩ (wo_X3_H ..) rfl rfl rfl rfl hl.1 (Nat.le_of_ble_eq_true rfl) (st1 := [.int (r_X3_peopleOn th w b n M w3 b3 n3 M2 x1)]) rfl dL_law_1326 (k2 := 60 + c + 1 + 0) (s2 := 700 + 6 * c + 6 + 0) rfl rfl ⟨(Nat.le_trans (show 60 + c + 1 + 0 ≤ 20000 by omega) (Nat.le_of_ble_eq_true rfl)), (Nat.le_trans (show 700 + 6 * c + 6 + 0 ≤ 40000 by omega) (Nat.le_of_ble_eq_true rfl))⟩ (fun H locs hw => ?_)
  refine lv_istore (lv' := [(6, .int (r_X3_peopleOn th w b n M w3 b3 n3 M2 x1)), (5, .int (t_X3_peopleOn th w b n M w3 b3 n3 M2 x1)), (4, .int (nI c)), (0, .ref b0), (1, .ref h), (2, .ref hm), (3, .ref o)]) hx hb dL_law_1329 hl (by decide) rfl (fun ls hl => ?_)
  refine lv_aload_n hx hb dL_law_1331 rfl (lv_at hl 5 rfl) ?_
  refine p_callV (n := 0) (As := []) (rest := []) (q0 := 0) hc hw.2.2 (Pt.front (wc := wb_m hm am am2 cI (t_X3_peopleOn th w b n M w3 b3 n3 M2 x1) w b n M w3 b3 n3 M2) hw hA) (k_X3_thrown l D cI cZ cL hm am am2 (t_X3_peopleOn th w b n M w3 b3 n3 M2 x1) w b n M w3 b3 n3 M2 o1 o2 o3 o7 o8 o9) gL_law_X3_thrown rfl (by decide +kernel) ⟨Nat.le_of_ble_eq_true rfl, Nat.le_of_ble_eq_true rfl⟩ (wo_X3_H ..) rfl rfl rfl rfl hl.1 (Nat.le_of_ble_eq_true rfl) (st1 := [.int (t_X3_peopleOn th w b n M w3 b3 n3 M2 x1)]) rfl dL_law_1332 (k2 := 60 + c + 1 + 0) (s2 := 700 + 6 * c + 6 + 0) rfl rfl ⟨(Nat.le_trans (show 60 + c + 1 + 0 ≤ 20000 by omega) (Nat.le_of_ble_eq_true rfl)), (Nat.le_trans (show 700 + 6 * c + 6 + 0 ≤ 40000 by omega) (Nat.le_of_ble_eq_true rfl))⟩ (fun H locs hw => ?_)
  refine lv_iload hx hb dL_law_1335 (lv_at hl 1 rfl) ?_
  refine lv_icmp_eq (tgt := 1342) hx hb dL_law_1337 (by decide) (fun _ => ?_) (fun z => absurd rfl z)
  refine lv_iload hx hb dL_law_1342 (lv_at hl 1 rfl) ?_
  refine lv_if_ne (tgt := 1359) hx hb dL_law_1344 (by decide) (fun z => ?_) (fun z => ?_)
  · have he : ¬ e_X1_peopleOn w b n T w2 b2 n2 T2 x1 = 0 := fun y => z (by rw [← hk, if_pos y])
    rw [if_neg he] at hw
    refine lv_goto (tgt := 1840) hx hb dL_law_1359 (by decide) ?_
    exact l_back hC hK (f := f) hok hR hw (lv_sub hl [2, 3, 4, 5, 6] rfl) (by omega) (by omega)
  · have he : e_X1_peopleOn w b n T w2 b2 n2 T2 x1 = 0 := by
      by_cases y : e_X1_peopleOn w b n T w2 b2 n2 T2 x1 = 0
      · exact y
      · rw [← hk, if_neg y] at z; exfalso; revert z; (repeat' split) <;> decide
    rw [if_pos he] at hw
    refine lv_aload_n hx hb dL_law_1347 rfl (lv_at hl 6 rfl) ?_
    refine lv_iconst (v := 0) hx hb dL_law_1348 (by decide) ?_
    refine g_lald (f := (vp_updL f 0 ((r_X1_peopleOn w b n T w2 b2 n2 T2 x1)).toInt64)) hc hw 40 rfl (show vp_in (0 : Int32) 1 by unfold vp_in; decide) dL_law_1349 ?_
    rw [show (vp_updL f 0 ((r_X1_peopleOn w b n T w2 b2 n2 T2 x1)).toInt64) (0 : Int32).toNatClampNeg = ((r_X1_peopleOn w b n T w2 b2 n2 T2 x1)).toInt64 from rfl, hv he]
    refine lv_iload hx hb dL_law_1350 (lv_at hl 0 rfl) ?_
    refine lv_i2l (v := ((r_X3_peopleOn th w b n M w3 b3 n3 M2 x1)).toInt64) hx hb dL_law_1352 rfl ?_
    refine W.lcmp hx hb dL_law_1353 ?_
    rw [lg_same]
    refine lv_if_eq (tgt := 1359) hx hb dL_law_1354 (by decide) (fun _ => ?_) (fun z => absurd rfl z)
    refine lv_goto (tgt := 1840) hx hb dL_law_1359 (by decide) ?_
    exact l_back hC hK (f := (vp_updL f 0 ((r_X1_peopleOn w b n T w2 b2 n2 T2 x1)).toInt64)) hok hR hw (lv_sub hl [2, 3, 4, 5, 6] rfl) (by omega) (by omega)