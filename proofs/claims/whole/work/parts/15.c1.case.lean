set_option maxHeartbeats 4000000 in
set_option maxRecDepth 100000 in
theorem l_case_carry {p : Program} {l : Launch} {e : Env} {s : State} {m : MethodId} {below : List Frame} {meth : Method} {c0 : Code} {b0 L : Nat} {xs : Nat → Int32} {D : va_G} {cI cZ cL : ClassId} {h hm o : Nat} {a a2 am am2 : Nat → Nat} (hC : LC p s m meth c0 b0 L xs D cI cZ cL) (hst : l.stackTraces = false) {c : Nat} (hcL : c + 3 ≤ L) (hL : L ≤ 1536) (hK : LH p l e s m below meth c0 b0 D cI cZ cL h hm o a a2 am am2 (c + 3)) {H : Heap} {locs : List Loc} {ls : Array Slot} {th : Int32} {w b n : Nat} {T : ct_T} {M : mt_T} {w2 b2 n2 : Nat} {T2 : ct_T} {w3 b3 n3 : Nat} {M2 : mt_T} {f : Nat → Int64} (hok : Lok w b n w2 b2 n2 w3 b3 n3) (hR : RR w b n T M) (hw : Wo D (fun q => s.heap.size ≤ q) s.heap (Lw cI cZ cL h hm o a a2 am am2 th w b n T M w2 b2 n2 T2 w3 b3 n3 M2 f) H locs) (hl : lv_has ls 9 [(4, .int (nI c)), (0, .ref b0), (1, .ref h), (2, .ref hm), (3, .ref o)]) : W p l e room_1 s m #[Value.ref b0] below meth c0 H locs (60 + c) (700 + 6 * c) (lw_Z below #[Value.ref b0] s) (F0 m 496 ls []) := by
  obtain ⟨hc, hTx, hX, hb0⟩ := id hC
  obtain ⟨hx, hb, hr, hml, hown, hts, hlk, hK9, hA⟩ := id hc
  obtain ⟨⟨o1, o2, o3⟩, ⟨o4, o5, o6⟩, ⟨o7, o8, o9⟩⟩ := id hok
  have hbA : ¬ (fun q : Nat => s.heap.size ≤ q) b0 := Nat.not_le.mpr hb0
  obtain ⟨x1, ex1⟩ : ∃ x : Int32, xs (nI (c + 1)).toNatClampNeg = x := ⟨_, rfl⟩
  obtain ⟨x2, ex2⟩ : ∃ x : Int32, xs (nI (c + 2)).toNatClampNeg = x := ⟨_, rfl⟩
  have hop := op_carry (w2 := w2) (b2 := b2) (n2 := n2) (T2 := T2) (w3 := w3) (b3 := b3) (n3 := n3) (M2 := M2) (th := th) o1 o2 o3 hR x1 x2
  obtain ⟨hcd, hk, hv, hs0, hs1⟩ := hop
  refine lv_aload_n hx hb dL_law_496 rfl (lv_at hl 2 rfl) ?_
  refine lv_aload_n hx hb dL_law_497 rfl (lv_at hl 1 rfl) ?_
  refine lv_iload hx hb dL_law_498 (lv_at hl 0 rfl) ?_
  refine lv_iconst (v := 1) hx hb dL_law_500 (by decide) ?_
  refine lv_iadd hx hb dL_law_501 ?_
  rw [show nI c + 1 = nI (c + 1) from nI_add c 1]
  refine va_sld hx hb hX hb0 hbA hw.2.2 (vp_in_nI (show c + 1 < L by omega) (by omega)) dL_law_502 ?_
  rw [ex1]
  refine lv_aload_n hx hb dL_law_503 rfl (lv_at hl 1 rfl) ?_
  refine lv_iload hx hb dL_law_504 (lv_at hl 0 rfl) ?_
  refine lv_iconst (v := 2) hx hb dL_law_506 (by decide) ?_
  refine lv_iadd hx hb dL_law_507 ?_
  rw [show nI c + 2 = nI (c + 2) from nI_add c 2]
  refine va_sld hx hb hX hb0 hbA hw.2.2 (vp_in_nI (show c + 2 < L by omega) (by omega)) dL_law_508 ?_
  rw [ex2]
  refine lv_aload_n hx hb dL_law_509 rfl (lv_at hl 4 rfl) ?_
  have hL1 := k_L_carry D cI cZ cL h o x1 x2 f (w0 := wb_c h a a2 cI cZ w b n T w2 b2 n2 T2) (w1 := wb_c h a a2 cI cZ w b n (s_X1_carry w b n T w2 b2 n2 T2 x1 x2) w2 b2 n2 T2) rfl rfl (wo_X1_H ..) hcd (k_X1_carry hst D cI cZ cL h a a2 w b n T w2 b2 n2 T2 o1 o2 o3 o4 o5 o6 x1 x2)
  rw [hk] at hL1
  refine pl_callS (n := 4) (As := [.ref h, .int x1, .int x2, .ref o]) (rest := []) hc hTx hw.2.2 (Pt.back (pre := wb_m hm am am2 cI th w b n M w3 b3 n3 M2) (wc := wb_c h a a2 cI cZ w b n T w2 b2 n2 T2 ++ [(o, .inl (cL, 1, .inr (.inl f)))]) hw hA) hL1 gL_law_L_carry rfl (by decide +kernel) ⟨Nat.le_of_ble_eq_true rfl, Nat.le_of_ble_eq_true rfl⟩ rfl rfl hl.1 (Nat.le_of_ble_eq_true rfl) (st1 := [.int (t_X3_carry th w b n M w3 b3 n3 M2 x1 x2)]) rfl dL_law_510 (k2 := 60 + c + 3) (s2 := 700 + 6 * c + 18) rfl rfl ⟨(Nat.le_trans (show 60 + c + 3 ≤ 20000 by omega) (Nat.le_of_ble_eq_true rfl)), (Nat.le_trans (show 700 + 6 * c + 18 ≤ 40000 by omega) (Nat.le_of_ble_eq_true rfl))⟩ (fun H locs hw => ?_)
  refine lv_istore (lv' := [(5, .int (t_X3_carry th w b n M w3 b3 n3 M2 x1 x2)), (4, .int (nI c)), (0, .ref b0), (1, .ref h), (2, .ref hm), (3, .ref o)]) hx hb dL_law_513 hl (by decide) rfl (fun ls hl => ?_)
  refine lv_aload_n hx hb dL_law_515 rfl (lv_at hl 4 rfl) ?_
  refine lv_aload_n hx hb dL_law_516 rfl (lv_at hl 2 rfl) ?_
  refine lv_iload hx hb dL_law_517 (lv_at hl 1 rfl) ?_
  refine lv_iconst (v := 1) hx hb dL_law_519 (by decide) ?_
  refine lv_iadd hx hb dL_law_520 ?_
  rw [show nI c + 1 = nI (c + 1) from nI_add c 1]
  refine va_sld hx hb hX hb0 hbA hw.2.2 (vp_in_nI (show c + 1 < L by omega) (by omega)) dL_law_521 ?_
  rw [ex1]
  refine lv_aload_n hx hb dL_law_522 rfl (lv_at hl 2 rfl) ?_
  refine lv_iload hx hb dL_law_523 (lv_at hl 1 rfl) ?_
  refine lv_iconst (v := 2) hx hb dL_law_525 (by decide) ?_
  refine lv_iadd hx hb dL_law_526 ?_
  rw [show nI c + 2 = nI (c + 2) from nI_add c 2]
  refine va_sld hx hb hX hb0 hbA hw.2.2 (vp_in_nI (show c + 2 < L by omega) (by omega)) dL_law_527 ?_
  rw [ex2]
  refine p_callV (n := 2) (As := [.int x1, .int x2]) (rest := []) (q0 := 0) hc hw.2.2 (Pt.front (wc := wb_m hm am am2 cI th w b n M w3 b3 n3 M2) hw hA) (k_X3_carry l D cI cZ cL hm am am2 th w b n M w3 b3 n3 M2 o1 o2 o3 o7 o8 o9 x1 x2) gL_law_X3_carry rfl (by decide +kernel) ⟨Nat.le_of_ble_eq_true rfl, Nat.le_of_ble_eq_true rfl⟩ (wo_X3_H ..) rfl rfl rfl rfl hl.1 (Nat.le_of_ble_eq_true rfl) (st1 := [.int (r_X3_carry th w b n M w3 b3 n3 M2 x1 x2)]) rfl dL_law_528 (k2 := 60 + c + 3 + 0) (s2 := 700 + 6 * c + 18 + 0) rfl rfl ⟨(Nat.le_trans (show 60 + c + 3 + 0 ≤ 20000 by omega) (Nat.le_of_ble_eq_true rfl)), (Nat.le_trans (show 700 + 6 * c + 18 + 0 ≤ 40000 by omega) (Nat.le_of_ble_eq_true rfl))⟩ (fun H locs hw => ?_)
  refine lv_istore (lv' := [(6, .int (r_X3_carry th w b n M w3 b3 n3 M2 x1 x2)), (5, .int (t_X3_carry th w b n M w3 b3 n3 M2 x1 x2)), (4, .int (nI c)), (0, .ref b0), (1, .ref h), (2, .ref hm), (3, .ref o)]) hx hb dL_law_531 hl (by decide) rfl (fun ls hl => ?_)
  refine lv_aload_n hx hb dL_law_533 rfl (lv_at hl 5 rfl) ?_
  refine p_callV (n := 0) (As := []) (rest := []) (q0 := 0) hc hw.2.2 (Pt.front (wc := wb_m hm am am2 cI (t_X3_carry th w b n M w3 b3 n3 M2 x1 x2) w b n (s_X3_carry th w b n M w3 b3 n3 M2 x1 x2) w3 b3 n3 M2) hw hA) (k_X3_thrown l D cI cZ cL hm am am2 (t_X3_carry th w b n M w3 b3 n3 M2 x1 x2) w b n (s_X3_carry th w b n M w3 b3 n3 M2 x1 x2) w3 b3 n3 M2 o1 o2 o3 o7 o8 o9) gL_law_X3_thrown rfl (by decide +kernel) ⟨Nat.le_of_ble_eq_true rfl, Nat.le_of_ble_eq_true rfl⟩ (wo_X3_H ..) rfl rfl rfl rfl hl.1 (Nat.le_of_ble_eq_true rfl) (st1 := [.int (t_X3_carry th w b n M w3 b3 n3 M2 x1 x2)]) rfl dL_law_534 (k2 := 60 + c + 3 + 0) (s2 := 700 + 6 * c + 18 + 0) rfl rfl ⟨(Nat.le_trans (show 60 + c + 3 + 0 ≤ 20000 by omega) (Nat.le_of_ble_eq_true rfl)), (Nat.le_trans (show 700 + 6 * c + 18 + 0 ≤ 40000 by omega) (Nat.le_of_ble_eq_true rfl))⟩ (fun H locs hw => ?_)
  refine lv_iload hx hb dL_law_537 (lv_at hl 1 rfl) ?_
  refine lv_icmp_eq (tgt := 544) hx hb dL_law_539 (by decide) (fun _ => ?_) (fun z => absurd rfl z)
  refine lv_iload hx hb dL_law_544 (lv_at hl 1 rfl) ?_
  refine lv_if_ne (tgt := 561) hx hb dL_law_546 (by decide) (fun z => ?_) (fun z => ?_)
  · have he : ¬ e_X1_carry w b n T w2 b2 n2 T2 x1 x2 = 0 := fun y => z (by rw [← hk, if_pos y])
    rw [if_neg he] at hw
    refine lv_goto (tgt := 1840) hx hb dL_law_561 (by decide) ?_
    exact l_back hC hK (f := f) hok (hs1 he) hw (lv_sub hl [2, 3, 4, 5, 6] rfl) (by omega) (by omega)
  · have he : e_X1_carry w b n T w2 b2 n2 T2 x1 x2 = 0 := by
      by_cases y : e_X1_carry w b n T w2 b2 n2 T2 x1 x2 = 0
      · exact y
      · rw [← hk, if_neg y] at z; exfalso; revert z; (repeat' split) <;> decide
    rw [if_pos he] at hw
    refine lv_aload_n hx hb dL_law_549 rfl (lv_at hl 6 rfl) ?_
    refine lv_iconst (v := 0) hx hb dL_law_550 (by decide) ?_
    refine g_lald (f := (vp_updL f 0 ((r_X1_carry w b n T w2 b2 n2 T2 x1 x2)).toInt64)) hc hw 40 rfl (show vp_in (0 : Int32) 1 by unfold vp_in; decide) dL_law_551 ?_
    rw [show (vp_updL f 0 ((r_X1_carry w b n T w2 b2 n2 T2 x1 x2)).toInt64) (0 : Int32).toNatClampNeg = ((r_X1_carry w b n T w2 b2 n2 T2 x1 x2)).toInt64 from rfl, hv he]
    refine lv_iload hx hb dL_law_552 (lv_at hl 0 rfl) ?_
    refine lv_i2l (v := ((r_X3_carry th w b n M w3 b3 n3 M2 x1 x2)).toInt64) hx hb dL_law_554 rfl ?_
    refine W.lcmp hx hb dL_law_555 ?_
    rw [lg_same]
    refine lv_if_eq (tgt := 561) hx hb dL_law_556 (by decide) (fun _ => ?_) (fun z => absurd rfl z)
    refine lv_goto (tgt := 1840) hx hb dL_law_561 (by decide) ?_
    exact l_back hC hK (f := (vp_updL f 0 ((r_X1_carry w b n T w2 b2 n2 T2 x1 x2)).toInt64)) hok (hs0 he) hw (lv_sub hl [2, 3, 4, 5, 6] rfl) (by omega) (by omega)
set_option maxHeartbeats 4000000 in
set_option maxRecDepth 100000 in
theorem l_case_pass {p : Program} {l : Launch} {e : Env} {s : State} {m : MethodId} {below : List Frame} {meth : Method} {c0 : Code} {b0 L : Nat} {xs : Nat → Int32} {D : va_G} {cI cZ cL : ClassId} {h hm o : Nat} {a a2 am am2 : Nat → Nat} (hC : LC p s m meth c0 b0 L xs D cI cZ cL) (hst : l.stackTraces = false) {c : Nat} (hcL : c + 3 ≤ L) (hL : L ≤ 1536) (hK : LH p l e s m below meth c0 b0 D cI cZ cL h hm o a a2 am am2 (c + 3)) {H : Heap} {locs : List Loc} {ls : Array Slot} {th : Int32} {w b n : Nat} {T : ct_T} {M : mt_T} {w2 b2 n2 : Nat} {T2 : ct_T} {w3 b3 n3 : Nat} {M2 : mt_T} {f : Nat → Int64} (hok : Lok w b n w2 b2 n2 w3 b3 n3) (hR : RR w b n T M) (hw : Wo D (fun q => s.heap.size ≤ q) s.heap (Lw cI cZ cL h hm o a a2 am am2 th w b n T M w2 b2 n2 T2 w3 b3 n3 M2 f) H locs) (hl : lv_has ls 9 [(4, .int (nI c)), (0, .ref b0), (1, .ref h), (2, .ref hm), (3, .ref o)]) : W p l e room_1 s m #[Value.ref b0] below meth c0 H locs (60 + c) (700 + 6 * c) (lw_Z below #[Value.ref b0] s) (F0 m 564 ls []) := by
  obtain ⟨hc, hTx, hX, hb0⟩ := id hC
  obtain ⟨hx, hb, hr, hml, hown, hts, hlk, hK9, hA⟩ := id hc
  obtain ⟨⟨o1, o2, o3⟩, ⟨o4, o5, o6⟩, ⟨o7, o8, o9⟩⟩ := id hok
  have hbA : ¬ (fun q : Nat => s.heap.size ≤ q) b0 := Nat.not_le.mpr hb0
  obtain ⟨x1, ex1⟩ : ∃ x : Int32, xs (nI (c + 1)).toNatClampNeg = x := ⟨_, rfl⟩
  have hop := op_pass (w2 := w2) (b2 := b2) (n2 := n2) (T2 := T2) (w3 := w3) (b3 := b3) (n3 := n3) (M2 := M2) (th := th) o1 o2 o3 hR x1
  obtain ⟨hcd, hk, hv, hs0, hs1⟩ := hop
  refine lv_aload_n hx hb dL_law_564 rfl (lv_at hl 2 rfl) ?_
  refine lv_aload_n hx hb dL_law_565 rfl (lv_at hl 1 rfl) ?_
  refine lv_iload hx hb dL_law_566 (lv_at hl 0 rfl) ?_
  refine lv_iconst (v := 1) hx hb dL_law_568 (by decide) ?_
  refine lv_iadd hx hb dL_law_569 ?_
  rw [show nI c + 1 = nI (c + 1) from nI_add c 1]
  refine va_sld hx hb hX hb0 hbA hw.2.2 (vp_in_nI (show c + 1 < L by omega) (by omega)) dL_law_570 ?_
  rw [ex1]
  refine lv_aload_n hx hb dL_law_571 rfl (lv_at hl 4 rfl) ?_
  have hL1 := k_L_pass D cI cZ cL h o x1 f (w0 := wb_c h a a2 cI cZ w b n T w2 b2 n2 T2) (w1 := wb_c h a a2 cI cZ w b n (s_X1_pass w b n T w2 b2 n2 T2 x1) w2 b2 n2 T2) rfl rfl (wo_X1_H ..) hcd (k_X1_pass hst D cI cZ cL h a a2 w b n T w2 b2 n2 T2 o1 o2 o3 o4 o5 o6 x1)
  rw [hk] at hL1
  refine pl_callS (n := 3) (As := [.ref h, .int x1, .ref o]) (rest := []) hc hTx hw.2.2 (Pt.back (pre := wb_m hm am am2 cI th w b n M w3 b3 n3 M2) (wc := wb_c h a a2 cI cZ w b n T w2 b2 n2 T2 ++ [(o, .inl (cL, 1, .inr (.inl f)))]) hw hA) hL1 gL_law_L_pass rfl (by decide +kernel) ⟨Nat.le_of_ble_eq_true rfl, Nat.le_of_ble_eq_true rfl⟩ rfl rfl hl.1 (Nat.le_of_ble_eq_true rfl) (st1 := [.int (t_X3_pass th w b n M w3 b3 n3 M2 x1)]) rfl dL_law_572 (k2 := 60 + c + 1) (s2 := 700 + 6 * c + 6) rfl rfl ⟨(Nat.le_trans (show 60 + c + 1 ≤ 20000 by omega) (Nat.le_of_ble_eq_true rfl)), (Nat.le_trans (show 700 + 6 * c + 6 ≤ 40000 by omega) (Nat.le_of_ble_eq_true rfl))⟩ (fun H locs hw => ?_)
  refine lv_istore (lv' := [(5, .int (t_X3_pass th w b n M w3 b3 n3 M2 x1)), (4, .int (nI c)), (0, .ref b0), (1, .ref h), (2, .ref hm), (3, .ref o)]) hx hb dL_law_575 hl (by decide) rfl (fun ls hl => ?_)
  refine lv_aload_n hx hb dL_law_577 rfl (lv_at hl 4 rfl) ?_
  refine lv_aload_n hx hb dL_law_578 rfl (lv_at hl 2 rfl) ?_
  refine lv_iload hx hb dL_law_579 (lv_at hl 1 rfl) ?_
  refine lv_iconst (v := 1) hx hb dL_law_581 (by decide) ?_
  refine lv_iadd hx hb dL_law_582 ?_
  rw [show nI c + 1 = nI (c + 1) from nI_add c 1]
  refine va_sld hx hb hX hb0 hbA hw.2.2 (vp_in_nI (show c + 1 < L by omega) (by omega)) dL_law_583 ?_
  rw [ex1]
  refine p_callV (n := 1) (As := [.int x1]) (rest := []) (q0 := 0) hc hw.2.2 (Pt.front (wc := wb_m hm am am2 cI th w b n M w3 b3 n3 M2) hw hA) (k_X3_pass l D cI cZ cL hm am am2 th w b n M w3 b3 n3 M2 o1 o2 o3 o7 o8 o9 x1) gL_law_X3_pass rfl (by decide +kernel) ⟨Nat.le_of_ble_eq_true rfl, Nat.le_of_ble_eq_true rfl⟩ (wo_X3_H ..) rfl rfl rfl rfl hl.1 (Nat.le_of_ble_eq_true rfl) (st1 := [.int (r_X3_pass th w b n M w3 b3 n3 M2 x1)]) rfl dL_law_584 (k2 := 60 + c + 1 + 0) (s2 := 700 + 6 * c + 6 + 0) rfl rfl ⟨(Nat.le_trans (show 60 + c + 1 + 0 ≤ 20000 by omega) (Nat.le_of_ble_eq_true rfl)), (Nat.le_trans (show 700 + 6 * c + 6 + 0 ≤ 40000 by omega) (Nat.le_of_ble_eq_true rfl))⟩ (fun H locs hw => ?_)
  refine lv_istore (lv' := [(6, .int (r_X3_pass th w b n M w3 b3 n3 M2 x1)), (5, .int (t_X3_pass th w b n M w3 b3 n3 M2 x1)), (4, .int (nI c)), (0, .ref b0), (1, .ref h), (2, .ref hm), (3, .ref o)]) hx hb dL_law_587 hl (by decide) rfl (fun ls hl => ?_)
  refine lv_aload_n hx hb dL_law_589 rfl (lv_at hl 5 rfl) ?_
  refine p_callV (n := 0) (As := []) (rest := []) (q0 := 0) hc hw.2.2 (Pt.front (wc := wb_m hm am am2 cI (t_X3_pass th w b n M w3 b3 n3 M2 x1) w b n (s_X3_pass th w b n M w3 b3 n3 M2 x1) w3 b3 n3 M2) hw hA) (k_X3_thrown l D cI cZ cL hm am am2 (t_X3_pass th w b n M w3 b3 n3 M2 x1) w b n (s_X3_pass th w b n M w3 b3 n3 M2 x1) w3 b3 n3 M2 o1 o2 o3 o7 o8 o9) gL_law_X3_thrown rfl (by decide +kernel) ⟨Nat.le_of_ble_eq_true rfl, Nat.le_of_ble_eq_true rfl⟩ (wo_X3_H ..) rfl rfl rfl rfl hl.1 (Nat.le_of_ble_eq_true rfl) (st1 := [.int (t_X3_pass th w b n M w3 b3 n3 M2 x1)]) rfl dL_law_590 (k2 := 60 + c + 1 + 0) (s2 := 700 + 6 * c + 6 + 0) rfl rfl ⟨(Nat.le_trans (show 60 + c + 1 + 0 ≤ 20000 by omega) (Nat.le_of_ble_eq_true rfl)), (Nat.le_trans (show 700 + 6 * c + 6 + 0 ≤ 40000 by omega) (Nat.le_of_ble_eq_true rfl))⟩ (fun H locs hw => ?_)
  refine lv_iload hx hb dL_law_593 (lv_at hl 1 rfl) ?_
  refine lv_icmp_eq (tgt := 600) hx hb dL_law_595 (by decide) (fun _ => ?_) (fun z => absurd rfl z)
  refine lv_iload hx hb dL_law_600 (lv_at hl 1 rfl) ?_
  refine lv_if_ne (tgt := 617) hx hb dL_law_602 (by decide) (fun z => ?_) (fun z => ?_)
  · have he : ¬ e_X1_pass w b n T w2 b2 n2 T2 x1 = 0 := fun y => z (by rw [← hk, if_pos y])
    rw [if_neg he] at hw
    refine lv_goto (tgt := 1840) hx hb dL_law_617 (by decide) ?_
    exact l_back hC hK (f := f) hok (hs1 he) hw (lv_sub hl [2, 3, 4, 5, 6] rfl) (by omega) (by omega)
  · have he : e_X1_pass w b n T w2 b2 n2 T2 x1 = 0 := by
      by_cases y : e_X1_pass w b n T w2 b2 n2 T2 x1 = 0
      · exact y
      · rw [← hk, if_neg y] at z; exfalso; revert z; (repeat' split) <;> decide
    rw [if_pos he] at hw
    refine lv_aload_n hx hb dL_law_605 rfl (lv_at hl 6 rfl) ?_
    refine lv_iconst (v := 0) hx hb dL_law_606 (by decide) ?_
    refine g_lald (f := (vp_updL f 0 ((r_X1_pass w b n T w2 b2 n2 T2 x1)).toInt64)) hc hw 40 rfl (show vp_in (0 : Int32) 1 by unfold vp_in; decide) dL_law_607 ?_
    rw [show (vp_updL f 0 ((r_X1_pass w b n T w2 b2 n2 T2 x1)).toInt64) (0 : Int32).toNatClampNeg = ((r_X1_pass w b n T w2 b2 n2 T2 x1)).toInt64 from rfl, hv he]
    refine lv_iload hx hb dL_law_608 (lv_at hl 0 rfl) ?_
    refine lv_i2l (v := ((r_X3_pass th w b n M w3 b3 n3 M2 x1)).toInt64) hx hb dL_law_610 rfl ?_
    refine W.lcmp hx hb dL_law_611 ?_
    rw [lg_same]
    refine lv_if_eq (tgt := 617) hx hb dL_law_612 (by decide) (fun _ => ?_) (fun z => absurd rfl z)
    refine lv_goto (tgt := 1840) hx hb dL_law_617 (by decide) ?_
    exact l_back hC hK (f := (vp_updL f 0 ((r_X1_pass w b n T w2 b2 n2 T2 x1)).toInt64)) hok (hs0 he) hw (lv_sub hl [2, 3, 4, 5, 6] rfl) (by omega) (by omega)
set_option maxHeartbeats 4000000 in
set_option maxRecDepth 100000 in
theorem l_case_feverOf {p : Program} {l : Launch} {e : Env} {s : State} {m : MethodId} {below : List Frame} {meth : Method} {c0 : Code} {b0 L : Nat} {xs : Nat → Int32} {D : va_G} {cI cZ cL : ClassId} {h hm o : Nat} {a a2 am am2 : Nat → Nat} (hC : LC p s m meth c0 b0 L xs D cI cZ cL) (hst : l.stackTraces = false) {c : Nat} (hcL : c + 3 ≤ L) (hL : L ≤ 1536) (hK : LH p l e s m below meth c0 b0 D cI cZ cL h hm o a a2 am am2 (c + 3)) {H : Heap} {locs : List Loc} {ls : Array Slot} {th : Int32} {w b n : Nat} {T : ct_T} {M : mt_T} {w2 b2 n2 : Nat} {T2 : ct_T} {w3 b3 n3 : Nat} {M2 : mt_T} {f : Nat → Int64} (hok : Lok w b n w2 b2 n2 w3 b3 n3) (hR : RR w b n T M) (hw : Wo D (fun q => s.heap.size ≤ q) s.heap (Lw cI cZ cL h hm o a a2 am am2 th w b n T M w2 b2 n2 T2 w3 b3 n3 M2 f) H locs) (hl : lv_has ls 9 [(4, .int (nI c)), (0, .ref b0), (1, .ref h), (2, .ref hm), (3, .ref o)]) : W p l e room_1 s m #[Value.ref b0] below meth c0 H locs (60 + c) (700 + 6 * c) (lw_Z below #[Value.ref b0] s) (F0 m 620 ls []) := by
  obtain ⟨hc, hTx, hX, hb0⟩ := id hC
  obtain ⟨hx, hb, hr, hml, hown, hts, hlk, hK9, hA⟩ := id hc
  obtain ⟨⟨o1, o2, o3⟩, ⟨o4, o5, o6⟩, ⟨o7, o8, o9⟩⟩ := id hok
  have hbA : ¬ (fun q : Nat => s.heap.size ≤ q) b0 := Nat.not_le.mpr hb0
  obtain ⟨x1, ex1⟩ : ∃ x : Int32, xs (nI (c + 1)).toNatClampNeg = x := ⟨_, rfl⟩
  have hop := op_feverOf (w2 := w2) (b2 := b2) (n2 := n2) (T2 := T2) (w3 := w3) (b3 := b3) (n3 := n3) (M2 := M2) (th := th) o1 o2 o3 hR x1
  obtain ⟨hcd, hk, hv⟩ := hop
  refine lv_aload_n hx hb dL_law_620 rfl (lv_at hl 2 rfl) ?_
  refine lv_aload_n hx hb dL_law_621 rfl (lv_at hl 1 rfl) ?_
  refine lv_iload hx hb dL_law_622 (lv_at hl 0 rfl) ?_
  refine lv_iconst (v := 1) hx hb dL_law_624 (by decide) ?_
  refine lv_iadd hx hb dL_law_625 ?_
  rw [show nI c + 1 = nI (c + 1) from nI_add c 1]
  refine va_sld hx hb hX hb0 hbA hw.2.2 (vp_in_nI (show c + 1 < L by omega) (by omega)) dL_law_626 ?_
  rw [ex1]
  refine lv_aload_n hx hb dL_law_627 rfl (lv_at hl 4 rfl) ?_
  have hL1 := k_L_feverOf D cI cZ cL h o x1 f (w0 := wb_c h a a2 cI cZ w b n T w2 b2 n2 T2) (w1 := wb_c h a a2 cI cZ w b n T w2 b2 n2 T2) rfl rfl (wo_X1_H ..) hcd (k_X1_feverOf hst D cI cZ cL h a a2 w b n T w2 b2 n2 T2 o1 o2 o3 o4 o5 o6 x1)
  rw [hk] at hL1
  refine pl_callS (n := 3) (As := [.ref h, .int x1, .ref o]) (rest := []) hc hTx hw.2.2 (Pt.back (pre := wb_m hm am am2 cI th w b n M w3 b3 n3 M2) (wc := wb_c h a a2 cI cZ w b n T w2 b2 n2 T2 ++ [(o, .inl (cL, 1, .inr (.inl f)))]) hw hA) hL1 gL_law_L_feverOf rfl (by decide +kernel) ⟨Nat.le_of_ble_eq_true rfl, Nat.le_of_ble_eq_true rfl⟩ rfl rfl hl.1 (Nat.le_of_ble_eq_true rfl) (st1 := [.int (t_X3_feverOf th w b n M w3 b3 n3 M2 x1)]) rfl dL_law_628 (k2 := 60 + c + 1) (s2 := 700 + 6 * c + 6) rfl rfl ⟨(Nat.le_trans (show 60 + c + 1 ≤ 20000 by omega) (Nat.le_of_ble_eq_true rfl)), (Nat.le_trans (show 700 + 6 * c + 6 ≤ 40000 by omega) (Nat.le_of_ble_eq_true rfl))⟩ (fun H locs hw => ?_)
  refine lv_istore (lv' := [(5, .int (t_X3_feverOf th w b n M w3 b3 n3 M2 x1)), (4, .int (nI c)), (0, .ref b0), (1, .ref h), (2, .ref hm), (3, .ref o)]) hx hb dL_law_631 hl (by decide) rfl (fun ls hl => ?_)
  refine lv_aload_n hx hb dL_law_633 rfl (lv_at hl 4 rfl) ?_
  refine lv_aload_n hx hb dL_law_634 rfl (lv_at hl 2 rfl) ?_
  refine lv_iload hx hb dL_law_635 (lv_at hl 1 rfl) ?_
  refine lv_iconst (v := 1) hx hb dL_law_637 (by decide) ?_
  refine lv_iadd hx hb dL_law_638 ?_
  rw [show nI c + 1 = nI (c + 1) from nI_add c 1]
  refine va_sld hx hb hX hb0 hbA hw.2.2 (vp_in_nI (show c + 1 < L by omega) (by omega)) dL_law_639 ?_
  rw [ex1]
  refine p_callV (n := 1) (As := [.int x1]) (rest := []) (q0 := 0) hc hw.2.2 (Pt.front (wc := wb_m hm am am2 cI th w b n M w3 b3 n3 M2) hw hA) (k_X3_feverOf l D cI cZ cL hm am am2 th w b n M w3 b3 n3 M2 o1 o2 o3 o7 o8 o9 x1) gL_law_X3_feverOf rfl (by decide +kernel) ⟨Nat.le_of_ble_eq_true rfl, Nat.le_of_ble_eq_true rfl⟩ (wo_X3_H ..) rfl rfl rfl rfl hl.1 (Nat.le_of_ble_eq_true rfl) (st1 := [.int (r_X3_feverOf th w b n M w3 b3 n3 M2 x1)]) rfl dL_law_640 (k2 := 60 + c + 1 + 0) (s2 := 700 + 6 * c + 6 + 0) rfl rfl ⟨(Nat.le_trans (show 60 + c + 1 + 0 ≤ 20000 by omega) (Nat.le_of_ble_eq_true rfl)), (Nat.le_trans (show 700 + 6 * c + 6 + 0 ≤ 40000 by omega) (Nat.le_of_ble_eq_true rfl))⟩ (fun H locs hw => ?_)
  refine lv_istore (lv' := [(6, .int (r_X3_feverOf th w b n M w3 b3 n3 M2 x1)), (5, .int (t_X3_feverOf th w b n M w3 b3 n3 M2 x1)), (4, .int (nI c)), (0, .ref b0), (1, .ref h), (2, .ref hm), (3, .ref o)]) hx hb dL_law_643 hl (by decide) rfl (fun ls hl => ?_)
  refine lv_aload_n hx hb dL_law_645 rfl (lv_at hl 5 rfl) ?_
  refine p_callV (n := 0) (As := []) (rest := []) (q0 := 0) hc hw.2.2 (Pt.front (wc := wb_m hm am am2 cI (t_X3_feverOf th w b n M w3 b3 n3 M2 x1) w b n M w3 b3 n3 M2) hw hA) (k_X3_thrown l D cI cZ cL hm am am2 (t_X3_feverOf th w b n M w3 b3 n3 M2 x1) w b n M w3 b3 n3 M2 o1 o2 o3 o7 o8 o9) gL_law_X3_thrown rfl (by decide +kernel) ⟨Nat.le_of_ble_eq_true rfl, Nat.le_of_ble_eq_true rfl⟩ (wo_X3_H ..) rfl rfl rfl rfl hl.1 (Nat.le_of_ble_eq_true rfl) (st1 := [.int (t_X3_feverOf th w b n M w3 b3 n3 M2 x1)]) rfl dL_law_646 (k2 := 60 + c + 1 + 0) (s2 := 700 + 6 * c + 6 + 0) rfl rfl ⟨(Nat.le_trans (show 60 + c + 1 + 0 ≤ 20000 by omega) (Nat.le_of_ble_eq_true rfl)), (Nat.le_trans (show 700 + 6 * c + 6 + 0 ≤ 40000 by omega) (Nat.le_of_ble_eq_true rfl))⟩ (fun H locs hw => ?_)
  refine lv_iload hx hb dL_law_649 (lv_at hl 1 rfl) ?_
  refine lv_icmp_eq (tgt := 656) hx hb dL_law_651 (by decide) (fun _ => ?_) (fun z => absurd rfl z)
  refine lv_iload hx hb dL_law_656 (lv_at hl 1 rfl) ?_
  refine lv_if_ne (tgt := 673) hx hb dL_law_658 (by decide) (fun z => ?_) (fun z => ?_)
  · have he : ¬ e_X1_feverOf w b n T w2 b2 n2 T2 x1 = 0 := fun y => z (by rw [← hk, if_pos y])
    rw [if_neg he] at hw
    refine lv_goto (tgt := 1840) hx hb dL_law_673 (by decide) ?_
    exact l_back hC hK (f := f) hok hR hw (lv_sub hl [2, 3, 4, 5, 6] rfl) (by omega) (by omega)
  · have he : e_X1_feverOf w b n T w2 b2 n2 T2 x1 = 0 := by
      by_cases y : e_X1_feverOf w b n T w2 b2 n2 T2 x1 = 0
      · exact y
      · rw [← hk, if_neg y] at z; exfalso; revert z; (repeat' split) <;> decide
    rw [if_pos he] at hw
    refine lv_aload_n hx hb dL_law_661 rfl (lv_at hl 6 rfl) ?_
    refine lv_iconst (v := 0) hx hb dL_law_662 (by decide) ?_
    refine g_lald (f := (vp_updL f 0 ((r_X1_feverOf w b n T w2 b2 n2 T2 x1)).toInt64)) hc hw 40 rfl (show vp_in (0 : Int32) 1 by unfold vp_in; decide) dL_law_663 ?_
    rw [show (vp_updL f 0 ((r_X1_feverOf w b n T w2 b2 n2 T2 x1)).toInt64) (0 : Int32).toNatClampNeg = ((r_X1_feverOf w b n T w2 b2 n2 T2 x1)).toInt64 from rfl, hv he]
    refine lv_iload hx hb dL_law_664 (lv_at hl 0 rfl) ?_
    refine lv_i2l (v := ((r_X3_feverOf th w b n M w3 b3 n3 M2 x1)).toInt64) hx hb dL_law_666 rfl ?_
    refine W.lcmp hx hb dL_law_667 ?_
    rw [lg_same]
    refine lv_if_eq (tgt := 673) hx hb dL_law_668 (by decide) (fun _ => ?_) (fun z => absurd rfl z)
    refine lv_goto (tgt := 1840) hx hb dL_law_673 (by decide) ?_
    exact l_back hC hK (f := (vp_updL f 0 ((r_X1_feverOf w b n T w2 b2 n2 T2 x1)).toInt64)) hok hR hw (lv_sub hl [2, 3, 4, 5, 6] rfl) (by omega) (by omega)
set_option maxHeartbeats 4000000 in
set_option maxRecDepth 100000 in
theorem l_case_wardOf {p : Program} {l : Launch} {e : Env} {s : State} {m : MethodId} {below : List Frame} {meth : Method} {c0 : Code} {b0 L : Nat} {xs : Nat → Int32} {D : va_G} {cI cZ cL : ClassId} {h hm o : Nat} {a a2 am am2 : Nat → Nat} (hC : LC p s m meth c0 b0 L xs D cI cZ cL) (hst : l.stackTraces = false) {c : Nat} (hcL : c + 3 ≤ L) (hL : L ≤ 1536) (hK : LH p l e s m below meth c0 b0 D cI cZ cL h hm o a a2 am am2 (c + 3)) {H : Heap} {locs : List Loc} {ls : Array Slot} {th : Int32} {w b n : Nat} {T : ct_T} {M : mt_T} {w2 b2 n2 : Nat} {T2 : ct_T} {w3 b3 n3 : Nat} {M2 : mt_T} {f : Nat → Int64} (hok : Lok w b n w2 b2 n2 w3 b3 n3) (hR : RR w b n T M) (hw : Wo D (fun q => s.heap.size ≤ q) s.heap (Lw cI cZ cL h hm o a a2 am am2 th w b n T M w2 b2 n2 T2 w3 b3 n3 M2 f) H locs) (hl : lv_has ls 9 [(4, .int (nI c)), (0, .ref b0), (1, .ref h), (2, .ref hm), (3, .ref o)]) : W p l e room_1 s m #[Value.ref b0] below meth c0 H locs (60 + c) (700 + 6 * c) (lw_Z below #[Value.ref b0] s) (F0 m 676 ls []) := by
  obtain ⟨hc, hTx, hX, hb0⟩ := id hC
  obtain ⟨hx, hb, hr, hml, hown, hts, hlk, hK9, hA⟩ := id hc
  obtain ⟨⟨o1, o2, o3⟩, ⟨o4, o5, o6⟩, ⟨o7, o8, o9⟩⟩ := id hok
  have hbA : ¬ (fun q : Nat => s.heap.size ≤ q) b0 := Nat.not_le.mpr hb0
  obtain ⟨x1, ex1⟩ : ∃ x : Int32, xs (nI (c + 1)).toNatClampNeg = x := ⟨_, rfl⟩
  have hop := op_wardOf (w2 := w2) (b2 := b2) (n2 := n2) (T2 := T2) (w3 := w3) (b3 := b3) (n3 := n3) (M2 := M2) (th := th) o1 o2 o3 hR x1
  obtain ⟨hcd, hk, hv⟩ := hop
  refine lv_aload_n hx hb dL_law_676 rfl (lv_at hl 2 rfl) ?_
  refine lv_aload_n hx hb dL_law_677 rfl (lv_at hl 1 rfl) ?_
  refine lv_iload hx hb dL_law_678 (lv_at hl 0 rfl) ?_
  refine lv_iconst (v := 1) hx hb dL_law_680 (by decide) ?_
  refine lv_iadd hx hb dL_law_681 ?_
  rw [show nI c + 1 = nI (c + 1) from nI_add c 1]
  refine va_sld hx hb hX hb0 hbA hw.2.2 (vp_in_nI (show c + 1 < L by omega) (by omega)) dL_law_682 ?_
  rw [ex1]
  refine lv_aload_n hx hb dL_law_683 rfl (lv_at hl 4 rfl) ?_
  have hL1 := k_L_wardOf D cI cZ cL h o x1 f (w0 := wb_c h a a2 cI cZ w b n T w2 b2 n2 T2) (w1 := wb_c h a a2 cI cZ w b n T w2 b2 n2 T2) rfl rfl (wo_X1_H ..) hcd (k_X1_wardOf hst D cI cZ cL h a a2 w b n T w2 b2 n2 T2 o1 o2 o3 o4 o5 o6 x1)
  rw [hk] at hL1
  refine pl_callS (n := 3) (As := [.ref h, .int x1, .ref o]) (rest := []) hc hTx hw.2.2 (Pt.back (pre := wb_m hm am am2 cI th w b n M w3 b3 n3 M2) (wc := wb_c h a a2 cI cZ w b n T w2 b2 n2 T2 ++ [(o, .inl (cL, 1, .inr (.inl f)))]) hw hA) hL1 gL_law_L_wardOf rfl (by decide +kernel) ⟨Nat.le_of_ble_eq_true rfl, Nat.le_of_ble_eq_true rfl⟩ rfl rfl hl.1 (Nat.le_of_ble_eq_true rfl) (st1 := [.int (t_X3_wardOf th w b n M w3 b3 n3 M2 x1)]) rfl dL_law_684 (k2 := 60 + c + 1) (s2 := 700 + 6 * c + 6) rfl rfl ⟨(Nat.le_trans (show 60 + c + 1 ≤ 20000 by omega) (Nat.le_of_ble_eq_true rfl)), (Nat.le_trans (show 700 + 6 * c + 6 ≤ 40000 by omega) (Nat.le_of_ble_eq_true rfl))⟩ (fun H locs hw => ?_)
  refine lv_istore (lv' := [(5, .int (t_X3_wardOf th w b n M w3 b3 n3 M2 x1)), (4, .int (nI c)), (0, .ref b0), (1, .ref h), (2, .ref hm), (3, .ref o)]) hx hb dL_law_687 hl (by decide) rfl (fun ls hl => ?_)
  refine lv_aload_n hx hb dL_law_689 rfl (lv_at hl 4 rfl) ?_
  refine lv_aload_n hx hb dL_law_690 rfl (lv_at hl 2 rfl) ?_
  refine lv_iload hx hb dL_law_691 (lv_at hl 1 rfl) ?_
  refine lv_iconst (v := 1) hx hb dL_law_693 (by decide) ?_
  refine lv_iadd hx hb dL_law_694 ?_
  rw [show nI c + 1 = nI (c + 1) from nI_add c 1]
  refine va_sld hx hb hX hb0 hbA hw.2.2 (vp_in_nI (show c + 1 < L by omega) (by omega)) dL_law_695 ?_
  rw [ex1]
  refine p_callV (n := 1) (As := [.int x1]) (rest := []) (q0 := 0) hc hw.2.2 (Pt.front (wc := wb_m hm am am2 cI th w b n M w3 b3 n3 M2) hw hA) (k_X3_wardOf l D cI cZ cL hm am am2 th w b n M w3 b3 n3 M2 o1 o2 o3 o7 o8 o9 x1) gL_law_X3_wardOf rfl (by decide +kernel) ⟨Nat.le_of_ble_eq_true rfl, Nat.le_of_ble_eq_true rfl⟩ (wo_X3_H ..) rfl rfl rfl rfl hl.1 (Nat.le_of_ble_eq_true rfl) (st1 := [.int (r_X3_wardOf th w b n M w3 b3 n3 M2 x1)]) rfl dL_law_696 (k2 := 60 + c + 1 + 0) (s2 := 700 + 6 * c + 6 + 0) rfl rfl ⟨(Nat.le_trans (show 60 + c + 1 + 0 ≤ 20000 by omega) (Nat.le_of_ble_eq_true rfl)), (Nat.le_trans (show 700 + 6 * c + 6 + 0 ≤ 40000 by omega) (Nat.le_of_ble_eq_true rfl))⟩ (fun H locs hw => ?_)
  refine lv_istore (lv' := [(6, .int (r_X3_wardOf th w b n M w3 b3 n3 M2 x1)), (5, .int (t_X3_wardOf th w b n M w3 b3 n3 M2 x1)), (4, .int (nI c)), (0, .ref b0), (1, .ref h), (2, .ref hm), (3, .ref o)]) hx hb dL_law_699 hl (by decide) rfl (fun ls hl => ?_)
  refine lv_aload_n hx hb dL_law_701 rfl (lv_at hl 5 rfl) ?_
  refine p_callV (n := 0) (As := []) (rest := []) (q0 := 0) hc hw.2.2 (Pt.front (wc := wb_m hm am am2 cI (t_X3_wardOf th w b n M w3 b3 n3 M2 x1) w b n M w3 b3 n3 M2) hw hA) (k_X3_thrown l D cI cZ cL hm am am2 (t_X3_wardOf th w b n M w3 b3 n3 M2 x1) w b n M w3 b3 n3 M2 o1 o2 o3 o7 o8 o9) gL_law_X3_thrown rfl (by decide +kernel) ⟨Nat.le_of_ble_eq_true rfl, Nat.le_of_ble_eq_true rfl⟩ (wo_X3_H ..) rfl rfl rfl rfl hl.1 (Nat.le_of_ble_eq_true rfl) (st1 := [.int (t_X3_wardOf th w b n M w3 b3 n3 M2 x1)]) rfl dL_law_702 (k2 := 60 + c + 1 + 0) (s2 := 700 + 6 * c + 6 + 0) rfl rfl ⟨(Nat.le_trans (show 60 + c + 1 + 0 ≤ 20000 by omega) (Nat.le_of_ble_eq_true rfl)), (Nat.le_trans (show 700 + 6 * c + 6 + 0 ≤ 40000 by omega) (Nat.le_of_ble_eq_true rfl))⟩ (fun H locs hw => ?_)
  refine lv_iload hx hb dL_law_705 (lv_at hl 1 rfl) ?_
  refine lv_icmp_eq (tgt := 712) hx hb dL_law_707 (by decide) (fun _ => ?_) (fun z => absurd rfl z)
  refine lv_iload hx hb dL_law_712 (lv_at hl 1 rfl) ?_
  refine lv_if_ne (tgt := 729) hx hb dL_law_714 (by decide) (fun z => ?_) (fun z => ?_)
  · have he : ¬ e_X1_wardOf w b n T w2 b2 n2 T2 x1 = 0 := fun y => z (by rw [← hk, if_pos y])
    rw [if_neg he] at hw
    refine lv_goto (tgt := 1840) hx hb dL_law_729 (by decide) ?_
    exact l_back hC hK (f := f) hok hR hw (lv_sub hl [2, 3, 4, 5, 6] rfl) (by omega) (by omega)
  · have he : e_X1_wardOf w b n T w2 b2 n2 T2 x1 = 0 := by
      by_cases y : e_X1_wardOf w b n T w2 b2 n2 T2 x1 = 0
      · exact y
      · rw [← hk, if_neg y] at z; exfalso; revert z; (repeat' split) <;> decide
    rw [if_pos he] at hw
    refine lv_aload_n hx hb dL_law_717 rfl (lv_at hl 6 rfl) ?_
    refine lv_iconst (v := 0) hx hb dL_law_718 (by decide) ?_
    refine g_lald (f := (vp_updL f 0 ((r_X1_wardOf w b n T w2 b2 n2 T2 x1)).toInt64)) hc hw 40 rfl (show vp_in (0 : Int32) 1 by unfold vp_in; decide) dL_law_719 ?_
    rw [show (vp_updL f 0 ((r_X1_wardOf w b n T w2 b2 n2 T2 x1)).toInt64) (0 : Int32).toNatClampNeg = ((r_X1_wardOf w b n T w2 b2 n2 T2 x1)).toInt64 from rfl, hv he]
    refine lv_iload hx hb dL_law_720 (lv_at hl 0 rfl) ?_
    refine lv_i2l (v := ((r_X3_wardOf th w b n M w3 b3 n3 M2 x1)).toInt64) hx hb dL_law_722 rfl ?_
    refine W.lcmp hx hb dL_law_723 ?_
    rw [lg_same]
    refine lv_if_eq (tgt := 729) hx hb dL_law_724 (by decide) (fun _ => ?_) (fun z => absurd rfl z)
    refine lv_goto (tgt := 1840) hx hb dL_law_729 (by decide) ?_
    exact l_back hC hK (f := (vp_updL f 0 ((r_X1_wardOf w b n T w2 b2 n2 T2 x1)).toInt64)) hok hR hw (lv_sub hl [2, 3, 4, 5, 6] rfl) (by omega) (by omega)
set_option maxHeartbeats 4000000 in
set_option maxRecDepth 100000 in
theorem l_case_bargeOf {p : Program} {l : Launch} {e : Env} {s : State} {m : MethodId} {below : List Frame} {meth : Method} {c0 : Code} {b0 L : Nat} {xs : Nat → Int32} {D : va_G} {cI cZ cL : ClassId} {h hm o : Nat} {a a2 am am2 : Nat → Nat} (hC : LC p s m meth c0 b0 L xs D cI cZ cL) (hst : l.stackTraces = false) {c : Nat} (hcL : c + 3 ≤ L) (hL : L ≤ 1536) (hK : LH p l e s m below meth c0 b0 D cI cZ cL h hm o a a2 am am2 (c + 3)) {H : Heap} {locs : List Loc} {ls : Array Slot} {th : Int32} {w b n : Nat} {T : ct_T} {M : mt_T} {w2 b2 n2 : Nat} {T2 : ct_T} {w3 b3 n3 : Nat} {M2 : mt_T} {f : Nat → Int64} (hok : Lok w b n w2 b2 n2 w3 b3 n3) (hR : RR w b n T M) (hw : Wo D (fun q => s.heap.size ≤ q) s.heap (Lw cI cZ cL h hm o a a2 am am2 th w b n T M w2 b2 n2 T2 w3 b3 n3 M2 f) H locs) (hl : lv_has ls 9 [(4, .int (nI c)), (0, .ref b0), (1, .ref h), (2, .ref hm), (3, .ref o)]) : W p l e room_1 s m #[Value.ref b0] below meth c0 H locs (60 + c) (700 + 6 * c) (lw_Z below #[Value.ref b0] s) (F0 m 732 ls []) := by
  obtain ⟨hc, hTx, hX, hb0⟩ := id hC
  obtain ⟨hx, hb, hr, hml, hown, hts, hlk, hK9, hA⟩ := id hc
  obtain ⟨⟨o1, o2, o3⟩, ⟨o4, o5, o6⟩, ⟨o7, o8, o9⟩⟩ := id hok
  have hbA : ¬ (fun q : Nat => s.heap.size ≤ q) b0 := Nat.not_le.mpr hb0
  obtain ⟨x1, ex1⟩ : ∃ x : Int32, xs (nI (c + 1)).toNatClampNeg = x := ⟨_, rfl⟩
  have hop := op_bargeOf (w2 := w2) (b2 := b2) (n2 := n2) (T2 := T2) (w3 := w3) (b3 := b3) (n3 := n3) (M2 := M2) (th := th) o1 o2 o3 hR x1
  obtain ⟨hcd, hk, hv⟩ := hop
  refine lv_aload_n hx hb dL_law_732 rfl (lv_at hl 2 rfl) ?_
  refine lv_aload_n hx hb dL_law_733 rfl (lv_at hl 1 rfl) ?_
  refine lv_iload hx hb dL_law_734 (lv_at hl 0 rfl) ?_
  refine lv_iconst (v := 1) hx hb dL_law_736 (by decide) ?_
  refine lv_iadd hx hb dL_law_737 ?_
  rw [show nI c + 1 = nI (c + 1) from nI_add c 1]
  refine va_sld hx hb hX hb0 hbA hw.2.2 (vp_in_nI (show c + 1 < L by omega) (by omega)) dL_law_738 ?_
  rw [ex1]
  refine lv_aload_n hx hb dL_law_739 rfl (lv_at hl 4 rfl) ?_
  have hL1 := k_L_bargeOf D cI cZ cL h o x1 f (w0 := wb_c h a a2 cI cZ w b n T w2 b2 n2 T2) (w1 := wb_c h a a2 cI cZ w b n T w2 b2 n2 T2) rfl rfl (wo_X1_H ..) hcd (k_X1_bargeOf hst D cI cZ cL h a a2 w b n T w2 b2 n2 T2 o1 o2 o3 o4 o5 o6 x1)
  rw [hk] at hL1
  refine pl_callS (n := 3) (As := [.ref h, .int x1, .ref o]) (rest := []) hc hTx hw.2.2 (Pt.back (pre := wb_m hm am am2 cI th w b n M w3 b3 n3 M2) (wc := wb_c h a a2 cI cZ w b n T w2 b2 n2 T2 ++ [(o, .inl (cL, 1, .inr (.inl f)))]) hw hA) hL1 gL_law_L_bargeOf rfl (by decide +kernel) ⟨Nat.le_of_ble_eq_true rfl, Nat.le_of_ble_eq_true rfl⟩ rfl rfl hl.1 (Nat.le_of_ble_eq_true rfl) (st1 := [.int (t_X3_bargeOf th w b n M w3 b3 n3 M2 x1)]) rfl dL_law_740 (k2 := 60 + c + 1) (s2 := 700 + 6 * c + 6) rfl rfl ⟨(Nat.le_trans (show 60 + c + 1 ≤ 20000 by omega) (Nat.le_of_ble_eq_true rfl)), (Nat.le_trans (show 700 + 6 * c + 6 ≤ 40000 by omega) (Nat.le_of_ble_eq_true rfl))⟩ (fun H locs hw => ?_)
  refine lv_istore (lv' := [(5, .int (t_X3_bargeOf th w b n M w3 b3 n3 M2 x1)), (4, .int (nI c)), (0, .ref b0), (1, .ref h), (2, .ref hm), (3, .ref o)]) hx hb dL_law_743 hl (by decide) rfl (fun ls hl => ?_)
  refine lv_aload_n hx hb dL_law_745 rfl (lv_at hl 4 rfl) ?_
  refine lv_aload_n hx hb dL_law_746 rfl (lv_at hl 2 rfl) ?_
  refine lv_iload hx hb dL_law_747 (lv_at hl 1 rfl) ?_
  refine lv_iconst (v := 1) hx hb dL_law_749 (by decide) ?_
  refine lv_iadd hx hb dL_law_750 ?_
  rw [show nI c + 1 = nI (c + 1) from nI_add c 1]
  refine va_sld hx hb hX hb0 hbA hw.2.2 (vp_in_nI (show c + 1 < L by omega) (by omega)) dL_law_751 ?_
  rw [ex1]
  refine p_callV (n := 1) (As := [.int x1]) (rest := []) (q0 := 0) hc hw.2.2 (Pt.front (wc := wb_m hm am am2 cI th w b n M w3 b3 n3 M2) hw hA) (k_X3_bargeOf l D cI cZ cL hm am am2 th w b n M w3 b3 n3 M2 o1 o2 o3 o7 o8 o9 x1) gL_law_X3_bargeOf rfl (by decide +kernel) ⟨Nat.le_of_ble_eq_true rfl, Nat.le_of_ble_eq_true rfl⟩ (wo_X3_H ..) rfl rfl rfl rfl hl.1 (Nat.le_of_ble_eq_true rfl) (st1 := [.int (r_X3_bargeOf th w b n M w3 b3 n3 M2 x1)]) rfl dL_law_752 (k2 := 60 + c + 1 + 0) (s2 := 700 + 6 * c + 6 + 0) rfl rfl ⟨(Nat.le_trans (show 60 + c + 1 + 0 ≤ 20000 by omega) (Nat.le_of_ble_eq_true rfl)), (Nat.le_trans (show 700 + 6 * c + 6 + 0 ≤ 40000 by omega) (Nat.le_of_ble_eq_true rfl))⟩ (fun H locs hw => ?_)
  refine lv_istore (lv' := [(6, .int (r_X3_bargeOf th w b n M w3 b3 n3 M2 x1)), (5, .int (t_X3_bargeOf th w b n M w3 b3 n3 M2 x1)), (4, .int (nI c)), (0, .ref b0), (1, .ref h), (2, .ref hm), (3, .ref o)]) hx hb dL_law_755 hl (by decide) rfl (fun ls hl => ?_)
  refine lv_aload_n hx hb dL_law_757 rfl (lv_at hl 5 rfl) ?_
  refine p_callV (n := 0) (As := []) (rest := []) (q0 := 0) hc hw.2.2 (Pt.front (wc := wb_m hm am am2 cI (t_X3_bargeOf th w b n M w3 b3 n3 M2 x1) w b n M w3 b3 n3 M2) hw hA) (k_X3_thrown l D cI cZ cL hm am am2 (t_X3_bargeOf th w b n M w3 b3 n3 M2 x1) w b n M w3 b3 n3 M2 o1 o2 o3 o7 o8 o9) gL_law_X3_thrown rfl (by decide +kernel) ⟨Nat.le_of_ble_eq_true rfl, Nat.le_of_ble_eq_true rfl⟩ (wo_X3_H ..) rfl rfl rfl rfl hl.1 (Nat.le_of_ble_eq_true rfl) (st1 := [.int (t_X3_bargeOf th w b n M w3 b3 n3 M2 x1)]) rfl dL_law_758 (k2 := 60 + c + 1 + 0) (s2 := 700 + 6 * c + 6 + 0) rfl rfl ⟨(Nat.le_trans (show 60 + c + 1 + 0 ≤ 20000 by omega) (Nat.le_of_ble_eq_true rfl)), (Nat.le_trans (show 700 + 6 * c + 6 + 0 ≤ 40000 by omega) (Nat.le_of_ble_eq_true rfl))⟩ (fun H locs hw => ?_)
  refine lv_iload hx hb dL_law_761 (lv_at hl 1 rfl) ?_
  refine lv_icmp_eq (tgt := 768) hx hb dL_law_763 (by decide) (fun _ => ?_) (fun z => absurd rfl z)
  refine lv_iload hx hb dL_law_768 (lv_at hl 1 rfl) ?_
  refine lv_if_ne (tgt := 785) hx hb dL_law_770 (by decide) (fun z => ?_) (fun z => ?_)
  · have he : ¬ e_X1_bargeOf w b n T w2 b2 n2 T2 x1 = 0 := fun y => z (by rw [← hk, if_pos y])
    rw [if_neg he] at hw
    refine lv_goto (tgt := 1840) hx hb dL_law_785 (by decide) ?_
    exact l_back hC hK (f := f) hok hR hw (lv_sub hl [2, 3, 4, 5, 6] rfl) (by omega) (by omega)
  · have he : e_X1_bargeOf w b n T w2 b2 n2 T2 x1 = 0 := by
      by_cases y : e_X1_bargeOf w b n T w2 b2 n2 T2 x1 = 0
      · exact y
      · rw [← hk, if_neg y] at z; exfalso; revert z; (repeat' split) <;> decide
    rw [if_pos he] at hw
    refine lv_aload_n hx hb dL_law_773 rfl (lv_at hl 6 rfl) ?_
    refine lv_iconst (v := 0) hx hb dL_law_774 (by decide) ?_
    refine g_lald (f := (vp_updL f 0 ((r_X1_bargeOf w b n T w2 b2 n2 T2 x1)).toInt64)) hc hw 40 rfl (show vp_in (0 : Int32) 1 by unfold vp_in; decide) dL_law_775 ?_
    rw [show (vp_updL f 0 ((r_X1_bargeOf w b n T w2 b2 n2 T2 x1)).toInt64) (0 : Int32).toNatClampNeg = ((r_X1_bargeOf w b n T w2 b2 n2 T2 x1)).toInt64 from rfl, hv he]
    refine lv_iload hx hb dL_law_776 (lv_at hl 0 rfl) ?_
    refine lv_i2l (v := ((r_X3_bargeOf th w b n M w3 b3 n3 M2 x1)).toInt64) hx hb dL_law_778 rfl ?_
    refine W.lcmp hx hb dL_law_779 ?_
    rw [lg_same]
    refine lv_if_eq (tgt := 785) hx hb dL_law_780 (by decide) (fun _ => ?_) (fun z => absurd rfl z)
    refine lv_goto (tgt := 1840) hx hb dL_law_785 (by decide) ?_
    exact l_back hC hK (f := (vp_updL f 0 ((r_X1_bargeOf w b n T w2 b2 n2 T2 x1)).toInt64)) hok hR hw (lv_sub hl [2, 3, 4, 5, 6] rfl) (by omega) (by omega)