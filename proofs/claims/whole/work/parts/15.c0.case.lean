set_option maxHeartbeats 4000000 in
set_option maxRecDepth 100000 in
theorem l_case_addWard {p : Program} {l : Launch} {e : Env} {s : State} {m : MethodId} {below : List Frame} {meth : Method} {c0 : Code} {b0 L : Nat} {xs : Nat → Int32} {D : va_G} {cI cZ cL : ClassId} {h hm o : Nat} {a a2 am am2 : Nat → Nat} (hC : LC p s m meth c0 b0 L xs D cI cZ cL) (hst : l.stackTraces = false) {c : Nat} (hcL : c + 3 ≤ L) (hL : L ≤ 1536) (hK : LH p l e s m below meth c0 b0 D cI cZ cL h hm o a a2 am am2 (c + 3)) {H : Heap} {locs : List Loc} {ls : Array Slot} {th : Int32} {w b n : Nat} {T : ct_T} {M : mt_T} {w2 b2 n2 : Nat} {T2 : ct_T} {w3 b3 n3 : Nat} {M2 : mt_T} {f : Nat → Int64} (hok : Lok w b n w2 b2 n2 w3 b3 n3) (hR : RR w b n T M) (hw : Wo D (fun q => s.heap.size ≤ q) s.heap (Lw cI cZ cL h hm o a a2 am am2 th w b n T M w2 b2 n2 T2 w3 b3 n3 M2 f) H locs) (hl : lv_has ls 9 [(4, .int (nI c)), (0, .ref b0), (1, .ref h), (2, .ref hm), (3, .ref o)]) : W p l e room_1 s m #[Value.ref b0] below meth c0 H locs (60 + c) (700 + 6 * c) (lw_Z below #[Value.ref b0] s) (F0 m 204 ls []) := by
  obtain ⟨hc, hTx, hX, hb0⟩ := id hC
  obtain ⟨hx, hb, hr, hml, hown, hts, hlk, hK9, hA⟩ := id hc
  obtain ⟨⟨o1, o2, o3⟩, ⟨o4, o5, o6⟩, ⟨o7, o8, o9⟩⟩ := id hok
  have hbA : ¬ (fun q : Nat => s.heap.size ≤ q) b0 := Nat.not_le.mpr hb0
  obtain ⟨x1, ex1⟩ : ∃ x : Int32, xs (nI (c + 1)).toNatClampNeg = x := ⟨_, rfl⟩
  have hop := op_addWard (w2 := w2) (b2 := b2) (n2 := n2) (T2 := T2) (w3 := w3) (b3 := b3) (n3 := n3) (M2 := M2) (th := th) o1 o2 o3 hR x1
  obtain ⟨hcd, hk, hv, hs0, hs1⟩ := hop
  refine lv_aload_n hx hb dL_law_204 rfl (lv_at hl 2 rfl) ?_
  refine lv_aload_n hx hb dL_law_205 rfl (lv_at hl 1 rfl) ?_
  refine lv_iload hx hb dL_law_206 (lv_at hl 0 rfl) ?_
  refine lv_iconst (v := 1) hx hb dL_law_208 (by decide) ?_
  refine lv_iadd hx hb dL_law_209 ?_
  rw [show nI c + 1 = nI (c + 1) from nI_add c 1]
  refine va_sld hx hb hX hb0 hbA hw.2.2 (vp_in_nI (show c + 1 < L by omega) (by omega)) dL_law_210 ?_
  rw [ex1]
  refine lv_aload_n hx hb dL_law_211 rfl (lv_at hl 4 rfl) ?_
  have hL1 := k_L_addWard D cI cZ cL h o x1 f (w0 := wb_c h a a2 cI cZ w b n T w2 b2 n2 T2) (w1 := wb_c h a a2 cI cZ (w + 1) b n (s_X1_addWard w b n T w2 b2 n2 T2 x1) w2 b2 n2 T2) rfl rfl (wo_X1_H ..) hcd (k_X1_addWard hst D cI cZ cL h a a2 w b n T w2 b2 n2 T2 o1 o2 o3 o4 o5 o6 x1)
  rw [hk] at hL1
  refine pl_callS (n := 3) (As := [.ref h, .int x1, .ref o]) (rest := []) hc hTx hw.2.2 (Pt.back (pre := wb_m hm am am2 cI th w b n M w3 b3 n3 M2) (wc := wb_c h a a2 cI cZ w b n T w2 b2 n2 T2 ++ [(o, .inl (cL, 1, .inr (.inl f)))]) hw hA) hL1 gL_law_L_addWard rfl (by decide +kernel) ⟨Nat.le_of_ble_eq_true rfl, Nat.le_of_ble_eq_true rfl⟩ rfl rfl hl.1 (Nat.le_of_ble_eq_true rfl) (st1 := [.int (t_X3_addWard th w b n M w3 b3 n3 M2 x1)]) rfl dL_law_212 (k2 := 60 + c + 1) (s2 := 700 + 6 * c + 6) rfl rfl ⟨(Nat.le_trans (show 60 + c + 1 ≤ 20000 by omega) (Nat.le_of_ble_eq_true rfl)), (Nat.le_trans (show 700 + 6 * c + 6 ≤ 40000 by omega) (Nat.le_of_ble_eq_true rfl))⟩ (fun H locs hw => ?_)
  refine lv_istore (lv' := [(5, .int (t_X3_addWard th w b n M w3 b3 n3 M2 x1)), (4, .int (nI c)), (0, .ref b0), (1, .ref h), (2, .ref hm), (3, .ref o)]) hx hb dL_law_215 hl (by decide) rfl (fun ls hl => ?_)
  refine lv_aload_n hx hb dL_law_217 rfl (lv_at hl 4 rfl) ?_
  refine lv_aload_n hx hb dL_law_218 rfl (lv_at hl 2 rfl) ?_
  refine lv_iload hx hb dL_law_219 (lv_at hl 1 rfl) ?_
  refine lv_iconst (v := 1) hx hb dL_law_221 (by decide) ?_
  refine lv_iadd hx hb dL_law_222 ?_
  rw [show nI c + 1 = nI (c + 1) from nI_add c 1]
  refine va_sld hx hb hX hb0 hbA hw.2.2 (vp_in_nI (show c + 1 < L by omega) (by omega)) dL_law_223 ?_
  rw [ex1]
  refine p_callV (n := 1) (As := [.int x1]) (rest := []) (q0 := 0) hc hw.2.2 (Pt.front (wc := wb_m hm am am2 cI th w b n M w3 b3 n3 M2) hw hA) (k_X3_addWard l D cI cZ cL hm am am2 th w b n M w3 b3 n3 M2 o1 o2 o3 o7 o8 o9 x1) gL_law_X3_addWard rfl (by decide +kernel) ⟨Nat.le_of_ble_eq_true rfl, Nat.le_of_ble_eq_true rfl⟩ (wo_X3_H ..) rfl rfl rfl rfl hl.1 (Nat.le_of_ble_eq_true rfl) (st1 := [.int (r_X3_addWard th w b n M w3 b3 n3 M2 x1)]) rfl dL_law_224 (k2 := 60 + c + 1 + 0) (s2 := 700 + 6 * c + 6 + 0) rfl rfl ⟨(Nat.le_trans (show 60 + c + 1 + 0 ≤ 20000 by omega) (Nat.le_of_ble_eq_true rfl)), (Nat.le_trans (show 700 + 6 * c + 6 + 0 ≤ 40000 by omega) (Nat.le_of_ble_eq_true rfl))⟩ (fun H locs hw => ?_)
  refine lv_istore (lv' := [(6, .int (r_X3_addWard th w b n M w3 b3 n3 M2 x1)), (5, .int (t_X3_addWard th w b n M w3 b3 n3 M2 x1)), (4, .int (nI c)), (0, .ref b0), (1, .ref h), (2, .ref hm), (3, .ref o)]) hx hb dL_law_227 hl (by decide) rfl (fun ls hl => ?_)
  refine lv_aload_n hx hb dL_law_229 rfl (lv_at hl 5 rfl) ?_
  have hnd : nw_X3_addWard th w b n M w3 b3 n3 M2 x1 ≤ 5 := by
    by_cases y : e_X1_addWard w b n T w2 b2 n2 T2 x1 = 0
    · rw [(hs0 y).1]; exact (hs0 y).2.1
    · rw [(hs1 y).1]; assumption
  refine p_callV (n := 0) (As := []) (rest := []) (q0 := 0) hc hw.2.2 (Pt.front (wc := wb_m hm am am2 cI (t_X3_addWard th w b n M w3 b3 n3 M2 x1) (nw_X3_addWard th w b n M w3 b3 n3 M2 x1) b n (s_X3_addWard th w b n M w3 b3 n3 M2 x1) w3 b3 n3 M2) hw hA) (k_X3_thrown l D cI cZ cL hm am am2 (t_X3_addWard th w b n M w3 b3 n3 M2 x1) (nw_X3_addWard th w b n M w3 b3 n3 M2 x1) b n (s_X3_addWard th w b n M w3 b3 n3 M2 x1) w3 b3 n3 M2 hnd o2 o3 o7 o8 o9) gL_law_X3_thrown rfl (by decide +kernel) ⟨Nat.le_of_ble_eq_true rfl, Nat.le_of_ble_eq_true rfl⟩ (wo_X3_H ..) rfl rfl rfl rfl hl.1 (Nat.le_of_ble_eq_true rfl) (st1 := [.int (t_X3_addWard th w b n M w3 b3 n3 M2 x1)]) rfl dL_law_230 (k2 := 60 + c + 1 + 0) (s2 := 700 + 6 * c + 6 + 0) rfl rfl ⟨(Nat.le_trans (show 60 + c + 1 + 0 ≤ 20000 by omega) (Nat.le_of_ble_eq_true rfl)), (Nat.le_trans (show 700 + 6 * c + 6 + 0 ≤ 40000 by omega) (Nat.le_of_ble_eq_true rfl))⟩ (fun H locs hw => ?_)
  refine lv_iload hx hb dL_law_233 (lv_at hl 1 rfl) ?_
  refine lv_icmp_eq (tgt := 240) hx hb dL_law_235 (by decide) (fun _ => ?_) (fun z => absurd rfl z)
  refine lv_iload hx hb dL_law_240 (lv_at hl 1 rfl) ?_
  refine lv_if_ne (tgt := 257) hx hb dL_law_242 (by decide) (fun z => ?_) (fun z => ?_)
  · have he : ¬ e_X1_addWard w b n T w2 b2 n2 T2 x1 = 0 := fun y => z (by rw [← hk, if_pos y])
    rw [if_neg he] at hw
    rw [(hs1 he).1] at hw
    refine lv_goto (tgt := 1840) hx hb dL_law_257 (by decide) ?_
    exact l_back hC hK (f := f) hok (hs1 he).2 hw (lv_sub hl [2, 3, 4, 5, 6] rfl) (by omega) (by omega)
  · have he : e_X1_addWard w b n T w2 b2 n2 T2 x1 = 0 := by
      by_cases y : e_X1_addWard w b n T w2 b2 n2 T2 x1 = 0
      · exact y
      · rw [← hk, if_neg y] at z; exfalso; revert z; (repeat' split) <;> decide
    rw [if_pos he] at hw
    rw [(hs0 he).1] at hw
    refine lv_aload_n hx hb dL_law_245 rfl (lv_at hl 6 rfl) ?_
    refine lv_iconst (v := 0) hx hb dL_law_246 (by decide) ?_
    refine g_lald (f := (vp_updL f 0 ((r_X1_addWard w b n T w2 b2 n2 T2 x1)).toInt64)) hc hw 40 rfl (show vp_in (0 : Int32) 1 by unfold vp_in; decide) dL_law_247 ?_
    rw [show (vp_updL f 0 ((r_X1_addWard w b n T w2 b2 n2 T2 x1)).toInt64) (0 : Int32).toNatClampNeg = ((r_X1_addWard w b n T w2 b2 n2 T2 x1)).toInt64 from rfl, hv he]
    refine lv_iload hx hb dL_law_248 (lv_at hl 0 rfl) ?_
    refine lv_i2l (v := ((r_X3_addWard th w b n M w3 b3 n3 M2 x1)).toInt64) hx hb dL_law_250 rfl ?_
    refine W.lcmp hx hb dL_law_251 ?_
    rw [lg_same]
    refine lv_if_eq (tgt := 257) hx hb dL_law_252 (by decide) (fun _ => ?_) (fun z => absurd rfl z)
    refine lv_goto (tgt := 1840) hx hb dL_law_257 (by decide) ?_
    exact l_back hC hK (f := (vp_updL f 0 ((r_X1_addWard w b n T w2 b2 n2 T2 x1)).toInt64)) ⟨⟨(hs0 he).2.1, o2, o3⟩, ⟨o4, o5, o6⟩, ⟨o7, o8, o9⟩⟩ (hs0 he).2.2 hw (lv_sub hl [2, 3, 4, 5, 6] rfl) (by omega) (by omega)
set_option maxHeartbeats 4000000 in
set_option maxRecDepth 100000 in
theorem l_case_addBarge {p : Program} {l : Launch} {e : Env} {s : State} {m : MethodId} {below : List Frame} {meth : Method} {c0 : Code} {b0 L : Nat} {xs : Nat → Int32} {D : va_G} {cI cZ cL : ClassId} {h hm o : Nat} {a a2 am am2 : Nat → Nat} (hC : LC p s m meth c0 b0 L xs D cI cZ cL) (hst : l.stackTraces = false) {c : Nat} (hcL : c + 3 ≤ L) (hL : L ≤ 1536) (hK : LH p l e s m below meth c0 b0 D cI cZ cL h hm o a a2 am am2 (c + 3)) {H : Heap} {locs : List Loc} {ls : Array Slot} {th : Int32} {w b n : Nat} {T : ct_T} {M : mt_T} {w2 b2 n2 : Nat} {T2 : ct_T} {w3 b3 n3 : Nat} {M2 : mt_T} {f : Nat → Int64} (hok : Lok w b n w2 b2 n2 w3 b3 n3) (hR : RR w b n T M) (hw : Wo D (fun q => s.heap.size ≤ q) s.heap (Lw cI cZ cL h hm o a a2 am am2 th w b n T M w2 b2 n2 T2 w3 b3 n3 M2 f) H locs) (hl : lv_has ls 9 [(4, .int (nI c)), (0, .ref b0), (1, .ref h), (2, .ref hm), (3, .ref o)]) : W p l e room_1 s m #[Value.ref b0] below meth c0 H locs (60 + c) (700 + 6 * c) (lw_Z below #[Value.ref b0] s) (F0 m 260 ls []) := by
  obtain ⟨hc, hTx, hX, hb0⟩ := id hC
  obtain ⟨hx, hb, hr, hml, hown, hts, hlk, hK9, hA⟩ := id hc
  obtain ⟨⟨o1, o2, o3⟩, ⟨o4, o5, o6⟩, ⟨o7, o8, o9⟩⟩ := id hok
  have hbA : ¬ (fun q : Nat => s.heap.size ≤ q) b0 := Nat.not_le.mpr hb0
  obtain ⟨x1, ex1⟩ : ∃ x : Int32, xs (nI (c + 1)).toNatClampNeg = x := ⟨_, rfl⟩
  have hop := op_addBarge (w2 := w2) (b2 := b2) (n2 := n2) (T2 := T2) (w3 := w3) (b3 := b3) (n3 := n3) (M2 := M2) (th := th) o1 o2 o3 hR x1
  obtain ⟨hcd, hk, hv, hs0, hs1⟩ := hop
  refine lv_aload_n hx hb dL_law_260 rfl (lv_at hl 2 rfl) ?_
  refine lv_aload_n hx hb dL_law_261 rfl (lv_at hl 1 rfl) ?_
  refine lv_iload hx hb dL_law_262 (lv_at hl 0 rfl) ?_
  refine lv_iconst (v := 1) hx hb dL_law_264 (by decide) ?_
  refine lv_iadd hx hb dL_law_265 ?_
  rw [show nI c + 1 = nI (c + 1) from nI_add c 1]
  refine va_sld hx hb hX hb0 hbA hw.2.2 (vp_in_nI (show c + 1 < L by omega) (by omega)) dL_law_266 ?_
  rw [ex1]
  refine lv_aload_n hx hb dL_law_267 rfl (lv_at hl 4 rfl) ?_
  have hL1 := k_L_addBarge D cI cZ cL h o x1 f (w0 := wb_c h a a2 cI cZ w b n T w2 b2 n2 T2) (w1 := wb_c h a a2 cI cZ w (b + 1) n (s_X1_addBarge w b n T w2 b2 n2 T2 x1) w2 b2 n2 T2) rfl rfl (wo_X1_H ..) hcd (k_X1_addBarge hst D cI cZ cL h a a2 w b n T w2 b2 n2 T2 o1 o2 o3 o4 o5 o6 x1)
  rw [hk] at hL1
  refine pl_callS (n := 3) (As := [.ref h, .int x1, .ref o]) (rest := []) hc hTx hw.2.2 (Pt.back (pre := wb_m hm am am2 cI th w b n M w3 b3 n3 M2) (wc := wb_c h a a2 cI cZ w b n T w2 b2 n2 T2 ++ [(o, .inl (cL, 1, .inr (.inl f)))]) hw hA) hL1 gL_law_L_addBarge rfl (by decide +kernel) ⟨Nat.le_of_ble_eq_true rfl, Nat.le_of_ble_eq_true rfl⟩ rfl rfl hl.1 (Nat.le_of_ble_eq_true rfl) (st1 := [.int (t_X3_addBarge th w b n M w3 b3 n3 M2 x1)]) rfl dL_law_268 (k2 := 60 + c + 1) (s2 := 700 + 6 * c + 6) rfl rfl ⟨(Nat.le_trans (show 60 + c + 1 ≤ 20000 by omega) (Nat.le_of_ble_eq_true rfl)), (Nat.le_trans (show 700 + 6 * c + 6 ≤ 40000 by omega) (Nat.le_of_ble_eq_true rfl))⟩ (fun H locs hw => ?_)
  refine lv_istore (lv' := [(5, .int (t_X3_addBarge th w b n M w3 b3 n3 M2 x1)), (4, .int (nI c)), (0, .ref b0), (1, .ref h), (2, .ref hm), (3, .ref o)]) hx hb dL_law_271 hl (by decide) rfl (fun ls hl => ?_)
  refine lv_aload_n hx hb dL_law_273 rfl (lv_at hl 4 rfl) ?_
  refine lv_aload_n hx hb dL_law_274 rfl (lv_at hl 2 rfl) ?_
  refine lv_iload hx hb dL_law_275 (lv_at hl 1 rfl) ?_
  refine lv_iconst (v := 1) hx hb dL_law_277 (by decide) ?_
  refine lv_iadd hx hb dL_law_278 ?_
  rw [show nI c + 1 = nI (c + 1) from nI_add c 1]
  refine va_sld hx hb hX hb0 hbA hw.2.2 (vp_in_nI (show c + 1 < L by omega) (by omega)) dL_law_279 ?_
  rw [ex1]
  refine p_callV (n := 1) (As := [.int x1]) (rest := []) (q0 := 0) hc hw.2.2 (Pt.front (wc := wb_m hm am am2 cI th w b n M w3 b3 n3 M2) hw hA) (k_X3_addBarge l D cI cZ cL hm am am2 th w b n M w3 b3 n3 M2 o1 o2 o3 o7 o8 o9 x1) gL_law_X3_addBarge rfl (by decide +kernel) ⟨Nat.le_of_ble_eq_true rfl, Nat.le_of_ble_eq_true rfl⟩ (wo_X3_H ..) rfl rfl rfl rfl hl.1 (Nat.le_of_ble_eq_true rfl) (st1 := [.int (r_X3_addBarge th w b n M w3 b3 n3 M2 x1)]) rfl dL_law_280 (k2 := 60 + c + 1 + 0) (s2 := 700 + 6 * c + 6 + 0) rfl rfl ⟨(Nat.le_trans (show 60 + c + 1 + 0 ≤ 20000 by omega) (Nat.le_of_ble_eq_true rfl)), (Nat.le_trans (show 700 + 6 * c + 6 + 0 ≤ 40000 by omega) (Nat.le_of_ble_eq_true rfl))⟩ (fun H locs hw => ?_)
  refine lv_istore (lv' := [(6, .int (r_X3_addBarge th w b n M w3 b3 n3 M2 x1)), (5, .int (t_X3_addBarge th w b n M w3 b3 n3 M2 x1)), (4, .int (nI c)), (0, .ref b0), (1, .ref h), (2, .ref hm), (3, .ref o)]) hx hb dL_law_283 hl (by decide) rfl (fun ls hl => ?_)
  refine lv_aload_n hx hb dL_law_285 rfl (lv_at hl 5 rfl) ?_
  have hnd : nb_X3_addBarge th w b n M w3 b3 n3 M2 x1 ≤ 4 := by
    by_cases y : e_X1_addBarge w b n T w2 b2 n2 T2 x1 = 0
    · rw [(hs0 y).1]; exact (hs0 y).2.1
    · rw [(hs1 y).1]; assumption
  refine p_callV (n := 0) (As := []) (rest := []) (q0 := 0) hc hw.2.2 (Pt.front (wc := wb_m hm am am2 cI (t_X3_addBarge th w b n M w3 b3 n3 M2 x1) w (nb_X3_addBarge th w b n M w3 b3 n3 M2 x1) n (s_X3_addBarge th w b n M w3 b3 n3 M2 x1) w3 b3 n3 M2) hw hA) (k_X3_thrown l D cI cZ cL hm am am2 (t_X3_addBarge th w b n M w3 b3 n3 M2 x1) w (nb_X3_addBarge th w b n M w3 b3 n3 M2 x1) n (s_X3_addBarge th w b n M w3 b3 n3 M2 x1) w3 b3 n3 M2 o1 hnd o3 o7 o8 o9) gL_law_X3_thrown rfl (by decide +kernel) ⟨Nat.le_of_ble_eq_true rfl, Nat.le_of_ble_eq_true rfl⟩ (wo_X3_H ..) rfl rfl rfl rfl hl.1 (Nat.le_of_ble_eq_true rfl) (st1 := [.int (t_X3_addBarge th w b n M w3 b3 n3 M2 x1)]) rfl dL_law_286 (k2 := 60 + c + 1 + 0) (s2 := 700 + 6 * c + 6 + 0) rfl rfl ⟨(Nat.le_trans (show 60 + c + 1 + 0 ≤ 20000 by omega) (Nat.le_of_ble_eq_true rfl)), (Nat.le_trans (show 700 + 6 * c + 6 + 0 ≤ 40000 by omega) (Nat.le_of_ble_eq_true rfl))⟩ (fun H locs hw => ?_)
  refine lv_iload hx hb dL_law_289 (lv_at hl 1 rfl) ?_
  refine lv_icmp_eq (tgt := 296) hx hb dL_law_291 (by decide) (fun _ => ?_) (fun z => absurd rfl z)
  refine lv_iload hx hb dL_law_296 (lv_at hl 1 rfl) ?_
  refine lv_if_ne (tgt := 313) hx hb dL_law_298 (by decide) (fun z => ?_) (fun z => ?_)
  · have he : ¬ e_X1_addBarge w b n T w2 b2 n2 T2 x1 = 0 := fun y => z (by rw [← hk, if_pos y])
    rw [if_neg he] at hw
    rw [(hs1 he).1] at hw
    refine lv_goto (tgt := 1840) hx hb dL_law_313 (by decide) ?_
    exact l_back hC hK (f := f) hok (hs1 he).2 hw (lv_sub hl [2, 3, 4, 5, 6] rfl) (by omega) (by omega)
  · have he : e_X1_addBarge w b n T w2 b2 n2 T2 x1 = 0 := by
      by_cases y : e_X1_addBarge w b n T w2 b2 n2 T2 x1 = 0
      · exact y
      · rw [← hk, if_neg y] at z; exfalso; revert z; (repeat' split) <;> decide
    rw [if_pos he] at hw
    rw [(hs0 he).1] at hw
    refine lv_aload_n hx hb dL_law_301 rfl (lv_at hl 6 rfl) ?_
    refine lv_iconst (v := 0) hx hb dL_law_302 (by decide) ?_
    refine g_lald (f := (vp_updL f 0 ((r_X1_addBarge w b n T w2 b2 n2 T2 x1)).toInt64)) hc hw 40 rfl (show vp_in (0 : Int32) 1 by unfold vp_in; decide) dL_law_303 ?_
    rw [show (vp_updL f 0 ((r_X1_addBarge w b n T w2 b2 n2 T2 x1)).toInt64) (0 : Int32).toNatClampNeg = ((r_X1_addBarge w b n T w2 b2 n2 T2 x1)).toInt64 from rfl, hv he]
    refine lv_iload hx hb dL_law_304 (lv_at hl 0 rfl) ?_
    refine lv_i2l (v := ((r_X3_addBarge th w b n M w3 b3 n3 M2 x1)).toInt64) hx hb dL_law_306 rfl ?_
    refine W.lcmp hx hb dL_law_307 ?_
    rw [lg_same]
    refine lv_if_eq (tgt := 313) hx hb dL_law_308 (by decide) (fun _ => ?_) (fun z => absurd rfl z)
    refine lv_goto (tgt := 1840) hx hb dL_law_313 (by decide) ?_
    exact l_back hC hK (f := (vp_updL f 0 ((r_X1_addBarge w b n T w2 b2 n2 T2 x1)).toInt64)) ⟨⟨o1, (hs0 he).2.1, o3⟩, ⟨o4, o5, o6⟩, ⟨o7, o8, o9⟩⟩ (hs0 he).2.2 hw (lv_sub hl [2, 3, 4, 5, 6] rfl) (by omega) (by omega)
set_option maxHeartbeats 4000000 in
set_option maxRecDepth 100000 in
theorem l_case_board {p : Program} {l : Launch} {e : Env} {s : State} {m : MethodId} {below : List Frame} {meth : Method} {c0 : Code} {b0 L : Nat} {xs : Nat → Int32} {D : va_G} {cI cZ cL : ClassId} {h hm o : Nat} {a a2 am am2 : Nat → Nat} (hC : LC p s m meth c0 b0 L xs D cI cZ cL) (hst : l.stackTraces = false) {c : Nat} (hcL : c + 3 ≤ L) (hL : L ≤ 1536) (hK : LH p l e s m below meth c0 b0 D cI cZ cL h hm o a a2 am am2 (c + 3)) {H : Heap} {locs : List Loc} {ls : Array Slot} {th : Int32} {w b n : Nat} {T : ct_T} {M : mt_T} {w2 b2 n2 : Nat} {T2 : ct_T} {w3 b3 n3 : Nat} {M2 : mt_T} {f : Nat → Int64} (hok : Lok w b n w2 b2 n2 w3 b3 n3) (hR : RR w b n T M) (hw : Wo D (fun q => s.heap.size ≤ q) s.heap (Lw cI cZ cL h hm o a a2 am am2 th w b n T M w2 b2 n2 T2 w3 b3 n3 M2 f) H locs) (hl : lv_has ls 9 [(4, .int (nI c)), (0, .ref b0), (1, .ref h), (2, .ref hm), (3, .ref o)]) : W p l e room_1 s m #[Value.ref b0] below meth c0 H locs (60 + c) (700 + 6 * c) (lw_Z below #[Value.ref b0] s) (F0 m 316 ls []) := by
  obtain ⟨hc, hTx, hX, hb0⟩ := id hC
  obtain ⟨hx, hb, hr, hml, hown, hts, hlk, hK9, hA⟩ := id hc
  obtain ⟨⟨o1, o2, o3⟩, ⟨o4, o5, o6⟩, ⟨o7, o8, o9⟩⟩ := id hok
  have hbA : ¬ (fun q : Nat => s.heap.size ≤ q) b0 := Nat.not_le.mpr hb0
  obtain ⟨x1, ex1⟩ : ∃ x : Int32, xs (nI (c + 1)).toNatClampNeg = x := ⟨_, rfl⟩
  obtain ⟨x2, ex2⟩ : ∃ x : Int32, xs (nI (c + 2)).toNatClampNeg = x := ⟨_, rfl⟩
  have hop := op_board (w2 := w2) (b2 := b2) (n2 := n2) (T2 := T2) (w3 := w3) (b3 := b3) (n3 := n3) (M2 := M2) (th := th) o1 o2 o3 hR x1 x2
  obtain ⟨hcd, hk, hv, hs0, hs1⟩ := hop
  refine lv_aload_n hx hb dL_law_316 rfl (lv_at hl 2 rfl) ?_
  refine lv_aload_n hx hb dL_law_317 rfl (lv_at hl 1 rfl) ?_
  refine lv_iload hx hb dL_law_318 (lv_at hl 0 rfl) ?_
  refine lv_iconst (v := 1) hx hb dL_law_320 (by decide) ?_
  refine lv_iadd hx hb dL_law_321 ?_
  rw [show nI c + 1 = nI (c + 1) from nI_add c 1]
  refine va_sld hx hb hX hb0 hbA hw.2.2 (vp_in_nI (show c + 1 < L by omega) (by omega)) dL_law_322 ?_
  rw [ex1]
  refine lv_aload_n hx hb dL_law_323 rfl (lv_at hl 1 rfl) ?_
  refine lv_iload hx hb dL_law_324 (lv_at hl 0 rfl) ?_
  refine lv_iconst (v := 2) hx hb dL_law_326 (by decide) ?_
  refine lv_iadd hx hb dL_law_327 ?_
  rw [show nI c + 2 = nI (c + 2) from nI_add c 2]
  refine va_sld hx hb hX hb0 hbA hw.2.2 (vp_in_nI (show c + 2 < L by omega) (by omega)) dL_law_328 ?_
  rw [ex2]
  refine lv_aload_n hx hb dL_law_329 rfl (lv_at hl 4 rfl) ?_
  have hL1 := k_L_board D cI cZ cL h o x1 x2 f (w0 := wb_c h a a2 cI cZ w b n T w2 b2 n2 T2) (w1 := wb_c h a a2 cI cZ w b (n + 1) (s_X1_board w b n T w2 b2 n2 T2 x1 x2) w2 b2 n2 T2) rfl rfl (wo_X1_H ..) hcd (k_X1_board hst D cI cZ cL h a a2 w b n T w2 b2 n2 T2 o1 o2 o3 o4 o5 o6 x1 x2)
  rw [hk] at hL1
  refine pl_callS (n := 4) (As := [.ref h, .int x1, .int x2, .ref o]) (rest := []) hc hTx hw.2.2 (Pt.back (pre := wb_m hm am am2 cI th w b n M w3 b3 n3 M2) (wc := wb_c h a a2 cI cZ w b n T w2 b2 n2 T2 ++ [(o, .inl (cL, 1, .inr (.inl f)))]) hw hA) hL1 gL_law_L_board rfl (by decide +kernel) ⟨Nat.le_of_ble_eq_true rfl, Nat.le_of_ble_eq_true rfl⟩ rfl rfl hl.1 (Nat.le_of_ble_eq_true rfl) (st1 := [.int (t_X3_board th w b n M w3 b3 n3 M2 x1 x2)]) rfl dL_law_330 (k2 := 60 + c + 2) (s2 := 700 + 6 * c + 12) rfl rfl ⟨(Nat.le_trans (show 60 + c + 2 ≤ 20000 by omega) (Nat.le_of_ble_eq_true rfl)), (Nat.le_trans (show 700 + 6 * c + 12 ≤ 40000 by omega) (Nat.le_of_ble_eq_true rfl))⟩ (fun H locs hw => ?_)
  refine lv_istore (lv' := [(5, .int (t_X3_board th w b n M w3 b3 n3 M2 x1 x2)), (4, .int (nI c)), (0, .ref b0), (1, .ref h), (2, .ref hm), (3, .ref o)]) hx hb dL_law_333 hl (by decide) rfl (fun ls hl => ?_)
  refine lv_aload_n hx hb dL_law_335 rfl (lv_at hl 4 rfl) ?_
  refine lv_aload_n hx hb dL_law_336 rfl (lv_at hl 2 rfl) ?_
  refine lv_iload hx hb dL_law_337 (lv_at hl 1 rfl) ?_
  refine lv_iconst (v := 1) hx hb dL_law_339 (by decide) ?_
  refine lv_iadd hx hb dL_law_340 ?_
  rw [show nI c + 1 = nI (c + 1) from nI_add c 1]
  refine va_sld hx hb hX hb0 hbA hw.2.2 (vp_in_nI (show c + 1 < L by omega) (by omega)) dL_law_341 ?_
  rw [ex1]
  refine lv_aload_n hx hb dL_law_342 rfl (lv_at hl 2 rfl) ?_
  refine lv_iload hx hb dL_law_343 (lv_at hl 1 rfl) ?_
  refine lv_iconst (v := 2) hx hb dL_law_345 (by decide) ?_
  refine lv_iadd hx hb dL_law_346 ?_
  rw [show nI c + 2 = nI (c + 2) from nI_add c 2]
  refine va_sld hx hb hX hb0 hbA hw.2.2 (vp_in_nI (show c + 2 < L by omega) (by omega)) dL_law_347 ?_
  rw [ex2]
  refine p_callV (n := 2) (As := [.int x1, .int x2]) (rest := []) (q0 := 0) hc hw.2.2 (Pt.front (wc := wb_m hm am am2 cI th w b n M w3 b3 n3 M2) hw hA) (k_X3_board l D cI cZ cL hm am am2 th w b n M w3 b3 n3 M2 o1 o2 o3 o7 o8 o9 x1 x2) gL_law_X3_board rfl (by decide +kernel) ⟨Nat.le_of_ble_eq_true rfl, Nat.le_of_ble_eq_true rfl⟩ (wo_X3_H ..) rfl rfl rfl rfl hl.1 (Nat.le_of_ble_eq_true rfl) (st1 := [.int (r_X3_board th w b n M w3 b3 n3 M2 x1 x2)]) rfl dL_law_348 (k2 := 60 + c + 2 + 0) (s2 := 700 + 6 * c + 12 + 0) rfl rfl ⟨(Nat.le_trans (show 60 + c + 2 + 0 ≤ 20000 by omega) (Nat.le_of_ble_eq_true rfl)), (Nat.le_trans (show 700 + 6 * c + 12 + 0 ≤ 40000 by omega) (Nat.le_of_ble_eq_true rfl))⟩ (fun H locs hw => ?_)
  refine lv_istore (lv' := [(6, .int (r_X3_board th w b n M w3 b3 n3 M2 x1 x2)), (5, .int (t_X3_board th w b n M w3 b3 n3 M2 x1 x2)), (4, .int (nI c)), (0, .ref b0), (1, .ref h), (2, .ref hm), (3, .ref o)]) hx hb dL_law_351 hl (by decide) rfl (fun ls hl => ?_)
  refine lv_aload_n hx hb dL_law_353 rfl (lv_at hl 5 rfl) ?_
  have hnd : nn_X3_board th w b n M w3 b3 n3 M2 x1 x2 ≤ 30 := by
    by_cases y : e_X1_board w b n T w2 b2 n2 T2 x1 x2 = 0
    · rw [(hs0 y).1]; exact (hs0 y).2.1
    · rw [(hs1 y).1]; assumption
  refine p_callV (n := 0) (As := []) (rest := []) (q0 := 0) hc hw.2.2 (Pt.front (wc := wb_m hm am am2 cI (t_X3_board th w b n M w3 b3 n3 M2 x1 x2) w b (nn_X3_board th w b n M w3 b3 n3 M2 x1 x2) (s_X3_board th w b n M w3 b3 n3 M2 x1 x2) w3 b3 n3 M2) hw hA) (k_X3_thrown l D cI cZ cL hm am am2 (t_X3_board th w b n M w3 b3 n3 M2 x1 x2) w b (nn_X3_board th w b n M w3 b3 n3 M2 x1 x2) (s_X3_board th w b n M w3 b3 n3 M2 x1 x2) w3 b3 n3 M2 o1 o2 hnd o7 o8 o9) gL_law_X3_thrown rfl (by decide +kernel) ⟨Nat.le_of_ble_eq_true rfl, Nat.le_of_ble_eq_true rfl⟩ (wo_X3_H ..) rfl rfl rfl rfl hl.1 (Nat.le_of_ble_eq_true rfl) (st1 := [.int (t_X3_board th w b n M w3 b3 n3 M2 x1 x2)]) rfl dL_law_354 (k2 := 60 + c + 2 + 0) (s2 := 700 + 6 * c + 12 + 0) rfl rfl ⟨(Nat.le_trans (show 60 + c + 2 + 0 ≤ 20000 by omega) (Nat.le_of_ble_eq_true rfl)), (Nat.le_trans (show 700 + 6 * c + 12 + 0 ≤ 40000 by omega) (Nat.le_of_ble_eq_true rfl))⟩ (fun H locs hw => ?_)
  refine lv_iload hx hb dL_law_357 (lv_at hl 1 rfl) ?_
  refine lv_icmp_eq (tgt := 364) hx hb dL_law_359 (by decide) (fun _ => ?_) (fun z => absurd rfl z)
  refine lv_iload hx hb dL_law_364 (lv_at hl 1 rfl) ?_
  refine lv_if_ne (tgt := 381) hx hb dL_law_366 (by decide) (fun z => ?_) (fun z => ?_)
  · have he : ¬ e_X1_board w b n T w2 b2 n2 T2 x1 x2 = 0 := fun y => z (by rw [← hk, if_pos y])
    rw [if_neg he] at hw
    rw [(hs1 he).1] at hw
    refine lv_goto (tgt := 1840) hx hb dL_law_381 (by decide) ?_
    exact l_back hC hK (f := f) hok (hs1 he).2 hw (lv_sub hl [2, 3, 4, 5, 6] rfl) (by omega) (by omega)
  · have he : e_X1_board w b n T w2 b2 n2 T2 x1 x2 = 0 := by
      by_cases y : e_X1_board w b n T w2 b2 n2 T2 x1 x2 = 0
      · exact y
      · rw [← hk, if_neg y] at z; exfalso; revert z; (repeat' split) <;> decide
    rw [if_pos he] at hw
    rw [(hs0 he).1] at hw
    refine lv_aload_n hx hb dL_law_369 rfl (lv_at hl 6 rfl) ?_
    refine lv_iconst (v := 0) hx hb dL_law_370 (by decide) ?_
    refine g_lald (f := (vp_updL f 0 ((r_X1_board w b n T w2 b2 n2 T2 x1 x2)).toInt64)) hc hw 40 rfl (show vp_in (0 : Int32) 1 by unfold vp_in; decide) dL_law_371 ?_
    rw [show (vp_updL f 0 ((r_X1_board w b n T w2 b2 n2 T2 x1 x2)).toInt64) (0 : Int32).toNatClampNeg = ((r_X1_board w b n T w2 b2 n2 T2 x1 x2)).toInt64 from rfl, hv he]
    refine lv_iload hx hb dL_law_372 (lv_at hl 0 rfl) ?_
    refine lv_i2l (v := ((r_X3_board th w b n M w3 b3 n3 M2 x1 x2)).toInt64) hx hb dL_law_374 rfl ?_
    refine W.lcmp hx hb dL_law_375 ?_
    rw [lg_same]
    refine lv_if_eq (tgt := 381) hx hb dL_law_376 (by decide) (fun _ => ?_) (fun z => absurd rfl z)
    refine lv_goto (tgt := 1840) hx hb dL_law_381 (by decide) ?_
    exact l_back hC hK (f := (vp_updL f 0 ((r_X1_board w b n T w2 b2 n2 T2 x1 x2)).toInt64)) ⟨⟨o1, o2, (hs0 he).2.1⟩, ⟨o4, o5, o6⟩, ⟨o7, o8, o9⟩⟩ (hs0 he).2.2 hw (lv_sub hl [2, 3, 4, 5, 6] rfl) (by omega) (by omega)
set_option maxHeartbeats 4000000 in
set_option maxRecDepth 100000 in
theorem l_case_setBowls {p : Program} {l : Launch} {e : Env} {s : State} {m : MethodId} {below : List Frame} {meth : Method} {c0 : Code} {b0 L : Nat} {xs : Nat → Int32} {D : va_G} {cI cZ cL : ClassId} {h hm o : Nat} {a a2 am am2 : Nat → Nat} (hC : LC p s m meth c0 b0 L xs D cI cZ cL) (hst : l.stackTraces = false) {c : Nat} (hcL : c + 3 ≤ L) (hL : L ≤ 1536) (hK : LH p l e s m below meth c0 b0 D cI cZ cL h hm o a a2 am am2 (c + 3)) {H : Heap} {locs : List Loc} {ls : Array Slot} {th : Int32} {w b n : Nat} {T : ct_T} {M : mt_T} {w2 b2 n2 : Nat} {T2 : ct_T} {w3 b3 n3 : Nat} {M2 : mt_T} {f : Nat → Int64} (hok : Lok w b n w2 b2 n2 w3 b3 n3) (hR : RR w b n T M) (hw : Wo D (fun q => s.heap.size ≤ q) s.heap (Lw cI cZ cL h hm o a a2 am am2 th w b n T M w2 b2 n2 T2 w3 b3 n3 M2 f) H locs) (hl : lv_has ls 9 [(4, .int (nI c)), (0, .ref b0), (1, .ref h), (2, .ref hm), (3, .ref o)]) : W p l e room_1 s m #[Value.ref b0] below meth c0 H locs (60 + c) (700 + 6 * c) (lw_Z below #[Value.ref b0] s) (F0 m 384 ls []) := by
  obtain ⟨hc, hTx, hX, hb0⟩ := id hC
  obtain ⟨hx, hb, hr, hml, hown, hts, hlk, hK9, hA⟩ := id hc
  obtain ⟨⟨o1, o2, o3⟩, ⟨o4, o5, o6⟩, ⟨o7, o8, o9⟩⟩ := id hok
  have hbA : ¬ (fun q : Nat => s.heap.size ≤ q) b0 := Nat.not_le.mpr hb0
  obtain ⟨x1, ex1⟩ : ∃ x : Int32, xs (nI (c + 1)).toNatClampNeg = x := ⟨_, rfl⟩
  have hop := op_setBowls (w2 := w2) (b2 := b2) (n2 := n2) (T2 := T2) (w3 := w3) (b3 := b3) (n3 := n3) (M2 := M2) (th := th) o1 o2 o3 hR x1
  obtain ⟨hcd, hk, hv, hs0, hs1⟩ := hop
  refine lv_aload_n hx hb dL_law_384 rfl (lv_at hl 2 rfl) ?_
  refine lv_aload_n hx hb dL_law_385 rfl (lv_at hl 1 rfl) ?_
  refine lv_iload hx hb dL_law_386 (lv_at hl 0 rfl) ?_
  refine lv_iconst (v := 1) hx hb dL_law_388 (by decide) ?_
  refine lv_iadd hx hb dL_law_389 ?_
  rw [show nI c + 1 = nI (c + 1) from nI_add c 1]
  refine va_sld hx hb hX hb0 hbA hw.2.2 (vp_in_nI (show c + 1 < L by omega) (by omega)) dL_law_390 ?_
  rw [ex1]
  refine lv_aload_n hx hb dL_law_391 rfl (lv_at hl 4 rfl) ?_
  have hL1 := k_L_setBowls D cI cZ cL h o x1 f (w0 := wb_c h a a2 cI cZ w b n T w2 b2 n2 T2) (w1 := wb_c h a a2 cI cZ w b n (s_X1_setBowls w b n T w2 b2 n2 T2 x1) w2 b2 n2 T2) rfl rfl (wo_X1_H ..) hcd (k_X1_setBowls hst D cI cZ cL h a a2 w b n T w2 b2 n2 T2 o1 o2 o3 o4 o5 o6 x1)
  rw [hk] at hL1
  refine pl_callS (n := 3) (As := [.ref h, .int x1, .ref o]) (rest := []) hc hTx hw.2.2 (Pt.back (pre := wb_m hm am am2 cI th w b n M w3 b3 n3 M2) (wc := wb_c h a a2 cI cZ w b n T w2 b2 n2 T2 ++ [(o, .inl (cL, 1, .inr (.inl f)))]) hw hA) hL1 gL_law_L_setBowls rfl (by decide +kernel) ⟨Nat.le_of_ble_eq_true rfl, Nat.le_of_ble_eq_true rfl⟩ rfl rfl hl.1 (Nat.le_of_ble_eq_true rfl) (st1 := [.int (t_X3_setBowls th w b n M w3 b3 n3 M2 x1)]) rfl dL_law_392 (k2 := 60 + c + 1) (s2 := 700 + 6 * c + 6) rfl rfl ⟨(Nat.le_trans (show 60 + c + 1 ≤ 20000 by omega) (Nat.le_of_ble_eq_true rfl)), (Nat.le_trans (show 700 + 6 * c + 6 ≤ 40000 by omega) (Nat.le_of_ble_eq_true rfl))⟩ (fun H locs hw => ?_)
  refine lv_istore (lv' := [(5, .int (t_X3_setBowls th w b n M w3 b3 n3 M2 x1)), (4, .int (nI c)), (0, .ref b0), (1, .ref h), (2, .ref hm), (3, .ref o)]) hx hb dL_law_395 hl (by decide) rfl (fun ls hl => ?_)
  refine lv_aload_n hx hb dL_law_397 rfl (lv_at hl 4 rfl) ?_
  refine lv_aload_n hx hb dL_law_398 rfl (lv_at hl 2 rfl) ?_
  refine lv_iload hx hb dL_law_399 (lv_at hl 1 rfl) ?_
  refine lv_iconst (v := 1) hx hb dL_law_401 (by decide) ?_
  refine lv_iadd hx hb dL_law_402 ?_
  rw [show nI c + 1 = nI (c + 1) from nI_add c 1]
  refine va_sld hx hb hX hb0 hbA hw.2.2 (vp_in_nI (show c + 1 < L by omega) (by omega)) dL_law_403 ?_
  rw [ex1]
  refine p_callV (n := 1) (As := [.int x1]) (rest := []) (q0 := 0) hc hw.2.2 (Pt.front (wc := wb_m hm am am2 cI th w b n M w3 b3 n3 M2) hw hA) (k_X3_setBowls l D cI cZ cL hm am am2 th w b n M w3 b3 n3 M2 o1 o2 o3 o7 o8 o9 x1) gL_law_X3_setBowls rfl (by decide +kernel) ⟨Nat.le_of_ble_eq_true rfl, Nat.le_of_ble_eq_true rfl⟩ (wo_X3_H ..) rfl rfl rfl rfl hl.1 (Nat.le_of_ble_eq_true rfl) (st1 := [.int (r_X3_setBowls th w b n M w3 b3 n3 M2 x1)]) rfl dL_law_404 (k2 := 60 + c + 1 + 0) (s2 := 700 + 6 * c + 6 + 0) rfl rfl ⟨(Nat.le_trans (show 60 + c + 1 + 0 ≤ 20000 by omega) (Nat.le_of_ble_eq_true rfl)), (Nat.le_trans (show 700 + 6 * c + 6 + 0 ≤ 40000 by omega) (Nat.le_of_ble_eq_true rfl))⟩ (fun H locs hw => ?_)
  refine lv_istore (lv' := [(6, .int (r_X3_setBowls th w b n M w3 b3 n3 M2 x1)), (5, .int (t_X3_setBowls th w b n M w3 b3 n3 M2 x1)), (4, .int (nI c)), (0, .ref b0), (1, .ref h), (2, .ref hm), (3, .ref o)]) hx hb dL_law_407 hl (by decide) rfl (fun ls hl => ?_)
  refine lv_aload_n hx hb dL_law_409 rfl (lv_at hl 5 rfl) ?_
  refine p_callV (n := 0) (As := []) (rest := []) (q0 := 0) hc hw.2.2 (Pt.front (wc := wb_m hm am am2 cI (t_X3_setBowls th w b n M w3 b3 n3 M2 x1) w b n (s_X3_setBowls th w b n M w3 b3 n3 M2 x1) w3 b3 n3 M2) hw hA) (k_X3_thrown l D cI cZ cL hm am am2 (t_X3_setBowls th w b n M w3 b3 n3 M2 x1) w b n (s_X3_setBowls th w b n M w3 b3 n3 M2 x1) w3 b3 n3 M2 o1 o2 o3 o7 o8 o9) gL_law_X3_thrown rfl (by decide +kernel) ⟨Nat.le_of_ble_eq_true rfl, Nat.le_of_ble_eq_true rfl⟩ (wo_X3_H ..) rfl rfl rfl rfl hl.1 (Nat.le_of_ble_eq_true rfl) (st1 := [.int (t_X3_setBowls th w b n M w3 b3 n3 M2 x1)]) rfl dL_law_410 (k2 := 60 + c + 1 + 0) (s2 := 700 + 6 * c + 6 + 0) rfl rfl ⟨(Nat.le_trans (show 60 + c + 1 + 0 ≤ 20000 by omega) (Nat.le_of_ble_eq_true rfl)), (Nat.le_trans (show 700 + 6 * c + 6 + 0 ≤ 40000 by omega) (Nat.le_of_ble_eq_true rfl))⟩ (fun H locs hw => ?_)
  refine lv_iload hx hb dL_law_413 (lv_at hl 1 rfl) ?_
  refine lv_icmp_eq (tgt := 420) hx hb dL_law_415 (by decide) (fun _ => ?_) (fun z => absurd rfl z)
  refine lv_iload hx hb dL_law_420 (lv_at hl 1 rfl) ?_
  refine lv_if_ne (tgt := 437) hx hb dL_law_422 (by decide) (fun z => ?_) (fun z => ?_)
  · have he : ¬ e_X1_setBowls w b n T w2 b2 n2 T2 x1 = 0 := fun y => z (by rw [← hk, if_pos y])
    rw [if_neg he] at hw
    refine lv_goto (tgt := 1840) hx hb dL_law_437 (by decide) ?_
    exact l_back hC hK (f := f) hok (hs1 he) hw (lv_sub hl [2, 3, 4, 5, 6] rfl) (by omega) (by omega)
  · have he : e_X1_setBowls w b n T w2 b2 n2 T2 x1 = 0 := by
      by_cases y : e_X1_setBowls w b n T w2 b2 n2 T2 x1 = 0
      · exact y
      · rw [← hk, if_neg y] at z; exfalso; revert z; (repeat' split) <;> decide
    rw [if_pos he] at hw
    refine lv_aload_n hx hb dL_law_425 rfl (lv_at hl 6 rfl) ?_
    refine lv_iconst (v := 0) hx hb dL_law_426 (by decide) ?_
    refine g_lald (f := (vp_updL f 0 ((r_X1_setBowls w b n T w2 b2 n2 T2 x1)).toInt64)) hc hw 40 rfl (show vp_in (0 : Int32) 1 by unfold vp_in; decide) dL_law_427 ?_
    rw [show (vp_updL f 0 ((r_X1_setBowls w b n T w2 b2 n2 T2 x1)).toInt64) (0 : Int32).toNatClampNeg = ((r_X1_setBowls w b n T w2 b2 n2 T2 x1)).toInt64 from rfl, hv he]
    refine lv_iload hx hb dL_law_428 (lv_at hl 0 rfl) ?_
    refine lv_i2l (v := ((r_X3_setBowls th w b n M w3 b3 n3 M2 x1)).toInt64) hx hb dL_law_430 rfl ?_
    refine W.lcmp hx hb dL_law_431 ?_
    rw [lg_same]
    refine lv_if_eq (tgt := 437) hx hb dL_law_432 (by decide) (fun _ => ?_) (fun z => absurd rfl z)
    refine lv_goto (tgt := 1840) hx hb dL_law_437 (by decide) ?_
    exact l_back hC hK (f := (vp_updL f 0 ((r_X1_setBowls w b n T w2 b2 n2 T2 x1)).toInt64)) hok (hs0 he) hw (lv_sub hl [2, 3, 4, 5, 6] rfl) (by omega) (by omega)
set_option maxHeartbeats 4000000 in
set_option maxRecDepth 100000 in
theorem l_case_layStraw {p : Program} {l : Launch} {e : Env} {s : State} {m : MethodId} {below : List Frame} {meth : Method} {c0 : Code} {b0 L : Nat} {xs : Nat → Int32} {D : va_G} {cI cZ cL : ClassId} {h hm o : Nat} {a a2 am am2 : Nat → Nat} (hC : LC p s m meth c0 b0 L xs D cI cZ cL) (hst : l.stackTraces = false) {c : Nat} (hcL : c + 3 ≤ L) (hL : L ≤ 1536) (hK : LH p l e s m below meth c0 b0 D cI cZ cL h hm o a a2 am am2 (c + 3)) {H : Heap} {locs : List Loc} {ls : Array Slot} {th : Int32} {w b n : Nat} {T : ct_T} {M : mt_T} {w2 b2 n2 : Nat} {T2 : ct_T} {w3 b3 n3 : Nat} {M2 : mt_T} {f : Nat → Int64} (hok : Lok w b n w2 b2 n2 w3 b3 n3) (hR : RR w b n T M) (hw : Wo D (fun q => s.heap.size ≤ q) s.heap (Lw cI cZ cL h hm o a a2 am am2 th w b n T M w2 b2 n2 T2 w3 b3 n3 M2 f) H locs) (hl : lv_has ls 9 [(4, .int (nI c)), (0, .ref b0), (1, .ref h), (2, .ref hm), (3, .ref o)]) : W p l e room_1 s m #[Value.ref b0] below meth c0 H locs (60 + c) (700 + 6 * c) (lw_Z below #[Value.ref b0] s) (F0 m 440 ls []) := by
  obtain ⟨hc, hTx, hX, hb0⟩ := id hC
  obtain ⟨hx, hb, hr, hml, hown, hts, hlk, hK9, hA⟩ := id hc
  obtain ⟨⟨o1, o2, o3⟩, ⟨o4, o5, o6⟩, ⟨o7, o8, o9⟩⟩ := id hok
  have hbA : ¬ (fun q : Nat => s.heap.size ≤ q) b0 := Nat.not_le.mpr hb0
  obtain ⟨x1, ex1⟩ : ∃ x : Int32, xs (nI (c + 1)).toNatClampNeg = x := ⟨_, rfl⟩
  have hop := op_layStraw (w2 := w2) (b2 := b2) (n2 := n2) (T2 := T2) (w3 := w3) (b3 := b3) (n3 := n3) (M2 := M2) (th := th) o1 o2 o3 hR x1
  obtain ⟨hcd, hk, hv, hs0, hs1⟩ := hop
  refine lv_aload_n hx hb dL_law_440 rfl (lv_at hl 2 rfl) ?_
  refine lv_aload_n hx hb dL_law_441 rfl (lv_at hl 1 rfl) ?_
  refine lv_iload hx hb dL_law_442 (lv_at hl 0 rfl) ?_
  refine lv_iconst (v := 1) hx hb dL_law_444 (by decide) ?_
  refine lv_iadd hx hb dL_law_445 ?_
  rw [show nI c + 1 = nI (c + 1) from nI_add c 1]
  refine va_sld hx hb hX hb0 hbA hw.2.2 (vp_in_nI (show c + 1 < L by omega) (by omega)) dL_law_446 ?_
  rw [ex1]
  refine lv_aload_n hx hb dL_law_447 rfl (lv_at hl 4 rfl) ?_
  have hL1 := k_L_layStraw D cI cZ cL h o x1 f (w0 := wb_c h a a2 cI cZ w b n T w2 b2 n2 T2) (w1 := wb_c h a a2 cI cZ w b n (s_X1_layStraw w b n T w2 b2 n2 T2 x1) w2 b2 n2 T2) rfl rfl (wo_X1_H ..) hcd (k_X1_layStraw hst D cI cZ cL h a a2 w b n T w2 b2 n2 T2 o1 o2 o3 o4 o5 o6 x1)
  rw [hk] at hL1
  refine pl_callS (n := 3) (As := [.ref h, .int x1, .ref o]) (rest := []) hc hTx hw.2.2 (Pt.back (pre := wb_m hm am am2 cI th w b n M w3 b3 n3 M2) (wc := wb_c h a a2 cI cZ w b n T w2 b2 n2 T2 ++ [(o, .inl (cL, 1, .inr (.inl f)))]) hw hA) hL1 gL_law_L_layStraw rfl (by decide +kernel) ⟨Nat.le_of_ble_eq_true rfl, Nat.le_of_ble_eq_true rfl⟩ rfl rfl hl.1 (Nat.le_of_ble_eq_true rfl) (st1 := [.int (t_X3_layStraw th w b n M w3 b3 n3 M2 x1)]) rfl dL_law_448 (k2 := 60 + c + 1) (s2 := 700 + 6 * c + 6) rfl rfl ⟨(Nat.le_trans (show 60 + c + 1 ≤ 20000 by omega) (Nat.le_of_ble_eq_true rfl)), (Nat.le_trans (show 700 + 6 * c + 6 ≤ 40000 by omega) (Nat.le_of_ble_eq_true rfl))⟩ (fun H locs hw => ?_)
  refine lv_istore (lv' := [(5, .int (t_X3_layStraw th w b n M w3 b3 n3 M2 x1)), (4, .int (nI c)), (0, .ref b0), (1, .ref h), (2, .ref hm), (3, .ref o)]) hx hb dL_law_451 hl (by decide) rfl (fun ls hl => ?_)
  refine lv_aload_n hx hb dL_law_453 rfl (lv_at hl 4 rfl) ?_
  refine lv_aload_n hx hb dL_law_454 rfl (lv_at hl 2 rfl) ?_
  refine lv_iload hx hb dL_law_455 (lv_at hl 1 rfl) ?_
  refine lv_iconst (v := 1) hx hb dL_law_457 (by decide) ?_
  refine lv_iadd hx hb dL_law_458 ?_
  rw [show nI c + 1 = nI (c + 1) from nI_add c 1]
  refine va_sld hx hb hX hb0 hbA hw.2.2 (vp_in_nI (show c + 1 < L by omega) (by omega)) dL_law_459 ?_
  rw [ex1]
  refine p_callV (n := 1) (As := [.int x1]) (rest := []) (q0 := 0) hc hw.2.2 (Pt.front (wc := wb_m hm am am2 cI th w b n M w3 b3 n3 M2) hw hA) (k_X3_layStraw l D cI cZ cL hm am am2 th w b n M w3 b3 n3 M2 o1 o2 o3 o7 o8 o9 x1) gL_law_X3_layStraw rfl (by decide +kernel) ⟨Nat.le_of_ble_eq_true rfl, Nat.le_of_ble_eq_true rfl⟩ (wo_X3_H ..) rfl rfl rfl rfl hl.1 (Nat.le_of_ble_eq_true rfl) (st1 := [.int (r_X3_layStraw th w b n M w3 b3 n3 M2 x1)]) rfl dL_law_460 (k2 := 60 + c + 1 + 0) (s2 := 700 + 6 * c + 6 + 0) rfl rfl ⟨(Nat.le_trans (show 60 + c + 1 + 0 ≤ 20000 by omega) (Nat.le_of_ble_eq_true rfl)), (Nat.le_trans (show 700 + 6 * c + 6 + 0 ≤ 40000 by omega) (Nat.le_of_ble_eq_true rfl))⟩ (fun H locs hw => ?_)
  refine lv_istore (lv' := [(6, .int (r_X3_layStraw th w b n M w3 b3 n3 M2 x1)), (5, .int (t_X3_layStraw th w b n M w3 b3 n3 M2 x1)), (4, .int (nI c)), (0, .ref b0), (1, .ref h), (2, .ref hm), (3, .ref o)]) hx hb dL_law_463 hl (by decide) rfl (fun ls hl => ?_)
  refine lv_aload_n hx hb dL_law_465 rfl (lv_at hl 5 rfl) ?_
  refine p_callV (n := 0) (As := []) (rest := []) (q0 := 0) hc hw.2.2 (Pt.front (wc := wb_m hm am am2 cI (t_X3_layStraw th w b n M w3 b3 n3 M2 x1) w b n (s_X3_layStraw th w b n M w3 b3 n3 M2 x1) w3 b3 n3 M2) hw hA) (k_X3_thrown l D cI cZ cL hm am am2 (t_X3_layStraw th w b n M w3 b3 n3 M2 x1) w b n (s_X3_layStraw th w b n M w3 b3 n3 M2 x1) w3 b3 n3 M2 o1 o2 o3 o7 o8 o9) gL_law_X3_thrown rfl (by decide +kernel) ⟨Nat.le_of_ble_eq_true rfl, Nat.le_of_ble_eq_true rfl⟩ (wo_X3_H ..) rfl rfl rfl rfl hl.1 (Nat.le_of_ble_eq_true rfl) (st1 := [.int (t_X3_layStraw th w b n M w3 b3 n3 M2 x1)]) rfl dL_law_466 (k2 := 60 + c + 1 + 0) (s2 := 700 + 6 * c + 6 + 0) rfl rfl ⟨(Nat.le_trans (show 60 + c + 1 + 0 ≤ 20000 by omega) (Nat.le_of_ble_eq_true rfl)), (Nat.le_trans (show 700 + 6 * c + 6 + 0 ≤ 40000 by omega) (Nat.le_of_ble_eq_true rfl))⟩ (fun H locs hw => ?_)
  refine lv_iload hx hb dL_law_469 (lv_at hl 1 rfl) ?_
  refine lv_icmp_eq (tgt := 476) hx hb dL_law_471 (by decide) (fun _ => ?_) (fun z => absurd rfl z)
  refine lv_iload hx hb dL_law_476 (lv_at hl 1 rfl) ?_
  refine lv_if_ne (tgt := 493) hx hb dL_law_478 (by decide) (fun z => ?_) (fun z => ?_)
  · have he : ¬ e_X1_layStraw w b n T w2 b2 n2 T2 x1 = 0 := fun y => z (by rw [← hk, if_pos y])
    rw [if_neg he] at hw
    refine lv_goto (tgt := 1840) hx hb dL_law_493 (by decide) ?_
    exact l_back hC hK (f := f) hok (hs1 he) hw (lv_sub hl [2, 3, 4, 5, 6] rfl) (by omega) (by omega)
  · have he : e_X1_layStraw w b n T w2 b2 n2 T2 x1 = 0 := by
      by_cases y : e_X1_layStraw w b n T w2 b2 n2 T2 x1 = 0
      · exact y
      · rw [← hk, if_neg y] at z; exfalso; revert z; (repeat' split) <;> decide
    rw [if_pos he] at hw
    refine lv_aload_n hx hb dL_law_481 rfl (lv_at hl 6 rfl) ?_
    refine lv_iconst (v := 0) hx hb dL_law_482 (by decide) ?_
    refine g_lald (f := (vp_updL f 0 ((r_X1_layStraw w b n T w2 b2 n2 T2 x1)).toInt64)) hc hw 40 rfl (show vp_in (0 : Int32) 1 by unfold vp_in; decide) dL_law_483 ?_
    rw [show (vp_updL f 0 ((r_X1_layStraw w b n T w2 b2 n2 T2 x1)).toInt64) (0 : Int32).toNatClampNeg = ((r_X1_layStraw w b n T w2 b2 n2 T2 x1)).toInt64 from rfl, hv he]
    refine lv_iload hx hb dL_law_484 (lv_at hl 0 rfl) ?_
    refine lv_i2l (v := ((r_X3_layStraw th w b n M w3 b3 n3 M2 x1)).toInt64) hx hb dL_law_486 rfl ?_
    refine W.lcmp hx hb dL_law_487 ?_
    rw [lg_same]
    refine lv_if_eq (tgt := 493) hx hb dL_law_488 (by decide) (fun _ => ?_) (fun z => absurd rfl z)
    refine lv_goto (tgt := 1840) hx hb dL_law_493 (by decide) ?_
    exact l_back hC hK (f := (vp_updL f 0 ((r_X1_layStraw w b n T w2 b2 n2 T2 x1)).toInt64)) hok (hs0 he) hw (lv_sub hl [2, 3, 4, 5, 6] rfl) (by omega) (by omega)