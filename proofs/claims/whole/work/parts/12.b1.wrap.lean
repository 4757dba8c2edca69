abbrev rm_L_carry : Room := { frames := 1 + rm_X1_carry.frames, cells := rm_X1_carry.cells, slots := rm_X1_carry.slots, locals := 30 + rm_X1_carry.locals }
set_option maxHeartbeats 4000000 in
set_option maxRecDepth 100000 in
theorem k_L_carry {l : Launch} (D : va_G) (cI cZ cL : ClassId) (h o : Nat) (x1 : Int32) (x2 : Int32) (f : Nat → Int64) {w0 w1 : va_W} {code : Nat} {r : Int32} {fs : List Value} (hn0 : w0.length = 23) (hn1 : w1.length = 23) (he : w0[0]? = some (h, .inr (1, fs))) (hcd : code = 0 ∨ code = 3 ∨ code = 2) (hM : TX l yX1_carry wsX1_carry rm_X1_carry D cI cZ cL [.ref h, .int x1, .int x2] w0 code (some (.int r)) w1) : LX l yL_carry wsL_carry rm_L_carry D cI cZ cL [.ref h, .int x1, .int x2, .ref o] (w0 ++ [(o, .inl (cL, 1, .inr (.inl f)))]) (some (.int (if code = 0 then (0 : Int32) else (if code = 3 then (1 : Int32) else (2 : Int32))))) (if code = 0 then w1 ++ [(o, .inl (cL, 1, .inr (.inl (vp_updL f 0 r.toInt64))))] else w0 ++ [(o, .inl (cL, 1, .inr (.inl f)))]) := by
  refine LX.of (own := RL) (cc := cL_carry) (maxL := 5) (ret := (some .int)) (hh := [(0, 10, 13, 24), (0, 10, 17, 15)]) (lv0 := [(0, .ref h), (1, .int x1), (2, .int x2), (3, .ref o)]) (by decide) rfl rfl (Nat.le_of_ble_eq_true rfl) rfl ?_
  intro p e s m args below meth c A hc hT htb hw ls hl
  obtain ⟨hx, hb, hr, hml, hown, hts, hlk, hK, hA⟩ := id hc
  refine lv_aload_n hx hb dL_carry_0 rfl (lv_at hl 3 rfl) ?_
  refine lv_iconst (v := 0) hx hb dL_carry_1 (by decide) ?_
  refine lv_aload_n hx hb dL_carry_2 rfl (lv_at hl 0 rfl) ?_
  refine lv_iload_n hx hb dL_carry_3 rfl (lv_at hl 1 rfl) ?_
  refine lv_iload_n hx hb dL_carry_4 rfl (lv_at hl 2 rfl) ?_
  have hpt := Pt.front hw hA
  refine pt_callV (n := 2) (As := [.int x1, .int x2]) (rest := [.int 0, .ref o]) hc hT hw.2.2 hpt hM gL_carry_X1_carry rfl (by decide +kernel) ⟨Nat.le_of_ble_eq_true rfl, Nat.le_of_ble_eq_true rfl⟩ he rfl rfl rfl rfl hl.1 (Nat.le_of_ble_eq_true rfl) (st1 := [.int r, .int 0, .ref o]) rfl dL_carry_5 (k2 := rm_X1_carry.cells) (s2 := rm_X1_carry.slots) (Nat.zero_add _) (Nat.zero_add _) ⟨Nat.le_refl _, Nat.le_refl _⟩ (fun hz H locs q9 ce hw h5 h6 h7 => ?_) (fun hz H locs hw => ?_)
  · rw [if_neg hz, if_neg hz]
    rcases hcd with hq | hq | hq
    · exact absurd hq hz
    · skip
      subst hq
      refine vx_catch (name := "java/lang/IndexOutOfBoundsException") hown [] ⟨0, 10, 13, 24⟩ [⟨0, 10, 17, 15⟩] htb (fun z hz => by simp at hz) rfl (by decide) (hts _ (List.mem_of_getElem? (i := 1) rfl)) (va_Nw.use rfl (hT.1.2.1 3)) h5 h6 h7 ?_
      refine lv_astore (lv' := [(4, .ref q9), (0, .ref h), (1, .int x1), (2, .int x2), (3, .ref o)]) hx hb dL_carry_13 hl (by decide) rfl (fun ls hl => ?_)
      refine lv_iconst (v := 1) hx hb dL_carry_15 (by decide) ?_
      exact g_ret hc hw (by first | rfl | simp) (Nat.le_refl _) (Nat.le_refl _) dL_carry_16
    · skip
      subst hq
      refine vx_catch (name := "java/lang/IllegalStateException") hown [⟨0, 10, 13, 24⟩] ⟨0, 10, 17, 15⟩ [] htb (fun z hz => by rw [List.mem_singleton] at hz; subst hz; exact Or.inr ⟨by decide, "java/lang/IndexOutOfBoundsException", hts _ (List.mem_of_getElem? (i := 1) rfl), hT.1.2.2 2 3 (by decide)⟩) rfl (by decide) (hts _ (List.mem_of_getElem? (i := 2) rfl)) (va_Nw.use rfl (hT.1.2.1 2)) h5 h6 h7 ?_
      refine lv_astore (lv' := [(4, .ref q9), (0, .ref h), (1, .int x1), (2, .int x2), (3, .ref o)]) hx hb dL_carry_17 hl (by decide) rfl (fun ls hl => ?_)
      refine lv_iconst (v := 2) hx hb dL_carry_19 (by decide) ?_
      exact g_ret hc hw (by first | rfl | simp) (Nat.le_refl _) (Nat.le_refl _) dL_carry_20
  · rw [if_pos hz, if_pos hz]
    refine lv_i2l (v := r.toInt64) hx hb dL_carry_8 rfl ?_
    refine g_last (f := f) hc hw 23 (l_app0 hn1) (show vp_in (0 : Int32) 1 by unfold vp_in; decide) (l_set0 hn1) dL_carry_9 (fun H locs hw => ?_)
    refine lv_goto (tgt := 21) hx hb dL_carry_10 (by decide) ?_
    refine lv_iconst (v := 0) hx hb dL_carry_21 (by decide) ?_
    exact g_ret hc hw rfl (Nat.le_refl _) (Nat.le_refl _) dL_carry_22
abbrev rm_L_pass : Room := { frames := 1 + rm_X1_pass.frames, cells := rm_X1_pass.cells, slots := rm_X1_pass.slots, locals := 30 + rm_X1_pass.locals }
set_option maxHeartbeats 4000000 in
set_option maxRecDepth 100000 in
theorem k_L_pass {l : Launch} (D : va_G) (cI cZ cL : ClassId) (h o : Nat) (x1 : Int32) (f : Nat → Int64) {w0 w1 : va_W} {code : Nat} {r : Int32} {fs : List Value} (hn0 : w0.length = 23) (hn1 : w1.length = 23) (he : w0[0]? = some (h, .inr (1, fs))) (hcd : code = 0 ∨ code = 1) (hM : TX l yX1_pass wsX1_pass rm_X1_pass D cI cZ cL [.ref h, .int x1] w0 code (some (.int r)) w1) : LX l yL_pass wsL_pass rm_L_pass D cI cZ cL [.ref h, .int x1, .ref o] (w0 ++ [(o, .inl (cL, 1, .inr (.inl f)))]) (some (.int (if code = 0 then (0 : Int32) else (1 : Int32)))) (if code = 0 then w1 ++ [(o, .inl (cL, 1, .inr (.inl (vp_updL f 0 r.toInt64))))] else w0 ++ [(o, .inl (cL, 1, .inr (.inl f)))]) := by
  refine LX.of (own := RL) (cc := cL_pass) (maxL := 4) (ret := (some .int)) (hh := [(0, 9, 12, 13)]) (lv0 := [(0, .ref h), (1, .int x1), (2, .ref o)]) (by decide) rfl rfl (Nat.le_of_ble_eq_true rfl) rfl ?_
  intro p e s m args below meth c A hc hT htb hw ls hl
  obtain ⟨hx, hb, hr, hml, hown, hts, hlk, hK, hA⟩ := id hc
  refine lv_aload_n hx hb dL_pass_0 rfl (lv_at hl 2 rfl) ?_
  refine lv_iconst (v := 0) hx hb dL_pass_1 (by decide) ?_
  refine lv_aload_n hx hb dL_pass_2 rfl (lv_at hl 0 rfl) ?_
  refine lv_iload_n hx hb dL_pass_3 rfl (lv_at hl 1 rfl) ?_
  have hpt := Pt.front hw hA
  refine pt_callV (n := 1) (As := [.int x1]) (rest := [.int 0, .ref o]) hc hT hw.2.2 hpt hM gL_pass_X1_pass rfl (by decide +kernel) ⟨Nat.le_of_ble_eq_true rfl, Nat.le_of_ble_eq_true rfl⟩ he rfl rfl rfl rfl hl.1 (Nat.le_of_ble_eq_true rfl) (st1 := [.int r, .int 0, .ref o]) rfl dL_pass_4 (k2 := rm_X1_pass.cells) (s2 := rm_X1_pass.slots) (Nat.zero_add _) (Nat.zero_add _) ⟨Nat.le_refl _, Nat.le_refl _⟩ (fun hz H locs q9 ce hw h5 h6 h7 => ?_) (fun hz H locs hw => ?_)
  · rw [if_neg hz, if_neg hz]
    rcases hcd with hq | hq
    · exact absurd hq hz
    · skip
      subst hq
      refine vx_catch (name := "java/lang/IllegalArgumentException") hown [] ⟨0, 9, 12, 13⟩ [] htb (fun z hz => by simp at hz) rfl (by decide) (hts _ (List.mem_of_getElem? (i := 1) rfl)) (va_Nw.use rfl (hT.1.2.1 1)) h5 h6 h7 ?_
      refine lv_astore_n (lv' := [(3, .ref q9), (0, .ref h), (1, .int x1), (2, .ref o)]) hx hb dL_pass_12 rfl hl (by decide) rfl (fun ls hl => ?_)
      refine lv_iconst (v := 1) hx hb dL_pass_13 (by decide) ?_
      exact g_ret hc hw (by first | rfl | simp) (Nat.le_refl _) (Nat.le_refl _) dL_pass_14
  · rw [if_pos hz, if_pos hz]
    refine lv_i2l (v := r.toInt64) hx hb dL_pass_7 rfl ?_
    refine g_last (f := f) hc hw 23 (l_app0 hn1) (show vp_in (0 : Int32) 1 by unfold vp_in; decide) (l_set0 hn1) dL_pass_8 (fun H locs hw => ?_)
    refine lv_goto (tgt := 15) hx hb dL_pass_9 (by decide) ?_
    refine lv_iconst (v := 0) hx hb dL_pass_15 (by decide) ?_
    exact g_ret hc hw rfl (Nat.le_refl _) (Nat.le_refl _) dL_pass_16
abbrev rm_L_feverOf : Room := { frames := 1 + rm_X1_feverOf.frames, cells := rm_X1_feverOf.cells, slots := rm_X1_feverOf.slots, locals := 30 + rm_X1_feverOf.locals }
set_option maxHeartbeats 4000000 in
set_option maxRecDepth 100000 in
theorem k_L_feverOf {l : Launch} (D : va_G) (cI cZ cL : ClassId) (h o : Nat) (x1 : Int32) (f : Nat → Int64) {w0 w1 : va_W} {code : Nat} {r : Int32} {fs : List Value} (hn0 : w0.length = 23) (hn1 : w1.length = 23) (he : w0[0]? = some (h, .inr (1, fs))) (hcd : code = 0 ∨ code = 3) (hM : TX l yX1_feverOf wsX1_feverOf rm_X1_feverOf D cI cZ cL [.ref h, .int x1] w0 code (some (.int r)) w1) : LX l yL_feverOf wsL_feverOf rm_L_feverOf D cI cZ cL [.ref h, .int x1, .ref o] (w0 ++ [(o, .inl (cL, 1, .inr (.inl f)))]) (some (.int (if code = 0 then (0 : Int32) else (1 : Int32)))) (if code = 0 then w1 ++ [(o, .inl (cL, 1, .inr (.inl (vp_updL f 0 r.toInt64))))] else w0 ++ [(o, .inl (cL, 1, .inr (.inl f)))]) := by
  refine LX.of (own := RL) (cc := cL_feverOf) (maxL := 4) (ret := (some .int)) (hh := [(0, 9, 12, 24)]) (lv0 := [(0, .ref h), (1, .int x1), (2, .ref o)]) (by decide) rfl rfl (Nat.le_of_ble_eq_true rfl) rfl ?_
  intro p e s m args below meth c A hc hT htb hw ls hl
  obtain ⟨hx, hb, hr, hml, hown, hts, hlk, hK, hA⟩ := id hc
  refine lv_aload_n hx hb dL_feverOf_0 rfl (lv_at hl 2 rfl) ?_
  refine lv_iconst (v := 0) hx hb dL_feverOf_1 (by decide) ?_
  refine lv_aload_n hx hb dL_feverOf_2 rfl (lv_at hl 0 rfl) ?_
  refine lv_iload_n hx hb dL_feverOf_3 rfl (lv_at hl 1 rfl) ?_
  have hpt := Pt.front hw hA
  refine pt_callV (n := 1) (As := [.int x1]) (rest := [.int 0, .ref o]) hc hT hw.2.2 hpt hM gL_feverOf_X1_feverOf rfl (by decide +kernel) ⟨Nat.le_of_ble_eq_true rfl, Nat.le_of_ble_eq_true rfl⟩ he rfl rfl rfl rfl hl.1 (Nat.le_of_ble_eq_true rfl) (st1 := [.int r, .int 0, .ref o]) rfl dL_feverOf_4 (k2 := rm_X1_feverOf.cells) (s2 := rm_X1_feverOf.slots) (Nat.zero_add _) (Nat.zero_add _) ⟨Nat.le_refl _, Nat.le_refl _⟩ (fun hz H locs q9 ce hw h5 h6 h7 => ?_) (fun hz H locs hw => ?_)
  · rw [if_neg hz, if_neg hz]
    rcases hcd with hq | hq
    · exact absurd hq hz
    · skip
      subst hq
      refine vx_catch (name := "java/lang/IndexOutOfBoundsException") hown [] ⟨0, 9, 12, 24⟩ [] htb (fun z hz => by simp at hz) rfl (by decide) (hts _ (List.mem_of_getElem? (i := 1) rfl)) (va_Nw.use rfl (hT.1.2.1 3)) h5 h6 h7 ?_
      refine lv_astore_n (lv' := [(3, .ref q9), (0, .ref h), (1, .int x1), (2, .ref o)]) hx hb dL_feverOf_12 rfl hl (by decide) rfl (fun ls hl => ?_)
      refine lv_iconst (v := 1) hx hb dL_feverOf_13 (by decide) ?_
      exact g_ret hc hw (by first | rfl | simp) (Nat.le_refl _) (Nat.le_refl _) dL_feverOf_14
  · rw [if_pos hz, if_pos hz]
    refine lv_i2l (v := r.toInt64) hx hb dL_feverOf_7 rfl ?_
    refine g_last (f := f) hc hw 23 (l_app0 hn1) (show vp_in (0 : Int32) 1 by unfold vp_in; decide) (l_set0 hn1) dL_feverOf_8 (fun H locs hw => ?_)
    refine lv_goto (tgt := 15) hx hb dL_feverOf_9 (by decide) ?_
    refine lv_iconst (v := 0) hx hb dL_feverOf_15 (by decide) ?_
    exact g_ret hc hw rfl (Nat.le_refl _) (Nat.le_refl _) dL_feverOf_16
abbrev rm_L_wardOf : Room := { frames := 1 + rm_X1_wardOf.frames, cells := rm_X1_wardOf.cells, slots := rm_X1_wardOf.slots, locals := 30 + rm_X1_wardOf.locals }
set_option maxHeartbeats 4000000 in
set_option maxRecDepth 100000 in
theorem k_L_wardOf {l : Launch} (D : va_G) (cI cZ cL : ClassId) (h o : Nat) (x1 : Int32) (f : Nat → Int64) {w0 w1 : va_W} {code : Nat} {r : Int32} {fs : List Value} (hn0 : w0.length = 23) (hn1 : w1.length = 23) (he : w0[0]? = some (h, .inr (1, fs))) (hcd : code = 0 ∨ code = 3) (hM : TX l yX1_wardOf wsX1_wardOf rm_X1_wardOf D cI cZ cL [.ref h, .int x1] w0 code (some (.int r)) w1) : LX l yL_wardOf wsL_wardOf rm_L_wardOf D cI cZ cL [.ref h, .int x1, .ref o] (w0 ++ [(o, .inl (cL, 1, .inr (.inl f)))]) (some (.int (if code = 0 then (0 : Int32) else (1 : Int32)))) (if code = 0 then w1 ++ [(o, .inl (cL, 1, .inr (.inl (vp_updL f 0 r.toInt64))))] else w0 ++ [(o, .inl (cL, 1, .inr (.inl f)))]) := by
  refine LX.of (own := RL) (cc := cL_wardOf) (maxL := 4) (ret := (some .int)) (hh := [(0, 9, 12, 24)]) (lv0 := [(0, .ref h), (1, .int x1), (2, .ref o)]) (by decide) rfl rfl (Nat.le_of_ble_eq_true rfl) rfl ?_
  intro p e s m args below meth c A hc hT htb hw ls hl
  obtain ⟨hx, hb, hr, hml, hown, hts, hlk, hK, hA⟩ := id hc
  refine lv_aload_n hx hb dL_wardOf_0 rfl (lv_at hl 2 rfl) ?_
  refine lv_iconst (v := 0) hx hb dL_wardOf_1 (by decide) ?_
  refine lv_aload_n hx hb dL_wardOf_2 rfl (lv_at hl 0 rfl) ?_
  refine lv_iload_n hx hb dL_wardOf_3 rfl (lv_at hl 1 rfl) ?_
  have hpt := Pt.front hw hA
  refine pt_callV (n := 1) (As := [.int x1]) (rest := [.int 0, .ref o]) hc hT hw.2.2 hpt hM gL_wardOf_X1_wardOf rfl (by decide +kernel) ⟨Nat.le_of_ble_eq_true rfl, Nat.le_of_ble_eq_true rfl⟩ he rfl rfl rfl rfl hl.1 (Nat.le_of_ble_eq_true rfl) (st1 := [.int r, .int 0, .ref o]) rfl dL_wardOf_4 (k2 := rm_X1_wardOf.cells) (s2 := rm_X1_wardOf.slots) (Nat.zero_add _) (Nat.zero_add _) ⟨Nat.le_refl _, Nat.le_refl _⟩ (fun hz H locs q9 ce hw h5 h6 h7 => ?_) (fun hz H locs hw => ?_)
  · rw [if_neg hz, if_neg hz]
    rcases hcd with hq | hq
    · exact absurd hq hz
    · skip
      subst hq
      refine vx_catch (name := "java/lang/IndexOutOfBoundsException") hown [] ⟨0, 9, 12, 24⟩ [] htb (fun z hz => by simp at hz) rfl (by decide) (hts _ (List.mem_of_getElem? (i := 1) rfl)) (va_Nw.use rfl (hT.1.2.1 3)) h5 h6 h7 ?_
      refine lv_astore_n (lv' := [(3, .ref q9), (0, .ref h), (1, .int x1), (2, .ref o)]) hx hb dL_wardOf_12 rfl hl (by decide) rfl (fun ls hl => ?_)
      refine lv_iconst (v := 1) hx hb dL_wardOf_13 (by decide) ?_
      exact g_ret hc hw (by first | rfl | simp) (Nat.le_refl _) (Nat.le_refl _) dL_wardOf_14
  · rw [if_pos hz, if_pos hz]
    refine lv_i2l (v := r.toInt64) hx hb dL_wardOf_7 rfl ?_
    refine g_last (f := f) hc hw 23 (l_app0 hn1) (show vp_in (0 : Int32) 1 by unfold vp_in; decide) (l_set0 hn1) dL_wardOf_8 (fun H locs hw => ?_)
    refine lv_goto (tgt := 15) hx hb dL_wardOf_9 (by decide) ?_
    refine lv_iconst (v := 0) hx hb dL_wardOf_15 (by decide) ?_
    exact g_ret hc hw rfl (Nat.le_refl _) (Nat.le_refl _) dL_wardOf_16
abbrev rm_L_bargeOf : Room := { frames := 1 + rm_X1_bargeOf.frames, cells := rm_X1_bargeOf.cells, slots := rm_X1_bargeOf.slots, locals := 30 + rm_X1_bargeOf.locals }
set_option maxHeartbeats 4000000 in
set_option maxRecDepth 100000 in
theorem k_L_bargeOf {l : Launch} (D : va_G) (cI cZ cL : ClassId) (h o : Nat) (x1 : Int32) (f : Nat → Int64) {w0 w1 : va_W} {code : Nat} {r : Int32} {fs : List Value} (hn0 : w0.length = 23) (hn1 : w1.length = 23) (he : w0[0]? = some (h, .inr (1, fs))) (hcd : code = 0 ∨ code = 3) (hM : TX l yX1_bargeOf wsX1_bargeOf rm_X1_bargeOf D cI cZ cL [.ref h, .int x1] w0 code (some (.int r)) w1) : LX l yL_bargeOf wsL_bargeOf rm_L_bargeOf D cI cZ cL [.ref h, .int x1, .ref o] (w0 ++ [(o, .inl (cL, 1, .inr (.inl f)))]) (some (.int (if code = 0 then (0 : Int32) else (1 : Int32)))) (if code = 0 then w1 ++ [(o, .inl (cL, 1, .inr (.inl (vp_updL f 0 r.toInt64))))] else w0 ++ [(o, .inl (cL, 1, .inr (.inl f)))]) := by
  refine LX.of (own := RL) (cc := cL_bargeOf) (maxL := 4) (ret := (some .int)) (hh := [(0, 9, 12, 24)]) (lv0 := [(0, .ref h), (1, .int x1), (2, .ref o)]) (by decide) rfl rfl (Nat.le_of_ble_eq_true rfl) rfl ?_
  intro p e s m args below meth c A hc hT htb hw ls hl
  obtain ⟨hx, hb, hr, hml, hown, hts, hlk, hK, hA⟩ := id hc
  refine lv_aload_n hx hb dL_bargeOf_0 rfl (lv_at hl 2 rfl) ?_
  refine lv_iconst (v := 0) hx hb dL_bargeOf_1 (by decide) ?_
  refine lv_aload_n hx hb dL_bargeOf_2 rfl (lv_at hl 0 rfl) ?_
  refine lv_iload_n hx hb dL_bargeOf_3 rfl (lv_at hl 1 rfl) ?_
  have hpt := Pt.front hw hA
  refine pt_callV (n := 1) (As := [.int x1]) (rest := [.int 0, .ref o]) hc hT hw.2.2 hpt hM gL_bargeOf_X1_bargeOf rfl (by decide +kernel) ⟨Nat.le_of_ble_eq_true rfl, Nat.le_of_ble_eq_true rfl⟩ he rfl rfl rfl rfl hl.1 (Nat.le_of_ble_eq_true rfl) (st1 := [.int r, .int 0, .ref o]) rfl dL_bargeOf_4 (k2 := rm_X1_bargeOf.cells) (s2 := rm_X1_bargeOf.slots) (Nat.zero_add _) (Nat.zero_add _) ⟨Nat.le_refl _, Nat.le_refl _⟩ (fun hz H locs q9 ce hw h5 h6 h7 => ?_) (fun hz H locs hw => ?_)
  · rw [if_neg hz, if_neg hz]
    rcases hcd with hq | hq
    · exact absurd hq hz
    · skip
      subst hq
      refine vx_catch (name := "java/lang/IndexOutOfBoundsException") hown [] ⟨0, 9, 12, 24⟩ [] htb (fun z hz => by simp at hz) rfl (by decide) (hts _ (List.mem_of_getElem? (i := 1) rfl)) (va_Nw.use rfl (hT.1.2.1 3)) h5 h6 h7 ?_
      refine lv_astore_n (lv' := [(3, .ref q9), (0, .ref h), (1, .int x1), (2, .ref o)]) hx hb dL_bargeOf_12 rfl hl (by decide) rfl (fun ls hl => ?_)
      refine lv_iconst (v := 1) hx hb dL_bargeOf_13 (by decide) ?_
      exact g_ret hc hw (by first | rfl | simp) (Nat.le_refl _) (Nat.le_refl _) dL_bargeOf_14
  · rw [if_pos hz, if_pos hz]
    refine lv_i2l (v := r.toInt64) hx hb dL_bargeOf_7 rfl ?_
    refine g_last (f := f) hc hw 23 (l_app0 hn1) (show vp_in (0 : Int32) 1 by unfold vp_in; decide) (l_set0 hn1) dL_bargeOf_8 (fun H locs hw => ?_)
    refine lv_goto (tgt := 15) hx hb dL_bargeOf_9 (by decide) ?_
    refine lv_iconst (v := 0) hx hb dL_bargeOf_15 (by decide) ?_
    exact g_ret hc hw rfl (Nat.le_refl _) (Nat.le_refl _) dL_bargeOf_16