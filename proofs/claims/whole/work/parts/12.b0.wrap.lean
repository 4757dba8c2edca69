abbrev rm_L_addWard : Room := { frames := 1 + rm_X1_addWard.frames, cells := rm_X1_addWard.cells, slots := rm_X1_addWard.slots, locals := 30 + rm_X1_addWard.locals }
set_option maxHeartbeats 4000000 in
set_option maxRecDepth 100000 in
theorem k_L_addWard {l : Launch} (D : va_G) (cI cZ cL : ClassId) (h o : Nat) (x1 : Int32) (f : Nat → Int64) {w0 w1 : va_W} {code : Nat} {r : Int32} {fs : List Value} (hn0 : w0.length = 23) (hn1 : w1.length = 23) (he : w0[0]? = some (h, .inr (1, fs))) (hcd : code = 0 ∨ code = 1 ∨ code = 2) (hM : TX l yX1_addWard wsX1_addWard rm_X1_addWard D cI cZ cL [.ref h, .int x1] w0 code (some (.int r)) w1) : LX l yL_addWard wsL_addWard rm_L_addWard D cI cZ cL [.ref h, .int x1, .ref o] (w0 ++ [(o, .inl (cL, 1, .inr (.inl f)))]) (some (.int (if code = 0 then (0 : Int32) else (if code = 1 then (1 : Int32) else (2 : Int32))))) (if code = 0 then w1 ++ [(o, .inl (cL, 1, .inr (.inl (vp_updL f 0 r.toInt64))))] else w0 ++ [(o, .inl (cL, 1, .inr (.inl f)))]) := by
  refine LX.of (own := RL) (cc := cL_addWard) (maxL := 4) (ret := (some .int)) (hh := [(0, 9, 12, 13), (0, 9, 15, 15)]) (lv0 := [(0, .ref h), (1, .int x1), (2, .ref o)]) (by decide) rfl rfl (Nat.le_of_ble_eq_true rfl) rfl ?_
  intro p e s m args below meth c A hc hT htb hw ls hl
  obtain ⟨hx, hb, hr, hml, hown, hts, hlk, hK, hA⟩ := id hc
  refine lv_aload_n hx hb dL_addWard_0 rfl (lv_at hl 2 rfl) ?_
  refine lv_iconst (v := 0) hx hb dL_addWard_1 (by decide) ?_
  refine lv_aload_n hx hb dL_addWard_2 rfl (lv_at hl 0 rfl) ?_
  refine lv_iload_n hx hb dL_addWard_3 rfl (lv_at hl 1 rfl) ?_
  have hpt := Pt.front hw hA
  refine pt_callV (n := 1) (As := [.int x1]) (rest := [.int 0, .ref o]) hc hT hw.2.2 hpt hM gL_addWard_X1_addWard rfl (by decide +kernel) ⟨Nat.le_of_ble_eq_true rfl, Nat.le_of_ble_eq_true rfl⟩ he rfl rfl rfl rfl hl.1 (Nat.le_of_ble_eq_true rfl) (st1 := [.int r, .int 0, .ref o]) rfl dL_addWard_4 (k2 := rm_X1_addWard.cells) (s2 := rm_X1_addWard.slots) (Nat.zero_add _) (Nat.zero_add _) ⟨Nat.le_refl _, Nat.le_refl _⟩ (fun hz H locs q9 ce hw h5 h6 h7 => ?_) (fun hz H locs hw => ?_)
  · rw [if_neg hz, if_neg hz]
    rcases hcd with hq | hq | hq
    · exact absurd hq hz
    · skip
      subst hq
      refine vx_catch (name := "java/lang/IllegalArgumentException") hown [] ⟨0, 9, 12, 13⟩ [⟨0, 9, 15, 15⟩] htb (fun z hz => by simp at hz) rfl (by decide) (hts _ (List.mem_of_getElem? (i := 1) rfl)) (va_Nw.use rfl (hT.1.2.1 1)) h5 h6 h7 ?_
      refine lv_astore_n (lv' := [(3, .ref q9), (0, .ref h), (1, .int x1), (2, .ref o)]) hx hb dL_addWard_12 rfl hl (by decide) rfl (fun ls hl => ?_)
      refine lv_iconst (v := 1) hx hb dL_addWard_13 (by decide) ?_
      exact g_ret hc hw (by first | rfl | simp) (Nat.le_refl _) (Nat.le_refl _) dL_addWard_14
    · skip
      subst hq
      refine vx_catch (name := "java/lang/IllegalStateException") hown [⟨0, 9, 12, 13⟩] ⟨0, 9, 15, 15⟩ [] htb (fun z hz => by rw [List.mem_singleton] at hz; subst hz; exact Or.inr ⟨by decide, "java/lang/IllegalArgumentException", hts _ (List.mem_of_getElem? (i := 1) rfl), hT.1.2.2 2 1 (by decide)⟩) rfl (by decide) (hts _ (List.mem_of_getElem? (i := 2) rfl)) (va_Nw.use rfl (hT.1.2.1 2)) h5 h6 h7 ?_
      refine lv_astore_n (lv' := [(3, .ref q9), (0, .ref h), (1, .int x1), (2, .ref o)]) hx hb dL_addWard_15 rfl hl (by decide) rfl (fun ls hl => ?_)
      refine lv_iconst (v := 2) hx hb dL_addWard_16 (by decide) ?_
      exact g_ret hc hw (by first | rfl | simp) (Nat.le_refl _) (Nat.le_refl _) dL_addWard_17
  · rw [if_pos hz, if_pos hz]
    refine lv_i2l (v := r.toInt64) hx hb dL_addWard_7 rfl ?_
    refine g_last (f := f) hc hw 23 (l_app0 hn1) (show vp_in (0 : Int32) 1 by unfold vp_in; decide) (l_set0 hn1) dL_addWard_8 (fun H locs hw => ?_)
    refine lv_goto (tgt := 18) hx hb dL_addWard_9 (by decide) ?_
    refine lv_iconst (v := 0) hx hb dL_addWard_18 (by decide) ?_
    exact g_ret hc hw rfl (Nat.le_refl _) (Nat.le_refl _) dL_addWard_19
abbrev rm_L_addBarge : Room := { frames := 1 + rm_X1_addBarge.frames, cells := rm_X1_addBarge.cells, slots := rm_X1_addBarge.slots, locals := 30 + rm_X1_addBarge.locals }
set_option maxHeartbeats 4000000 in
set_option maxRecDepth 100000 in
theorem k_L_addBarge {l : Launch} (D : va_G) (cI cZ cL : ClassId) (h o : Nat) (x1 : Int32) (f : Nat → Int64) {w0 w1 : va_W} {code : Nat} {r : Int32} {fs : List Value} (hn0 : w0.length = 23) (hn1 : w1.length = 23) (he : w0[0]? = some (h, .inr (1, fs))) (hcd : code = 0 ∨ code = 1 ∨ code = 2) (hM : TX l yX1_addBarge wsX1_addBarge rm_X1_addBarge D cI cZ cL [.ref h, .int x1] w0 code (some (.int r)) w1) : LX l yL_addBarge wsL_addBarge rm_L_addBarge D cI cZ cL [.ref h, .int x1, .ref o] (w0 ++ [(o, .inl (cL, 1, .inr (.inl f)))]) (some (.int (if code = 0 then (0 : Int32) else (if code = 1 then (1 : Int32) else (2 : Int32))))) (if code = 0 then w1 ++ [(o, .inl (cL, 1, .inr (.inl (vp_updL f 0 r.toInt64))))] else w0 ++ [(o, .inl (cL, 1, .inr (.inl f)))]) := by
  refine LX.of (own := RL) (cc := cL_addBarge) (maxL := 4) (ret := (some .int)) (hh := [(0, 9, 12, 13), (0, 9, 15, 15)]) (lv0 := [(0, .ref h), (1, .int x1), (2, .ref o)]) (by decide) rfl rfl (Nat.le_of_ble_eq_true rfl) rfl ?_
  intro p e s m args below meth c A hc hT htb hw ls hl
  obtain ⟨hx, hb, hr, hml, hown, hts, hlk, hK, hA⟩ := id hc
  refine lv_aload_n hx hb dL_addBarge_0 rfl (lv_at hl 2 rfl) ?_
  refine lv_iconst (v := 0) hx hb dL_addBarge_1 (by decide) ?_
  refine lv_aload_n hx hb dL_addBarge_2 rfl (lv_at hl 0 rfl) ?_
  refine lv_iload_n hx hb dL_addBarge_3 rfl (lv_at hl 1 rfl) ?_
  have hpt := Pt.front hw hA
  refine pt_callV (n := 1) (As := [.int x1]) (rest := [.int 0, .ref o]) hc hT hw.2.2 hpt hM gL_addBarge_X1_addBarge rfl (by decide +kernel) ⟨Nat.le_of_ble_eq_true rfl, Nat.le_of_ble_eq_true rfl⟩ he rfl rfl rfl rfl hl.1 (Nat.le_of_ble_eq_true rfl) (st1 := [.int r, .int 0, .ref o]) rfl dL_addBarge_4 (k2 := rm_X1_addBarge.cells) (s2 := rm_X1_addBarge.slots) (Nat.zero_add _) (Nat.zero_add _) ⟨Nat.le_refl _, Nat.le_refl _⟩ (fun hz H locs q9 ce hw h5 h6 h7 => ?_) (fun hz H locs hw => ?_)
  · rw [if_neg hz, if_neg hz]
    rcases hcd with hq | hq | hq
    · exact absurd hq hz
    · skip
      subst hq
      refine vx_catch (name := "java/lang/IllegalArgumentException") hown [] ⟨0, 9, 12, 13⟩ [⟨0, 9, 15, 15⟩] htb (fun z hz => by simp at hz) rfl (by decide) (hts _ (List.mem_of_getElem? (i := 1) rfl)) (va_Nw.use rfl (hT.1.2.1 1)) h5 h6 h7 ?_
      refine lv_astore_n (lv' := [(3, .ref q9), (0, .ref h), (1, .int x1), (2, .ref o)]) hx hb dL_addBarge_12 rfl hl (by decide) rfl (fun ls hl => ?_)
      refine lv_iconst (v := 1) hx hb dL_addBarge_13 (by decide) ?_
      exact g_ret hc hw (by first | rfl | simp) (Nat.le_refl _) (Nat.le_refl _) dL_addBarge_14
    · skip
      subst hq
      refine vx_catch (name := "java/lang/IllegalStateException") hown [⟨0, 9, 12, 13⟩] ⟨0, 9, 15, 15⟩ [] htb (fun z hz => by rw [List.mem_singleton] at hz; subst hz; exact Or.inr ⟨by decide, "java/lang/IllegalArgumentException", hts _ (List.mem_of_getElem? (i := 1) rfl), hT.1.2.2 2 1 (by decide)⟩) rfl (by decide) (hts _ (List.mem_of_getElem? (i := 2) rfl)) (va_Nw.use rfl (hT.1.2.1 2)) h5 h6 h7 ?_
      refine lv_astore_n (lv' := [(3, .ref q9), (0, .ref h), (1, .int x1), (2, .ref o)]) hx hb dL_addBarge_15 rfl hl (by decide) rfl (fun ls hl => ?_)
      refine lv_iconst (v := 2) hx hb dL_addBarge_16 (by decide) ?_
      exact g_ret hc hw (by first | rfl | simp) (Nat.le_refl _) (Nat.le_refl _) dL_addBarge_17
  · rw [if_pos hz, if_pos hz]
    refine lv_i2l (v := r.toInt64) hx hb dL_addBarge_7 rfl ?_
    refine g_last (f := f) hc hw 23 (l_app0 hn1) (show vp_in (0 : Int32) 1 by unfold vp_in; decide) (l_set0 hn1) dL_addBarge_8 (fun H locs hw => ?_)
    refine lv_goto (tgt := 18) hx hb dL_addBarge_9 (by decide) ?_
    refine lv_iconst (v := 0) hx hb dL_addBarge_18 (by decide) ?_
    exact g_ret hc hw rfl (Nat.le_refl _) (Nat.le_refl _) dL_addBarge_19
abbrev rm_L_board : Room := { frames := 1 + rm_X1_board.frames, cells := rm_X1_board.cells, slots := rm_X1_board.slots, locals := 30 + rm_X1_board.locals }
set_option maxHeartbeats 4000000 in
set_option maxRecDepth 100000 in
theorem k_L_board {l : Launch} (D : va_G) (cI cZ cL : ClassId) (h o : Nat) (x1 : Int32) (x2 : Int32) (f : Nat → Int64) {w0 w1 : va_W} {code : Nat} {r : Int32} {fs : List Value} (hn0 : w0.length = 23) (hn1 : w1.length = 23) (he : w0[0]? = some (h, .inr (1, fs))) (hcd : code = 0 ∨ code = 3 ∨ code = 1 ∨ code = 2) (hM : TX l yX1_board wsX1_board rm_X1_board D cI cZ cL [.ref h, .int x1, .int x2] w0 code (some (.int r)) w1) : LX l yL_board wsL_board rm_L_board D cI cZ cL [.ref h, .int x1, .int x2, .ref o] (w0 ++ [(o, .inl (cL, 1, .inr (.inl f)))]) (some (.int (if code = 0 then (0 : Int32) else (if code = 3 then (1 : Int32) else (if code = 1 then (2 : Int32) else (3 : Int32)))))) (if code = 0 then w1 ++ [(o, .inl (cL, 1, .inr (.inl (vp_updL f 0 r.toInt64))))] else w0 ++ [(o, .inl (cL, 1, .inr (.inl f)))]) := by
  refine LX.of (own := RL) (cc := cL_board) (maxL := 5) (ret := (some .int)) (hh := [(0, 10, 13, 24), (0, 10, 17, 13), (0, 10, 21, 15)]) (lv0 := [(0, .ref h), (1, .int x1), (2, .int x2), (3, .ref o)]) (by decide) rfl rfl (Nat.le_of_ble_eq_true rfl) rfl ?_
  intro p e s m args below meth c A hc hT htb hw ls hl
  obtain ⟨hx, hb, hr, hml, hown, hts, hlk, hK, hA⟩ := id hc
  refine lv_aload_n hx hb dL_board_0 rfl (lv_at hl 3 rfl) ?_
  refine lv_iconst (v := 0) hx hb dL_board_1 (by decide) ?_
  refine lv_aload_n hx hb dL_board_2 rfl (lv_at hl 0 rfl) ?_
  refine lv_iload_n hx hb dL_board_3 rfl (lv_at hl 1 rfl) ?_
  refine lv_iload_n hx hb dL_board_4 rfl (lv_at hl 2 rfl) ?_
  have hpt := Pt.front hw hA
  refine pt_callV (n := 2) (As := [.int x1, .int x2]) (rest := [.int 0, .ref o]) hc hT hw.2.2 hpt hM gL_board_X1_board rfl (by decide +kernel) ⟨Nat.le_of_ble_eq_true rfl, Nat.le_of_ble_eq_true rfl⟩ he rfl rfl rfl rfl hl.1 (Nat.le_of_ble_eq_true rfl) (st1 := [.int r, .int 0, .ref o]) rfl dL_board_5 (k2 := rm_X1_board.cells) (s2 := rm_X1_board.slots) (Nat.zero_add _) (Nat.zero_add _) ⟨Nat.le_refl _, Nat.le_refl _⟩ (fun hz H locs q9 ce hw h5 h6 h7 => ?_) (fun hz H locs hw => ?_)
  · rw [if_neg hz, if_neg hz]
    rcases hcd with hq | hq | hq | hq
    · exact absurd hq hz
    · skip
      subst hq
      refine vx_catch (name := "java/lang/IndexOutOfBoundsException") hown [] ⟨0, 10, 13, 24⟩ [⟨0, 10, 17, 13⟩, ⟨0, 10, 21, 15⟩] htb (fun z hz => by simp at hz) rfl (by decide) (hts _ (List.mem_of_getElem? (i := 1) rfl)) (va_Nw.use rfl (hT.1.2.1 3)) h5 h6 h7 ?_
      refine lv_astore (lv' := [(4, .ref q9), (0, .ref h), (1, .int x1), (2, .int x2), (3, .ref o)]) hx hb dL_board_13 hl (by decide) rfl (fun ls hl => ?_)
      refine lv_iconst (v := 1) hx hb dL_board_15 (by decide) ?_
      exact g_ret hc hw (by first | rfl | simp) (Nat.le_refl _) (Nat.le_refl _) dL_board_16
    · skip
      subst hq
      refine vx_catch (name := "java/lang/IllegalArgumentException") hown [⟨0, 10, 13, 24⟩] ⟨0, 10, 17, 13⟩ [⟨0, 10, 21, 15⟩] htb (fun z hz => by rw [List.mem_singleton] at hz; subst hz; exact Or.inr ⟨by decide, "java/lang/IndexOutOfBoundsException", hts _ (List.mem_of_getElem? (i := 1) rfl), hT.1.2.2 1 3 (by decide)⟩) rfl (by decide) (hts _ (List.mem_of_getElem? (i := 2) rfl)) (va_Nw.use rfl (hT.1.2.1 1)) h5 h6 h7 ?_
      refine lv_astore (lv' := [(4, .ref q9), (0, .ref h), (1, .int x1), (2, .int x2), (3, .ref o)]) hx hb dL_board_17 hl (by decide) rfl (fun ls hl => ?_)
      refine lv_iconst (v := 2) hx hb dL_board_19 (by decide) ?_
      exact g_ret hc hw (by first | rfl | simp) (Nat.le_refl _) (Nat.le_refl _) dL_board_20
    · skip
      subst hq
      refine vx_catch (name := "java/lang/IllegalStateException") hown [⟨0, 10, 13, 24⟩, ⟨0, 10, 17, 13⟩] ⟨0, 10, 21, 15⟩ [] htb (fun z hz => by
        rcases List.mem_cons.mp hz with rfl | hz
        · exact Or.inr ⟨by decide, "java/lang/IndexOutOfBoundsException", hts _ (List.mem_of_getElem? (i := 1) rfl), hT.1.2.2 2 3 (by decide)⟩
        · rw [List.mem_singleton] at hz; subst hz; exact Or.inr ⟨by decide, "java/lang/IllegalArgumentException", hts _ (List.mem_of_getElem? (i := 2) rfl), hT.1.2.2 2 1 (by decide)⟩) rfl (by decide) (hts _ (List.mem_of_getElem? (i := 3) rfl)) (va_Nw.use rfl (hT.1.2.1 2)) h5 h6 h7 ?_
      refine lv_astore (lv' := [(4, .ref q9), (0, .ref h), (1, .int x1), (2, .int x2), (3, .ref o)]) hx hb dL_board_21 hl (by decide) rfl (fun ls hl => ?_)
      refine lv_iconst (v := 3) hx hb dL_board_23 (by decide) ?_
      exact g_ret hc hw (by first | rfl | simp) (Nat.le_refl _) (Nat.le_refl _) dL_board_24
  · rw [if_pos hz, if_pos hz]
    refine lv_i2l (v := r.toInt64) hx hb dL_board_8 rfl ?_
    refine g_last (f := f) hc hw 23 (l_app0 hn1) (show vp_in (0 : Int32) 1 by unfold vp_in; decide) (l_set0 hn1) dL_board_9 (fun H locs hw => ?_)
    refine lv_goto (tgt := 25) hx hb dL_board_10 (by decide) ?_
    refine lv_iconst (v := 0) hx hb dL_board_25 (by decide) ?_
    exact g_ret hc hw rfl (Nat.le_refl _) (Nat.le_refl _) dL_board_26
abbrev rm_L_setBowls : Room := { frames := 1 + rm_X1_setBowls.frames, cells := rm_X1_setBowls.cells, slots := rm_X1_setBowls.slots, locals := 30 + rm_X1_setBowls.locals }
set_option maxHeartbeats 4000000 in
set_option maxRecDepth 100000 in
theorem k_L_setBowls {l : Launch} (D : va_G) (cI cZ cL : ClassId) (h o : Nat) (x1 : Int32) (f : Nat → Int64) {w0 w1 : va_W} {code : Nat} {r : Int32} {fs : List Value} (hn0 : w0.length = 23) (hn1 : w1.length = 23) (he : w0[0]? = some (h, .inr (1, fs))) (hcd : code = 0 ∨ code = 1) (hM : TX l yX1_setBowls wsX1_setBowls rm_X1_setBowls D cI cZ cL [.ref h, .int x1] w0 code (some (.int r)) w1) : LX l yL_setBowls wsL_setBowls rm_L_setBowls D cI cZ cL [.ref h, .int x1, .ref o] (w0 ++ [(o, .inl (cL, 1, .inr (.inl f)))]) (some (.int (if code = 0 then (0 : Int32) else (1 : Int32)))) (if code = 0 then w1 ++ [(o, .inl (cL, 1, .inr (.inl (vp_updL f 0 r.toInt64))))] else w0 ++ [(o, .inl (cL, 1, .inr (.inl f)))]) := by
  refine LX.of (own := RL) (cc := cL_setBowls) (maxL := 4) (ret := (some .int)) (hh := [(0, 9, 12, 13)]) (lv0 := [(0, .ref h), (1, .int x1), (2, .ref o)]) (by decide) rfl rfl (Nat.le_of_ble_eq_true rfl) rfl ?_
  intro p e s m args below meth c A hc hT htb hw ls hl
  obtain ⟨hx, hb, hr, hml, hown, hts, hlk, hK, hA⟩ := id hc
  refine lv_aload_n hx hb dL_setBowls_0 rfl (lv_at hl 2 rfl) ?_
  refine lv_iconst (v := 0) hx hb dL_setBowls_1 (by decide) ?_
  refine lv_aload_n hx hb dL_setBowls_2 rfl (lv_at hl 0 rfl) ?_
  refine lv_iload_n hx hb dL_setBowls_3 rfl (lv_at hl 1 rfl) ?_
  have hpt := Pt.front hw hA
  refine pt_callV (n := 1) (As := [.int x1]) (rest := [.int 0, .ref o]) hc hT hw.2.2 hpt hM gL_setBowls_X1_setBowls rfl (by decide +kernel) ⟨Nat.le_of_ble_eq_true rfl, Nat.le_of_ble_eq_true rfl⟩ he rfl rfl rfl rfl hl.1 (Nat.le_of_ble_eq_true rfl) (st1 := [.int r, .int 0, .ref o]) rfl dL_setBowls_4 (k2 := rm_X1_setBowls.cells) (s2 := rm_X1_setBowls.slots) (Nat.zero_add _) (Nat.zero_add _) ⟨Nat.le_refl _, Nat.le_refl _⟩ (fun hz H locs q9 ce hw h5 h6 h7 => ?_) (fun hz H locs hw => ?_)
  · rw [if_neg hz, if_neg hz]
    rcases hcd with hq | hq
    · exact absurd hq hz
    · skip
      subst hq
      refine vx_catch (name := "java/lang/IllegalArgumentException") hown [] ⟨0, 9, 12, 13⟩ [] htb (fun z hz => by simp at hz) rfl (by decide) (hts _ (List.mem_of_getElem? (i := 1) rfl)) (va_Nw.use rfl (hT.1.2.1 1)) h5 h6 h7 ?_
      refine lv_astore_n (lv' := [(3, .ref q9), (0, .ref h), (1, .int x1), (2, .ref o)]) hx hb dL_setBowls_12 rfl hl (by decide) rfl (fun ls hl => ?_)
      refine lv_iconst (v := 1) hx hb dL_setBowls_13 (by decide) ?_
      exact g_ret hc hw (by first | rfl | simp) (Nat.le_refl _) (Nat.le_refl _) dL_setBowls_14
  · rw [if_pos hz, if_pos hz]
    refine lv_i2l (v := r.toInt64) hx hb dL_setBowls_7 rfl ?_
    refine g_last (f := f) hc hw 23 (l_app0 hn1) (show vp_in (0 : Int32) 1 by unfold vp_in; decide) (l_set0 hn1) dL_setBowls_8 (fun H locs hw => ?_)
    refine lv_goto (tgt := 15) hx hb dL_setBowls_9 (by decide) ?_
    refine lv_iconst (v := 0) hx hb dL_setBowls_15 (by decide) ?_
    exact g_ret hc hw rfl (Nat.le_refl _) (Nat.le_refl _) dL_setBowls_16
abbrev rm_L_layStraw : Room := { frames := 1 + rm_X1_layStraw.frames, cells := rm_X1_layStraw.cells, slots := rm_X1_layStraw.slots, locals := 30 + rm_X1_layStraw.locals }
set_option maxHeartbeats 4000000 in
set_option maxRecDepth 100000 in
theorem k_L_layStraw {l : Launch} (D : va_G) (cI cZ cL : ClassId) (h o : Nat) (x1 : Int32) (f : Nat → Int64) {w0 w1 : va_W} {code : Nat} {r : Int32} {fs : List Value} (hn0 : w0.length = 23) (hn1 : w1.length = 23) (he : w0[0]? = some (h, .inr (1, fs))) (hcd : code = 0 ∨ code = 3) (hM : TX l yX1_layStraw wsX1_layStraw rm_X1_layStraw D cI cZ cL [.ref h, .int x1] w0 code (some (.int r)) w1) : LX l yL_layStraw wsL_layStraw rm_L_layStraw D cI cZ cL [.ref h, .int x1, .ref o] (w0 ++ [(o, .inl (cL, 1, .inr (.inl f)))]) (some (.int (if code = 0 then (0 : Int32) else (1 : Int32)))) (if code = 0 then w1 ++ [(o, .inl (cL, 1, .inr (.inl (vp_updL f 0 r.toInt64))))] else w0 ++ [(o, .inl (cL, 1, .inr (.inl f)))]) := by
  refine LX.of (own := RL) (cc := cL_layStraw) (maxL := 4) (ret := (some .int)) (hh := [(0, 9, 12, 24)]) (lv0 := [(0, .ref h), (1, .int x1), (2, .ref o)]) (by decide) rfl rfl (Nat.le_of_ble_eq_true rfl) rfl ?_
  intro p e s m args below meth c A hc hT htb hw ls hl
  obtain ⟨hx, hb, hr, hml, hown, hts, hlk, hK, hA⟩ := id hc
  refine lv_aload_n hx hb dL_layStraw_0 rfl (lv_at hl 2 rfl) ?_
  refine lv_iconst (v := 0) hx hb dL_layStraw_1 (by decide) ?_
  refine lv_aload_n hx hb dL_layStraw_2 rfl (lv_at hl 0 rfl) ?_
  refine lv_iload_n hx hb dL_layStraw_3 rfl (lv_at hl 1 rfl) ?_
  have hpt := Pt.front hw hA
  refine pt_callV (n := 1) (As := [.int x1]) (rest := [.int 0, .ref o]) hc hT hw.2.2 hpt hM gL_layStraw_X1_layStraw rfl (by decide +kernel) ⟨Nat.le_of_ble_eq_true rfl, Nat.le_of_ble_eq_true rfl⟩ he rfl rfl rfl rfl hl.1 (Nat.le_of_ble_eq_true rfl) (st1 := [.int r, .int 0, .ref o]) rfl dL_layStraw_4 (k2 := rm_X1_layStraw.cells) (s2 := rm_X1_layStraw.slots) (Nat.zero_add _) (Nat.zero_add _) ⟨Nat.le_refl _, Nat.le_refl _⟩ (fun hz H locs q9 ce hw h5 h6 h7 => ?_) (fun hz H locs hw => ?_)
  · rw [if_neg hz, if_neg hz]
    rcases hcd with hq | hq
    · exact absurd hq hz
    · skip
      subst hq
      refine vx_catch (name := "java/lang/IndexOutOfBoundsException") hown [] ⟨0, 9, 12, 24⟩ [] htb (fun z hz => by simp at hz) rfl (by decide) (hts _ (List.mem_of_getElem? (i := 1) rfl)) (va_Nw.use rfl (hT.1.2.1 3)) h5 h6 h7 ?_
      refine lv_astore_n (lv' := [(3, .ref q9), (0, .ref h), (1, .int x1), (2, .ref o)]) hx hb dL_layStraw_12 rfl hl (by decide) rfl (fun ls hl => ?_)
      refine lv_iconst (v := 1) hx hb dL_layStraw_13 (by decide) ?_
      exact g_ret hc hw (by first | rfl | simp) (Nat.le_refl _) (Nat.le_refl _) dL_layStraw_14
  · rw [if_pos hz, if_pos hz]
    refine lv_i2l (v := r.toInt64) hx hb dL_layStraw_7 rfl ?_
    refine g_last (f := f) hc hw 23 (l_app0 hn1) (show vp_in (0 : Int32) 1 by unfold vp_in; decide) (l_set0 hn1) dL_layStraw_8 (fun H locs hw => ?_)
    refine lv_goto (tgt := 15) hx hb dL_layStraw_9 (by decide) ?_
    refine lv_iconst (v := 0) hx hb dL_layStraw_15 (by decide) ?_
    exact g_ret hc hw rfl (Nat.le_refl _) (Nat.le_refl _) dL_layStraw_16