abbrev rm_L_isHome : Room := { frames := 1 + rm_X1_isHome.frames, cells := rm_X1_isHome.cells, slots := rm_X1_isHome.slots, locals := 30 + rm_X1_isHome.locals }
set_option maxHeartbeats 4000000 in
set_option maxRecDepth 100000 in
theorem k_L_isHome {l : Launch} (D : va_G) (cI cZ cL : ClassId) (h o : Nat) (x1 : Int32) (f : Nat → Int64) {w0 w1 : va_W} {code : Nat} {r : Int32} {fs : List Value} (hn0 : w0.length = 23) (hn1 : w1.length = 23) (he : w0[0]? = some (h, .inr (1, fs))) (hcd : code = 0 ∨ code = 3) (hM : TX l yX1_isHome wsX1_isHome rm_X1_isHome D cI cZ cL [.ref h, .int x1] w0 code (some (.int r)) w1) : LX l yL_isHome wsL_isHome rm_L_isHome D cI cZ cL [.ref h, .int x1, .ref o] (w0 ++ [(o, .inl (cL, 1, .inr (.inl f)))]) (some (.int (if code = 0 then (0 : Int32) else (1 : Int32)))) (if code = 0 then w1 ++ [(o, .inl (cL, 1, .inr (.inl (vp_updL f 0 (if r = 0 then (0 : Int64) else (1 : Int64))))))] else w0 ++ [(o, .inl (cL, 1, .inr (.inl f)))]) := by
  refine LX.of (own := RL) (cc := cL_isHome) (maxL := 4) (ret := (some .int)) (hh := [(0, 16, 19, 24)]) (lv0 := [(0, .ref h), (1, .int x1), (2, .ref o)]) (by decide) rfl rfl (Nat.le_of_ble_eq_true rfl) rfl ?_
  intro p e s m args below meth c A hc hT htb hw ls hl
  obtain ⟨hx, hb, hr, hml, hown, hts, hlk, hK, hA⟩ := id hc
  refine lv_aload_n hx hb dL_isHome_0 rfl (lv_at hl 2 rfl) ?_
  refine lv_iconst (v := 0) hx hb dL_isHome_1 (by decide) ?_
  refine lv_aload_n hx hb dL_isHome_2 rfl (lv_at hl 0 rfl) ?_
  refine lv_iload_n hx hb dL_isHome_3 rfl (lv_at hl 1 rfl) ?_
  have hpt := Pt.front hw hA
  refine pt_callV (n := 1) (As := [.int x1]) (rest := [.int 0, .ref o]) hc hT hw.2.2 hpt hM gL_isHome_X1_isHome rfl (by decide +kernel) ⟨Nat.le_of_ble_eq_true rfl, Nat.le_of_ble_eq_true rfl⟩ he rfl rfl rfl rfl hl.1 (Nat.le_of_ble_eq_true rfl) (st1 := [.int r, .int 0, .ref o]) rfl dL_isHome_4 (k2 := rm_X1_isHome.cells) (s2 := rm_X1_isHome.slots) (Nat.zero_add _) (Nat.zero_add _) ⟨Nat.le_refl _, Nat.le_refl _⟩ (fun hz H locs q9 ce hw h5 h6 h7 => ?_) (fun hz H locs hw => ?_)
  · rw [if_neg hz, if_neg hz]
    rcases hcd with hq | hq
    · exact absurd hq hz
    · skip
      subst hq
      refine vx_catch (name := "java/lang/IndexOutOfBoundsException") hown [] ⟨0, 16, 19, 24⟩ [] htb (fun z hz => by simp at hz) rfl (by decide) (hts _ (List.mem_of_getElem? (i := 1) rfl)) (va_Nw.use rfl (hT.1.2.1 3)) h5 h6 h7 ?_
      refine lv_astore_n (lv' := [(3, .ref q9), (0, .ref h), (1, .int x1), (2, .ref o)]) hx hb dL_isHome_19 rfl hl (by decide) rfl (fun ls hl => ?_)
      refine lv_iconst (v := 1) hx hb dL_isHome_20 (by decide) ?_
      exact g_ret hc hw (by first | rfl | simp) (Nat.le_refl _) (Nat.le_refl _) dL_isHome_21
  · rw [if_pos hz, if_pos hz]
    refine lv_if_eq (tgt := 14) hx hb dL_isHome_7 (by decide) (fun c1 => ?_) (fun c1 => ?_)
    · skip
      refine lv_lconst (v := 0) hx hb dL_isHome_14 (by decide) ?_
      rw [if_pos c1]
      refine g_last (f := f) hc hw 23 (l_app0 hn1) (show vp_in (0 : Int32) 1 by unfold vp_in; decide) (l_set0 hn1) dL_isHome_15 (fun H locs hw => ?_)
      refine lv_goto (tgt := 22) hx hb dL_isHome_16 (by decide) ?_
      refine lv_iconst (v := 0) hx hb dL_isHome_22 (by decide) ?_
      exact g_ret hc hw rfl (Nat.le_refl _) (Nat.le_refl _) dL_isHome_23
    · skip
      refine lv_lconst (v := 1) hx hb dL_isHome_10 (by decide) ?_
      refine lv_goto (tgt := 15) hx hb dL_isHome_11 (by decide) ?_
      rw [if_neg c1]
      refine g_last (f := f) hc hw 23 (l_app0 hn1) (show vp_in (0 : Int32) 1 by unfold vp_in; decide) (l_set0 hn1) dL_isHome_15 (fun H locs hw => ?_)
      refine lv_goto (tgt := 22) hx hb dL_isHome_16 (by decide) ?_
      refine lv_iconst (v := 0) hx hb dL_isHome_22 (by decide) ?_
      exact g_ret hc hw rfl (Nat.le_refl _) (Nat.le_refl _) dL_isHome_23
abbrev rm_L_isInGreatHouse : Room := { frames := 1 + rm_X1_isInGreatHouse.frames, cells := rm_X1_isInGreatHouse.cells, slots := rm_X1_isInGreatHouse.slots, locals := 30 + rm_X1_isInGreatHouse.locals }
set_option maxHeartbeats 4000000 in
set_option maxRecDepth 100000 in
theorem k_L_isInGreatHouse {l : Launch} (D : va_G) (cI cZ cL : ClassId) (h o : Nat) (x1 : Int32) (f : Nat → Int64) {w0 w1 : va_W} {code : Nat} {r : Int32} {fs : List Value} (hn0 : w0.length = 23) (hn1 : w1.length = 23) (he : w0[0]? = some (h, .inr (1, fs))) (hcd : code = 0 ∨ code = 3) (hM : TX l yX1_isInGreatHouse wsX1_isInGreatHouse rm_X1_isInGreatHouse D cI cZ cL [.ref h, .int x1] w0 code (some (.int r)) w1) : LX l yL_isInGreatHouse wsL_isInGreatHouse rm_L_isInGreatHouse D cI cZ cL [.ref h, .int x1, .ref o] (w0 ++ [(o, .inl (cL, 1, .inr (.inl f)))]) (some (.int (if code = 0 then (0 : Int32) else (1 : Int32)))) (if code = 0 then w1 ++ [(o, .inl (cL, 1, .inr (.inl (vp_updL f 0 (if r = 0 then (0 : Int64) else (1 : Int64))))))] else w0 ++ [(o, .inl (cL, 1, .inr (.inl f)))]) := by
  refine LX.of (own := RL) (cc := cL_isInGreatHouse) (maxL := 4) (ret := (some .int)) (hh := [(0, 16, 19, 24)]) (lv0 := [(0, .ref h), (1, .int x1), (2, .ref o)]) (by decide) rfl rfl (Nat.le_of_ble_eq_true rfl) rfl ?_
  intro p e s m args below meth c A hc hT htb hw ls hl
  obtain ⟨hx, hb, hr, hml, hown, hts, hlk, hK, hA⟩ := id hc
  refine lv_aload_n hx hb dL_isInGreatHouse_0 rfl (lv_at hl 2 rfl) ?_
  refine lv_iconst (v := 0) hx hb dL_isInGreatHouse_1 (by decide) ?_
  refine lv_aload_n hx hb dL_isInGreatHouse_2 rfl (lv_at hl 0 rfl) ?_
  refine lv_iload_n hx hb dL_isInGreatHouse_3 rfl (lv_at hl 1 rfl) ?_
  have hpt := Pt.front hw hA
  refine pt_callV (n := 1) (As := [.int x1]) (rest := [.int 0, .ref o]) hc hT hw.2.2 hpt hM gL_isInGreatHouse_X1_isInGreatHouse rfl (by decide +kernel) ⟨Nat.le_of_ble_eq_true rfl, Nat.le_of_ble_eq_true rfl⟩ he rfl rfl rfl rfl hl.1 (Nat.le_of_ble_eq_true rfl) (st1 := [.int r, .int 0, .ref o]) rfl dL_isInGreatHouse_4 (k2 := rm_X1_isInGreatHouse.cells) (s2 := rm_X1_isInGreatHouse.slots) (Nat.zero_add _) (Nat.zero_add _) ⟨Nat.le_refl _, Nat.le_refl _⟩ (fun hz H locs q9 ce hw h5 h6 h7 => ?_) (fun hz H locs hw => ?_)
  · rw [if_neg hz, if_neg hz]
    rcases hcd with hq | hq
    · exact absurd hq hz
    · skip
      subst hq
      refine vx_catch (name := "java/lang/IndexOutOfBoundsException") hown [] ⟨0, 16, 19, 24⟩ [] htb (fun z hz => by simp at hz) rfl (by decide) (hts _ (List.mem_of_getElem? (i := 1) rfl)) (va_Nw.use rfl (hT.1.2.1 3)) h5 h6 h7 ?_
      refine lv_astore_n (lv' := [(3, .ref q9), (0, .ref h), (1, .int x1), (2, .ref o)]) hx hb dL_isInGreatHouse_19 rfl hl (by decide) rfl (fun ls hl => ?_)
      refine lv_iconst (v := 1) hx hb dL_isInGreatHouse_20 (by decide) ?_
      exact g_ret hc hw (by first | rfl | simp) (Nat.le_refl _) (Nat.le_refl _) dL_isInGreatHouse_21
  · rw [if_pos hz, if_pos hz]
    refine lv_if_eq (tgt := 14) hx hb dL_isInGreatHouse_7 (by decide) (fun c1 => ?_) (fun c1 => ?_)
    · skip
      refine lv_lconst (v := 0) hx hb dL_isInGreatHouse_14 (by decide) ?_
      rw [if_pos c1]
      refine g_last (f := f) hc hw 23 (l_app0 hn1) (show vp_in (0 : Int32) 1 by unfold vp_in; decide) (l_set0 hn1) dL_isInGreatHouse_15 (fun H locs hw => ?_)
      refine lv_goto (tgt := 22) hx hb dL_isInGreatHouse_16 (by decide) ?_
      refine lv_iconst (v := 0) hx hb dL_isInGreatHouse_22 (by decide) ?_
      exact g_ret hc hw rfl (Nat.le_refl _) (Nat.le_refl _) dL_isInGreatHouse_23
    · skip
      refine lv_lconst (v := 1) hx hb dL_isInGreatHouse_10 (by decide) ?_
      refine lv_goto (tgt := 15) hx hb dL_isInGreatHouse_11 (by decide) ?_
      rw [if_neg c1]
      refine g_last (f := f) hc hw 23 (l_app0 hn1) (show vp_in (0 : Int32) 1 by unfold vp_in; decide) (l_set0 hn1) dL_isInGreatHouse_15 (fun H locs hw => ?_)
      refine lv_goto (tgt := 22) hx hb dL_isInGreatHouse_16 (by decide) ?_
      refine lv_iconst (v := 0) hx hb dL_isInGreatHouse_22 (by decide) ?_
      exact g_ret hc hw rfl (Nat.le_refl _) (Nat.le_refl _) dL_isInGreatHouse_23
abbrev rm_L_hungryDaysOf : Room := { frames := 1 + rm_X1_hungryDaysOf.frames, cells := rm_X1_hungryDaysOf.cells, slots := rm_X1_hungryDaysOf.slots, locals := 30 + rm_X1_hungryDaysOf.locals }
set_option maxHeartbeats 4000000 in
set_option maxRecDepth 100000 in
theorem k_L_hungryDaysOf {l : Launch} (D : va_G) (cI cZ cL : ClassId) (h o : Nat) (x1 : Int32) (f : Nat → Int64) {w0 w1 : va_W} {code : Nat} {r : Int32} {fs : List Value} (hn0 : w0.length = 23) (hn1 : w1.length = 23) (he : w0[0]? = some (h, .inr (1, fs))) (hcd : code = 0 ∨ code = 3) (hM : TX l yX1_hungryDaysOf wsX1_hungryDaysOf rm_X1_hungryDaysOf D cI cZ cL [.ref h, .int x1] w0 code (some (.int r)) w1) : LX l yL_hungryDaysOf wsL_hungryDaysOf rm_L_hungryDaysOf D cI cZ cL [.ref h, .int x1, .ref o] (w0 ++ [(o, .inl (cL, 1, .inr (.inl f)))]) (some (.int (if code = 0 then (0 : Int32) else (1 : Int32)))) (if code = 0 then w1 ++ [(o, .inl (cL, 1, .inr (.inl (vp_updL f 0 r.toInt64))))] else w0 ++ [(o, .inl (cL, 1, .inr (.inl f)))]) := by
  refine LX.of (own := RL) (cc := cL_hungryDaysOf) (maxL := 4) (ret := (some .int)) (hh := [(0, 9, 12, 24)]) (lv0 := [(0, .ref h), (1, .int x1), (2, .ref o)]) (by decide) rfl rfl (Nat.le_of_ble_eq_true rfl) rfl ?_
  intro p e s m args below meth c A hc hT htb hw ls hl
  obtain ⟨hx, hb, hr, hml, hown, hts, hlk, hK, hA⟩ := id hc
  refine lv_aload_n hx hb dL_hungryDaysOf_0 rfl (lv_at hl 2 rfl) ?_
  refine lv_iconst (v := 0) hx hb dL_hungryDaysOf_1 (by decide) ?_
  refine lv_aload_n hx hb dL_hungryDaysOf_2 rfl (lv_at hl 0 rfl) ?_
  refine lv_iload_n hx hb dL_hungryDaysOf_3 rfl (lv_at hl 1 rfl) ?_
  have hpt := Pt.front hw hA
  refine pt_callV (n := 1) (As := [.int x1]) (rest := [.int 0, .ref o]) hc hT hw.2.2 hpt hM gL_hungryDaysOf_X1_hungryDaysOf rfl (by decide +kernel) ⟨Nat.le_of_ble_eq_true rfl, Nat.le_of_ble_eq_true rfl⟩ he rfl rfl rfl rfl hl.1 (Nat.le_of_ble_eq_true rfl) (st1 := [.int r, .int 0, .ref o]) rfl dL_hungryDaysOf_4 (k2 := rm_X1_hungryDaysOf.cells) (s2 := rm_X1_hungryDaysOf.slots) (Nat.zero_add _) (Nat.zero_add _) ⟨Nat.le_refl _, Nat.le_refl _⟩ (fun hz H locs q9 ce hw h5 h6 h7 => ?_) (fun hz H locs hw => ?_)
  · rw [if_neg hz, if_neg hz]
    rcases hcd with hq | hq
    · exact absurd hq hz
    · skip
      subst hq
      refine vx_catch (name := "java/lang/IndexOutOfBoundsException") hown [] ⟨0, 9, 12, 24⟩ [] htb (fun z hz => by simp at hz) rfl (by decide) (hts _ (List.mem_of_getElem? (i := 1) rfl)) (va_Nw.use rfl (hT.1.2.1 3)) h5 h6 h7 ?_
      refine lv_astore_n (lv' := [(3, .ref q9), (0, .ref h), (1, .int x1), (2, .ref o)]) hx hb dL_hungryDaysOf_12 rfl hl (by decide) rfl (fun ls hl => ?_)
      refine lv_iconst (v := 1) hx hb dL_hungryDaysOf_13 (by decide) ?_
      exact g_ret hc hw (by first | rfl | simp) (Nat.le_refl _) (Nat.le_refl _) dL_hungryDaysOf_14
  · rw [if_pos hz, if_pos hz]
    refine lv_i2l (v := r.toInt64) hx hb dL_hungryDaysOf_7 rfl ?_
    refine g_last (f := f) hc hw 23 (l_app0 hn1) (show vp_in (0 : Int32) 1 by unfold vp_in; decide) (l_set0 hn1) dL_hungryDaysOf_8 (fun H locs hw => ?_)
    refine lv_goto (tgt := 15) hx hb dL_hungryDaysOf_9 (by decide) ?_
    refine lv_iconst (v := 0) hx hb dL_hungryDaysOf_15 (by decide) ?_
    exact g_ret hc hw rfl (Nat.le_refl _) (Nat.le_refl _) dL_hungryDaysOf_16
abbrev rm_L_placesOf : Room := { frames := 1 + rm_X1_placesOf.frames, cells := rm_X1_placesOf.cells, slots := rm_X1_placesOf.slots, locals := 30 + rm_X1_placesOf.locals }
set_option maxHeartbeats 4000000 in
set_option maxRecDepth 100000 in
theorem k_L_placesOf {l : Launch} (D : va_G) (cI cZ cL : ClassId) (h o : Nat) (x1 : Int32) (f : Nat → Int64) {w0 w1 : va_W} {code : Nat} {r : Int32} {fs : List Value} (hn0 : w0.length = 23) (hn1 : w1.length = 23) (he : w0[0]? = some (h, .inr (1, fs))) (hcd : code = 0 ∨ code = 3) (hM : TX l yX1_placesOf wsX1_placesOf rm_X1_placesOf D cI cZ cL [.ref h, .int x1] w0 code (some (.int r)) w1) : LX l yL_placesOf wsL_placesOf rm_L_placesOf D cI cZ cL [.ref h, .int x1, .ref o] (w0 ++ [(o, .inl (cL, 1, .inr (.inl f)))]) (some (.int (if code = 0 then (0 : Int32) else (1 : Int32)))) (if code = 0 then w1 ++ [(o, .inl (cL, 1, .inr (.inl (vp_updL f 0 r.toInt64))))] else w0 ++ [(o, .inl (cL, 1, .inr (.inl f)))]) := by
  refine LX.of (own := RL) (cc := cL_placesOf) (maxL := 4) (ret := (some .int)) (hh := [(0, 9, 12, 24)]) (lv0 := [(0, .ref h), (1, .int x1), (2, .ref o)]) (by decide) rfl rfl (Nat.le_of_ble_eq_true rfl) rfl ?_
  intro p e s m args below meth c A hc hT htb hw ls hl
  obtain ⟨hx, hb, hr, hml, hown, hts, hlk, hK, hA⟩ := id hc
  refine lv_aload_n hx hb dL_placesOf_0 rfl (lv_at hl 2 rfl) ?_
  refine lv_iconst (v := 0) hx hb dL_placesOf_1 (by decide) ?_
  refine lv_aload_n hx hb dL_placesOf_2 rfl (lv_at hl 0 rfl) ?_
  refine lv_iload_n hx hb dL_placesOf_3 rfl (lv_at hl 1 rfl) ?_
  have hpt := Pt.front hw hA
  refine pt_callV (n := 1) (As := [.int x1]) (rest := [.int 0, .ref o]) hc hT hw.2.2 hpt hM gL_placesOf_X1_placesOf rfl (by decide +kernel) ⟨Nat.le_of_ble_eq_true rfl, Nat.le_of_ble_eq_true rfl⟩ he rfl rfl rfl rfl hl.1 (Nat.le_of_ble_eq_true rfl) (st1 := [.int r, .int 0, .ref o]) rfl dL_placesOf_4 (k2 := rm_X1_placesOf.cells) (s2 := rm_X1_placesOf.slots) (Nat.zero_add _) (Nat.zero_add _) ⟨Nat.le_refl _, Nat.le_refl _⟩ (fun hz H locs q9 ce hw h5 h6 h7 => ?_) (fun hz H locs hw => ?_)
  · rw [if_neg hz, if_neg hz]
    rcases hcd with hq | hq
    · exact absurd hq hz
    · skip
      subst hq
      refine vx_catch (name := "java/lang/IndexOutOfBoundsException") hown [] ⟨0, 9, 12, 24⟩ [] htb (fun z hz => by simp at hz) rfl (by decide) (hts _ (List.mem_of_getElem? (i := 1) rfl)) (va_Nw.use rfl (hT.1.2.1 3)) h5 h6 h7 ?_
      refine lv_astore_n (lv' := [(3, .ref q9), (0, .ref h), (1, .int x1), (2, .ref o)]) hx hb dL_placesOf_12 rfl hl (by decide) rfl (fun ls hl => ?_)
      refine lv_iconst (v := 1) hx hb dL_placesOf_13 (by decide) ?_
      exact g_ret hc hw (by first | rfl | simp) (Nat.le_refl _) (Nat.le_refl _) dL_placesOf_14
  · rw [if_pos hz, if_pos hz]
    refine lv_i2l (v := r.toInt64) hx hb dL_placesOf_7 rfl ?_
    refine g_last (f := f) hc hw 23 (l_app0 hn1) (show vp_in (0 : Int32) 1 by unfold vp_in; decide) (l_set0 hn1) dL_placesOf_8 (fun H locs hw => ?_)
    refine lv_goto (tgt := 15) hx hb dL_placesOf_9 (by decide) ?_
    refine lv_iconst (v := 0) hx hb dL_placesOf_15 (by decide) ?_
    exact g_ret hc hw rfl (Nat.le_refl _) (Nat.le_refl _) dL_placesOf_16
abbrev rm_L_peopleIn : Room := { frames := 1 + rm_X1_peopleIn.frames, cells := rm_X1_peopleIn.cells, slots := rm_X1_peopleIn.slots, locals := 30 + rm_X1_peopleIn.locals }
set_option maxHeartbeats 4000000 in
set_option maxRecDepth 100000 in
theorem k_L_peopleIn {l : Launch} (D : va_G) (cI cZ cL : ClassId) (h o : Nat) (x1 : Int32) (f : Nat → Int64) {w0 w1 : va_W} {code : Nat} {r : Int32} {fs : List Value} (hn0 : w0.length = 23) (hn1 : w1.length = 23) (he : w0[0]? = some (h, .inr (1, fs))) (hcd : code = 0 ∨ code = 3) (hM : TX l yX1_peopleIn wsX1_peopleIn rm_X1_peopleIn D cI cZ cL [.ref h, .int x1] w0 code (some (.int r)) w1) : LX l yL_peopleIn wsL_peopleIn rm_L_peopleIn D cI cZ cL [.ref h, .int x1, .ref o] (w0 ++ [(o, .inl (cL, 1, .inr (.inl f)))]) (some (.int (if code = 0 then (0 : Int32) else (1 : Int32)))) (if code = 0 then w1 ++ [(o, .inl (cL, 1, .inr (.inl (vp_updL f 0 r.toInt64))))] else w0 ++ [(o, .inl (cL, 1, .inr (.inl f)))]) := by
  refine LX.of (own := RL) (cc := cL_peopleIn) (maxL := 4) (ret := (some .int)) (hh := [(0, 9, 12, 24)]) (lv0 := [(0, .ref h), (1, .int x1), (2, .ref o)]) (by decide) rfl rfl (Nat.le_of_ble_eq_true rfl) rfl ?_
  intro p e s m args below meth c A hc hT htb hw ls hl
  obtain ⟨hx, hb, hr, hml, hown, hts, hlk, hK, hA⟩ := id hc
  refine lv_aload_n hx hb dL_peopleIn_0 rfl (lv_at hl 2 rfl) ?_
  refine lv_iconst (v := 0) hx hb dL_peopleIn_1 (by decide) ?_
  refine lv_aload_n hx hb dL_peopleIn_2 rfl (lv_at hl 0 rfl) ?_
  refine lv_iload_n hx hb dL_peopleIn_3 rfl (lv_at hl 1 rfl) ?_
  have hpt := Pt.front hw hA
  refine pt_callV (n := 1) (As := [.int x1]) (rest := [.int 0, .ref o]) hc hT hw.2.2 hpt hM gL_peopleIn_X1_peopleIn rfl (by decide +kernel) ⟨Nat.le_of_ble_eq_true rfl, Nat.le_of_ble_eq_true rfl⟩ he rfl rfl rfl rfl hl.1 (Nat.le_of_ble_eq_true rfl) (st1 := [.int r, .int 0, .ref o]) rfl dL_peopleIn_4 (k2 := rm_X1_peopleIn.cells) (s2 := rm_X1_peopleIn.slots) (Nat.zero_add _) (Nat.zero_add _) ⟨Nat.le_refl _, Nat.le_refl _⟩ (fun hz H locs q9 ce hw h5 h6 h7 => ?_) (fun hz H locs hw => ?_)
  · rw [if_neg hz, if_neg hz]
    rcases hcd with hq | hq
    · exact absurd hq hz
    · skip
      subst hq
      refine vx_catch (name := "java/lang/IndexOutOfBoundsException") hown [] ⟨0, 9, 12, 24⟩ [] htb (fun z hz => by simp at hz) rfl (by decide) (hts _ (List.mem_of_getElem? (i := 1) rfl)) (va_Nw.use rfl (hT.1.2.1 3)) h5 h6 h7 ?_
      refine lv_astore_n (lv' := [(3, .ref q9), (0, .ref h), (1, .int x1), (2, .ref o)]) hx hb dL_peopleIn_12 rfl hl (by decide) rfl (fun ls hl => ?_)
      refine lv_iconst (v := 1) hx hb dL_peopleIn_13 (by decide) ?_
      exact g_ret hc hw (by first | rfl | simp) (Nat.le_refl _) (Nat.le_refl _) dL_peopleIn_14
  · rw [if_pos hz, if_pos hz]
    refine lv_i2l (v := r.toInt64) hx hb dL_peopleIn_7 rfl ?_
    refine g_last (f := f) hc hw 23 (l_app0 hn1) (show vp_in (0 : Int32) 1 by unfold vp_in; decide) (l_set0 hn1) dL_peopleIn_8 (fun H locs hw => ?_)
    refine lv_goto (tgt := 15) hx hb dL_peopleIn_9 (by decide) ?_
    refine lv_iconst (v := 0) hx hb dL_peopleIn_15 (by decide) ?_
    exact g_ret hc hw rfl (Nat.le_refl _) (Nat.le_refl _) dL_peopleIn_16