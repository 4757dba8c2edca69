abbrev rm_L_highestFeverOn : Room := { frames := 1 + rm_X1_highestFeverOn.frames, cells := rm_X1_highestFeverOn.cells, slots := rm_X1_highestFeverOn.slots, locals := 30 + rm_X1_highestFeverOn.locals }
set_option maxHeartbeats 4000000 in
set_option maxRecDepth 100000 in
theorem k_L_highestFeverOn {l : Launch} (D : va_G) (cI cZ cL : ClassId) (h o : Nat) (x1 : Int32) (f : Nat → Int64) {w0 w1 : va_W} {code : Nat} {r : Int32} {fs : List Value} (hn0 : w0.length = 23) (hn1 : w1.length = 23) (he : w0[0]? = some (h, .inr (1, fs))) (hcd : code = 0 ∨ code = 3) (hM : TX l yX1_highestFeverOn wsX1_highestFeverOn rm_X1_highestFeverOn D cI cZ cL [.ref h, .int x1] w0 code (some (.int r)) w1) : LX l yL_highestFeverOn wsL_highestFeverOn rm_L_highestFeverOn D cI cZ cL [.ref h, .int x1, .ref o] (w0 ++ [(o, .inl (cL, 1, .inr (.inl f)))]) (some (.int (if code = 0 then (0 : Int32) else (1 : Int32)))) (if code = 0 then w1 ++ [(o, .inl (cL, 1, .inr (.inl (vp_updL f 0 r.toInt64))))] else w0 ++ [(o, .inl (cL, 1, .inr (.inl f)))]) := by
  refine LX.of (own := RL) (cc := cL_highestFeverOn) (maxL := 4) (ret := (some .int)) (hh := [(0, 9, 12, 24)]) (lv0 := [(0, .ref h), (1, .int x1), (2, .ref o)]) (by decide) rfl rfl (Nat.le_of_ble_eq_true rfl) rfl ?_
  intro p e s m args below meth c A hc hT htb hw ls hl
  obtain ⟨hx, hb, hr, hml, hown, hts, hlk, hK, hA⟩ := id hc
  refine lv_aload_n hx hb dL_highestFeverOn_0 rfl (lv_at hl 2 rfl) ?_
  refine lv_iconst (v := 0) hx hb dL_highestFeverOn_1 (by decide) ?_
  refine lv_aload_n hx hb dL_highestFeverOn_2 rfl (lv_at hl 0 rfl) ?_
  refine lv_iload_n hx hb dL_highestFeverOn_3 rfl (lv_at hl 1 rfl) ?_
  have hpt := Pt.front hw hA
  refine pt_callV (n := 1) (As := [.int x1]) (rest := [.int 0, .ref o]) hc hT hw.2.2 hpt hM gL_highestFeverOn_X1_highestFeverOn rfl (by decide +kernel) ⟨Nat.le_of_ble_eq_true rfl, Nat.le_of_ble_eq_true rfl⟩ he rfl rfl rfl rfl hl.1 (Nat.le_of_ble_eq_true rfl) (st1 := [.int r, .int 0, .ref o]) rfl dL_highestFeverOn_4 (k2 := rm_X1_highestFeverOn.cells) (s2 := rm_X1_highestFeverOn.slots) (Nat.zero_add _) (Nat.zero_add _) ⟨Nat.le_refl _, Nat.le_refl _⟩ (fun hz H locs q9 ce hw h5 h6 h7 => ?_) (fun hz H locs hw => ?_)
  · rw [if_neg hz, if_neg hz]
    rcases hcd with hq | hq
    · exact absurd hq hz
    · skip
      subst hq
      refine vx_catch (name := "java/lang/IndexOutOfBoundsException") hown [] ⟨0, 9, 12, 24⟩ [] htb (fun z hz => by simp at hz) rfl (by decide) (hts _ (List.mem_of_getElem? (i := 1) rfl)) (va_Nw.use rfl (hT.1.2.1 3)) h5 h6 h7 ?_
      refine lv_astore_n (lv' := [(3, .ref q9), (0, .ref h), (1, .int x1), (2, .ref o)]) hx hb dL_highestFeverOn_12 rfl hl (by decide) rfl (fun ls hl => ?_)
      refine lv_iconst (v := 1) hx hb dL_highestFeverOn_13 (by decide) ?_
      exact g_ret hc hw (by first | rfl | simp) (Nat.le_refl _) (Nat.le_refl _) dL_highestFeverOn_14
  · rw [if_pos hz, if_pos hz]
    refine lv_i2l (v := r.toInt64) hx hb dL_highestFeverOn_7 rfl ?_
    refine g_last (f := f) hc hw 23 (l_app0 hn1) (show vp_in (0 : Int32) 1 by unfold vp_in; decide) (l_set0 hn1) dL_highestFeverOn_8 (fun H locs hw => ?_)
    refine lv_goto (tgt := 15) hx hb dL_highestFeverOn_9 (by decide) ?_
    refine lv_iconst (v := 0) hx hb dL_highestFeverOn_15 (by decide) ?_
    exact g_ret hc hw rfl (Nat.le_refl _) (Nat.le_refl _) dL_highestFeverOn_16
abbrev rm_L_daysUntilHome : Room := { frames := 1 + rm_X1_daysUntilHome.frames, cells := rm_X1_daysUntilHome.cells, slots := rm_X1_daysUntilHome.slots, locals := 30 + rm_X1_daysUntilHome.locals }
set_option maxHeartbeats 4000000 in
set_option maxRecDepth 100000 in
theorem k_L_daysUntilHome {l : Launch} (D : va_G) (cI cZ cL : ClassId) (h o : Nat) (x1 : Int32) (f : Nat → Int64) {w0 w1 : va_W} {code : Nat} {r : Int32} {fs : List Value} (hn0 : w0.length = 23) (hn1 : w1.length = 23) (he : w0[0]? = some (h, .inr (1, fs))) (hcd : code = 0 ∨ code = 3) (hM : TX l yX1_daysUntilHome wsX1_daysUntilHome rm_X1_daysUntilHome D cI cZ cL [.ref h, .int x1] w0 code (some (.int r)) w1) : LX l yL_daysUntilHome wsL_daysUntilHome rm_L_daysUntilHome D cI cZ cL [.ref h, .int x1, .ref o] (w0 ++ [(o, .inl (cL, 1, .inr (.inl f)))]) (some (.int (if code = 0 then (0 : Int32) else (1 : Int32)))) (if code = 0 then w1 ++ [(o, .inl (cL, 1, .inr (.inl (vp_updL f 0 r.toInt64))))] else w0 ++ [(o, .inl (cL, 1, .inr (.inl f)))]) := by
  refine LX.of (own := RL) (cc := cL_daysUntilHome) (maxL := 4) (ret := (some .int)) (hh := [(0, 9, 12, 24)]) (lv0 := [(0, .ref h), (1, .int x1), (2, .ref o)]) (by decide) rfl rfl (Nat.le_of_ble_eq_true rfl) rfl ?_
  intro p e s m args below meth c A hc hT htb hw ls hl
  obtain ⟨hx, hb, hr, hml, hown, hts, hlk, hK, hA⟩ := id hc
  refine lv_aload_n hx hb dL_daysUntilHome_0 rfl (lv_at hl 2 rfl) ?_
  refine lv_iconst (v := 0) hx hb dL_daysUntilHome_1 (by decide) ?_
  refine lv_aload_n hx hb dL_daysUntilHome_2 rfl (lv_at hl 0 rfl) ?_
  refine lv_iload_n hx hb dL_daysUntilHome_3 rfl (lv_at hl 1 rfl) ?_
  have hpt := Pt.front hw hA
  refine pt_callV (n := 1) (As := [.int x1]) (rest := [.int 0, .ref o]) hc hT hw.2.2 hpt hM gL_daysUntilHome_X1_daysUntilHome rfl (by decide +kernel) ⟨Nat.le_of_ble_eq_true rfl, Nat.le_of_ble_eq_true rfl⟩ he rfl rfl rfl rfl hl.1 (Nat.le_of_ble_eq_true rfl) (st1 := [.int r, .int 0, .ref o]) rfl dL_daysUntilHome_4 (k2 := rm_X1_daysUntilHome.cells) (s2 := rm_X1_daysUntilHome.slots) (Nat.zero_add _) (Nat.zero_add _) ⟨Nat.le_refl _, Nat.le_refl _⟩ (fun hz H locs q9 ce hw h5 h6 h7 => ?_) (fun hz H locs hw => ?_)
  · rw [if_neg hz, if_neg hz]
    rcases hcd with hq | hq
    · exact absurd hq hz
    · skip
      subst hq
      refine vx_catch (name := "java/lang/IndexOutOfBoundsException") hown [] ⟨0, 9, 12, 24⟩ [] htb (fun z hz => by simp at hz) rfl (by decide) (hts _ (List.mem_of_getElem? (i := 1) rfl)) (va_Nw.use rfl (hT.1.2.1 3)) h5 h6 h7 ?_
      refine lv_astore_n (lv' := [(3, .ref q9), (0, .ref h), (1, .int x1), (2, .ref o)]) hx hb dL_daysUntilHome_12 rfl hl (by decide) rfl (fun ls hl => ?_)
      refine lv_iconst (v := 1) hx hb dL_daysUntilHome_13 (by decide) ?_
      exact g_ret hc hw (by first | rfl | simp) (Nat.le_refl _) (Nat.le_refl _) dL_daysUntilHome_14
  · rw [if_pos hz, if_pos hz]
    refine lv_i2l (v := r.toInt64) hx hb dL_daysUntilHome_7 rfl ?_
    refine g_last (f := f) hc hw 23 (l_app0 hn1) (show vp_in (0 : Int32) 1 by unfold vp_in; decide) (l_set0 hn1) dL_daysUntilHome_8 (fun H locs hw => ?_)
    refine lv_goto (tgt := 15) hx hb dL_daysUntilHome_9 (by decide) ?_
    refine lv_iconst (v := 0) hx hb dL_daysUntilHome_15 (by decide) ?_
    exact g_ret hc hw rfl (Nat.le_refl _) (Nat.le_refl _) dL_daysUntilHome_16
abbrev rm_L_homeAfter : Room := { frames := 1 + rm_X1_homeAfter.frames, cells := rm_X1_homeAfter.cells, slots := rm_X1_homeAfter.slots, locals := 30 + rm_X1_homeAfter.locals }
set_option maxHeartbeats 4000000 in
set_option maxRecDepth 100000 in
theorem k_L_homeAfter {l : Launch} (D : va_G) (cI cZ cL : ClassId) (h o : Nat) (x1 : Int32) (f : Nat → Int64) {w0 w1 : va_W} {code : Nat} {r : Int32} {fs : List Value} (hn0 : w0.length = 23) (hn1 : w1.length = 23) (he : w0[0]? = some (h, .inr (1, fs))) (hcd : code = 0 ∨ code = 1) (hM : TX l yX1_homeAfter wsX1_homeAfter rm_X1_homeAfter D cI cZ cL [.ref h, .int x1] w0 code (some (.int r)) w1) : LX l yL_homeAfter wsL_homeAfter rm_L_homeAfter D cI cZ cL [.ref h, .int x1, .ref o] (w0 ++ [(o, .inl (cL, 1, .inr (.inl f)))]) (some (.int (if code = 0 then (0 : Int32) else (1 : Int32)))) (if code = 0 then w1 ++ [(o, .inl (cL, 1, .inr (.inl (vp_updL f 0 r.toInt64))))] else w0 ++ [(o, .inl (cL, 1, .inr (.inl f)))]) := by
  refine LX.of (own := RL) (cc := cL_homeAfter) (maxL := 4) (ret := (some .int)) (hh := [(0, 9, 12, 13)]) (lv0 := [(0, .ref h), (1, .int x1), (2, .ref o)]) (by decide) rfl rfl (Nat.le_of_ble_eq_true rfl) rfl ?_
  intro p e s m args below meth c A hc hT htb hw ls hl
  obtain ⟨hx, hb, hr, hml, hown, hts, hlk, hK, hA⟩ := id hc
  refine lv_aload_n hx hb dL_homeAfter_0 rfl (lv_at hl 2 rfl) ?_
  refine lv_iconst (v := 0) hx hb dL_homeAfter_1 (by decide) ?_
  refine lv_aload_n hx hb dL_homeAfter_2 rfl (lv_at hl 0 rfl) ?_
  refine lv_iload_n hx hb dL_homeAfter_3 rfl (lv_at hl 1 rfl) ?_
  have hpt := Pt.front hw hA
  refine pt_callV (n := 1) (As := [.int x1]) (rest := [.int 0, .ref o]) hc hT hw.2.2 hpt hM gL_homeAfter_X1_homeAfter rfl (by decide +kernel) ⟨Nat.le_of_ble_eq_true rfl, Nat.le_of_ble_eq_true rfl⟩ he rfl rfl rfl rfl hl.1 (Nat.le_of_ble_eq_true rfl) (st1 := [.int r, .int 0, .ref o]) rfl dL_homeAfter_4 (k2 := rm_X1_homeAfter.cells) (s2 := rm_X1_homeAfter.slots) (Nat.zero_add _) (Nat.zero_add _) ⟨Nat.le_refl _, Nat.le_refl _⟩ (fun hz H locs q9 ce hw h5 h6 h7 => ?_) (fun hz H locs hw => ?_)
  · rw [if_neg hz, if_neg hz]
    rcases hcd with hq | hq
    · exact absurd hq hz
    · skip
      subst hq
      refine vx_catch (name := "java/lang/IllegalArgumentException") hown [] ⟨0, 9, 12, 13⟩ [] htb (fun z hz => by simp at hz) rfl (by decide) (hts _ (List.mem_of_getElem? (i := 1) rfl)) (va_Nw.use rfl (hT.1.2.1 1)) h5 h6 h7 ?_
      refine lv_astore_n (lv' := [(3, .ref q9), (0, .ref h), (1, .int x1), (2, .ref o)]) hx hb dL_homeAfter_12 rfl hl (by decide) rfl (fun ls hl => ?_)
      refine lv_iconst (v := 1) hx hb dL_homeAfter_13 (by decide) ?_
      exact g_ret hc hw (by first | rfl | simp) (Nat.le_refl _) (Nat.le_refl _) dL_homeAfter_14
  · rw [if_pos hz, if_pos hz]
    refine lv_i2l (v := r.toInt64) hx hb dL_homeAfter_7 rfl ?_
    refine g_last (f := f) hc hw 23 (l_app0 hn1) (show vp_in (0 : Int32) 1 by unfold vp_in; decide) (l_set0 hn1) dL_homeAfter_8 (fun H locs hw => ?_)
    refine lv_goto (tgt := 15) hx hb dL_homeAfter_9 (by decide) ?_
    refine lv_iconst (v := 0) hx hb dL_homeAfter_15 (by decide) ?_
    exact g_ret hc hw rfl (Nat.le_refl _) (Nat.le_refl _) dL_homeAfter_16
abbrev rm_L_greatHouseAfter : Room := { frames := 1 + rm_X1_greatHouseAfter.frames, cells := rm_X1_greatHouseAfter.cells, slots := rm_X1_greatHouseAfter.slots, locals := 30 + rm_X1_greatHouseAfter.locals }
set_option maxHeartbeats 4000000 in
set_option maxRecDepth 100000 in
theorem k_L_greatHouseAfter {l : Launch} (D : va_G) (cI cZ cL : ClassId) (h o : Nat) (x1 : Int32) (f : Nat → Int64) {w0 w1 : va_W} {code : Nat} {r : Int32} {fs : List Value} (hn0 : w0.length = 23) (hn1 : w1.length = 23) (he : w0[0]? = some (h, .inr (1, fs))) (hcd : code = 0 ∨ code = 1) (hM : TX l yX1_greatHouseAfter wsX1_greatHouseAfter rm_X1_greatHouseAfter D cI cZ cL [.ref h, .int x1] w0 code (some (.int r)) w1) : LX l yL_greatHouseAfter wsL_greatHouseAfter rm_L_greatHouseAfter D cI cZ cL [.ref h, .int x1, .ref o] (w0 ++ [(o, .inl (cL, 1, .inr (.inl f)))]) (some (.int (if code = 0 then (0 : Int32) else (1 : Int32)))) (if code = 0 then w1 ++ [(o, .inl (cL, 1, .inr (.inl (vp_updL f 0 r.toInt64))))] else w0 ++ [(o, .inl (cL, 1, .inr (.inl f)))]) := by
  refine LX.of (own := RL) (cc := cL_greatHouseAfter) (maxL := 4) (ret := (some .int)) (hh := [(0, 9, 12, 13)]) (lv0 := [(0, .ref h), (1, .int x1), (2, .ref o)]) (by decide) rfl rfl (Nat.le_of_ble_eq_true rfl) rfl ?_
  intro p e s m args below meth c A hc hT htb hw ls hl
  obtain ⟨hx, hb, hr, hml, hown, hts, hlk, hK, hA⟩ := id hc
  refine lv_aload_n hx hb dL_greatHouseAfter_0 rfl (lv_at hl 2 rfl) ?_
  refine lv_iconst (v := 0) hx hb dL_greatHouseAfter_1 (by decide) ?_
  refine lv_aload_n hx hb dL_greatHouseAfter_2 rfl (lv_at hl 0 rfl) ?_
  refine lv_iload_n hx hb dL_greatHouseAfter_3 rfl (lv_at hl 1 rfl) ?_
  have hpt := Pt.front hw hA
  refine pt_callV (n := 1) (As := [.int x1]) (rest := [.int 0, .ref o]) hc hT hw.2.2 hpt hM gL_greatHouseAfter_X1_greatHouseAfter rfl (by decide +kernel) ⟨Nat.le_of_ble_eq_true rfl, Nat.le_of_ble_eq_true rfl⟩ he rfl rfl rfl rfl hl.1 (Nat.le_of_ble_eq_true rfl) (st1 := [.int r, .int 0, .ref o]) rfl dL_greatHouseAfter_4 (k2 := rm_X1_greatHouseAfter.cells) (s2 := rm_X1_greatHouseAfter.slots) (Nat.zero_add _) (Nat.zero_add _) ⟨Nat.le_refl _, Nat.le_refl _⟩ (fun hz H locs q9 ce hw h5 h6 h7 => ?_) (fun hz H locs hw => ?_)
  · rw [if_neg hz, if_neg hz]
    rcases hcd with hq | hq
    · exact absurd hq hz
    · skip
      subst hq
      refine vx_catch (name := "java/lang/IllegalArgumentException") hown [] ⟨0, 9, 12, 13⟩ [] htb (fun z hz => by simp at hz) rfl (by decide) (hts _ (List.mem_of_getElem? (i := 1) rfl)) (va_Nw.use rfl (hT.1.2.1 1)) h5 h6 h7 ?_
      refine lv_astore_n (lv' := [(3, .ref q9), (0, .ref h), (1, .int x1), (2, .ref o)]) hx hb dL_greatHouseAfter_12 rfl hl (by decide) rfl (fun ls hl => ?_)
      refine lv_iconst (v := 1) hx hb dL_greatHouseAfter_13 (by decide) ?_
      exact g_ret hc hw (by first | rfl | simp) (Nat.le_refl _) (Nat.le_refl _) dL_greatHouseAfter_14
  · rw [if_pos hz, if_pos hz]
    refine lv_i2l (v := r.toInt64) hx hb dL_greatHouseAfter_7 rfl ?_
    refine g_last (f := f) hc hw 23 (l_app0 hn1) (show vp_in (0 : Int32) 1 by unfold vp_in; decide) (l_set0 hn1) dL_greatHouseAfter_8 (fun H locs hw => ?_)
    refine lv_goto (tgt := 15) hx hb dL_greatHouseAfter_9 (by decide) ?_
    refine lv_iconst (v := 0) hx hb dL_greatHouseAfter_15 (by decide) ?_
    exact g_ret hc hw rfl (Nat.le_refl _) (Nat.le_refl _) dL_greatHouseAfter_16
abbrev rm_L_bestStraw : Room := { frames := 1 + rm_X1_bestStraw.frames, cells := rm_X1_bestStraw.cells, slots := rm_X1_bestStraw.slots, locals := 30 + rm_X1_bestStraw.locals }
set_option maxHeartbeats 4000000 in
set_option maxRecDepth 100000 in
theorem k_L_bestStraw {l : Launch} (D : va_G) (cI cZ cL : ClassId) (h o : Nat) (x1 : Int32) (f : Nat → Int64) {w0 w1 : va_W} {code : Nat} {r : Int32} {fs : List Value} (hn0 : w0.length = 23) (hn1 : w1.length = 23) (he : w0[0]? = some (h, .inr (1, fs))) (hcd : code = 0 ∨ code = 1) (hM : TX l yX1_bestStraw wsX1_bestStraw rm_X1_bestStraw D cI cZ cL [.ref h, .int x1] w0 code (some (.int r)) w1) : LX l yL_bestStraw wsL_bestStraw rm_L_bestStraw D cI cZ cL [.ref h, .int x1, .ref o] (w0 ++ [(o, .inl (cL, 1, .inr (.inl f)))]) (some (.int (if code = 0 then (0 : Int32) else (1 : Int32)))) (if code = 0 then w1 ++ [(o, .inl (cL, 1, .inr (.inl (vp_updL f 0 r.toInt64))))] else w0 ++ [(o, .inl (cL, 1, .inr (.inl f)))]) := by
  refine LX.of (own := RL) (cc := cL_bestStraw) (maxL := 4) (ret := (some .int)) (hh := [(0, 9, 12, 13)]) (lv0 := [(0, .ref h), (1, .int x1), (2, .ref o)]) (by decide) rfl rfl (Nat.le_of_ble_eq_true rfl) rfl ?_
  intro p e s m args below meth c A hc hT htb hw ls hl
  obtain ⟨hx, hb, hr, hml, hown, hts, hlk, hK, hA⟩ := id hc
  refine lv_aload_n hx hb dL_bestStraw_0 rfl (lv_at hl 2 rfl) ?_
  refine lv_iconst (v := 0) hx hb dL_bestStraw_1 (by decide) ?_
  refine lv_aload_n hx hb dL_bestStraw_2 rfl (lv_at hl 0 rfl) ?_
  refine lv_iload_n hx hb dL_bestStraw_3 rfl (lv_at hl 1 rfl) ?_
  have hpt := Pt.front hw hA
  refine pt_callV (n := 1) (As := [.int x1]) (rest := [.int 0, .ref o]) hc hT hw.2.2 hpt hM gL_bestStraw_X1_bestStraw rfl (by decide +kernel) ⟨Nat.le_of_ble_eq_true rfl, Nat.le_of_ble_eq_true rfl⟩ he rfl rfl rfl rfl hl.1 (Nat.le_of_ble_eq_true rfl) (st1 := [.int r, .int 0, .ref o]) rfl dL_bestStraw_4 (k2 := rm_X1_bestStraw.cells) (s2 := rm_X1_bestStraw.slots) (Nat.zero_add _) (Nat.zero_add _) ⟨Nat.le_refl _, Nat.le_refl _⟩ (fun hz H locs q9 ce hw h5 h6 h7 => ?_) (fun hz H locs hw => ?_)
  · rw [if_neg hz, if_neg hz]
    rcases hcd with hq | hq
    · exact absurd hq hz
    · skip
      subst hq
      refine vx_catch (name := "java/lang/IllegalArgumentException") hown [] ⟨0, 9, 12, 13⟩ [] htb (fun z hz => by simp at hz) rfl (by decide) (hts _ (List.mem_of_getElem? (i := 1) rfl)) (va_Nw.use rfl (hT.1.2.1 1)) h5 h6 h7 ?_
      refine lv_astore_n (lv' := [(3, .ref q9), (0, .ref h), (1, .int x1), (2, .ref o)]) hx hb dL_bestStraw_12 rfl hl (by decide) rfl (fun ls hl => ?_)
      refine lv_iconst (v := 1) hx hb dL_bestStraw_13 (by decide) ?_
      exact g_ret hc hw (by first | rfl | simp) (Nat.le_refl _) (Nat.le_refl _) dL_bestStraw_14
  · rw [if_pos hz, if_pos hz]
    refine lv_i2l (v := r.toInt64) hx hb dL_bestStraw_7 rfl ?_
    refine g_last (f := f) hc hw 23 (l_app0 hn1) (show vp_in (0 : Int32) 1 by unfold vp_in; decide) (l_set0 hn1) dL_bestStraw_8 (fun H locs hw => ?_)
    refine lv_goto (tgt := 15) hx hb dL_bestStraw_9 (by decide) ?_
    refine lv_iconst (v := 0) hx hb dL_bestStraw_15 (by decide) ?_
    exact g_ret hc hw rfl (Nat.le_refl _) (Nat.le_refl _) dL_bestStraw_16