abbrev rm_L_strawOf : Room := { frames := 1 + rm_X1_strawOf.frames, cells := rm_X1_strawOf.cells, slots := rm_X1_strawOf.slots, locals := 30 + rm_X1_strawOf.locals }
set_option maxHeartbeats 4000000 in
set_option maxRecDepth 100000 in
theorem k_L_strawOf {l : Launch} (D : va_G) (cI cZ cL : ClassId) (h o : Nat) (x1 : Int32) (f : Nat → Int64) {w0 w1 : va_W} {code : Nat} {r : Int32} {fs : List Value} (hn0 : w0.length = 23) (hn1 : w1.length = 23) (he : w0[0]? = some (h, .inr (1, fs))) (hcd : code = 0 ∨ code = 3) (hM : TX l yX1_strawOf wsX1_strawOf rm_X1_strawOf D cI cZ cL [.ref h, .int x1] w0 code (some (.int r)) w1) : LX l yL_strawOf wsL_strawOf rm_L_strawOf D cI cZ cL [.ref h, .int x1, .ref o] (w0 ++ [(o, .inl (cL, 1, .inr (.inl f)))]) (some (.int (if code = 0 then (0 : Int32) else (1 : Int32)))) (if code = 0 then w1 ++ [(o, .inl (cL, 1, .inr (.inl (vp_updL f 0 r.toInt64))))] else w0 ++ [(o, .inl (cL, 1, .inr (.inl f)))]) := by
  refine LX.of (own := RL) (cc := cL_strawOf) (maxL := 4) (ret := (some .int)) (hh := [(0, 9, 12, 24)]) (lv0 := [(0, .ref h), (1, .int x1), (2, .ref o)]) (by decide) rfl rfl (Nat.le_of_ble_eq_true rfl) rfl ?_
  intro p e s m args below meth c A hc hT htb hw ls hl
  obtain ⟨hx, hb, hr, hml, hown, hts, hlk, hK, hA⟩ := id hc
  refine lv_aload_n hx hb dL_strawOf_0 rfl (lv_at hl 2 rfl) ?_
  refine lv_iconst (v := 0) hx hb dL_strawOf_1 (by decide) ?_
  refine lv_aload_n hx hb dL_strawOf_2 rfl (lv_at hl 0 rfl) ?_
  refine lv_iload_n hx hb dL_strawOf_3 rfl (lv_at hl 1 rfl) ?_
  have hpt := Pt.front hw hA
  refine pt_callV (n := 1) (As := [.int x1]) (rest := [.int 0, .ref o]) hc hT hw.2.2 hpt hM gL_strawOf_X1_strawOf rfl (by decide +kernel) ⟨Nat.le_of_ble_eq_true rfl, Nat.le_of_ble_eq_true rfl⟩ he rfl rfl rfl rfl hl.1 (Nat.le_of_ble_eq_true rfl) (st1 := [.int r, .int 0, .ref o]) rfl dL_strawOf_4 (k2 := rm_X1_strawOf.cells) (s2 := rm_X1_strawOf.slots) (Nat.zero_add _) (Nat.zero_add _) ⟨Nat.le_refl _, Nat.le_refl _⟩ (fun hz H locs q9 ce hw h5 h6 h7 => ?_) (fun hz H locs hw => ?_)
  · rw [if_neg hz, if_neg hz]
    rcases hcd with hq | hq
    · exact absurd hq hz
    · skip
      subst hq
      refine vx_catch (name := "java/lang/IndexOutOfBoundsException") hown [] ⟨0, 9, 12, 24⟩ [] htb (fun z hz => by simp at hz) rfl (by decide) (hts _ (List.mem_of_getElem? (i := 1) rfl)) (va_Nw.use rfl (hT.1.2.1 3)) h5 h6 h7 ?_
      refine lv_astore_n (lv' := [(3, .ref q9), (0, .ref h), (1, .int x1), (2, .ref o)]) hx hb dL_strawOf_12 rfl hl (by decide) rfl (fun ls hl => ?_)
      refine lv_iconst (v := 1) hx hb dL_strawOf_13 (by decide) ?_
      exact g_ret hc hw (by first | rfl | simp) (Nat.le_refl _) (Nat.le_refl _) dL_strawOf_14
  · rw [if_pos hz, if_pos hz]
    refine lv_i2l (v := r.toInt64) hx hb dL_strawOf_7 rfl ?_
    refine g_last (f := f) hc hw 23 (l_app0 hn1) (show vp_in (0 : Int32) 1 by unfold vp_in; decide) (l_set0 hn1) dL_strawOf_8 (fun H locs hw => ?_)
    refine lv_goto (tgt := 15) hx hb dL_strawOf_9 (by decide) ?_
    refine lv_iconst (v := 0) hx hb dL_strawOf_15 (by decide) ?_
    exact g_ret hc hw rfl (Nat.le_refl _) (Nat.le_refl _) dL_strawOf_16
abbrev rm_L_feversIn : Room := { frames := 1 + rm_X1_feversIn.frames, cells := rm_X1_feversIn.cells, slots := rm_X1_feversIn.slots, locals := 30 + rm_X1_feversIn.locals }
set_option maxHeartbeats 4000000 in
set_option maxRecDepth 100000 in
theorem k_L_feversIn {l : Launch} (D : va_G) (cI cZ cL : ClassId) (h o : Nat) (x1 : Int32) (f : Nat → Int64) {w0 w1 : va_W} {code : Nat} {r : Int32} {fs : List Value} (hn0 : w0.length = 23) (hn1 : w1.length = 23) (he : w0[0]? = some (h, .inr (1, fs))) (hcd : code = 0 ∨ code = 3) (hM : TX l yX1_feversIn wsX1_feversIn rm_X1_feversIn D cI cZ cL [.ref h, .int x1] w0 code (some (.int r)) w1) : LX l yL_feversIn wsL_feversIn rm_L_feversIn D cI cZ cL [.ref h, .int x1, .ref o] (w0 ++ [(o, .inl (cL, 1, .inr (.inl f)))]) (some (.int (if code = 0 then (0 : Int32) else (1 : Int32)))) (if code = 0 then w1 ++ [(o, .inl (cL, 1, .inr (.inl (vp_updL f 0 r.toInt64))))] else w0 ++ [(o, .inl (cL, 1, .inr (.inl f)))]) := by
  refine LX.of (own := RL) (cc := cL_feversIn) (maxL := 4) (ret := (some .int)) (hh := [(0, 9, 12, 24)]) (lv0 := [(0, .ref h), (1, .int x1), (2, .ref o)]) (by decide) rfl rfl (Nat.le_of_ble_eq_true rfl) rfl ?_
  intro p e s m args below meth c A hc hT htb hw ls hl
  obtain ⟨hx, hb, hr, hml, hown, hts, hlk, hK, hA⟩ := id hc
  refine lv_aload_n hx hb dL_feversIn_0 rfl (lv_at hl 2 rfl) ?_
  refine lv_iconst (v := 0) hx hb dL_feversIn_1 (by decide) ?_
  refine lv_aload_n hx hb dL_feversIn_2 rfl (lv_at hl 0 rfl) ?_
  refine lv_iload_n hx hb dL_feversIn_3 rfl (lv_at hl 1 rfl) ?_
  have hpt := Pt.front hw hA
  refine pt_callV (n := 1) (As := [.int x1]) (rest := [.int 0, .ref o]) hc hT hw.2.2 hpt hM gL_feversIn_X1_feversIn rfl (by decide +kernel) ⟨Nat.le_of_ble_eq_true rfl, Nat.le_of_ble_eq_true rfl⟩ he rfl rfl rfl rfl hl.1 (Nat.le_of_ble_eq_true rfl) (st1 := [.int r, .int 0, .ref o]) rfl dL_feversIn_4 (k2 := rm_X1_feversIn.cells) (s2 := rm_X1_feversIn.slots) (Nat.zero_add _) (Nat.zero_add _) ⟨Nat.le_refl _, Nat.le_refl _⟩ (fun hz H locs q9 ce hw h5 h6 h7 => ?_) (fun hz H locs hw => ?_)
  · rw [if_neg hz, if_neg hz]
    rcases hcd with hq | hq
    · exact absurd hq hz
    · skip
      subst hq
      refine vx_catch (name := "java/lang/IndexOutOfBoundsException") hown [] ⟨0, 9, 12, 24⟩ [] htb (fun z hz => by simp at hz) rfl (by decide) (hts _ (List.mem_of_getElem? (i := 1) rfl)) (va_Nw.use rfl (hT.1.2.1 3)) h5 h6 h7 ?_
      refine lv_astore_n (lv' := [(3, .ref q9), (0, .ref h), (1, .int x1), (2, .ref o)]) hx hb dL_feversIn_12 rfl hl (by decide) rfl (fun ls hl => ?_)
      refine lv_iconst (v := 1) hx hb dL_feversIn_13 (by decide) ?_
      exact g_ret hc hw (by first | rfl | simp) (Nat.le_refl _) (Nat.le_refl _) dL_feversIn_14
  · rw [if_pos hz, if_pos hz]
    refine lv_i2l (v := r.toInt64) hx hb dL_feversIn_7 rfl ?_
    refine g_last (f := f) hc hw 23 (l_app0 hn1) (show vp_in (0 : Int32) 1 by unfold vp_in; decide) (l_set0 hn1) dL_feversIn_8 (fun H locs hw => ?_)
    refine lv_goto (tgt := 15) hx hb dL_feversIn_9 (by decide) ?_
    refine lv_iconst (v := 0) hx hb dL_feversIn_15 (by decide) ?_
    exact g_ret hc hw rfl (Nat.le_refl _) (Nat.le_refl _) dL_feversIn_16
abbrev rm_L_daysToGo : Room := { frames := 1 + rm_X1_daysToGo.frames, cells := rm_X1_daysToGo.cells, slots := rm_X1_daysToGo.slots, locals := 30 + rm_X1_daysToGo.locals }
set_option maxHeartbeats 4000000 in
set_option maxRecDepth 100000 in
theorem k_L_daysToGo {l : Launch} (D : va_G) (cI cZ cL : ClassId) (h o : Nat) (x1 : Int32) (f : Nat → Int64) {w0 w1 : va_W} {code : Nat} {r : Int32} {fs : List Value} (hn0 : w0.length = 23) (hn1 : w1.length = 23) (he : w0[0]? = some (h, .inr (1, fs))) (hcd : code = 0 ∨ code = 3) (hM : TX l yX1_daysToGo wsX1_daysToGo rm_X1_daysToGo D cI cZ cL [.ref h, .int x1] w0 code (some (.int r)) w1) : LX l yL_daysToGo wsL_daysToGo rm_L_daysToGo D cI cZ cL [.ref h, .int x1, .ref o] (w0 ++ [(o, .inl (cL, 1, .inr (.inl f)))]) (some (.int (if code = 0 then (0 : Int32) else (1 : Int32)))) (if code = 0 then w1 ++ [(o, .inl (cL, 1, .inr (.inl (vp_updL f 0 r.toInt64))))] else w0 ++ [(o, .inl (cL, 1, .inr (.inl f)))]) := by
  refine LX.of (own := RL) (cc := cL_daysToGo) (maxL := 4) (ret := (some .int)) (hh := [(0, 9, 12, 24)]) (lv0 := [(0, .ref h), (1, .int x1), (2, .ref o)]) (by decide) rfl rfl (Nat.le_of_ble_eq_true rfl) rfl ?_
  intro p e s m args below meth c A hc hT htb hw ls hl
  obtain ⟨hx, hb, hr, hml, hown, hts, hlk, hK, hA⟩ := id hc
  refine lv_aload_n hx hb dL_daysToGo_0 rfl (lv_at hl 2 rfl) ?_
  refine lv_iconst (v := 0) hx hb dL_daysToGo_1 (by decide) ?_
  refine lv_aload_n hx hb dL_daysToGo_2 rfl (lv_at hl 0 rfl) ?_
  refine lv_iload_n hx hb dL_daysToGo_3 rfl (lv_at hl 1 rfl) ?_
  have hpt := Pt.front hw hA
  refine pt_callV (n := 1) (As := [.int x1]) (rest := [.int 0, .ref o]) hc hT hw.2.2 hpt hM gL_daysToGo_X1_daysToGo rfl (by decide +kernel) ⟨Nat.le_of_ble_eq_true rfl, Nat.le_of_ble_eq_true rfl⟩ he rfl rfl rfl rfl hl.1 (Nat.le_of_ble_eq_true rfl) (st1 := [.int r, .int 0, .ref o]) rfl dL_daysToGo_4 (k2 := rm_X1_daysToGo.cells) (s2 := rm_X1_daysToGo.slots) (Nat.zero_add _) (Nat.zero_add _) ⟨Nat.le_refl _, Nat.le_refl _⟩ (fun hz H locs q9 ce hw h5 h6 h7 => ?_) (fun hz H locs hw => ?_)
  · rw [if_neg hz, if_neg hz]
    rcases hcd with hq | hq
    · exact absurd hq hz
    · skip
      subst hq
      refine vx_catch (name := "java/lang/IndexOutOfBoundsException") hown [] ⟨0, 9, 12, 24⟩ [] htb (fun z hz => by simp at hz) rfl (by decide) (hts _ (List.mem_of_getElem? (i := 1) rfl)) (va_Nw.use rfl (hT.1.2.1 3)) h5 h6 h7 ?_
      refine lv_astore_n (lv' := [(3, .ref q9), (0, .ref h), (1, .int x1), (2, .ref o)]) hx hb dL_daysToGo_12 rfl hl (by decide) rfl (fun ls hl => ?_)
      refine lv_iconst (v := 1) hx hb dL_daysToGo_13 (by decide) ?_
      exact g_ret hc hw (by first | rfl | simp) (Nat.le_refl _) (Nat.le_refl _) dL_daysToGo_14
  · rw [if_pos hz, if_pos hz]
    refine lv_i2l (v := r.toInt64) hx hb dL_daysToGo_7 rfl ?_
    refine g_last (f := f) hc hw 23 (l_app0 hn1) (show vp_in (0 : Int32) 1 by unfold vp_in; decide) (l_set0 hn1) dL_daysToGo_8 (fun H locs hw => ?_)
    refine lv_goto (tgt := 15) hx hb dL_daysToGo_9 (by decide) ?_
    refine lv_iconst (v := 0) hx hb dL_daysToGo_15 (by decide) ?_
    exact g_ret hc hw rfl (Nat.le_refl _) (Nat.le_refl _) dL_daysToGo_16
abbrev rm_L_keptFor : Room := { frames := 1 + rm_X1_keptFor.frames, cells := rm_X1_keptFor.cells, slots := rm_X1_keptFor.slots, locals := 30 + rm_X1_keptFor.locals }
set_option maxHeartbeats 4000000 in
set_option maxRecDepth 100000 in
theorem k_L_keptFor {l : Launch} (D : va_G) (cI cZ cL : ClassId) (h o : Nat) (x1 : Int32) (f : Nat → Int64) {w0 w1 : va_W} {code : Nat} {r : Int32} {fs : List Value} (hn0 : w0.length = 23) (hn1 : w1.length = 23) (he : w0[0]? = some (h, .inr (1, fs))) (hcd : code = 0 ∨ code = 3) (hM : TX l yX1_keptFor wsX1_keptFor rm_X1_keptFor D cI cZ cL [.ref h, .int x1] w0 code (some (.int r)) w1) : LX l yL_keptFor wsL_keptFor rm_L_keptFor D cI cZ cL [.ref h, .int x1, .ref o] (w0 ++ [(o, .inl (cL, 1, .inr (.inl f)))]) (some (.int (if code = 0 then (0 : Int32) else (1 : Int32)))) (if code = 0 then w1 ++ [(o, .inl (cL, 1, .inr (.inl (vp_updL f 0 r.toInt64))))] else w0 ++ [(o, .inl (cL, 1, .inr (.inl f)))]) := by
  refine LX.of (own := RL) (cc := cL_keptFor) (maxL := 4) (ret := (some .int)) (hh := [(0, 9, 12, 24)]) (lv0 := [(0, .ref h), (1, .int x1), (2, .ref o)]) (by decide) rfl rfl (Nat.le_of_ble_eq_true rfl) rfl ?_
  intro p e s m args below meth c A hc hT htb hw ls hl
  obtain ⟨hx, hb, hr, hml, hown, hts, hlk, hK, hA⟩ := id hc
  refine lv_aload_n hx hb dL_keptFor_0 rfl (lv_at hl 2 rfl) ?_
  refine lv_iconst (v := 0) hx hb dL_keptFor_1 (by decide) ?_
  refine lv_aload_n hx hb dL_keptFor_2 rfl (lv_at hl 0 rfl) ?_
  refine lv_iload_n hx hb dL_keptFor_3 rfl (lv_at hl 1 rfl) ?_
  have hpt := Pt.front hw hA
  refine pt_callV (n := 1) (As := [.int x1]) (rest := [.int 0, .ref o]) hc hT hw.2.2 hpt hM gL_keptFor_X1_keptFor rfl (by decide +kernel) ⟨Nat.le_of_ble_eq_true rfl, Nat.le_of_ble_eq_true rfl⟩ he rfl rfl rfl rfl hl.1 (Nat.le_of_ble_eq_true rfl) (st1 := [.int r, .int 0, .ref o]) rfl dL_keptFor_4 (k2 := rm_X1_keptFor.cells) (s2 := rm_X1_keptFor.slots) (Nat.zero_add _) (Nat.zero_add _) ⟨Nat.le_refl _, Nat.le_refl _⟩ (fun hz H locs q9 ce hw h5 h6 h7 => ?_) (fun hz H locs hw => ?_)
  · rw [if_neg hz, if_neg hz]
    rcases hcd with hq | hq
    · exact absurd hq hz
    · skip
      subst hq
      refine vx_catch (name := "java/lang/IndexOutOfBoundsException") hown [] ⟨0, 9, 12, 24⟩ [] htb (fun z hz => by simp at hz) rfl (by decide) (hts _ (List.mem_of_getElem? (i := 1) rfl)) (va_Nw.use rfl (hT.1.2.1 3)) h5 h6 h7 ?_
      refine lv_astore_n (lv' := [(3, .ref q9), (0, .ref h), (1, .int x1), (2, .ref o)]) hx hb dL_keptFor_12 rfl hl (by decide) rfl (fun ls hl => ?_)
      refine lv_iconst (v := 1) hx hb dL_keptFor_13 (by decide) ?_
      exact g_ret hc hw (by first | rfl | simp) (Nat.le_refl _) (Nat.le_refl _) dL_keptFor_14
  · rw [if_pos hz, if_pos hz]
    refine lv_i2l (v := r.toInt64) hx hb dL_keptFor_7 rfl ?_
    refine g_last (f := f) hc hw 23 (l_app0 hn1) (show vp_in (0 : Int32) 1 by unfold vp_in; decide) (l_set0 hn1) dL_keptFor_8 (fun H locs hw => ?_)
    refine lv_goto (tgt := 15) hx hb dL_keptFor_9 (by decide) ?_
    refine lv_iconst (v := 0) hx hb dL_keptFor_15 (by decide) ?_
    exact g_ret hc hw rfl (Nat.le_refl _) (Nat.le_refl _) dL_keptFor_16
abbrev rm_L_peopleOn : Room := { frames := 1 + rm_X1_peopleOn.frames, cells := rm_X1_peopleOn.cells, slots := rm_X1_peopleOn.slots, locals := 30 + rm_X1_peopleOn.locals }
set_option maxHeartbeats 4000000 in
set_option maxRecDepth 100000 in
theorem k_L_peopleOn {l : Launch} (D : va_G) (cI cZ cL : ClassId) (h o : Nat) (x1 : Int32) (f : Nat → Int64) {w0 w1 : va_W} {code : Nat} {r : Int32} {fs : List Value} (hn0 : w0.length = 23) (hn1 : w1.length = 23) (he : w0[0]? = some (h, .inr (1, fs))) (hcd : code = 0 ∨ code = 3) (hM : TX l yX1_peopleOn wsX1_peopleOn rm_X1_peopleOn D cI cZ cL [.ref h, .int x1] w0 code (some (.int r)) w1) : LX l yL_peopleOn wsL_peopleOn rm_L_peopleOn D cI cZ cL [.ref h, .int x1, .ref o] (w0 ++ [(o, .inl (cL, 1, .inr (.inl f)))]) (some (.int (if code = 0 then (0 : Int32) else (1 : Int32)))) (if code = 0 then w1 ++ [(o, .inl (cL, 1, .inr (.inl (vp_updL f 0 r.toInt64))))] else w0 ++ [(o, .inl (cL, 1, .inr (.inl f)))]) := by
  refine LX.of (own := RL) (cc := cL_peopleOn) (maxL := 4) (ret := (some .int)) (hh := [(0, 9, 12, 24)]) (lv0 := [(0, .ref h), (1, .int x1), (2, .ref o)]) (by decide) rfl rfl (Nat.le_of_ble_eq_true rfl) rfl ?_
  intro p e s m args below meth c A hc hT htb hw ls hl
  obtain ⟨hx, hb, hr, hml, hown, hts, hlk, hK, hA⟩ := id hc
  refine lv_aload_n hx hb dL_peopleOn_0 rfl (lv_at hl 2 rfl) ?_
  refine lv_iconst (v := 0) hx hb dL_peopleOn_1 (by decide) ?_
  refine lv_aload_n hx hb dL_peopleOn_2 rfl (lv_at hl 0 rfl) ?_
  refine lv_iload_n hx hb dL_peopleOn_3 rfl (lv_at hl 1 rfl) ?_
  have hpt := Pt.front hw hA
  refine pt_callV (n := 1) (As := [.int x1]) (rest := [.int 0, .ref o]) hc hT hw.2.2 hpt hM gL_peopleOn_X1_peopleOn rfl (by decide +kernel) ⟨Nat.le_of_ble_eq_true rfl, Nat.le_of_ble_eq_true rfl⟩ he rfl rfl rfl rfl hl.1 (Nat.le_of_ble_eq_true rfl) (st1 := [.int r, .int 0, .ref o]) rfl dL_peopleOn_4 (k2 := rm_X1_peopleOn.cells) (s2 := rm_X1_peopleOn.slots) (Nat.zero_add _) (Nat.zero_add _) ⟨Nat.le_refl _, Nat.le_refl _⟩ (fun hz H locs q9 ce hw h5 h6 h7 => ?_) (fun hz H locs hw => ?_)
  · rw [if_neg hz, if_neg hz]
    rcases hcd with hq | hq
    · exact absurd hq hz
    · skip
      subst hq
      refine vx_catch (name := "java/lang/IndexOutOfBoundsException") hown [] ⟨0, 9, 12, 24⟩ [] htb (fun z hz => by simp at hz) rfl (by decide) (hts _ (List.mem_of_getElem? (i := 1) rfl)) (va_Nw.use rfl (hT.1.2.1 3)) h5 h6 h7 ?_
      refine lv_astore_n (lv' := [(3, .ref q9), (0, .ref h), (1, .int x1), (2, .ref o)]) hx hb dL_peopleOn_12 rfl hl (by decide) rfl (fun ls hl => ?_)
      refine lv_iconst (v := 1) hx hb dL_peopleOn_13 (by decide) ?_
      exact g_ret hc hw (by first | rfl | simp) (Nat.le_refl _) (Nat.le_refl _) dL_peopleOn_14
  · rw [if_pos hz, if_pos hz]
    refine lv_i2l (v := r.toInt64) hx hb dL_peopleOn_7 rfl ?_
    refine g_last (f := f) hc hw 23 (l_app0 hn1) (show vp_in (0 : Int32) 1 by unfold vp_in; decide) (l_set0 hn1) dL_peopleOn_8 (fun H locs hw => ?_)
    refine lv_goto (tgt := 15) hx hb dL_peopleOn_9 (by decide) ?_
    refine lv_iconst (v := 0) hx hb dL_peopleOn_15 (by decide) ?_
    exact g_ret hc hw rfl (Nat.le_refl _) (Nat.le_refl _) dL_peopleOn_16