def r_X1_bowlsShort (w : Nat) (b : Nat) (n : Nat) (T : ct_T) (w2 : Nat) (b2 : Nat) (n2 : Nat) (T2 : ct_T) : Int32 := (if (0 : Int32) < ((r_X0_count w b n T (1 : Int32)) - (ct_bo T)) then ((r_X0_count w b n T (1 : Int32)) - (ct_bo T)) else (0 : Int32))
abbrev rm_X1_bowlsShort : Room := { frames := 1, cells := 0, slots := 0, locals := 23 }
set_option maxHeartbeats 4000000 in
set_option maxRecDepth 100000 in
theorem k_X1_bowlsShort (l : Launch) (D : va_G) (cI cZ cL : ClassId) (h : Nat) (a a2 : Nat → Nat) (w : Nat) (b : Nat) (n : Nat) (T : ct_T) (w2 : Nat) (b2 : Nat) (n2 : Nat) (T2 : ct_T) (hd5 : w ≤ 5) (hd4 : b ≤ 4) (hd30 : n ≤ 30) (he5 : w2 ≤ 5) (he4 : b2 ≤ 4) (he30 : n2 ≤ 30)   : MX l yX1_bowlsShort wsX1_bowlsShort rm_X1_bowlsShort D cI cZ cL [.ref h] (wb_c h a a2 cI cZ w b n T w2 b2 n2 T2) (some (.int (r_X1_bowlsShort w b n T w2 b2 n2 T2))) (wb_c h a a2 cI cZ w b n T w2 b2 n2 T2) := by
  refine MX.of (own := RX1) (cc := cX1_bowlsShort) (maxL := 1) (ret := (some .int)) (lv0 := [(0, .ref h)]) (by decide) rfl rfl (Nat.le_of_ble_eq_true rfl) rfl ?_
  intro p e s m args below meth c A hc hnm hw ls hl
  obtain ⟨hx, hb, hr, hml, hown, hts, hlk, hK, hA⟩ := id hc
  have hiX0 : ∀ w ∈ u_ws RX0 TX0 16, w ∈ wsX1_bowlsShort := fun _ h => List.mem_cons_of_mem _ (List.mem_append_right _ h)
  have hiX1 : ∀ w ∈ u_ws RX1 TX1 2, w ∈ wsX1_bowlsShort := fun _ h => List.mem_cons_of_mem _ (List.mem_append_left _ (List.mem_append_right _ h))
  refine lv_iconst (v := 0) hx hb dX1_bowlsShort_0 (by decide) ?_
  refine lv_aload_n hx hb dX1_bowlsShort_1 rfl (lv_at hl 0 rfl) ?_
  refine g_get (v := .ref (a 0)) hc hw hiX1 0 0 (wo_X1_H ..) rfl (by decide) (List.mem_of_getElem? (i := 1) rfl) (wv_X1_H_0 ..) dX1_bowlsShort_2 ?_
  refine lv_iconst (v := 1) hx hb dX1_bowlsShort_5 (by decide) ?_
  refine g_callV (n := 1) hc hw (k_X0_count l D cI cZ cL a w b n T hd5 hd4 hd30 (1 : Int32)) gX1_bowlsShort_X0_count rfl (by decide +kernel) ⟨Nat.le_of_ble_eq_true rfl, Nat.le_of_ble_eq_true rfl⟩ (wo_X0_T ..) rfl rfl [1, 2, 3, 4, 5, 6, 7, 8, 9, 10, 11] [0, 12, 13, 14, 15, 16, 17, 18, 19, 20, 21, 22] [0, 12, 13, 14, 15, 16, 17, 18, 19, 20, 21, 22, 1, 2, 3, 4, 5, 6, 7, 8, 9, 10, 11] (wr := (wb_c0 h a a2 :: wt_c a2 cI cZ w2 b2 n2 T2)) (w' := (wb_c h a a2 cI cZ w b n T w2 b2 n2 T2)) (wpC_X1_T ..) (wpR_X1_T ..) (by decide) (by decide) (by decide) (wpJ_X1_T ..) (by decide) rfl (rest := [.int (0 : Int32)]) rfl hl.1 (Nat.le_of_ble_eq_true rfl) (st1 := [.int (r_X0_count w b n T (1 : Int32)), .int (0 : Int32)]) rfl dX1_bowlsShort_6 (k2 := 0) (s2 := 0) rfl rfl ⟨Nat.le_of_ble_eq_true rfl, Nat.le_of_ble_eq_true rfl⟩ (fun H locs hw => ?_)
  refine lv_aload_n hx hb dX1_bowlsShort_9 rfl (lv_at hl 0 rfl) ?_
  refine g_get (v := .ref (a 0)) hc hw hiX1 0 0 (wo_X1_H ..) rfl (by decide) (List.mem_of_getElem? (i := 1) rfl) (wv_X1_H_0 ..) dX1_bowlsShort_10 ?_
  refine g_get (v := .int (ct_bo T)) hc hw hiX0 1 1 (wo_X1_T ..) rfl (by decide) (List.mem_of_getElem? (i := 2) rfl) (wv_X1_T_1 ..) dX1_bowlsShort_13 ?_
  refine lv_isub hx hb dX1_bowlsShort_16 ?_
  refine g_mmax hc hl.1 (List.mem_of_getElem? (i := 3) rfl) (List.mem_of_getElem? (i := 4) rfl) (List.mem_of_getElem? (i := 5) rfl) (List.mem_of_getElem? (i := 6) rfl) (Nat.le_of_ble_eq_true rfl) (Nat.le_of_ble_eq_true rfl) (Nat.le_of_ble_eq_true rfl) (Nat.le_of_ble_eq_true rfl) dX1_bowlsShort_17 ?_
  rw [show r_X1_bowlsShort w b n T w2 b2 n2 T2 = (if (0 : Int32) < ((r_X0_count w b n T (1 : Int32)) - (ct_bo T)) then ((r_X0_count w b n T (1 : Int32)) - (ct_bo T)) else (0 : Int32)) from by rw [r_X1_bowlsShort]]
  exact g_ret hc hw rfl (Nat.le_of_ble_eq_true rfl) (Nat.le_of_ble_eq_true rfl) dX1_bowlsShort_20

def r_X1_peopleHome (w : Nat) (b : Nat) (n : Nat) (T : ct_T) (w2 : Nat) (b2 : Nat) (n2 : Nat) (T2 : ct_T) : Int32 := (r_X0_count w b n T (2 : Int32))
abbrev rm_X1_peopleHome : Room := { frames := 1, cells := 0, slots := 0, locals := 23 }
set_option maxHeartbeats 4000000 in
set_option maxRecDepth 100000 in
theorem k_X1_peopleHome (l : Launch) (D : va_G) (cI cZ cL : ClassId) (h : Nat) (a a2 : Nat → Nat) (w : Nat) (b : Nat) (n : Nat) (T : ct_T) (w2 : Nat) (b2 : Nat) (n2 : Nat) (T2 : ct_T) (hd5 : w ≤ 5) (hd4 : b ≤ 4) (hd30 : n ≤ 30) (he5 : w2 ≤ 5) (he4 : b2 ≤ 4) (he30 : n2 ≤ 30)   : MX l yX1_peopleHome wsX1_peopleHome rm_X1_peopleHome D cI cZ cL [.ref h] (wb_c h a a2 cI cZ w b n T w2 b2 n2 T2) (some (.int (r_X1_peopleHome w b n T w2 b2 n2 T2))) (wb_c h a a2 cI cZ w b n T w2 b2 n2 T2) := by
  refine MX.of (own := RX1) (cc := cX1_peopleHome) (maxL := 1) (ret := (some .int)) (lv0 := [(0, .ref h)]) (by decide) rfl rfl (Nat.le_of_ble_eq_true rfl) rfl ?_
  intro p e s m args below meth c A hc hnm hw ls hl
  obtain ⟨hx, hb, hr, hml, hown, hts, hlk, hK, hA⟩ := id hc
  have hiX1 : ∀ w ∈ u_ws RX1 TX1 2, w ∈ wsX1_peopleHome := fun _ h => List.mem_cons_of_mem _ (List.mem_append_left _ (List.mem_append_right _ h))
  refine lv_aload_n hx hb dX1_peopleHome_0 rfl (lv_at hl 0 rfl) ?_
  refine g_get (v := .ref (a 0)) hc hw hiX1 0 0 (wo_X1_H ..) rfl (by decide) (List.mem_of_getElem? (i := 1) rfl) (wv_X1_H_0 ..) dX1_peopleHome_1 ?_
  refine lv_iconst (v := 2) hx hb dX1_peopleHome_4 (by decide) ?_
  refine g_callV (n := 1) hc hw (k_X0_count l D cI cZ cL a w b n T hd5 hd4 hd30 (2 : Int32)) gX1_peopleHome_X0_count rfl (by decide +kernel) ⟨Nat.le_of_ble_eq_true rfl, Nat.le_of_ble_eq_true rfl⟩ (wo_X0_T ..) rfl rfl [1, 2, 3, 4, 5, 6, 7, 8, 9, 10, 11] [0, 12, 13, 14, 15, 16, 17, 18, 19, 20, 21, 22] [0, 12, 13, 14, 15, 16, 17, 18, 19, 20, 21, 22, 1, 2, 3, 4, 5, 6, 7, 8, 9, 10, 11] (wr := (wb_c0 h a a2 :: wt_c a2 cI cZ w2 b2 n2 T2)) (w' := (wb_c h a a2 cI cZ w b n T w2 b2 n2 T2)) (wpC_X1_T ..) (wpR_X1_T ..) (by decide) (by decide) (by decide) (wpJ_X1_T ..) (by decide) rfl (rest := []) rfl hl.1 (Nat.le_of_ble_eq_true rfl) (st1 := [.int (r_X0_count w b n T (2 : Int32))]) rfl dX1_peopleHome_5 (k2 := 0) (s2 := 0) rfl rfl ⟨Nat.le_of_ble_eq_true rfl, Nat.le_of_ble_eq_true rfl⟩ (fun H locs hw => ?_)
  rw [show r_X1_peopleHome w b n T w2 b2 n2 T2 = (r_X0_count w b n T (2 : Int32)) from by rw [r_X1_peopleHome]]
  exact g_ret hc hw rfl (Nat.le_of_ble_eq_true rfl) (Nat.le_of_ble_eq_true rfl) dX1_peopleHome_8

def r_X1_peopleInGreatHouse (w : Nat) (b : Nat) (n : Nat) (T : ct_T) (w2 : Nat) (b2 : Nat) (n2 : Nat) (T2 : ct_T) : Int32 := (r_X0_count w b n T (3 : Int32))
abbrev rm_X1_peopleInGreatHouse : Room := { frames := 1, cells := 0, slots := 0, locals := 23 }
set_option maxHeartbeats 4000000 in
set_option maxRecDepth 100000 in
theorem k_X1_peopleInGreatHouse (l : Launch) (D : va_G) (cI cZ cL : ClassId) (h : Nat) (a a2 : Nat → Nat) (w : Nat) (b : Nat) (n : Nat) (T : ct_T) (w2 : Nat) (b2 : Nat) (n2 : Nat) (T2 : ct_T) (hd5 : w ≤ 5) (hd4 : b ≤ 4) (hd30 : n ≤ 30) (he5 : w2 ≤ 5) (he4 : b2 ≤ 4) (he30 : n2 ≤ 30)   : MX l yX1_peopleInGreatHouse wsX1_peopleInGreatHouse rm_X1_peopleInGreatHouse D cI cZ cL [.ref h] (wb_c h a a2 cI cZ w b n T w2 b2 n2 T2) (some (.int (r_X1_peopleInGreatHouse w b n T w2 b2 n2 T2))) (wb_c h a a2 cI cZ w b n T w2 b2 n2 T2) := by
  refine MX.of (own := RX1) (cc := cX1_peopleInGreatHouse) (maxL := 1) (ret := (some .int)) (lv0 := [(0, .ref h)]) (by decide) rfl rfl (Nat.le_of_ble_eq_true rfl) rfl ?_
  intro p e s m args below meth c A hc hnm hw ls hl
  obtain ⟨hx, hb, hr, hml, hown, hts, hlk, hK, hA⟩ := id hc
  have hiX1 : ∀ w ∈ u_ws RX1 TX1 2, w ∈ wsX1_peopleInGreatHouse := fun _ h => List.mem_cons_of_mem _ (List.mem_append_left _ (List.mem_append_right _ h))
  refine lv_aload_n hx hb dX1_peopleInGreatHouse_0 rfl (lv_at hl 0 rfl) ?_
  refine g_get (v := .ref (a 0)) hc hw hiX1 0 0 (wo_X1_H ..) rfl (by decide) (List.mem_of_getElem? (i := 1) rfl) (wv_X1_H_0 ..) dX1_peopleInGreatHouse_1 ?_
  refine lv_iconst (v := 3) hx hb dX1_peopleInGreatHouse_4 (by decide) ?_
  refine g_callV (n := 1) hc hw (k_X0_count l D cI cZ cL a w b n T hd5 hd4 hd30 (3 : Int32)) gX1_peopleInGreatHouse_X0_count rfl (by decide +kernel) ⟨Nat.le_of_ble_eq_true rfl, Nat.le_of_ble_eq_true rfl⟩ (wo_X0_T ..) rfl rfl [1, 2, 3, 4, 5, 6, 7, 8, 9, 10, 11] [0, 12, 13, 14, 15, 16, 17, 18, 19, 20, 21, 22] [0, 12, 13, 14, 15, 16, 17, 18, 19, 20, 21, 22, 1, 2, 3, 4, 5, 6, 7, 8, 9, 10, 11] (wr := (wb_c0 h a a2 :: wt_c a2 cI cZ w2 b2 n2 T2)) (w' := (wb_c h a a2 cI cZ w b n T w2 b2 n2 T2)) (wpC_X1_T ..) (wpR_X1_T ..) (by decide) (by decide) (by decide) (wpJ_X1_T ..) (by decide) rfl (rest := []) rfl hl.1 (Nat.le_of_ble_eq_true rfl) (st1 := [.int (r_X0_count w b n T (3 : Int32))]) rfl dX1_peopleInGreatHouse_5 (k2 := 0) (s2 := 0) rfl rfl ⟨Nat.le_of_ble_eq_true rfl, Nat.le_of_ble_eq_true rfl⟩ (fun H locs hw => ?_)
  rw [show r_X1_peopleInGreatHouse w b n T w2 b2 n2 T2 = (r_X0_count w b n T (3 : Int32)) from by rw [r_X1_peopleInGreatHouse]]
  exact g_ret hc hw rfl (Nat.le_of_ble_eq_true rfl) (Nat.le_of_ble_eq_true rfl) dX1_peopleInGreatHouse_8

def r_X1_bowlsEaten (w : Nat) (b : Nat) (n : Nat) (T : ct_T) (w2 : Nat) (b2 : Nat) (n2 : Nat) (T2 : ct_T) : Int32 := (ct_ea T)
abbrev rm_X1_bowlsEaten : Room := { frames := 0, cells := 0, slots := 0, locals := 0 }
set_option maxHeartbeats 4000000 in
set_option maxRecDepth 100000 in
theorem k_X1_bowlsEaten (l : Launch) (D : va_G) (cI cZ cL : ClassId) (h : Nat) (a a2 : Nat → Nat) (w : Nat) (b : Nat) (n : Nat) (T : ct_T) (w2 : Nat) (b2 : Nat) (n2 : Nat) (T2 : ct_T) (hd5 : w ≤ 5) (hd4 : b ≤ 4) (hd30 : n ≤ 30) (he5 : w2 ≤ 5) (he4 : b2 ≤ 4) (he30 : n2 ≤ 30)   : MX l yX1_bowlsEaten wsX1_bowlsEaten rm_X1_bowlsEaten D cI cZ cL [.ref h] (wb_c h a a2 cI cZ w b n T w2 b2 n2 T2) (some (.int (r_X1_bowlsEaten w b n T w2 b2 n2 T2))) (wb_c h a a2 cI cZ w b n T w2 b2 n2 T2) := by
  refine MX.of (own := RX1) (cc := cX1_bowlsEaten) (maxL := 1) (ret := (some .int)) (lv0 := [(0, .ref h)]) (by decide) rfl rfl (Nat.le_of_ble_eq_true rfl) rfl ?_
  intro p e s m args below meth c A hc hnm hw ls hl
  obtain ⟨hx, hb, hr, hml, hown, hts, hlk, hK, hA⟩ := id hc
  have hiX0 : ∀ w ∈ u_ws RX0 TX0 16, w ∈ wsX1_bowlsEaten := fun _ h => List.mem_cons_of_mem _ (List.mem_append_right _ h)
  have hiX1 : ∀ w ∈ u_ws RX1 TX1 2, w ∈ wsX1_bowlsEaten := fun _ h => List.mem_cons_of_mem _ (List.mem_append_left _ (List.mem_append_right _ h))
  refine lv_aload_n hx hb dX1_bowlsEaten_0 rfl (lv_at hl 0 rfl) ?_
  refine g_get (v := .ref (a 0)) hc hw hiX1 0 0 (wo_X1_H ..) rfl (by decide) (List.mem_of_getElem? (i := 1) rfl) (wv_X1_H_0 ..) dX1_bowlsEaten_1 ?_
  refine g_get (v := .int (ct_ea T)) hc hw hiX0 1 2 (wo_X1_T ..) rfl (by decide) (List.mem_of_getElem? (i := 2) rfl) (wv_X1_T_2 ..) dX1_bowlsEaten_4 ?_
  rw [show r_X1_bowlsEaten w b n T w2 b2 n2 T2 = (ct_ea T) from by rw [r_X1_bowlsEaten]]
  exact g_ret hc hw rfl (Nat.le_of_ble_eq_true rfl) (Nat.le_of_ble_eq_true rfl) dX1_bowlsEaten_7

def r_X1_bowlsNeeded (w : Nat) (b : Nat) (n : Nat) (T : ct_T) (w2 : Nat) (b2 : Nat) (n2 : Nat) (T2 : ct_T) : Int32 := (r_X0_count w b n T (1 : Int32))
abbrev rm_X1_bowlsNeeded : Room := { frames := 1, cells := 0, slots := 0, locals := 23 }
set_option maxHeartbeats 4000000 in
set_option maxRecDepth 100000 in
theorem k_X1_bowlsNeeded (l : Launch) (D : va_G) (cI cZ cL : ClassId) (h : Nat) (a a2 : Nat → Nat) (w : Nat) (b : Nat) (n : Nat) (T : ct_T) (w2 : Nat) (b2 : Nat) (n2 : Nat) (T2 : ct_T) (hd5 : w ≤ 5) (hd4 : b ≤ 4) (hd30 : n ≤ 30) (he5 : w2 ≤ 5) (he4 : b2 ≤ 4) (he30 : n2 ≤ 30)   : MX l yX1_bowlsNeeded wsX1_bowlsNeeded rm_X1_bowlsNeeded D cI cZ cL [.ref h] (wb_c h a a2 cI cZ w b n T w2 b2 n2 T2) (some (.int (r_X1_bowlsNeeded w b n T w2 b2 n2 T2))) (wb_c h a a2 cI cZ w b n T w2 b2 n2 T2) := by
  refine MX.of (own := RX1) (cc := cX1_bowlsNeeded) (maxL := 1) (ret := (some .int)) (lv0 := [(0, .ref h)]) (by decide) rfl rfl (Nat.le_of_ble_eq_true rfl) rfl ?_
  intro p e s m args below meth c A hc hnm hw ls hl
  obtain ⟨hx, hb, hr, hml, hown, hts, hlk, hK, hA⟩ := id hc
  have hiX1 : ∀ w ∈ u_ws RX1 TX1 2, w ∈ wsX1_bowlsNeeded := fun _ h => List.mem_cons_of_mem _ (List.mem_append_left _ (List.mem_append_right _ h))
  refine lv_aload_n hx hb dX1_bowlsNeeded_0 rfl (lv_at hl 0 rfl) ?_
  refine g_get (v := .ref (a 0)) hc hw hiX1 0 0 (wo_X1_H ..) rfl (by decide) (List.mem_of_getElem? (i := 1) rfl) (wv_X1_H_0 ..) dX1_bowlsNeeded_1 ?_
  refine lv_iconst (v := 1) hx hb dX1_bowlsNeeded_4 (by decide) ?_
  refine g_callV (n := 1) hc hw (k_X0_count l D cI cZ cL a w b n T hd5 hd4 hd30 (1 : Int32)) gX1_bowlsNeeded_X0_count rfl (by decide +kernel) ⟨Nat.le_of_ble_eq_true rfl, Nat.le_of_ble_eq_true rfl⟩ (wo_X0_T ..) rfl rfl [1, 2, 3, 4, 5, 6, 7, 8, 9, 10, 11] [0, 12, 13, 14, 15, 16, 17, 18, 19, 20, 21, 22] [0, 12, 13, 14, 15, 16, 17, 18, 19, 20, 21, 22, 1, 2, 3, 4, 5, 6, 7, 8, 9, 10, 11] (wr := (wb_c0 h a a2 :: wt_c a2 cI cZ w2 b2 n2 T2)) (w' := (wb_c h a a2 cI cZ w b n T w2 b2 n2 T2)) (wpC_X1_T ..) (wpR_X1_T ..) (by decide) (by decide) (by decide) (wpJ_X1_T ..) (by decide) rfl (rest := []) rfl hl.1 (Nat.le_of_ble_eq_true rfl) (st1 := [.int (r_X0_count w b n T (1 : Int32))]) rfl dX1_bowlsNeeded_5 (k2 := 0) (s2 := 0) rfl rfl ⟨Nat.le_of_ble_eq_true rfl, Nat.le_of_ble_eq_true rfl⟩ (fun H locs hw => ?_)
  rw [show r_X1_bowlsNeeded w b n T w2 b2 n2 T2 = (r_X0_count w b n T (1 : Int32)) from by rw [r_X1_bowlsNeeded]]
  exact g_ret hc hw rfl (Nat.le_of_ble_eq_true rfl) (Nat.le_of_ble_eq_true rfl) dX1_bowlsNeeded_8
