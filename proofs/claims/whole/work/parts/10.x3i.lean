def r_X3_bowlsShort (th : Int32) (w : Nat) (b : Nat) (n : Nat) (T : mt_T) (w2 : Nat) (b2 : Nat) (n2 : Nat) (T2 : mt_T) : Int32 := (if (0 : Int32) < ((r_X2_inWards w b n T) - (mt_bo T)) then ((r_X2_inWards w b n T) - (mt_bo T)) else (0 : Int32))
def t_X3_bowlsShort (th : Int32) (w : Nat) (b : Nat) (n : Nat) (T : mt_T) (w2 : Nat) (b2 : Nat) (n2 : Nat) (T2 : mt_T) : Int32 := (0 : Int32)
abbrev rm_X3_bowlsShort : Room := { frames := 1, cells := 0, slots := 0, locals := 22 }
set_option maxHeartbeats 4000000 in
set_option maxRecDepth 100000 in
theorem k_X3_bowlsShort (l : Launch) (D : va_G) (cI cZ cL : ClassId) (h : Nat) (a a2 : Nat → Nat) (th : Int32) (w : Nat) (b : Nat) (n : Nat) (T : mt_T) (w2 : Nat) (b2 : Nat) (n2 : Nat) (T2 : mt_T) (hd5 : w ≤ 5) (hd4 : b ≤ 4) (hd30 : n ≤ 30) (he5 : w2 ≤ 5) (he4 : b2 ≤ 4) (he30 : n2 ≤ 30)   : MX l yX3_bowlsShort wsX3_bowlsShort rm_X3_bowlsShort D cI cZ cL [.ref h] (wb_m h a a2 cI th w b n T w2 b2 n2 T2) (some (.int (r_X3_bowlsShort th w b n T w2 b2 n2 T2))) (wb_m h a a2 cI (t_X3_bowlsShort th w b n T w2 b2 n2 T2) w b n T w2 b2 n2 T2) := by
  refine MX.of (own := RX3) (cc := cX3_bowlsShort) (maxL := 1) (ret := (some .int)) (lv0 := [(0, .ref h)]) (by decide) rfl rfl (Nat.le_of_ble_eq_true rfl) rfl ?_
  intro p e s m args below meth c A hc hnm hw ls hl
  obtain ⟨hx, hb, hr, hml, hown, hts, hlk, hK, hA⟩ := id hc
  have hiX2 : ∀ w ∈ u_ws RX2 TX2 13, w ∈ wsX3_bowlsShort := fun _ h => List.mem_cons_of_mem _ (List.mem_append_right _ h)
  have hiX3 : ∀ w ∈ u_ws RX3 TX3 3, w ∈ wsX3_bowlsShort := fun _ h => List.mem_cons_of_mem _ (List.mem_append_left _ (List.mem_append_right _ h))
  refine lv_aload_n hx hb dX3_bowlsShort_0 rfl (lv_at hl 0 rfl) ?_
  refine lv_iconst (v := 0) hx hb dX3_bowlsShort_1 (by decide) ?_
  refine g_put hc hw hiX3 tyX3 tyX3_ok nmX3 0 0 (wo_X3_H ..) rfl (by decide) (List.mem_of_getElem? (i := 1) rfl) (by decide) rfl rfl (Nat.le_of_ble_eq_true rfl) (w' := (wb_m h a a2 cI (0 : Int32) w b n T w2 b2 n2 T2)) (wp_X3_H_0 ..) dX3_bowlsShort_2 (fun H locs hw => ?_)
  refine lv_iconst (v := 0) hx hb dX3_bowlsShort_5 (by decide) ?_
  refine lv_aload_n hx hb dX3_bowlsShort_6 rfl (lv_at hl 0 rfl) ?_
  refine g_get (v := .ref (a 0)) hc hw hiX3 0 1 (wo_X3_H ..) rfl (by decide) (List.mem_of_getElem? (i := 2) rfl) (wv_X3_H_1 ..) dX3_bowlsShort_7 ?_
  refine g_callV (n := 0) hc hw (k_X2_inWards l D cI cZ cL a w b n T hd5 hd4 hd30) gX3_bowlsShort_X2_inWards rfl (by decide +kernel) ⟨Nat.le_of_ble_eq_true rfl, Nat.le_of_ble_eq_true rfl⟩ (wo_X2_T ..) rfl rfl [1, 2, 3, 4, 5, 6, 7, 8] [0, 9, 10, 11, 12, 13, 14, 15, 16] [0, 9, 10, 11, 12, 13, 14, 15, 16, 1, 2, 3, 4, 5, 6, 7, 8] (wr := (wb_m0 h a a2 (0 : Int32) :: wt_m a2 cI w2 b2 n2 T2)) (w' := (wb_m h a a2 cI (0 : Int32) w b n T w2 b2 n2 T2)) (wpC_X3_T ..) (wpR_X3_T ..) (by decide) (by decide) (by decide) (wpJ_X3_T ..) (by decide) rfl (rest := [.int (0 : Int32)]) rfl hl.1 (Nat.le_of_ble_eq_true rfl) (st1 := [.int (r_X2_inWards w b n T), .int (0 : Int32)]) rfl dX3_bowlsShort_10 (k2 := 0) (s2 := 0) rfl rfl ⟨Nat.le_of_ble_eq_true rfl, Nat.le_of_ble_eq_true rfl⟩ (fun H locs hw => ?_)
  refine lv_aload_n hx hb dX3_bowlsShort_13 rfl (lv_at hl 0 rfl) ?_
  refine g_get (v := .ref (a 0)) hc hw hiX3 0 1 (wo_X3_H ..) rfl (by decide) (List.mem_of_getElem? (i := 2) rfl) (wv_X3_H_1 ..) dX3_bowlsShort_14 ?_
  refine g_getN (v := .int (mt_bo T)) (host := RX3) hc hw hiX2 1 4 (wo_X3_T ..) rfl (by decide) (fun z => z.2 (60, "bowls", "I") (by decide +kernel)) (wv_X3_T_4 ..) dX3_bowlsShort_17 ?_
  refine lv_isub hx hb dX3_bowlsShort_20 ?_
  refine g_mmax hc hl.1 (List.mem_of_getElem? (i := 3) rfl) (List.mem_of_getElem? (i := 4) rfl) (List.mem_of_getElem? (i := 5) rfl) (List.mem_of_getElem? (i := 6) rfl) (Nat.le_of_ble_eq_true rfl) (Nat.le_of_ble_eq_true rfl) (Nat.le_of_ble_eq_true rfl) (Nat.le_of_ble_eq_true rfl) dX3_bowlsShort_21 ?_
  rw [show r_X3_bowlsShort th w b n T w2 b2 n2 T2 = (if (0 : Int32) < ((r_X2_inWards w b n T) - (mt_bo T)) then ((r_X2_inWards w b n T) - (mt_bo T)) else (0 : Int32)) from by rw [r_X3_bowlsShort]]
  rw [show t_X3_bowlsShort th w b n T w2 b2 n2 T2 = (0 : Int32) from by rw [t_X3_bowlsShort]]
  exact g_ret hc hw rfl (Nat.le_of_ble_eq_true rfl) (Nat.le_of_ble_eq_true rfl) dX3_bowlsShort_24

def r_X3_peopleHome (th : Int32) (w : Nat) (b : Nat) (n : Nat) (T : mt_T) (w2 : Nat) (b2 : Nat) (n2 : Nat) (T2 : mt_T) : Int32 := (r_X2_at w b n T (20 : Int32))
def t_X3_peopleHome (th : Int32) (w : Nat) (b : Nat) (n : Nat) (T : mt_T) (w2 : Nat) (b2 : Nat) (n2 : Nat) (T2 : mt_T) : Int32 := (0 : Int32)
abbrev rm_X3_peopleHome : Room := { frames := 1, cells := 0, slots := 0, locals := 23 }
set_option maxHeartbeats 4000000 in
set_option maxRecDepth 100000 in
theorem k_X3_peopleHome (l : Launch) (D : va_G) (cI cZ cL : ClassId) (h : Nat) (a a2 : Nat → Nat) (th : Int32) (w : Nat) (b : Nat) (n : Nat) (T : mt_T) (w2 : Nat) (b2 : Nat) (n2 : Nat) (T2 : mt_T) (hd5 : w ≤ 5) (hd4 : b ≤ 4) (hd30 : n ≤ 30) (he5 : w2 ≤ 5) (he4 : b2 ≤ 4) (he30 : n2 ≤ 30)   : MX l yX3_peopleHome wsX3_peopleHome rm_X3_peopleHome D cI cZ cL [.ref h] (wb_m h a a2 cI th w b n T w2 b2 n2 T2) (some (.int (r_X3_peopleHome th w b n T w2 b2 n2 T2))) (wb_m h a a2 cI (t_X3_peopleHome th w b n T w2 b2 n2 T2) w b n T w2 b2 n2 T2) := by
  refine MX.of (own := RX3) (cc := cX3_peopleHome) (maxL := 1) (ret := (some .int)) (lv0 := [(0, .ref h)]) (by decide) rfl rfl (Nat.le_of_ble_eq_true rfl) rfl ?_
  intro p e s m args below meth c A hc hnm hw ls hl
  obtain ⟨hx, hb, hr, hml, hown, hts, hlk, hK, hA⟩ := id hc
  have hiX3 : ∀ w ∈ u_ws RX3 TX3 3, w ∈ wsX3_peopleHome := fun _ h => List.mem_cons_of_mem _ (List.mem_append_left _ (List.mem_append_right _ h))
  refine lv_aload_n hx hb dX3_peopleHome_0 rfl (lv_at hl 0 rfl) ?_
  refine lv_iconst (v := 0) hx hb dX3_peopleHome_1 (by decide) ?_
  refine g_put hc hw hiX3 tyX3 tyX3_ok nmX3 0 0 (wo_X3_H ..) rfl (by decide) (List.mem_of_getElem? (i := 1) rfl) (by decide) rfl rfl (Nat.le_of_ble_eq_true rfl) (w' := (wb_m h a a2 cI (0 : Int32) w b n T w2 b2 n2 T2)) (wp_X3_H_0 ..) dX3_peopleHome_2 (fun H locs hw => ?_)
  refine lv_aload_n hx hb dX3_peopleHome_5 rfl (lv_at hl 0 rfl) ?_
  refine g_get (v := .ref (a 0)) hc hw hiX3 0 1 (wo_X3_H ..) rfl (by decide) (List.mem_of_getElem? (i := 2) rfl) (wv_X3_H_1 ..) dX3_peopleHome_6 ?_
  refine lv_bipush (v := 20) hx hb dX3_peopleHome_9 (by decide) ?_
  refine g_callV (n := 1) hc hw (k_X2_at l D cI cZ cL a w b n T hd5 hd4 hd30 (20 : Int32)) gX3_peopleHome_X2_at rfl (by decide +kernel) ⟨Nat.le_of_ble_eq_true rfl, Nat.le_of_ble_eq_true rfl⟩ (wo_X2_T ..) rfl rfl [1, 2, 3, 4, 5, 6, 7, 8] [0, 9, 10, 11, 12, 13, 14, 15, 16] [0, 9, 10, 11, 12, 13, 14, 15, 16, 1, 2, 3, 4, 5, 6, 7, 8] (wr := (wb_m0 h a a2 (0 : Int32) :: wt_m a2 cI w2 b2 n2 T2)) (w' := (wb_m h a a2 cI (0 : Int32) w b n T w2 b2 n2 T2)) (wpC_X3_T ..) (wpR_X3_T ..) (by decide) (by decide) (by decide) (wpJ_X3_T ..) (by decide) rfl (rest := []) rfl hl.1 (Nat.le_of_ble_eq_true rfl) (st1 := [.int (r_X2_at w b n T (20 : Int32))]) rfl dX3_peopleHome_11 (k2 := 0) (s2 := 0) rfl rfl ⟨Nat.le_of_ble_eq_true rfl, Nat.le_of_ble_eq_true rfl⟩ (fun H locs hw => ?_)
  rw [show r_X3_peopleHome th w b n T w2 b2 n2 T2 = (r_X2_at w b n T (20 : Int32)) from by rw [r_X3_peopleHome]]
  rw [show t_X3_peopleHome th w b n T w2 b2 n2 T2 = (0 : Int32) from by rw [t_X3_peopleHome]]
  exact g_ret hc hw rfl (Nat.le_of_ble_eq_true rfl) (Nat.le_of_ble_eq_true rfl) dX3_peopleHome_14

def r_X3_peopleInGreatHouse (th : Int32) (w : Nat) (b : Nat) (n : Nat) (T : mt_T) (w2 : Nat) (b2 : Nat) (n2 : Nat) (T2 : mt_T) : Int32 := (r_X2_at w b n T (21 : Int32))
def t_X3_peopleInGreatHouse (th : Int32) (w : Nat) (b : Nat) (n : Nat) (T : mt_T) (w2 : Nat) (b2 : Nat) (n2 : Nat) (T2 : mt_T) : Int32 := (0 : Int32)
abbrev rm_X3_peopleInGreatHouse : Room := { frames := 1, cells := 0, slots := 0, locals := 23 }
set_option maxHeartbeats 4000000 in
set_option maxRecDepth 100000 in
theorem k_X3_peopleInGreatHouse (l : Launch) (D : va_G) (cI cZ cL : ClassId) (h : Nat) (a a2 : Nat → Nat) (th : Int32) (w : Nat) (b : Nat) (n : Nat) (T : mt_T) (w2 : Nat) (b2 : Nat) (n2 : Nat) (T2 : mt_T) (hd5 : w ≤ 5) (hd4 : b ≤ 4) (hd30 : n ≤ 30) (he5 : w2 ≤ 5) (he4 : b2 ≤ 4) (he30 : n2 ≤ 30)   : MX l yX3_peopleInGreatHouse wsX3_peopleInGreatHouse rm_X3_peopleInGreatHouse D cI cZ cL [.ref h] (wb_m h a a2 cI th w b n T w2 b2 n2 T2) (some (.int (r_X3_peopleInGreatHouse th w b n T w2 b2 n2 T2))) (wb_m h a a2 cI (t_X3_peopleInGreatHouse th w b n T w2 b2 n2 T2) w b n T w2 b2 n2 T2) := by
  refine MX.of (own := RX3) (cc := cX3_peopleInGreatHouse) (maxL := 1) (ret := (some .int)) (lv0 := [(0, .ref h)]) (by decide) rfl rfl (Nat.le_of_ble_eq_true rfl) rfl ?_
  intro p e s m args below meth c A hc hnm hw ls hl
  obtain ⟨hx, hb, hr, hml, hown, hts, hlk, hK, hA⟩ := id hc
  have hiX3 : ∀ w ∈ u_ws RX3 TX3 3, w ∈ wsX3_peopleInGreatHouse := fun _ h => List.mem_cons_of_mem _ (List.mem_append_left _ (List.mem_append_right _ h))
  refine lv_aload_n hx hb dX3_peopleInGreatHouse_0 rfl (lv_at hl 0 rfl) ?_
  refine lv_iconst (v := 0) hx hb dX3_peopleInGreatHouse_1 (by decide) ?_
  refine g_put hc hw hiX3 tyX3 tyX3_ok nmX3 0 0 (wo_X3_H ..) rfl (by decide) (List.mem_of_getElem? (i := 1) rfl) (by decide) rfl rfl (Nat.le_of_ble_eq_true rfl) (w' := (wb_m h a a2 cI (0 : Int32) w b n T w2 b2 n2 T2)) (wp_X3_H_0 ..) dX3_peopleInGreatHouse_2 (fun H locs hw => ?_)
  refine lv_aload_n hx hb dX3_peopleInGreatHouse_5 rfl (lv_at hl 0 rfl) ?_
  refine g_get (v := .ref (a 0)) hc hw hiX3 0 1 (wo_X3_H ..) rfl (by decide) (List.mem_of_getElem? (i := 2) rfl) (wv_X3_H_1 ..) dX3_peopleInGreatHouse_6 ?_
  refine lv_bipush (v := 21) hx hb dX3_peopleInGreatHouse_9 (by decide) ?_
  refine g_callV (n := 1) hc hw (k_X2_at l D cI cZ cL a w b n T hd5 hd4 hd30 (21 : Int32)) gX3_peopleInGreatHouse_X2_at rfl (by decide +kernel) ⟨Nat.le_of_ble_eq_true rfl, Nat.le_of_ble_eq_true rfl⟩ (wo_X2_T ..) rfl rfl [1, 2, 3, 4, 5, 6, 7, 8] [0, 9, 10, 11, 12, 13, 14, 15, 16] [0, 9, 10, 11, 12, 13, 14, 15, 16, 1, 2, 3, 4, 5, 6, 7, 8] (wr := (wb_m0 h a a2 (0 : Int32) :: wt_m a2 cI w2 b2 n2 T2)) (w' := (wb_m h a a2 cI (0 : Int32) w b n T w2 b2 n2 T2)) (wpC_X3_T ..) (wpR_X3_T ..) (by decide) (by decide) (by decide) (wpJ_X3_T ..) (by decide) rfl (rest := []) rfl hl.1 (Nat.le_of_ble_eq_true rfl) (st1 := [.int (r_X2_at w b n T (21 : Int32))]) rfl dX3_peopleInGreatHouse_11 (k2 := 0) (s2 := 0) rfl rfl ⟨Nat.le_of_ble_eq_true rfl, Nat.le_of_ble_eq_true rfl⟩ (fun H locs hw => ?_)
  rw [show r_X3_peopleInGreatHouse th w b n T w2 b2 n2 T2 = (r_X2_at w b n T (21 : Int32)) from by rw [r_X3_peopleInGreatHouse]]
  rw [show t_X3_peopleInGreatHouse th w b n T w2 b2 n2 T2 = (0 : Int32) from by rw [t_X3_peopleInGreatHouse]]
  exact g_ret hc hw rfl (Nat.le_of_ble_eq_true rfl) (Nat.le_of_ble_eq_true rfl) dX3_peopleInGreatHouse_14

def r_X3_bowlsEaten (th : Int32) (w : Nat) (b : Nat) (n : Nat) (T : mt_T) (w2 : Nat) (b2 : Nat) (n2 : Nat) (T2 : mt_T) : Int32 := (mt_ea T)
def t_X3_bowlsEaten (th : Int32) (w : Nat) (b : Nat) (n : Nat) (T : mt_T) (w2 : Nat) (b2 : Nat) (n2 : Nat) (T2 : mt_T) : Int32 := (0 : Int32)
abbrev rm_X3_bowlsEaten : Room := { frames := 0, cells := 0, slots := 0, locals := 0 }
set_option maxHeartbeats 4000000 in
set_option maxRecDepth 100000 in
theorem k_X3_bowlsEaten (l : Launch) (D : va_G) (cI cZ cL : ClassId) (h : Nat) (a a2 : Nat → Nat) (th : Int32) (w : Nat) (b : Nat) (n : Nat) (T : mt_T) (w2 : Nat) (b2 : Nat) (n2 : Nat) (T2 : mt_T) (hd5 : w ≤ 5) (hd4 : b ≤ 4) (hd30 : n ≤ 30) (he5 : w2 ≤ 5) (he4 : b2 ≤ 4) (he30 : n2 ≤ 30)   : MX l yX3_bowlsEaten wsX3_bowlsEaten rm_X3_bowlsEaten D cI cZ cL [.ref h] (wb_m h a a2 cI th w b n T w2 b2 n2 T2) (some (.int (r_X3_bowlsEaten th w b n T w2 b2 n2 T2))) (wb_m h a a2 cI (t_X3_bowlsEaten th w b n T w2 b2 n2 T2) w b n T w2 b2 n2 T2) := by
  refine MX.of (own := RX3) (cc := cX3_bowlsEaten) (maxL := 1) (ret := (some .int)) (lv0 := [(0, .ref h)]) (by decide) rfl rfl (Nat.le_of_ble_eq_true rfl) rfl ?_
  intro p e s m args below meth c A hc hnm hw ls hl
  obtain ⟨hx, hb, hr, hml, hown, hts, hlk, hK, hA⟩ := id hc
  have hiX2 : ∀ w ∈ u_ws RX2 TX2 13, w ∈ wsX3_bowlsEaten := fun _ h => List.mem_cons_of_mem _ (List.mem_append_right _ h)
  have hiX3 : ∀ w ∈ u_ws RX3 TX3 3, w ∈ wsX3_bowlsEaten := fun _ h => List.mem_cons_of_mem _ (List.mem_append_left _ (List.mem_append_right _ h))
  refine lv_aload_n hx hb dX3_bowlsEaten_0 rfl (lv_at hl 0 rfl) ?_
  refine lv_iconst (v := 0) hx hb dX3_bowlsEaten_1 (by decide) ?_
  refine g_put hc hw hiX3 tyX3 tyX3_ok nmX3 0 0 (wo_X3_H ..) rfl (by decide) (List.mem_of_getElem? (i := 1) rfl) (by decide) rfl rfl (Nat.le_of_ble_eq_true rfl) (w' := (wb_m h a a2 cI (0 : Int32) w b n T w2 b2 n2 T2)) (wp_X3_H_0 ..) dX3_bowlsEaten_2 (fun H locs hw => ?_)
  refine lv_aload_n hx hb dX3_bowlsEaten_5 rfl (lv_at hl 0 rfl) ?_
  refine g_get (v := .ref (a 0)) hc hw hiX3 0 1 (wo_X3_H ..) rfl (by decide) (List.mem_of_getElem? (i := 2) rfl) (wv_X3_H_1 ..) dX3_bowlsEaten_6 ?_
  refine g_getN (v := .int (mt_ea T)) (host := RX3) hc hw hiX2 1 5 (wo_X3_T ..) rfl (by decide) (fun z => z.2 (104, "eaten", "I") (by decide +kernel)) (wv_X3_T_5 ..) dX3_bowlsEaten_9 ?_
  rw [show r_X3_bowlsEaten th w b n T w2 b2 n2 T2 = (mt_ea T) from by rw [r_X3_bowlsEaten]]
  rw [show t_X3_bowlsEaten th w b n T w2 b2 n2 T2 = (0 : Int32) from by rw [t_X3_bowlsEaten]]
  exact g_ret hc hw rfl (Nat.le_of_ble_eq_true rfl) (Nat.le_of_ble_eq_true rfl) dX3_bowlsEaten_12

def r_X3_bowlsNeeded (th : Int32) (w : Nat) (b : Nat) (n : Nat) (T : mt_T) (w2 : Nat) (b2 : Nat) (n2 : Nat) (T2 : mt_T) : Int32 := (r_X2_inWards w b n T)
def t_X3_bowlsNeeded (th : Int32) (w : Nat) (b : Nat) (n : Nat) (T : mt_T) (w2 : Nat) (b2 : Nat) (n2 : Nat) (T2 : mt_T) : Int32 := (0 : Int32)
abbrev rm_X3_bowlsNeeded : Room := { frames := 1, cells := 0, slots := 0, locals := 22 }
set_option maxHeartbeats 4000000 in
set_option maxRecDepth 100000 in
theorem k_X3_bowlsNeeded (l : Launch) (D : va_G) (cI cZ cL : ClassId) (h : Nat) (a a2 : Nat → Nat) (th : Int32) (w : Nat) (b : Nat) (n : Nat) (T : mt_T) (w2 : Nat) (b2 : Nat) (n2 : Nat) (T2 : mt_T) (hd5 : w ≤ 5) (hd4 : b ≤ 4) (hd30 : n ≤ 30) (he5 : w2 ≤ 5) (he4 : b2 ≤ 4) (he30 : n2 ≤ 30)   : MX l yX3_bowlsNeeded wsX3_bowlsNeeded rm_X3_bowlsNeeded D cI cZ cL [.ref h] (wb_m h a a2 cI th w b n T w2 b2 n2 T2) (some (.int (r_X3_bowlsNeeded th w b n T w2 b2 n2 T2))) (wb_m h a a2 cI (t_X3_bowlsNeeded th w b n T w2 b2 n2 T2) w b n T w2 b2 n2 T2) := by
  refine MX.of (own := RX3) (cc := cX3_bowlsNeeded) (maxL := 1) (ret := (some .int)) (lv0 := [(0, .ref h)]) (by decide) rfl rfl (Nat.le_of_ble_eq_true rfl) rfl ?_
  intro p e s m args below meth c A hc hnm hw ls hl
  obtain ⟨hx, hb, hr, hml, hown, hts, hlk, hK, hA⟩ := id hc
  have hiX3 : ∀ w ∈ u_ws RX3 TX3 3, w ∈ wsX3_bowlsNeeded := fun _ h => List.mem_cons_of_mem _ (List.mem_append_left _ (List.mem_append_right _ h))
  refine lv_aload_n hx hb dX3_bowlsNeeded_0 rfl (lv_at hl 0 rfl) ?_
  refine lv_iconst (v := 0) hx hb dX3_bowlsNeeded_1 (by decide) ?_
  refine g_put hc hw hiX3 tyX3 tyX3_ok nmX3 0 0 (wo_X3_H ..) rfl (by decide) (List.mem_of_getElem? (i := 1) rfl) (by decide) rfl rfl (Nat.le_of_ble_eq_true rfl) (w' := (wb_m h a a2 cI (0 : Int32) w b n T w2 b2 n2 T2)) (wp_X3_H_0 ..) dX3_bowlsNeeded_2 (fun H locs hw => ?_)
  refine lv_aload_n hx hb dX3_bowlsNeeded_5 rfl (lv_at hl 0 rfl) ?_
  refine g_get (v := .ref (a 0)) hc hw hiX3 0 1 (wo_X3_H ..) rfl (by decide) (List.mem_of_getElem? (i := 2) rfl) (wv_X3_H_1 ..) dX3_bowlsNeeded_6 ?_
  refine g_callV (n := 0) hc hw (k_X2_inWards l D cI cZ cL a w b n T hd5 hd4 hd30) gX3_bowlsNeeded_X2_inWards rfl (by decide +kernel) ⟨Nat.le_of_ble_eq_true rfl, Nat.le_of_ble_eq_true rfl⟩ (wo_X2_T ..) rfl rfl [1, 2, 3, 4, 5, 6, 7, 8] [0, 9, 10, 11, 12, 13, 14, 15, 16] [0, 9, 10, 11, 12, 13, 14, 15, 16, 1, 2, 3, 4, 5, 6, 7, 8] (wr := (wb_m0 h a a2 (0 : Int32) :: wt_m a2 cI w2 b2 n2 T2)) (w' := (wb_m h a a2 cI (0 : Int32) w b n T w2 b2 n2 T2)) (wpC_X3_T ..) (wpR_X3_T ..) (by decide) (by decide) (by decide) (wpJ_X3_T ..) (by decide) rfl (rest := []) rfl hl.1 (Nat.le_of_ble_eq_true rfl) (st1 := [.int (r_X2_inWards w b n T)]) rfl dX3_bowlsNeeded_9 (k2 := 0) (s2 := 0) rfl rfl ⟨Nat.le_of_ble_eq_true rfl, Nat.le_of_ble_eq_true rfl⟩ (fun H locs hw => ?_)
  rw [show r_X3_bowlsNeeded th w b n T w2 b2 n2 T2 = (r_X2_inWards w b n T) from by rw [r_X3_bowlsNeeded]]
  rw [show t_X3_bowlsNeeded th w b n T w2 b2 n2 T2 = (0 : Int32) from by rw [t_X3_bowlsNeeded]]
  exact g_ret hc hw rfl (Nat.le_of_ble_eq_true rfl) (Nat.le_of_ble_eq_true rfl) dX3_bowlsNeeded_12

def f_X3_meanFever_9 (th : Int32) (w : Nat) (b : Nat) (n : Nat) (T : mt_T) (w2 : Nat) (b2 : Nat) (n2 : Nat) (T2 : mt_T) (i9 : Nat) (q9 : Int32) : Int32 := ((q9 + (r_X3_feversAt (0 : Int32) w b n T w2 b2 n2 T2 (nI i9))))
def r_X3_meanFever (th : Int32) (w : Nat) (b : Nat) (n : Nat) (T : mt_T) (w2 : Nat) (b2 : Nat) (n2 : Nat) (T2 : mt_T) : UInt64 := if (r_X2_inWards w b n T) = (0 : Int32) then ((FP.dconst0)) else ((FP.ddiv (FP.i2d (lpf (f_X3_meanFever_9 th w b n T w2 b2 n2 T2) w 0 ((0 : Int32)))) (FP.i2d (r_X2_inWards w b n T))))
def t_X3_meanFever (th : Int32) (w : Nat) (b : Nat) (n : Nat) (T : mt_T) (w2 : Nat) (b2 : Nat) (n2 : Nat) (T2 : mt_T) : Int32 := if (r_X2_inWards w b n T) = (0 : Int32) then ((0 : Int32)) else ((0 : Int32))
abbrev rm_X3_meanFever : Room := { frames := 1, cells := 0, slots := 0, locals := 23 }
set_option maxHeartbeats 4000000 in
set_option maxRecDepth 100000 in
theorem k_X3_meanFever (l : Launch) (D : va_G) (cI cZ cL : ClassId) (h : Nat) (a a2 : Nat → Nat) (th : Int32) (w : Nat) (b : Nat) (n : Nat) (T : mt_T) (w2 : Nat) (b2 : Nat) (n2 : Nat) (T2 : mt_T) (hd5 : w ≤ 5) (hd4 : b ≤ 4) (hd30 : n ≤ 30) (he5 : w2 ≤ 5) (he4 : b2 ≤ 4) (he30 : n2 ≤ 30)   : MX l yX3_meanFever wsX3_meanFever rm_X3_meanFever D cI cZ cL [.ref h] (wb_m h a a2 cI th w b n T w2 b2 n2 T2) (some (.double (r_X3_meanFever th w b n T w2 b2 n2 T2))) (wb_m h a a2 cI (t_X3_meanFever th w b n T w2 b2 n2 T2) w b n T w2 b2 n2 T2) := by
  refine MX.of (own := RX3) (cc := cX3_meanFever) (maxL := 3) (ret := (some .double)) (lv0 := [(0, .ref h)]) (by decide) rfl rfl (Nat.le_of_ble_eq_true rfl) rfl ?_
  intro p e s m args below meth c A hc hnm hw ls hl
  obtain ⟨hx, hb, hr, hml, hown, hts, hlk, hK, hA⟩ := id hc
  have hiX2 : ∀ w ∈ u_ws RX2 TX2 13, w ∈ wsX3_meanFever := fun _ h => List.mem_cons_of_mem _ (List.mem_append_right _ h)
  have hiX3 : ∀ w ∈ u_ws RX3 TX3 3, w ∈ wsX3_meanFever := fun _ h => List.mem_cons_of_mem _ (List.mem_append_left _ (List.mem_append_right _ h))
  refine lv_aload_n hx hb dX3_meanFever_0 rfl (lv_at hl 0 rfl) ?_
  refine lv_iconst (v := 0) hx hb dX3_meanFever_1 (by decide) ?_
  refine g_put hc hw hiX3 tyX3 tyX3_ok nmX3 0 0 (wo_X3_H ..) rfl (by decide) (List.mem_of_getElem? (i := 1) rfl) (by decide) rfl rfl (Nat.le_of_ble_eq_true rfl) (w' := (wb_m h a a2 cI (0 : Int32) w b n T w2 b2 n2 T2)) (wp_X3_H_0 ..) dX3_meanFever_2 (fun H locs hw => ?_)
  refine lv_iconst (v := 0) hx hb dX3_meanFever_5 (by decide) ?_
  refine lv_istore_n (lv' := [(1, .int (0 : Int32)), (0, .ref h)]) hx hb dX3_meanFever_6 rfl hl (by decide) rfl (fun ls hl => ?_)
  refine lv_iconst (v := 0) hx hb dX3_meanFever_7 (by decide) ?_
  refine lv_istore_n (lv' := [(2, .int (0 : Int32)), (1, .int (0 : Int32)), (0, .ref h)]) hx hb dX3_meanFever_8 rfl hl (by decide) rfl (fun ls hl => ?_)
  refine lp_go (fun (i9 : Nat) (q9 : Int32) => ∀ (H : Heap) (locs : List Loc) (ls : Array Slot), Wo D A s.heap (wb_m h a a2 cI (0 : Int32) w b n T w2 b2 n2 T2) H locs → lv_has ls 3 [(0, .ref h), (1, .int q9), (2, .int (nI i9))] → W p l e rm_X3_meanFever s m args below meth c H locs 0 0 (QE below args s D A (some (.double (r_X3_meanFever th w b n T w2 b2 n2 T2))) (wb_m h a a2 cI (t_X3_meanFever th w b n T w2 b2 n2 T2) w b n T w2 b2 n2 T2) rm_X3_meanFever) (F0 m 9 ls [])) (f_X3_meanFever_9 th w b n T w2 b2 n2 T2) w ((0 : Int32)) ?_ ?_ H locs ls hw (lv_sub hl [2, 1, 0] rfl)
  · intro i9 q9 hi9 k9 H locs ls hw hl
    refine lv_iload_n hx hb dX3_meanFever_9 rfl (lv_at hl 2 rfl) ?_
    refine lv_aload_n hx hb dX3_meanFever_10 rfl (lv_at hl 0 rfl) ?_
    refine g_get (v := .ref (a 0)) hc hw hiX3 0 1 (wo_X3_H ..) rfl (by decide) (List.mem_of_getElem? (i := 2) rfl) (wv_X3_H_1 ..) dX3_meanFever_11 ?_
    refine g_getN (v := .int (nI w)) (host := RX3) hc hw hiX2 1 1 (wo_X3_T ..) rfl (by decide) (fun z => z.2 (23, "wards", "I") (by decide +kernel)) (wv_X3_T_1 ..) dX3_meanFever_14 ?_
    refine lv_icmp_ge (tgt := 34) hx hb dX3_meanFever_17 (by decide) (fun z => absurd z (nI_ge hi9 (by omega))) (fun _ => ?_)
    refine lv_iload_n hx hb dX3_meanFever_20 rfl (lv_at hl 1 rfl) ?_
    refine lv_aload_n hx hb dX3_meanFever_21 rfl (lv_at hl 0 rfl) ?_
    refine lv_iload_n hx hb dX3_meanFever_22 rfl (lv_at hl 2 rfl) ?_
    refine g_callV0 (n := 1) hc hw (k_X3_feversAt l D cI cZ cL h a a2 (0 : Int32) w b n T w2 b2 n2 T2 hd5 hd4 hd30 he5 he4 he30 (nI i9)) gX3_meanFever_X3_feversAt rfl (by decide +kernel) ⟨Nat.le_of_ble_eq_true rfl, Nat.le_of_ble_eq_true rfl⟩ 0 (wo_X3_H ..) rfl rfl rfl (rest := [.int q9]) rfl hl.1 (Nat.le_of_ble_eq_true rfl) (st1 := [.int (r_X3_feversAt (0 : Int32) w b n T w2 b2 n2 T2 (nI i9)), .int q9]) rfl dX3_meanFever_23 (k2 := 0) (s2 := 0) rfl rfl ⟨Nat.le_of_ble_eq_true rfl, Nat.le_of_ble_eq_true rfl⟩ (fun H locs hw => ?_)
    refine lv_iadd hx hb dX3_meanFever_26 ?_
    refine lv_istore_n (lv' := [(1, .int (q9 + (r_X3_feversAt (0 : Int32) w b n T w2 b2 n2 T2 (nI i9)))), (0, .ref h), (2, .int (nI i9))]) hx hb dX3_meanFever_27 rfl hl (by decide) rfl (fun ls hl => ?_)
    refine lv_iinc (v := (nI (i9 + 1))) (lv' := [(2, .int (nI (i9 + 1))), (1, .int (q9 + (r_X3_feversAt (0 : Int32) w b n T w2 b2 n2 T2 (nI i9)))), (0, .ref h)]) hx hb dX3_meanFever_28 hl (k := 2) rfl (inc_n i9) (by decide) rfl (fun ls hl => ?_)
    refine lv_goto (tgt := 9) hx hb dX3_meanFever_31 (by decide) ?_
    rw [show (f_X3_meanFever_9 th w b n T w2 b2 n2 T2) i9 q9 = ((q9 + (r_X3_feversAt (0 : Int32) w b n T w2 b2 n2 T2 (nI i9)))) from by rw [f_X3_meanFever_9]] at k9
    exact k9 H locs ls hw (lv_sub hl [2, 1, 0] rfl)
  · intro H locs ls hw hl
    refine lv_iload_n hx hb dX3_meanFever_9 rfl (lv_at hl 2 rfl) ?_
    refine lv_aload_n hx hb dX3_meanFever_10 rfl (lv_at hl 0 rfl) ?_
    refine g_get (v := .ref (a 0)) hc hw hiX3 0 1 (wo_X3_H ..) rfl (by decide) (List.mem_of_getElem? (i := 2) rfl) (wv_X3_H_1 ..) dX3_meanFever_11 ?_
    refine g_getN (v := .int (nI w)) (host := RX3) hc hw hiX2 1 1 (wo_X3_T ..) rfl (by decide) (fun z => z.2 (23, "wards", "I") (by decide +kernel)) (wv_X3_T_1 ..) dX3_meanFever_14 ?_
    refine lv_icmp_ge (tgt := 34) hx hb dX3_meanFever_17 (by decide) (fun _ => ?_) (fun z => absurd (nI_le (Nat.le_refl _) (by omega)) z)
    refine lv_aload_n hx hb dX3_meanFever_34 rfl (lv_at hl 0 rfl) ?_
    refine g_get (v := .ref (a 0)) hc hw hiX3 0 1 (wo_X3_H ..) rfl (by decide) (List.mem_of_getElem? (i := 2) rfl) (wv_X3_H_1 ..) dX3_meanFever_35 ?_
    refine g_callV (n := 0) hc hw (k_X2_inWards l D cI cZ cL a w b n T hd5 hd4 hd30) gX3_meanFever_X2_inWards rfl (by decide +kernel) ⟨Nat.le_of_ble_eq_true rfl, Nat.le_of_ble_eq_true rfl⟩ (wo_X2_T ..) rfl rfl [1, 2, 3, 4, 5, 6, 7, 8] [0, 9, 10, 11, 12, 13, 14, 15, 16] [0, 9, 10, 11, 12, 13, 14, 15, 16, 1, 2, 3, 4, 5, 6, 7, 8] (wr := (wb_m0 h a a2 (0 : Int32) :: wt_m a2 cI w2 b2 n2 T2)) (w' := (wb_m h a a2 cI (0 : Int32) w b n T w2 b2 n2 T2)) (wpC_X3_T ..) (wpR_X3_T ..) (by decide) (by decide) (by decide) (wpJ_X3_T ..) (by decide) rfl (rest := []) rfl hl.1 (Nat.le_of_ble_eq_true rfl) (st1 := [.int (r_X2_inWards w b n T)]) rfl dX3_meanFever_38 (k2 := 0) (s2 := 0) rfl rfl ⟨Nat.le_of_ble_eq_true rfl, Nat.le_of_ble_eq_true rfl⟩ (fun H locs hw => ?_)
    refine lv_if_ne (tgt := 48) hx hb dX3_meanFever_41 (by decide) (fun c1 => ?_) (fun c1 => ?_)
    · refine lv_iload_n hx hb dX3_meanFever_48 rfl (lv_at hl 1 rfl) ?_
      refine lv_i2d hx hb dX3_meanFever_49 ?_
      refine lv_aload_n hx hb dX3_meanFever_50 rfl (lv_at hl 0 rfl) ?_
      refine g_get (v := .ref (a 0)) hc hw hiX3 0 1 (wo_X3_H ..) rfl (by decide) (List.mem_of_getElem? (i := 2) rfl) (wv_X3_H_1 ..) dX3_meanFever_51 ?_
      refine g_callV (n := 0) hc hw (k_X2_inWards l D cI cZ cL a w b n T hd5 hd4 hd30) gX3_meanFever_X2_inWards rfl (by decide +kernel) ⟨Nat.le_of_ble_eq_true rfl, Nat.le_of_ble_eq_true rfl⟩ (wo_X2_T ..) rfl rfl [1, 2, 3, 4, 5, 6, 7, 8] [0, 9, 10, 11, 12, 13, 14, 15, 16] [0, 9, 10, 11, 12, 13, 14, 15, 16, 1, 2, 3, 4, 5, 6, 7, 8] (wr := (wb_m0 h a a2 (0 : Int32) :: wt_m a2 cI w2 b2 n2 T2)) (w' := (wb_m h a a2 cI (0 : Int32) w b n T w2 b2 n2 T2)) (wpC_X3_T ..) (wpR_X3_T ..) (by decide) (by decide) (by decide) (wpJ_X3_T ..) (by decide) rfl (rest := [.double (FP.i2d (lpf (f_X3_meanFever_9 th w b n T w2 b2 n2 T2) w 0 ((0 : Int32))))]) rfl hl.1 (Nat.le_of_ble_eq_true rfl) (st1 := [.int (r_X2_inWards w b n T), .double (FP.i2d (lpf (f_X3_meanFever_9 th w b n T w2 b2 n2 T2) w 0 ((0 : Int32))))]) rfl dX3_meanFever_54 (k2 := 0) (s2 := 0) rfl rfl ⟨Nat.le_of_ble_eq_true rfl, Nat.le_of_ble_eq_true rfl⟩ (fun H locs hw => ?_)
      refine lv_i2d hx hb dX3_meanFever_57 ?_
      refine lv_ddiv hx hb dX3_meanFever_58 (fp_ok _ c1) ?_
      rw [show r_X3_meanFever th w b n T w2 b2 n2 T2 = (FP.ddiv (FP.i2d (lpf (f_X3_meanFever_9 th w b n T w2 b2 n2 T2) w 0 ((0 : Int32)))) (FP.i2d (r_X2_inWards w b n T))) from by rw [r_X3_meanFever, if_neg c1]]
      rw [show t_X3_meanFever th w b n T w2 b2 n2 T2 = (0 : Int32) from by rw [t_X3_meanFever, if_neg c1]]
      exact g_dret hc hw rfl (Nat.le_of_ble_eq_true rfl) (Nat.le_of_ble_eq_true rfl) dX3_meanFever_59
    · refine lv_dconst0 hx hb dX3_meanFever_44 ?_
      refine lv_goto (tgt := 59) hx hb dX3_meanFever_45 (by decide) ?_
      rw [show r_X3_meanFever th w b n T w2 b2 n2 T2 = (FP.dconst0) from by rw [r_X3_meanFever, if_pos c1]]
      rw [show t_X3_meanFever th w b n T w2 b2 n2 T2 = (0 : Int32) from by rw [t_X3_meanFever, if_pos c1]]
      exact g_dret hc hw rfl (Nat.le_of_ble_eq_true rfl) (Nat.le_of_ble_eq_true rfl) dX3_meanFever_59
