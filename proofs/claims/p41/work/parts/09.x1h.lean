def r_X1_day (w : Nat) (b : Nat) (n : Nat) (T : ct_T) (w2 : Nat) (b2 : Nat) (n2 : Nat) (T2 : ct_T) : Int32 := (ct_day T)
abbrev rm_X1_day : Room := { frames := 0, cells := 0, slots := 0, locals := 0 }
set_option maxHeartbeats 4000000 in
set_option maxRecDepth 100000 in
theorem k_X1_day (l : Launch) (D : va_G) (cI cZ cL : ClassId) (h : Nat) (a a2 : Nat → Nat) (w : Nat) (b : Nat) (n : Nat) (T : ct_T) (w2 : Nat) (b2 : Nat) (n2 : Nat) (T2 : ct_T) (hd5 : w ≤ 5) (hd4 : b ≤ 4) (hd30 : n ≤ 30) (he5 : w2 ≤ 5) (he4 : b2 ≤ 4) (he30 : n2 ≤ 30)   : MX l yX1_day wsX1_day rm_X1_day D cI cZ cL [.ref h] (wb_c h a a2 cI cZ w b n T w2 b2 n2 T2) (some (.int (r_X1_day w b n T w2 b2 n2 T2))) (wb_c h a a2 cI cZ w b n T w2 b2 n2 T2) := by
  refine MX.of (own := RX1) (cc := cX1_day) (maxL := 1) (ret := (some .int)) (lv0 := [(0, .ref h)]) (by decide) rfl rfl (Nat.le_of_ble_eq_true rfl) rfl ?_
  intro p e s m args below meth c A hc hnm hw ls hl
  obtain ⟨hx, hb, hr, hml, hown, hts, hlk, hK, hA⟩ := id hc
  have hiX0 : ∀ w ∈ u_ws RX0 TX0 16, w ∈ wsX1_day := fun _ h => List.mem_cons_of_mem _ (List.mem_append_right _ h)
  have hiX1 : ∀ w ∈ u_ws RX1 TX1 2, w ∈ wsX1_day := fun _ h => List.mem_cons_of_mem _ (List.mem_append_left _ (List.mem_append_right _ h))
  refine lv_aload_n hx hb dX1_day_0 rfl (lv_at hl 0 rfl) ?_
  refine g_get (v := .ref (a 0)) hc hw hiX1 0 0 (wo_X1_H ..) rfl (by decide) (List.mem_of_getElem? (i := 1) rfl) (wv_X1_H_0 ..) dX1_day_1 ?_
  refine g_get (v := .int (ct_day T)) hc hw hiX0 1 0 (wo_X1_T ..) rfl (by decide) (List.mem_of_getElem? (i := 2) rfl) (wv_X1_T_0 ..) dX1_day_4 ?_
  rw [show r_X1_day w b n T w2 b2 n2 T2 = (ct_day T) from by rw [r_X1_day]]
  exact g_ret hc hw rfl (Nat.le_of_ble_eq_true rfl) (Nat.le_of_ble_eq_true rfl) dX1_day_7

def r_X1_wards (w : Nat) (b : Nat) (n : Nat) (T : ct_T) (w2 : Nat) (b2 : Nat) (n2 : Nat) (T2 : ct_T) : Int32 := (nI w)
abbrev rm_X1_wards : Room := { frames := 0, cells := 0, slots := 0, locals := 0 }
set_option maxHeartbeats 4000000 in
set_option maxRecDepth 100000 in
theorem k_X1_wards (l : Launch) (D : va_G) (cI cZ cL : ClassId) (h : Nat) (a a2 : Nat → Nat) (w : Nat) (b : Nat) (n : Nat) (T : ct_T) (w2 : Nat) (b2 : Nat) (n2 : Nat) (T2 : ct_T) (hd5 : w ≤ 5) (hd4 : b ≤ 4) (hd30 : n ≤ 30) (he5 : w2 ≤ 5) (he4 : b2 ≤ 4) (he30 : n2 ≤ 30)   : MX l yX1_wards wsX1_wards rm_X1_wards D cI cZ cL [.ref h] (wb_c h a a2 cI cZ w b n T w2 b2 n2 T2) (some (.int (r_X1_wards w b n T w2 b2 n2 T2))) (wb_c h a a2 cI cZ w b n T w2 b2 n2 T2) := by
  refine MX.of (own := RX1) (cc := cX1_wards) (maxL := 1) (ret := (some .int)) (lv0 := [(0, .ref h)]) (by decide) rfl rfl (Nat.le_of_ble_eq_true rfl) rfl ?_
  intro p e s m args below meth c A hc hnm hw ls hl
  obtain ⟨hx, hb, hr, hml, hown, hts, hlk, hK, hA⟩ := id hc
  have hiX0 : ∀ w ∈ u_ws RX0 TX0 16, w ∈ wsX1_wards := fun _ h => List.mem_cons_of_mem _ (List.mem_append_right _ h)
  have hiX1 : ∀ w ∈ u_ws RX1 TX1 2, w ∈ wsX1_wards := fun _ h => List.mem_cons_of_mem _ (List.mem_append_left _ (List.mem_append_right _ h))
  refine lv_aload_n hx hb dX1_wards_0 rfl (lv_at hl 0 rfl) ?_
  refine g_get (v := .ref (a 0)) hc hw hiX1 0 0 (wo_X1_H ..) rfl (by decide) (List.mem_of_getElem? (i := 1) rfl) (wv_X1_H_0 ..) dX1_wards_1 ?_
  refine g_get (v := .int (nI w)) hc hw hiX0 1 3 (wo_X1_T ..) rfl (by decide) (List.mem_of_getElem? (i := 2) rfl) (wv_X1_T_3 ..) dX1_wards_4 ?_
  rw [show r_X1_wards w b n T w2 b2 n2 T2 = (nI w) from by rw [r_X1_wards]]
  exact g_ret hc hw rfl (Nat.le_of_ble_eq_true rfl) (Nat.le_of_ble_eq_true rfl) dX1_wards_7

def r_X1_barges (w : Nat) (b : Nat) (n : Nat) (T : ct_T) (w2 : Nat) (b2 : Nat) (n2 : Nat) (T2 : ct_T) : Int32 := (nI b)
abbrev rm_X1_barges : Room := { frames := 0, cells := 0, slots := 0, locals := 0 }
set_option maxHeartbeats 4000000 in
set_option maxRecDepth 100000 in
theorem k_X1_barges (l : Launch) (D : va_G) (cI cZ cL : ClassId) (h : Nat) (a a2 : Nat → Nat) (w : Nat) (b : Nat) (n : Nat) (T : ct_T) (w2 : Nat) (b2 : Nat) (n2 : Nat) (T2 : ct_T) (hd5 : w ≤ 5) (hd4 : b ≤ 4) (hd30 : n ≤ 30) (he5 : w2 ≤ 5) (he4 : b2 ≤ 4) (he30 : n2 ≤ 30)   : MX l yX1_barges wsX1_barges rm_X1_barges D cI cZ cL [.ref h] (wb_c h a a2 cI cZ w b n T w2 b2 n2 T2) (some (.int (r_X1_barges w b n T w2 b2 n2 T2))) (wb_c h a a2 cI cZ w b n T w2 b2 n2 T2) := by
  refine MX.of (own := RX1) (cc := cX1_barges) (maxL := 1) (ret := (some .int)) (lv0 := [(0, .ref h)]) (by decide) rfl rfl (Nat.le_of_ble_eq_true rfl) rfl ?_
  intro p e s m args below meth c A hc hnm hw ls hl
  obtain ⟨hx, hb, hr, hml, hown, hts, hlk, hK, hA⟩ := id hc
  have hiX0 : ∀ w ∈ u_ws RX0 TX0 16, w ∈ wsX1_barges := fun _ h => List.mem_cons_of_mem _ (List.mem_append_right _ h)
  have hiX1 : ∀ w ∈ u_ws RX1 TX1 2, w ∈ wsX1_barges := fun _ h => List.mem_cons_of_mem _ (List.mem_append_left _ (List.mem_append_right _ h))
  refine lv_aload_n hx hb dX1_barges_0 rfl (lv_at hl 0 rfl) ?_
  refine g_get (v := .ref (a 0)) hc hw hiX1 0 0 (wo_X1_H ..) rfl (by decide) (List.mem_of_getElem? (i := 1) rfl) (wv_X1_H_0 ..) dX1_barges_1 ?_
  refine g_get (v := .int (nI b)) hc hw hiX0 1 6 (wo_X1_T ..) rfl (by decide) (List.mem_of_getElem? (i := 2) rfl) (wv_X1_T_6 ..) dX1_barges_4 ?_
  rw [show r_X1_barges w b n T w2 b2 n2 T2 = (nI b) from by rw [r_X1_barges]]
  exact g_ret hc hw rfl (Nat.le_of_ble_eq_true rfl) (Nat.le_of_ble_eq_true rfl) dX1_barges_7

def r_X1_people (w : Nat) (b : Nat) (n : Nat) (T : ct_T) (w2 : Nat) (b2 : Nat) (n2 : Nat) (T2 : ct_T) : Int32 := (nI n)
abbrev rm_X1_people : Room := { frames := 0, cells := 0, slots := 0, locals := 0 }
set_option maxHeartbeats 4000000 in
set_option maxRecDepth 100000 in
theorem k_X1_people (l : Launch) (D : va_G) (cI cZ cL : ClassId) (h : Nat) (a a2 : Nat → Nat) (w : Nat) (b : Nat) (n : Nat) (T : ct_T) (w2 : Nat) (b2 : Nat) (n2 : Nat) (T2 : ct_T) (hd5 : w ≤ 5) (hd4 : b ≤ 4) (hd30 : n ≤ 30) (he5 : w2 ≤ 5) (he4 : b2 ≤ 4) (he30 : n2 ≤ 30)   : MX l yX1_people wsX1_people rm_X1_people D cI cZ cL [.ref h] (wb_c h a a2 cI cZ w b n T w2 b2 n2 T2) (some (.int (r_X1_people w b n T w2 b2 n2 T2))) (wb_c h a a2 cI cZ w b n T w2 b2 n2 T2) := by
  refine MX.of (own := RX1) (cc := cX1_people) (maxL := 1) (ret := (some .int)) (lv0 := [(0, .ref h)]) (by decide) rfl rfl (Nat.le_of_ble_eq_true rfl) rfl ?_
  intro p e s m args below meth c A hc hnm hw ls hl
  obtain ⟨hx, hb, hr, hml, hown, hts, hlk, hK, hA⟩ := id hc
  have hiX0 : ∀ w ∈ u_ws RX0 TX0 16, w ∈ wsX1_people := fun _ h => List.mem_cons_of_mem _ (List.mem_append_right _ h)
  have hiX1 : ∀ w ∈ u_ws RX1 TX1 2, w ∈ wsX1_people := fun _ h => List.mem_cons_of_mem _ (List.mem_append_left _ (List.mem_append_right _ h))
  refine lv_aload_n hx hb dX1_people_0 rfl (lv_at hl 0 rfl) ?_
  refine g_get (v := .ref (a 0)) hc hw hiX1 0 0 (wo_X1_H ..) rfl (by decide) (List.mem_of_getElem? (i := 1) rfl) (wv_X1_H_0 ..) dX1_people_1 ?_
  refine g_get (v := .int (nI n)) hc hw hiX0 1 9 (wo_X1_T ..) rfl (by decide) (List.mem_of_getElem? (i := 2) rfl) (wv_X1_T_9 ..) dX1_people_4 ?_
  rw [show r_X1_people w b n T w2 b2 n2 T2 = (nI n) from by rw [r_X1_people]]
  exact g_ret hc hw rfl (Nat.le_of_ble_eq_true rfl) (Nat.le_of_ble_eq_true rfl) dX1_people_7

def r_X1_bowls (w : Nat) (b : Nat) (n : Nat) (T : ct_T) (w2 : Nat) (b2 : Nat) (n2 : Nat) (T2 : ct_T) : Int32 := (ct_bo T)
abbrev rm_X1_bowls : Room := { frames := 0, cells := 0, slots := 0, locals := 0 }
set_option maxHeartbeats 4000000 in
set_option maxRecDepth 100000 in
theorem k_X1_bowls (l : Launch) (D : va_G) (cI cZ cL : ClassId) (h : Nat) (a a2 : Nat → Nat) (w : Nat) (b : Nat) (n : Nat) (T : ct_T) (w2 : Nat) (b2 : Nat) (n2 : Nat) (T2 : ct_T) (hd5 : w ≤ 5) (hd4 : b ≤ 4) (hd30 : n ≤ 30) (he5 : w2 ≤ 5) (he4 : b2 ≤ 4) (he30 : n2 ≤ 30)   : MX l yX1_bowls wsX1_bowls rm_X1_bowls D cI cZ cL [.ref h] (wb_c h a a2 cI cZ w b n T w2 b2 n2 T2) (some (.int (r_X1_bowls w b n T w2 b2 n2 T2))) (wb_c h a a2 cI cZ w b n T w2 b2 n2 T2) := by
  refine MX.of (own := RX1) (cc := cX1_bowls) (maxL := 1) (ret := (some .int)) (lv0 := [(0, .ref h)]) (by decide) rfl rfl (Nat.le_of_ble_eq_true rfl) rfl ?_
  intro p e s m args below meth c A hc hnm hw ls hl
  obtain ⟨hx, hb, hr, hml, hown, hts, hlk, hK, hA⟩ := id hc
  have hiX0 : ∀ w ∈ u_ws RX0 TX0 16, w ∈ wsX1_bowls := fun _ h => List.mem_cons_of_mem _ (List.mem_append_right _ h)
  have hiX1 : ∀ w ∈ u_ws RX1 TX1 2, w ∈ wsX1_bowls := fun _ h => List.mem_cons_of_mem _ (List.mem_append_left _ (List.mem_append_right _ h))
  refine lv_aload_n hx hb dX1_bowls_0 rfl (lv_at hl 0 rfl) ?_
  refine g_get (v := .ref (a 0)) hc hw hiX1 0 0 (wo_X1_H ..) rfl (by decide) (List.mem_of_getElem? (i := 1) rfl) (wv_X1_H_0 ..) dX1_bowls_1 ?_
  refine g_get (v := .int (ct_bo T)) hc hw hiX0 1 1 (wo_X1_T ..) rfl (by decide) (List.mem_of_getElem? (i := 2) rfl) (wv_X1_T_1 ..) dX1_bowls_4 ?_
  rw [show r_X1_bowls w b n T w2 b2 n2 T2 = (ct_bo T) from by rw [r_X1_bowls]]
  exact g_ret hc hw rfl (Nat.le_of_ble_eq_true rfl) (Nat.le_of_ble_eq_true rfl) dX1_bowls_7

def f_X1_freePlaces_4 (w : Nat) (b : Nat) (n : Nat) (T : ct_T) (w2 : Nat) (b2 : Nat) (n2 : Nat) (T2 : ct_T) (i4 : Nat) (q4 : Int32) : Int32 := ((q4 + (r_X0_freeIn w b n T (nI i4))))
def r_X1_freePlaces (w : Nat) (b : Nat) (n : Nat) (T : ct_T) (w2 : Nat) (b2 : Nat) (n2 : Nat) (T2 : ct_T) : Int32 := (lpf (f_X1_freePlaces_4 w b n T w2 b2 n2 T2) w 0 ((0 : Int32)))
abbrev rm_X1_freePlaces : Room := { frames := 3, cells := 0, slots := 0, locals := 68 }
set_option maxHeartbeats 4000000 in
set_option maxRecDepth 100000 in
theorem k_X1_freePlaces (l : Launch) (D : va_G) (cI cZ cL : ClassId) (h : Nat) (a a2 : Nat → Nat) (w : Nat) (b : Nat) (n : Nat) (T : ct_T) (w2 : Nat) (b2 : Nat) (n2 : Nat) (T2 : ct_T) (hd5 : w ≤ 5) (hd4 : b ≤ 4) (hd30 : n ≤ 30) (he5 : w2 ≤ 5) (he4 : b2 ≤ 4) (he30 : n2 ≤ 30)   : MX l yX1_freePlaces wsX1_freePlaces rm_X1_freePlaces D cI cZ cL [.ref h] (wb_c h a a2 cI cZ w b n T w2 b2 n2 T2) (some (.int (r_X1_freePlaces w b n T w2 b2 n2 T2))) (wb_c h a a2 cI cZ w b n T w2 b2 n2 T2) := by
  refine MX.of (own := RX1) (cc := cX1_freePlaces) (maxL := 3) (ret := (some .int)) (lv0 := [(0, .ref h)]) (by decide) rfl rfl (Nat.le_of_ble_eq_true rfl) rfl ?_
  intro p e s m args below meth c A hc hnm hw ls hl
  obtain ⟨hx, hb, hr, hml, hown, hts, hlk, hK, hA⟩ := id hc
  have hiX0 : ∀ w ∈ u_ws RX0 TX0 16, w ∈ wsX1_freePlaces := fun _ h => List.mem_cons_of_mem _ (List.mem_append_right _ h)
  have hiX1 : ∀ w ∈ u_ws RX1 TX1 2, w ∈ wsX1_freePlaces := fun _ h => List.mem_cons_of_mem _ (List.mem_append_left _ (List.mem_append_right _ h))
  refine lv_iconst (v := 0) hx hb dX1_freePlaces_0 (by decide) ?_
  refine lv_istore_n (lv' := [(1, .int (0 : Int32)), (0, .ref h)]) hx hb dX1_freePlaces_1 rfl hl (by decide) rfl (fun ls hl => ?_)
  refine lv_iconst (v := 0) hx hb dX1_freePlaces_2 (by decide) ?_
  refine lv_istore_n (lv' := [(2, .int (0 : Int32)), (1, .int (0 : Int32)), (0, .ref h)]) hx hb dX1_freePlaces_3 rfl hl (by decide) rfl (fun ls hl => ?_)
  refine lp_go (fun (i4 : Nat) (q4 : Int32) => ∀ (H : Heap) (locs : List Loc) (ls : Array Slot), Wo D A s.heap (wb_c h a a2 cI cZ w b n T w2 b2 n2 T2) H locs → lv_has ls 3 [(0, .ref h), (1, .int q4), (2, .int (nI i4))] → W p l e rm_X1_freePlaces s m args below meth c H locs 0 0 (QE below args s D A (some (.int (r_X1_freePlaces w b n T w2 b2 n2 T2))) (wb_c h a a2 cI cZ w b n T w2 b2 n2 T2) rm_X1_freePlaces) (F0 m 4 ls [])) (f_X1_freePlaces_4 w b n T w2 b2 n2 T2) w ((0 : Int32)) ?_ ?_ s.heap [] ls hw (lv_sub hl [2, 1, 0] rfl)
  · intro i4 q4 hi4 k4 H locs ls hw hl
    refine lv_iload_n hx hb dX1_freePlaces_4 rfl (lv_at hl 2 rfl) ?_
    refine lv_aload_n hx hb dX1_freePlaces_5 rfl (lv_at hl 0 rfl) ?_
    refine g_get (v := .ref (a 0)) hc hw hiX1 0 0 (wo_X1_H ..) rfl (by decide) (List.mem_of_getElem? (i := 1) rfl) (wv_X1_H_0 ..) dX1_freePlaces_6 ?_
    refine g_get (v := .int (nI w)) hc hw hiX0 1 3 (wo_X1_T ..) rfl (by decide) (List.mem_of_getElem? (i := 2) rfl) (wv_X1_T_3 ..) dX1_freePlaces_9 ?_
    refine lv_icmp_ge (tgt := 32) hx hb dX1_freePlaces_12 (by decide) (fun z => absurd z (nI_ge hi4 (by omega))) (fun _ => ?_)
    refine lv_iload_n hx hb dX1_freePlaces_15 rfl (lv_at hl 1 rfl) ?_
    refine lv_aload_n hx hb dX1_freePlaces_16 rfl (lv_at hl 0 rfl) ?_
    refine g_get (v := .ref (a 0)) hc hw hiX1 0 0 (wo_X1_H ..) rfl (by decide) (List.mem_of_getElem? (i := 1) rfl) (wv_X1_H_0 ..) dX1_freePlaces_17 ?_
    refine lv_iload_n hx hb dX1_freePlaces_20 rfl (lv_at hl 2 rfl) ?_
    refine g_callV (n := 1) hc hw (k_X0_freeIn l D cI cZ cL a w b n T hd5 hd4 hd30 (nI i4) (vp_in_nI (show i4 < 5 by omega) (by omega))) gX1_freePlaces_X0_freeIn rfl (by decide +kernel) ⟨Nat.le_of_ble_eq_true rfl, Nat.le_of_ble_eq_true rfl⟩ (wo_X0_T ..) rfl rfl [1, 2, 3, 4, 5, 6, 7, 8, 9, 10, 11] [0, 12, 13, 14, 15, 16, 17, 18, 19, 20, 21, 22] [0, 12, 13, 14, 15, 16, 17, 18, 19, 20, 21, 22, 1, 2, 3, 4, 5, 6, 7, 8, 9, 10, 11] (wr := (wb_c0 h a a2 :: wt_c a2 cI cZ w2 b2 n2 T2)) (w' := (wb_c h a a2 cI cZ w b n T w2 b2 n2 T2)) (wpC_X1_T ..) (wpR_X1_T ..) (by decide) (by decide) (by decide) (wpJ_X1_T ..) (by decide) rfl (rest := [.int q4]) rfl hl.1 (Nat.le_of_ble_eq_true rfl) (st1 := [.int (r_X0_freeIn w b n T (nI i4)), .int q4]) rfl dX1_freePlaces_21 (k2 := 0) (s2 := 0) rfl rfl ⟨Nat.le_of_ble_eq_true rfl, Nat.le_of_ble_eq_true rfl⟩ (fun H locs hw => ?_)
    refine lv_iadd hx hb dX1_freePlaces_24 ?_
    refine lv_istore_n (lv' := [(1, .int (q4 + (r_X0_freeIn w b n T (nI i4)))), (0, .ref h), (2, .int (nI i4))]) hx hb dX1_freePlaces_25 rfl hl (by decide) rfl (fun ls hl => ?_)
    refine lv_iinc (v := (nI (i4 + 1))) (lv' := [(2, .int (nI (i4 + 1))), (1, .int (q4 + (r_X0_freeIn w b n T (nI i4)))), (0, .ref h)]) hx hb dX1_freePlaces_26 hl (k := 2) rfl (inc_n i4) (by decide) rfl (fun ls hl => ?_)
    refine lv_goto (tgt := 4) hx hb dX1_freePlaces_29 (by decide) ?_
    rw [show (f_X1_freePlaces_4 w b n T w2 b2 n2 T2) i4 q4 = ((q4 + (r_X0_freeIn w b n T (nI i4)))) from by rw [f_X1_freePlaces_4]] at k4
    exact k4 H locs ls hw (lv_sub hl [2, 1, 0] rfl)
  · intro H locs ls hw hl
    refine lv_iload_n hx hb dX1_freePlaces_4 rfl (lv_at hl 2 rfl) ?_
    refine lv_aload_n hx hb dX1_freePlaces_5 rfl (lv_at hl 0 rfl) ?_
    refine g_get (v := .ref (a 0)) hc hw hiX1 0 0 (wo_X1_H ..) rfl (by decide) (List.mem_of_getElem? (i := 1) rfl) (wv_X1_H_0 ..) dX1_freePlaces_6 ?_
    refine g_get (v := .int (nI w)) hc hw hiX0 1 3 (wo_X1_T ..) rfl (by decide) (List.mem_of_getElem? (i := 2) rfl) (wv_X1_T_3 ..) dX1_freePlaces_9 ?_
    refine lv_icmp_ge (tgt := 32) hx hb dX1_freePlaces_12 (by decide) (fun _ => ?_) (fun z => absurd (nI_le (Nat.le_refl _) (by omega)) z)
    refine lv_iload_n hx hb dX1_freePlaces_32 rfl (lv_at hl 1 rfl) ?_
    rw [show r_X1_freePlaces w b n T w2 b2 n2 T2 = (lpf (f_X1_freePlaces_4 w b n T w2 b2 n2 T2) w 0 ((0 : Int32))) from by rw [r_X1_freePlaces]]
    exact g_ret hc hw rfl (Nat.le_of_ble_eq_true rfl) (Nat.le_of_ble_eq_true rfl) dX1_freePlaces_33
