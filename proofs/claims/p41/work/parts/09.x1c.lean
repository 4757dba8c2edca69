def e_X1_addWard (w : Nat) (b : Nat) (n : Nat) (T : ct_T) (w2 : Nat) (b2 : Nat) (n2 : Nat) (T2 : ct_T) (x1 : Int32) : Nat := if x1 < (1 : Int32) then (1) else (if x1 ≤ (8 : Int32) then (if (nI w) < (5 : Int32) then (0) else (2)) else (1))
def r_X1_addWard (w : Nat) (b : Nat) (n : Nat) (T : ct_T) (w2 : Nat) (b2 : Nat) (n2 : Nat) (T2 : ct_T) (x1 : Int32) : Int32 := if x1 < (1 : Int32) then ((0 : Int32)) else (if x1 ≤ (8 : Int32) then (if (nI w) < (5 : Int32) then ((r_X0_openWard w b n T x1)) else ((0 : Int32))) else ((0 : Int32)))
def s_X1_addWard (w : Nat) (b : Nat) (n : Nat) (T : ct_T) (w2 : Nat) (b2 : Nat) (n2 : Nat) (T2 : ct_T) (x1 : Int32) : ct_T := if x1 < (1 : Int32) then (T) else (if x1 ≤ (8 : Int32) then (if (nI w) < (5 : Int32) then ((s_X0_openWard w b n T x1)) else (T)) else (T))
abbrev rm_X1_addWard : Room := { frames := 6, cells := 1, slots := 6, locals := 90 }
set_option maxHeartbeats 4000000 in
set_option maxRecDepth 100000 in
theorem k_X1_addWard {l : Launch} (hst : l.stackTraces = false) (D : va_G) (cI cZ cL : ClassId) (h : Nat) (a a2 : Nat → Nat) (w : Nat) (b : Nat) (n : Nat) (T : ct_T) (w2 : Nat) (b2 : Nat) (n2 : Nat) (T2 : ct_T) (hd5 : w ≤ 5) (hd4 : b ≤ 4) (hd30 : n ≤ 30) (he5 : w2 ≤ 5) (he4 : b2 ≤ 4) (he30 : n2 ≤ 30) (x1 : Int32)  : TX l yX1_addWard wsX1_addWard rm_X1_addWard D cI cZ cL [.ref h, .int x1] (wb_c h a a2 cI cZ w b n T w2 b2 n2 T2) (e_X1_addWard w b n T w2 b2 n2 T2 x1) (some (.int (r_X1_addWard w b n T w2 b2 n2 T2 x1))) (wb_c h a a2 cI cZ (w + 1) b n (s_X1_addWard w b n T w2 b2 n2 T2 x1) w2 b2 n2 T2) := by
  refine TX.of (own := RX1) (cc := cX1_addWard) (maxL := 2) (ret := (some .int)) (lv0 := [(0, .ref h), (1, .int x1)]) (by decide) rfl rfl (Nat.le_of_ble_eq_true rfl) rfl ?_
  intro p e s m args below meth c A hc hT hout hw ls hl
  obtain ⟨hx, hb, hr, hml, hown, hts, hlk, hK, hA⟩ := id hc
  have hiX0 : ∀ w ∈ u_ws RX0 TX0 16, w ∈ wsX1_addWard := fun _ h => List.mem_cons_of_mem _ (List.mem_append_left _ (List.mem_append_left _ (List.mem_append_right _ h)))
  have hiX1 : ∀ w ∈ u_ws RX1 TX1 2, w ∈ wsX1_addWard := fun _ h => List.mem_cons_of_mem _ (List.mem_append_left _ (List.mem_append_left _ (List.mem_append_left _ (List.mem_append_right _ h))))
  refine lv_iload_n hx hb dX1_addWard_0 rfl (lv_at hl 1 rfl) ?_
  refine lv_iconst (v := 1) hx hb dX1_addWard_1 (by decide) ?_
  refine lv_icmp_lt (tgt := 11) hx hb dX1_addWard_2 (by decide) (fun c1 => ?_) (fun c1 => ?_)
  · exact t_throw hst hc hT hout hw hl.1 (k := 1) (show e_X1_addWard w b n T w2 b2 n2 T2 x1 = 1 from by rw [e_X1_addWard, if_pos c1]) (by decide) rfl gx_fit1 gx_fitn gx_bad1 gx_gd1 (List.mem_of_getElem? (i := 1) rfl) (List.mem_of_getElem? (i := 2) rfl) (fun _ h => List.mem_cons_of_mem _ (List.mem_append_left _ (List.mem_append_right _ h))) (text := "a ward has 1 to 8 places") (by decide +kernel) dX1_addWard_11 dX1_addWard_14 dX1_addWard_15 dX1_addWard_17 dX1_addWard_20 (Nat.le_of_ble_eq_true rfl) (Nat.le_of_ble_eq_true rfl) (Nat.le_of_ble_eq_true rfl) (Nat.le_of_ble_eq_true rfl) (Nat.le_of_ble_eq_true rfl) (Nat.le_of_ble_eq_true rfl)
  · refine lv_iload_n hx hb dX1_addWard_5 rfl (lv_at hl 1 rfl) ?_
    refine lv_bipush (v := 8) hx hb dX1_addWard_6 (by decide) ?_
    refine lv_icmp_le (tgt := 21) hx hb dX1_addWard_8 (by decide) (fun c2 => ?_) (fun c2 => ?_)
    · refine lv_aload_n hx hb dX1_addWard_21 rfl (lv_at hl 0 rfl) ?_
      refine g_get (v := .ref (a 0)) hc hw hiX1 0 0 (wo_X1_H ..) rfl (by decide) (List.mem_of_getElem? (i := 5) rfl) (wv_X1_H_0 ..) dX1_addWard_22 ?_
      refine g_get (v := .int (nI w)) hc hw hiX0 1 3 (wo_X1_T ..) rfl (by decide) (List.mem_of_getElem? (i := 6) rfl) (wv_X1_T_3 ..) dX1_addWard_25 ?_
      refine lv_iconst (v := 5) hx hb dX1_addWard_28 (by decide) ?_
      refine lv_icmp_lt (tgt := 42) hx hb dX1_addWard_29 (by decide) (fun c3 => ?_) (fun c3 => ?_)
      · refine lv_aload_n hx hb dX1_addWard_42 rfl (lv_at hl 0 rfl) ?_
        refine g_get (v := .ref (a 0)) hc hw hiX1 0 0 (wo_X1_H ..) rfl (by decide) (List.mem_of_getElem? (i := 5) rfl) (wv_X1_H_0 ..) dX1_addWard_43 ?_
        refine lv_iload_n hx hb dX1_addWard_46 rfl (lv_at hl 1 rfl) ?_
        refine g_callV (n := 1) hc hw (k_X0_openWard l D cI cZ cL a w b n T hd5 hd4 hd30 x1 (l_lt 5 w c3 (by omega))) gX1_addWard_X0_openWard rfl (by decide +kernel) ⟨Nat.le_of_ble_eq_true rfl, Nat.le_of_ble_eq_true rfl⟩ (wo_X0_T ..) rfl rfl [1, 2, 3, 4, 5, 6, 7, 8, 9, 10, 11] [0, 12, 13, 14, 15, 16, 17, 18, 19, 20, 21, 22] [0, 12, 13, 14, 15, 16, 17, 18, 19, 20, 21, 22, 1, 2, 3, 4, 5, 6, 7, 8, 9, 10, 11] (wr := (wb_c0 h a a2 :: wt_c a2 cI cZ w2 b2 n2 T2)) (w' := (wb_c h a a2 cI cZ (w + 1) b n (s_X0_openWard w b n T x1) w2 b2 n2 T2)) (wpC_X1_T ..) (wpR_X1_T ..) (by decide) (by decide) (by decide) (wpJ_X1_T ..) (by decide) rfl (rest := []) rfl hl.1 (Nat.le_of_ble_eq_true rfl) (st1 := [.int (r_X0_openWard w b n T x1)]) rfl dX1_addWard_47 (k2 := 0) (s2 := 0) rfl rfl ⟨Nat.le_of_ble_eq_true rfl, Nat.le_of_ble_eq_true rfl⟩ (fun H locs hw => ?_)
        refine t_end (show e_X1_addWard w b n T w2 b2 n2 T2 x1 = 0 from by rw [e_X1_addWard, if_neg c1, if_pos c2, if_pos c3]) (fun _ _ z1 z2 => ?_)
        subst z1; subst z2
        rw [show r_X1_addWard w b n T w2 b2 n2 T2 x1 = (r_X0_openWard w b n T x1) from by rw [r_X1_addWard, if_neg c1, if_pos c2, if_pos c3]]
        rw [show s_X1_addWard w b n T w2 b2 n2 T2 x1 = (s_X0_openWard w b n T x1) from by rw [s_X1_addWard, if_neg c1, if_pos c2, if_pos c3]]
        exact g_ret hc hw rfl (Nat.le_of_ble_eq_true rfl) (Nat.le_of_ble_eq_true rfl) dX1_addWard_50
      · exact t_throw hst hc hT hout hw hl.1 (k := 2) (show e_X1_addWard w b n T w2 b2 n2 T2 x1 = 2 from by rw [e_X1_addWard, if_neg c1, if_pos c2, if_neg c3]) (by decide) rfl gx_fit2 gx_fitn gx_bad2 gx_gd2 (List.mem_of_getElem? (i := 3) rfl) (List.mem_of_getElem? (i := 4) rfl) (fun _ h => List.mem_cons_of_mem _ (List.mem_append_right _ h)) (text := "there are 5 wards") (by decide +kernel) dX1_addWard_32 dX1_addWard_35 dX1_addWard_36 dX1_addWard_38 dX1_addWard_41 (Nat.le_of_ble_eq_true rfl) (Nat.le_of_ble_eq_true rfl) (Nat.le_of_ble_eq_true rfl) (Nat.le_of_ble_eq_true rfl) (Nat.le_of_ble_eq_true rfl) (Nat.le_of_ble_eq_true rfl)
    · exact t_throw hst hc hT hout hw hl.1 (k := 1) (show e_X1_addWard w b n T w2 b2 n2 T2 x1 = 1 from by rw [e_X1_addWard, if_neg c1, if_neg c2]) (by decide) rfl gx_fit1 gx_fitn gx_bad1 gx_gd1 (List.mem_of_getElem? (i := 1) rfl) (List.mem_of_getElem? (i := 2) rfl) (fun _ h => List.mem_cons_of_mem _ (List.mem_append_left _ (List.mem_append_right _ h))) (text := "a ward has 1 to 8 places") (by decide +kernel) dX1_addWard_11 dX1_addWard_14 dX1_addWard_15 dX1_addWard_17 dX1_addWard_20 (Nat.le_of_ble_eq_true rfl) (Nat.le_of_ble_eq_true rfl) (Nat.le_of_ble_eq_true rfl) (Nat.le_of_ble_eq_true rfl) (Nat.le_of_ble_eq_true rfl) (Nat.le_of_ble_eq_true rfl)

def e_X1_addBarge (w : Nat) (b : Nat) (n : Nat) (T : ct_T) (w2 : Nat) (b2 : Nat) (n2 : Nat) (T2 : ct_T) (x1 : Int32) : Nat := if x1 < (1 : Int32) then (1) else (if x1 ≤ (9 : Int32) then (if (nI b) < (4 : Int32) then (0) else (2)) else (1))
def r_X1_addBarge (w : Nat) (b : Nat) (n : Nat) (T : ct_T) (w2 : Nat) (b2 : Nat) (n2 : Nat) (T2 : ct_T) (x1 : Int32) : Int32 := if x1 < (1 : Int32) then ((0 : Int32)) else (if x1 ≤ (9 : Int32) then (if (nI b) < (4 : Int32) then ((r_X0_openBarge w b n T x1)) else ((0 : Int32))) else ((0 : Int32)))
def s_X1_addBarge (w : Nat) (b : Nat) (n : Nat) (T : ct_T) (w2 : Nat) (b2 : Nat) (n2 : Nat) (T2 : ct_T) (x1 : Int32) : ct_T := if x1 < (1 : Int32) then (T) else (if x1 ≤ (9 : Int32) then (if (nI b) < (4 : Int32) then ((s_X0_openBarge w b n T x1)) else (T)) else (T))
abbrev rm_X1_addBarge : Room := { frames := 6, cells := 1, slots := 6, locals := 90 }
set_option maxHeartbeats 4000000 in
set_option maxRecDepth 100000 in
theorem k_X1_addBarge {l : Launch} (hst : l.stackTraces = false) (D : va_G) (cI cZ cL : ClassId) (h : Nat) (a a2 : Nat → Nat) (w : Nat) (b : Nat) (n : Nat) (T : ct_T) (w2 : Nat) (b2 : Nat) (n2 : Nat) (T2 : ct_T) (hd5 : w ≤ 5) (hd4 : b ≤ 4) (hd30 : n ≤ 30) (he5 : w2 ≤ 5) (he4 : b2 ≤ 4) (he30 : n2 ≤ 30) (x1 : Int32)  : TX l yX1_addBarge wsX1_addBarge rm_X1_addBarge D cI cZ cL [.ref h, .int x1] (wb_c h a a2 cI cZ w b n T w2 b2 n2 T2) (e_X1_addBarge w b n T w2 b2 n2 T2 x1) (some (.int (r_X1_addBarge w b n T w2 b2 n2 T2 x1))) (wb_c h a a2 cI cZ w (b + 1) n (s_X1_addBarge w b n T w2 b2 n2 T2 x1) w2 b2 n2 T2) := by
  refine TX.of (own := RX1) (cc := cX1_addBarge) (maxL := 2) (ret := (some .int)) (lv0 := [(0, .ref h), (1, .int x1)]) (by decide) rfl rfl (Nat.le_of_ble_eq_true rfl) rfl ?_
  intro p e s m args below meth c A hc hT hout hw ls hl
  obtain ⟨hx, hb, hr, hml, hown, hts, hlk, hK, hA⟩ := id hc
  have hiX0 : ∀ w ∈ u_ws RX0 TX0 16, w ∈ wsX1_addBarge := fun _ h => List.mem_cons_of_mem _ (List.mem_append_left _ (List.mem_append_left _ (List.mem_append_right _ h)))
  have hiX1 : ∀ w ∈ u_ws RX1 TX1 2, w ∈ wsX1_addBarge := fun _ h => List.mem_cons_of_mem _ (List.mem_append_left _ (List.mem_append_left _ (List.mem_append_left _ (List.mem_append_right _ h))))
  refine lv_iload_n hx hb dX1_addBarge_0 rfl (lv_at hl 1 rfl) ?_
  refine lv_iconst (v := 1) hx hb dX1_addBarge_1 (by decide) ?_
  refine lv_icmp_lt (tgt := 11) hx hb dX1_addBarge_2 (by decide) (fun c1 => ?_) (fun c1 => ?_)
  · exact t_throw hst hc hT hout hw hl.1 (k := 1) (show e_X1_addBarge w b n T w2 b2 n2 T2 x1 = 1 from by rw [e_X1_addBarge, if_pos c1]) (by decide) rfl gx_fit1 gx_fitn gx_bad1 gx_gd1 (List.mem_of_getElem? (i := 1) rfl) (List.mem_of_getElem? (i := 2) rfl) (fun _ h => List.mem_cons_of_mem _ (List.mem_append_left _ (List.mem_append_right _ h))) (text := "a barge is kept for 1 to 9 days") (by decide +kernel) dX1_addBarge_11 dX1_addBarge_14 dX1_addBarge_15 dX1_addBarge_17 dX1_addBarge_20 (Nat.le_of_ble_eq_true rfl) (Nat.le_of_ble_eq_true rfl) (Nat.le_of_ble_eq_true rfl) (Nat.le_of_ble_eq_true rfl) (Nat.le_of_ble_eq_true rfl) (Nat.le_of_ble_eq_true rfl)
  · refine lv_iload_n hx hb dX1_addBarge_5 rfl (lv_at hl 1 rfl) ?_
    refine lv_bipush (v := 9) hx hb dX1_addBarge_6 (by decide) ?_
    refine lv_icmp_le (tgt := 21) hx hb dX1_addBarge_8 (by decide) (fun c2 => ?_) (fun c2 => ?_)
    · refine lv_aload_n hx hb dX1_addBarge_21 rfl (lv_at hl 0 rfl) ?_
      refine g_get (v := .ref (a 0)) hc hw hiX1 0 0 (wo_X1_H ..) rfl (by decide) (List.mem_of_getElem? (i := 5) rfl) (wv_X1_H_0 ..) dX1_addBarge_22 ?_
      refine g_get (v := .int (nI b)) hc hw hiX0 1 6 (wo_X1_T ..) rfl (by decide) (List.mem_of_getElem? (i := 6) rfl) (wv_X1_T_6 ..) dX1_addBarge_25 ?_
      refine lv_iconst (v := 4) hx hb dX1_addBarge_28 (by decide) ?_
      refine lv_icmp_lt (tgt := 42) hx hb dX1_addBarge_29 (by decide) (fun c3 => ?_) (fun c3 => ?_)
      · refine lv_aload_n hx hb dX1_addBarge_42 rfl (lv_at hl 0 rfl) ?_
        refine g_get (v := .ref (a 0)) hc hw hiX1 0 0 (wo_X1_H ..) rfl (by decide) (List.mem_of_getElem? (i := 5) rfl) (wv_X1_H_0 ..) dX1_addBarge_43 ?_
        refine lv_iload_n hx hb dX1_addBarge_46 rfl (lv_at hl 1 rfl) ?_
        refine g_callV (n := 1) hc hw (k_X0_openBarge l D cI cZ cL a w b n T hd5 hd4 hd30 x1 (l_lt 4 b c3 (by omega))) gX1_addBarge_X0_openBarge rfl (by decide +kernel) ⟨Nat.le_of_ble_eq_true rfl, Nat.le_of_ble_eq_true rfl⟩ (wo_X0_T ..) rfl rfl [1, 2, 3, 4, 5, 6, 7, 8, 9, 10, 11] [0, 12, 13, 14, 15, 16, 17, 18, 19, 20, 21, 22] [0, 12, 13, 14, 15, 16, 17, 18, 19, 20, 21, 22, 1, 2, 3, 4, 5, 6, 7, 8, 9, 10, 11] (wr := (wb_c0 h a a2 :: wt_c a2 cI cZ w2 b2 n2 T2)) (w' := (wb_c h a a2 cI cZ w (b + 1) n (s_X0_openBarge w b n T x1) w2 b2 n2 T2)) (wpC_X1_T ..) (wpR_X1_T ..) (by decide) (by decide) (by decide) (wpJ_X1_T ..) (by decide) rfl (rest := []) rfl hl.1 (Nat.le_of_ble_eq_true rfl) (st1 := [.int (r_X0_openBarge w b n T x1)]) rfl dX1_addBarge_47 (k2 := 0) (s2 := 0) rfl rfl ⟨Nat.le_of_ble_eq_true rfl, Nat.le_of_ble_eq_true rfl⟩ (fun H locs hw => ?_)
        refine t_end (show e_X1_addBarge w b n T w2 b2 n2 T2 x1 = 0 from by rw [e_X1_addBarge, if_neg c1, if_pos c2, if_pos c3]) (fun _ _ z1 z2 => ?_)
        subst z1; subst z2
        rw [show r_X1_addBarge w b n T w2 b2 n2 T2 x1 = (r_X0_openBarge w b n T x1) from by rw [r_X1_addBarge, if_neg c1, if_pos c2, if_pos c3]]
        rw [show s_X1_addBarge w b n T w2 b2 n2 T2 x1 = (s_X0_openBarge w b n T x1) from by rw [s_X1_addBarge, if_neg c1, if_pos c2, if_pos c3]]
        exact g_ret hc hw rfl (Nat.le_of_ble_eq_true rfl) (Nat.le_of_ble_eq_true rfl) dX1_addBarge_50
      · exact t_throw hst hc hT hout hw hl.1 (k := 2) (show e_X1_addBarge w b n T w2 b2 n2 T2 x1 = 2 from by rw [e_X1_addBarge, if_neg c1, if_pos c2, if_neg c3]) (by decide) rfl gx_fit2 gx_fitn gx_bad2 gx_gd2 (List.mem_of_getElem? (i := 3) rfl) (List.mem_of_getElem? (i := 4) rfl) (fun _ h => List.mem_cons_of_mem _ (List.mem_append_right _ h)) (text := "there are 4 barges") (by decide +kernel) dX1_addBarge_32 dX1_addBarge_35 dX1_addBarge_36 dX1_addBarge_38 dX1_addBarge_41 (Nat.le_of_ble_eq_true rfl) (Nat.le_of_ble_eq_true rfl) (Nat.le_of_ble_eq_true rfl) (Nat.le_of_ble_eq_true rfl) (Nat.le_of_ble_eq_true rfl) (Nat.le_of_ble_eq_true rfl)
    · exact t_throw hst hc hT hout hw hl.1 (k := 1) (show e_X1_addBarge w b n T w2 b2 n2 T2 x1 = 1 from by rw [e_X1_addBarge, if_neg c1, if_neg c2]) (by decide) rfl gx_fit1 gx_fitn gx_bad1 gx_gd1 (List.mem_of_getElem? (i := 1) rfl) (List.mem_of_getElem? (i := 2) rfl) (fun _ h => List.mem_cons_of_mem _ (List.mem_append_left _ (List.mem_append_right _ h))) (text := "a barge is kept for 1 to 9 days") (by decide +kernel) dX1_addBarge_11 dX1_addBarge_14 dX1_addBarge_15 dX1_addBarge_17 dX1_addBarge_20 (Nat.le_of_ble_eq_true rfl) (Nat.le_of_ble_eq_true rfl) (Nat.le_of_ble_eq_true rfl) (Nat.le_of_ble_eq_true rfl) (Nat.le_of_ble_eq_true rfl) (Nat.le_of_ble_eq_true rfl)

def e_X1_board (w : Nat) (b : Nat) (n : Nat) (T : ct_T) (w2 : Nat) (b2 : Nat) (n2 : Nat) (T2 : ct_T) (x1 : Int32) (x2 : Int32) : Nat := if (e_X1_checkBarge w b n T w2 b2 n2 T2 x1) = 0 then (if x2 < (0 : Int32) then (1) else (if x2 ≤ (9 : Int32) then (if (nI n) < (30 : Int32) then (0) else (2)) else (1))) else ((e_X1_checkBarge w b n T w2 b2 n2 T2 x1))
def r_X1_board (w : Nat) (b : Nat) (n : Nat) (T : ct_T) (w2 : Nat) (b2 : Nat) (n2 : Nat) (T2 : ct_T) (x1 : Int32) (x2 : Int32) : Int32 := if (e_X1_checkBarge w b n T w2 b2 n2 T2 x1) = 0 then (if x2 < (0 : Int32) then ((0 : Int32)) else (if x2 ≤ (9 : Int32) then (if (nI n) < (30 : Int32) then ((r_X0_takeAboard w b n T x1 x2)) else ((0 : Int32))) else ((0 : Int32)))) else ((0 : Int32))
def s_X1_board (w : Nat) (b : Nat) (n : Nat) (T : ct_T) (w2 : Nat) (b2 : Nat) (n2 : Nat) (T2 : ct_T) (x1 : Int32) (x2 : Int32) : ct_T := if (e_X1_checkBarge w b n T w2 b2 n2 T2 x1) = 0 then (if x2 < (0 : Int32) then (T) else (if x2 ≤ (9 : Int32) then (if (nI n) < (30 : Int32) then ((s_X0_takeAboard w b n T x1 x2)) else (T)) else (T))) else (T)
abbrev rm_X1_board : Room := { frames := 7, cells := 2, slots := 12, locals := 111 }
set_option maxHeartbeats 4000000 in
set_option maxRecDepth 100000 in
theorem k_X1_board {l : Launch} (hst : l.stackTraces = false) (D : va_G) (cI cZ cL : ClassId) (h : Nat) (a a2 : Nat → Nat) (w : Nat) (b : Nat) (n : Nat) (T : ct_T) (w2 : Nat) (b2 : Nat) (n2 : Nat) (T2 : ct_T) (hd5 : w ≤ 5) (hd4 : b ≤ 4) (hd30 : n ≤ 30) (he5 : w2 ≤ 5) (he4 : b2 ≤ 4) (he30 : n2 ≤ 30) (x1 : Int32) (x2 : Int32)  : TX l yX1_board wsX1_board rm_X1_board D cI cZ cL [.ref h, .int x1, .int x2] (wb_c h a a2 cI cZ w b n T w2 b2 n2 T2) (e_X1_board w b n T w2 b2 n2 T2 x1 x2) (some (.int (r_X1_board w b n T w2 b2 n2 T2 x1 x2))) (wb_c h a a2 cI cZ w b (n + 1) (s_X1_board w b n T w2 b2 n2 T2 x1 x2) w2 b2 n2 T2) := by
  refine TX.of (own := RX1) (cc := cX1_board) (maxL := 3) (ret := (some .int)) (lv0 := [(0, .ref h), (1, .int x1), (2, .int x2)]) (by decide) rfl rfl (Nat.le_of_ble_eq_true rfl) rfl ?_
  intro p e s m args below meth c A hc hT hout hw ls hl
  obtain ⟨hx, hb, hr, hml, hown, hts, hlk, hK, hA⟩ := id hc
  have hiX0 : ∀ w ∈ u_ws RX0 TX0 16, w ∈ wsX1_board := fun _ h => List.mem_cons_of_mem _ (List.mem_append_left _ (List.mem_append_left _ (List.mem_append_left _ (List.mem_append_right _ h))))
  have hiX1 : ∀ w ∈ u_ws RX1 TX1 2, w ∈ wsX1_board := fun _ h => List.mem_cons_of_mem _ (List.mem_append_left _ (List.mem_append_left _ (List.mem_append_left _ (List.mem_append_left _ (List.mem_append_right _ h)))))
  refine lv_aload_n hx hb dX1_board_0 rfl (lv_at hl 0 rfl) ?_
  refine lv_iload_n hx hb dX1_board_1 rfl (lv_at hl 1 rfl) ?_
  refine t_callV0 (n := 1) hc hT hw (k_X1_checkBarge hst D cI cZ cL h a a2 w b n T w2 b2 n2 T2 hd5 hd4 hd30 he5 he4 he30 x1) gX1_board_X1_checkBarge rfl (by decide +kernel) ⟨Nat.le_of_ble_eq_true rfl, Nat.le_of_ble_eq_true rfl⟩ 0 (wo_X1_H ..) rfl rfl rfl (rest := []) rfl hl.1 (Nat.le_of_ble_eq_true rfl) (st1 := []) rfl dX1_board_2 (k2 := 1) (s2 := 6) rfl rfl ⟨Nat.le_of_ble_eq_true rfl, Nat.le_of_ble_eq_true rfl⟩ (fun he1 H locs q9 ce9 hw h1 h2 h3 => ?_) (fun he1 H locs hw => ?_)
  · rw [show e_X1_board w b n T w2 b2 n2 T2 x1 x2 = (e_X1_checkBarge w b n T w2 b2 n2 T2 x1) from by rw [e_X1_board, if_neg he1]]
    exact t_out hc hout hw he1 h1 h2 h3 (Nat.le_of_ble_eq_true rfl) (Nat.le_of_ble_eq_true rfl)
  · have hv2 : vp_in x1 4 := vp_x (v_X1_checkBarge he1).1 (v_X1_checkBarge he1).2 hd4 (by omega)
    refine lv_iload_n hx hb dX1_board_5 rfl (lv_at hl 2 rfl) ?_
    refine lv_if_lt (tgt := 15) hx hb dX1_board_6 (by decide) (fun c3 => ?_) (fun c3 => ?_)
    · exact t_throw hst hc hT hout hw hl.1 (k := 1) (show e_X1_board w b n T w2 b2 n2 T2 x1 x2 = 1 from by rw [e_X1_board, if_pos he1, if_pos c3]) (by decide) rfl gx_fit1 gx_fitn gx_bad1 gx_gd1 (List.mem_of_getElem? (i := 1) rfl) (List.mem_of_getElem? (i := 2) rfl) (fun _ h => List.mem_cons_of_mem _ (List.mem_append_left _ (List.mem_append_left _ (List.mem_append_right _ h)))) (text := "who comes aboard has a fever of 0 to 9") (by decide +kernel) dX1_board_15 dX1_board_18 dX1_board_19 dX1_board_21 dX1_board_24 (Nat.le_of_ble_eq_true rfl) (Nat.le_of_ble_eq_true rfl) (Nat.le_of_ble_eq_true rfl) (Nat.le_of_ble_eq_true rfl) (Nat.le_of_ble_eq_true rfl) (Nat.le_of_ble_eq_true rfl)
    · refine lv_iload_n hx hb dX1_board_9 rfl (lv_at hl 2 rfl) ?_
      refine lv_bipush (v := 9) hx hb dX1_board_10 (by decide) ?_
      refine lv_icmp_le (tgt := 25) hx hb dX1_board_12 (by decide) (fun c4 => ?_) (fun c4 => ?_)
      · refine lv_aload_n hx hb dX1_board_25 rfl (lv_at hl 0 rfl) ?_
        refine g_get (v := .ref (a 0)) hc hw hiX1 0 0 (wo_X1_H ..) rfl (by decide) (List.mem_of_getElem? (i := 5) rfl) (wv_X1_H_0 ..) dX1_board_26 ?_
        refine g_get (v := .int (nI n)) hc hw hiX0 1 9 (wo_X1_T ..) rfl (by decide) (List.mem_of_getElem? (i := 6) rfl) (wv_X1_T_9 ..) dX1_board_29 ?_
        refine lv_bipush (v := 30) hx hb dX1_board_32 (by decide) ?_
        refine lv_icmp_lt (tgt := 47) hx hb dX1_board_34 (by decide) (fun c5 => ?_) (fun c5 => ?_)
        · refine lv_aload_n hx hb dX1_board_47 rfl (lv_at hl 0 rfl) ?_
          refine g_get (v := .ref (a 0)) hc hw hiX1 0 0 (wo_X1_H ..) rfl (by decide) (List.mem_of_getElem? (i := 5) rfl) (wv_X1_H_0 ..) dX1_board_48 ?_
          refine lv_iload_n hx hb dX1_board_51 rfl (lv_at hl 1 rfl) ?_
          refine lv_iload_n hx hb dX1_board_52 rfl (lv_at hl 2 rfl) ?_
          refine g_callV (n := 2) hc hw (k_X0_takeAboard l D cI cZ cL a w b n T hd5 hd4 hd30 x1 x2 hv2 (l_lt 30 n c5 (by omega))) gX1_board_X0_takeAboard rfl (by decide +kernel) ⟨Nat.le_of_ble_eq_true rfl, Nat.le_of_ble_eq_true rfl⟩ (wo_X0_T ..) rfl rfl [1, 2, 3, 4, 5, 6, 7, 8, 9, 10, 11] [0, 12, 13, 14, 15, 16, 17, 18, 19, 20, 21, 22] [0, 12, 13, 14, 15, 16, 17, 18, 19, 20, 21, 22, 1, 2, 3, 4, 5, 6, 7, 8, 9, 10, 11] (wr := (wb_c0 h a a2 :: wt_c a2 cI cZ w2 b2 n2 T2)) (w' := (wb_c h a a2 cI cZ w b (n + 1) (s_X0_takeAboard w b n T x1 x2) w2 b2 n2 T2)) (wpC_X1_T ..) (wpR_X1_T ..) (by decide) (by decide) (by decide) (wpJ_X1_T ..) (by decide) rfl (rest := []) rfl hl.1 (Nat.le_of_ble_eq_true rfl) (st1 := [.int (r_X0_takeAboard w b n T x1 x2)]) rfl dX1_board_53 (k2 := 1) (s2 := 6) rfl rfl ⟨Nat.le_of_ble_eq_true rfl, Nat.le_of_ble_eq_true rfl⟩ (fun H locs hw => ?_)
          refine t_end (show e_X1_board w b n T w2 b2 n2 T2 x1 x2 = 0 from by rw [e_X1_board, if_pos he1, if_neg c3, if_pos c4, if_pos c5]) (fun _ _ z1 z2 => ?_)
          subst z1; subst z2
          rw [show r_X1_board w b n T w2 b2 n2 T2 x1 x2 = (r_X0_takeAboard w b n T x1 x2) from by rw [r_X1_board, if_pos he1, if_neg c3, if_pos c4, if_pos c5]]
          rw [show s_X1_board w b n T w2 b2 n2 T2 x1 x2 = (s_X0_takeAboard w b n T x1 x2) from by rw [s_X1_board, if_pos he1, if_neg c3, if_pos c4, if_pos c5]]
          exact g_ret hc hw rfl (Nat.le_of_ble_eq_true rfl) (Nat.le_of_ble_eq_true rfl) dX1_board_56
        · exact t_throw hst hc hT hout hw hl.1 (k := 2) (show e_X1_board w b n T w2 b2 n2 T2 x1 x2 = 2 from by rw [e_X1_board, if_pos he1, if_neg c3, if_pos c4, if_neg c5]) (by decide) rfl gx_fit2 gx_fitn gx_bad2 gx_gd2 (List.mem_of_getElem? (i := 3) rfl) (List.mem_of_getElem? (i := 4) rfl) (fun _ h => List.mem_cons_of_mem _ (List.mem_append_left _ (List.mem_append_right _ h))) (text := "there are 30 people") (by decide +kernel) dX1_board_37 dX1_board_40 dX1_board_41 dX1_board_43 dX1_board_46 (Nat.le_of_ble_eq_true rfl) (Nat.le_of_ble_eq_true rfl) (Nat.le_of_ble_eq_true rfl) (Nat.le_of_ble_eq_true rfl) (Nat.le_of_ble_eq_true rfl) (Nat.le_of_ble_eq_true rfl)
      · exact t_throw hst hc hT hout hw hl.1 (k := 1) (show e_X1_board w b n T w2 b2 n2 T2 x1 x2 = 1 from by rw [e_X1_board, if_pos he1, if_neg c3, if_neg c4]) (by decide) rfl gx_fit1 gx_fitn gx_bad1 gx_gd1 (List.mem_of_getElem? (i := 1) rfl) (List.mem_of_getElem? (i := 2) rfl) (fun _ h => List.mem_cons_of_mem _ (List.mem_append_left _ (List.mem_append_left _ (List.mem_append_right _ h)))) (text := "who comes aboard has a fever of 0 to 9") (by decide +kernel) dX1_board_15 dX1_board_18 dX1_board_19 dX1_board_21 dX1_board_24 (Nat.le_of_ble_eq_true rfl) (Nat.le_of_ble_eq_true rfl) (Nat.le_of_ble_eq_true rfl) (Nat.le_of_ble_eq_true rfl) (Nat.le_of_ble_eq_true rfl) (Nat.le_of_ble_eq_true rfl)
