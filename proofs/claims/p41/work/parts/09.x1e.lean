def e_X1_feverOf (w : Nat) (b : Nat) (n : Nat) (T : ct_T) (w2 : Nat) (b2 : Nat) (n2 : Nat) (T2 : ct_T) (x1 : Int32) : Nat := if (e_X1_checkPerson w b n T w2 b2 n2 T2 x1) = 0 then (0) else ((e_X1_checkPerson w b n T w2 b2 n2 T2 x1))
def r_X1_feverOf (w : Nat) (b : Nat) (n : Nat) (T : ct_T) (w2 : Nat) (b2 : Nat) (n2 : Nat) (T2 : ct_T) (x1 : Int32) : Int32 := if (e_X1_checkPerson w b n T w2 b2 n2 T2 x1) = 0 then (((ct_fe T) x1.toNatClampNeg)) else ((0 : Int32))
abbrev rm_X1_feverOf : Room := { frames := 7, cells := 1, slots := 6, locals := 111 }
set_option maxHeartbeats 4000000 in
set_option maxRecDepth 100000 in
theorem k_X1_feverOf {l : Launch} (hst : l.stackTraces = false) (D : va_G) (cI cZ cL : ClassId) (h : Nat) (a a2 : Nat → Nat) (w : Nat) (b : Nat) (n : Nat) (T : ct_T) (w2 : Nat) (b2 : Nat) (n2 : Nat) (T2 : ct_T) (hd5 : w ≤ 5) (hd4 : b ≤ 4) (hd30 : n ≤ 30) (he5 : w2 ≤ 5) (he4 : b2 ≤ 4) (he30 : n2 ≤ 30) (x1 : Int32)  : TX l yX1_feverOf wsX1_feverOf rm_X1_feverOf D cI cZ cL [.ref h, .int x1] (wb_c h a a2 cI cZ w b n T w2 b2 n2 T2) (e_X1_feverOf w b n T w2 b2 n2 T2 x1) (some (.int (r_X1_feverOf w b n T w2 b2 n2 T2 x1))) (wb_c h a a2 cI cZ w b n T w2 b2 n2 T2) := by
  refine TX.of (own := RX1) (cc := cX1_feverOf) (maxL := 2) (ret := (some .int)) (lv0 := [(0, .ref h), (1, .int x1)]) (by decide) rfl rfl (Nat.le_of_ble_eq_true rfl) rfl ?_
  intro p e s m args below meth c A hc hT hout hw ls hl
  obtain ⟨hx, hb, hr, hml, hown, hts, hlk, hK, hA⟩ := id hc
  have hiX0 : ∀ w ∈ u_ws RX0 TX0 16, w ∈ wsX1_feverOf := fun _ h => List.mem_cons_of_mem _ (List.mem_append_left _ (List.mem_append_right _ h))
  have hiX1 : ∀ w ∈ u_ws RX1 TX1 2, w ∈ wsX1_feverOf := fun _ h => List.mem_cons_of_mem _ (List.mem_append_left _ (List.mem_append_left _ (List.mem_append_right _ h)))
  refine lv_aload_n hx hb dX1_feverOf_0 rfl (lv_at hl 0 rfl) ?_
  refine lv_iload_n hx hb dX1_feverOf_1 rfl (lv_at hl 1 rfl) ?_
  refine t_callV0 (n := 1) hc hT hw (k_X1_checkPerson hst D cI cZ cL h a a2 w b n T w2 b2 n2 T2 hd5 hd4 hd30 he5 he4 he30 x1) gX1_feverOf_X1_checkPerson rfl (by decide +kernel) ⟨Nat.le_of_ble_eq_true rfl, Nat.le_of_ble_eq_true rfl⟩ 0 (wo_X1_H ..) rfl rfl rfl (rest := []) rfl hl.1 (Nat.le_of_ble_eq_true rfl) (st1 := []) rfl dX1_feverOf_2 (k2 := 1) (s2 := 6) rfl rfl ⟨Nat.le_of_ble_eq_true rfl, Nat.le_of_ble_eq_true rfl⟩ (fun he1 H locs q9 ce9 hw h1 h2 h3 => ?_) (fun he1 H locs hw => ?_)
  · rw [show e_X1_feverOf w b n T w2 b2 n2 T2 x1 = (e_X1_checkPerson w b n T w2 b2 n2 T2 x1) from by rw [e_X1_feverOf, if_neg he1]]
    exact t_out hc hout hw he1 h1 h2 h3 (Nat.le_of_ble_eq_true rfl) (Nat.le_of_ble_eq_true rfl)
  · have hv2 : vp_in x1 30 := vp_x (v_X1_checkPerson he1).1 (v_X1_checkPerson he1).2 hd30 (by omega)
    refine lv_aload_n hx hb dX1_feverOf_5 rfl (lv_at hl 0 rfl) ?_
    refine g_get (v := .ref (a 0)) hc hw hiX1 0 0 (wo_X1_H ..) rfl (by decide) (List.mem_of_getElem? (i := 1) rfl) (wv_X1_H_0 ..) dX1_feverOf_6 ?_
    refine g_get (v := .ref (a 10)) hc hw hiX0 1 10 (wo_X1_T ..) rfl (by decide) (List.mem_of_getElem? (i := 2) rfl) (wv_X1_T_10 ..) dX1_feverOf_9 ?_
    refine lv_iload_n hx hb dX1_feverOf_12 rfl (lv_at hl 1 rfl) ?_
    refine g_iald (f := (ct_fe T)) hc hw 6 (wr_X1_T_10 ..) hv2 dX1_feverOf_13 ?_
    refine t_end (show e_X1_feverOf w b n T w2 b2 n2 T2 x1 = 0 from by rw [e_X1_feverOf, if_pos he1]) (fun _ _ z1 z2 => ?_)
    subst z1; subst z2
    rw [show r_X1_feverOf w b n T w2 b2 n2 T2 x1 = ((ct_fe T) x1.toNatClampNeg) from by rw [r_X1_feverOf, if_pos he1]]
    exact g_ret hc hw rfl (Nat.le_of_ble_eq_true rfl) (Nat.le_of_ble_eq_true rfl) dX1_feverOf_14

def e_X1_wardOf (w : Nat) (b : Nat) (n : Nat) (T : ct_T) (w2 : Nat) (b2 : Nat) (n2 : Nat) (T2 : ct_T) (x1 : Int32) : Nat := if (e_X1_checkPerson w b n T w2 b2 n2 T2 x1) = 0 then (0) else ((e_X1_checkPerson w b n T w2 b2 n2 T2 x1))
def r_X1_wardOf (w : Nat) (b : Nat) (n : Nat) (T : ct_T) (w2 : Nat) (b2 : Nat) (n2 : Nat) (T2 : ct_T) (x1 : Int32) : Int32 := if (e_X1_checkPerson w b n T w2 b2 n2 T2 x1) = 0 then ((r_X0_numberOf w b n T x1 (1 : Int32))) else ((0 : Int32))
abbrev rm_X1_wardOf : Room := { frames := 7, cells := 1, slots := 6, locals := 111 }
set_option maxHeartbeats 4000000 in
set_option maxRecDepth 100000 in
theorem k_X1_wardOf {l : Launch} (hst : l.stackTraces = false) (D : va_G) (cI cZ cL : ClassId) (h : Nat) (a a2 : Nat → Nat) (w : Nat) (b : Nat) (n : Nat) (T : ct_T) (w2 : Nat) (b2 : Nat) (n2 : Nat) (T2 : ct_T) (hd5 : w ≤ 5) (hd4 : b ≤ 4) (hd30 : n ≤ 30) (he5 : w2 ≤ 5) (he4 : b2 ≤ 4) (he30 : n2 ≤ 30) (x1 : Int32)  : TX l yX1_wardOf wsX1_wardOf rm_X1_wardOf D cI cZ cL [.ref h, .int x1] (wb_c h a a2 cI cZ w b n T w2 b2 n2 T2) (e_X1_wardOf w b n T w2 b2 n2 T2 x1) (some (.int (r_X1_wardOf w b n T w2 b2 n2 T2 x1))) (wb_c h a a2 cI cZ w b n T w2 b2 n2 T2) := by
  refine TX.of (own := RX1) (cc := cX1_wardOf) (maxL := 2) (ret := (some .int)) (lv0 := [(0, .ref h), (1, .int x1)]) (by decide) rfl rfl (Nat.le_of_ble_eq_true rfl) rfl ?_
  intro p e s m args below meth c A hc hT hout hw ls hl
  obtain ⟨hx, hb, hr, hml, hown, hts, hlk, hK, hA⟩ := id hc
  have hiX1 : ∀ w ∈ u_ws RX1 TX1 2, w ∈ wsX1_wardOf := fun _ h => List.mem_cons_of_mem _ (List.mem_append_left _ (List.mem_append_left _ (List.mem_append_right _ h)))
  refine lv_aload_n hx hb dX1_wardOf_0 rfl (lv_at hl 0 rfl) ?_
  refine lv_iload_n hx hb dX1_wardOf_1 rfl (lv_at hl 1 rfl) ?_
  refine t_callV0 (n := 1) hc hT hw (k_X1_checkPerson hst D cI cZ cL h a a2 w b n T w2 b2 n2 T2 hd5 hd4 hd30 he5 he4 he30 x1) gX1_wardOf_X1_checkPerson rfl (by decide +kernel) ⟨Nat.le_of_ble_eq_true rfl, Nat.le_of_ble_eq_true rfl⟩ 0 (wo_X1_H ..) rfl rfl rfl (rest := []) rfl hl.1 (Nat.le_of_ble_eq_true rfl) (st1 := []) rfl dX1_wardOf_2 (k2 := 1) (s2 := 6) rfl rfl ⟨Nat.le_of_ble_eq_true rfl, Nat.le_of_ble_eq_true rfl⟩ (fun he1 H locs q9 ce9 hw h1 h2 h3 => ?_) (fun he1 H locs hw => ?_)
  · rw [show e_X1_wardOf w b n T w2 b2 n2 T2 x1 = (e_X1_checkPerson w b n T w2 b2 n2 T2 x1) from by rw [e_X1_wardOf, if_neg he1]]
    exact t_out hc hout hw he1 h1 h2 h3 (Nat.le_of_ble_eq_true rfl) (Nat.le_of_ble_eq_true rfl)
  · have hv2 : vp_in x1 30 := vp_x (v_X1_checkPerson he1).1 (v_X1_checkPerson he1).2 hd30 (by omega)
    refine lv_aload_n hx hb dX1_wardOf_5 rfl (lv_at hl 0 rfl) ?_
    refine g_get (v := .ref (a 0)) hc hw hiX1 0 0 (wo_X1_H ..) rfl (by decide) (List.mem_of_getElem? (i := 1) rfl) (wv_X1_H_0 ..) dX1_wardOf_6 ?_
    refine lv_iload_n hx hb dX1_wardOf_9 rfl (lv_at hl 1 rfl) ?_
    refine lv_iconst (v := 1) hx hb dX1_wardOf_10 (by decide) ?_
    refine g_callV (n := 2) hc hw (k_X0_numberOf l D cI cZ cL a w b n T hd5 hd4 hd30 x1 (1 : Int32) hv2) gX1_wardOf_X0_numberOf rfl (by decide +kernel) ⟨Nat.le_of_ble_eq_true rfl, Nat.le_of_ble_eq_true rfl⟩ (wo_X0_T ..) rfl rfl [1, 2, 3, 4, 5, 6, 7, 8, 9, 10, 11] [0, 12, 13, 14, 15, 16, 17, 18, 19, 20, 21, 22] [0, 12, 13, 14, 15, 16, 17, 18, 19, 20, 21, 22, 1, 2, 3, 4, 5, 6, 7, 8, 9, 10, 11] (wr := (wb_c0 h a a2 :: wt_c a2 cI cZ w2 b2 n2 T2)) (w' := (wb_c h a a2 cI cZ w b n T w2 b2 n2 T2)) (wpC_X1_T ..) (wpR_X1_T ..) (by decide) (by decide) (by decide) (wpJ_X1_T ..) (by decide) rfl (rest := []) rfl hl.1 (Nat.le_of_ble_eq_true rfl) (st1 := [.int (r_X0_numberOf w b n T x1 (1 : Int32))]) rfl dX1_wardOf_11 (k2 := 1) (s2 := 6) rfl rfl ⟨Nat.le_of_ble_eq_true rfl, Nat.le_of_ble_eq_true rfl⟩ (fun H locs hw => ?_)
    refine t_end (show e_X1_wardOf w b n T w2 b2 n2 T2 x1 = 0 from by rw [e_X1_wardOf, if_pos he1]) (fun _ _ z1 z2 => ?_)
    subst z1; subst z2
    rw [show r_X1_wardOf w b n T w2 b2 n2 T2 x1 = (r_X0_numberOf w b n T x1 (1 : Int32)) from by rw [r_X1_wardOf, if_pos he1]]
    exact g_ret hc hw rfl (Nat.le_of_ble_eq_true rfl) (Nat.le_of_ble_eq_true rfl) dX1_wardOf_14

def e_X1_bargeOf (w : Nat) (b : Nat) (n : Nat) (T : ct_T) (w2 : Nat) (b2 : Nat) (n2 : Nat) (T2 : ct_T) (x1 : Int32) : Nat := if (e_X1_checkPerson w b n T w2 b2 n2 T2 x1) = 0 then (0) else ((e_X1_checkPerson w b n T w2 b2 n2 T2 x1))
def r_X1_bargeOf (w : Nat) (b : Nat) (n : Nat) (T : ct_T) (w2 : Nat) (b2 : Nat) (n2 : Nat) (T2 : ct_T) (x1 : Int32) : Int32 := if (e_X1_checkPerson w b n T w2 b2 n2 T2 x1) = 0 then ((r_X0_numberOf w b n T x1 (0 : Int32))) else ((0 : Int32))
abbrev rm_X1_bargeOf : Room := { frames := 7, cells := 1, slots := 6, locals := 111 }
set_option maxHeartbeats 4000000 in
set_option maxRecDepth 100000 in
theorem k_X1_bargeOf {l : Launch} (hst : l.stackTraces = false) (D : va_G) (cI cZ cL : ClassId) (h : Nat) (a a2 : Nat → Nat) (w : Nat) (b : Nat) (n : Nat) (T : ct_T) (w2 : Nat) (b2 : Nat) (n2 : Nat) (T2 : ct_T) (hd5 : w ≤ 5) (hd4 : b ≤ 4) (hd30 : n ≤ 30) (he5 : w2 ≤ 5) (he4 : b2 ≤ 4) (he30 : n2 ≤ 30) (x1 : Int32)  : TX l yX1_bargeOf wsX1_bargeOf rm_X1_bargeOf D cI cZ cL [.ref h, .int x1] (wb_c h a a2 cI cZ w b n T w2 b2 n2 T2) (e_X1_bargeOf w b n T w2 b2 n2 T2 x1) (some (.int (r_X1_bargeOf w b n T w2 b2 n2 T2 x1))) (wb_c h a a2 cI cZ w b n T w2 b2 n2 T2) := by
  refine TX.of (own := RX1) (cc := cX1_bargeOf) (maxL := 2) (ret := (some .int)) (lv0 := [(0, .ref h), (1, .int x1)]) (by decide) rfl rfl (Nat.le_of_ble_eq_true rfl) rfl ?_
  intro p e s m args below meth c A hc hT hout hw ls hl
  obtain ⟨hx, hb, hr, hml, hown, hts, hlk, hK, hA⟩ := id hc
  have hiX1 : ∀ w ∈ u_ws RX1 TX1 2, w ∈ wsX1_bargeOf := fun _ h => List.mem_cons_of_mem _ (List.mem_append_left _ (List.mem_append_left _ (List.mem_append_right _ h)))
  refine lv_aload_n hx hb dX1_bargeOf_0 rfl (lv_at hl 0 rfl) ?_
  refine lv_iload_n hx hb dX1_bargeOf_1 rfl (lv_at hl 1 rfl) ?_
  refine t_callV0 (n := 1) hc hT hw (k_X1_checkPerson hst D cI cZ cL h a a2 w b n T w2 b2 n2 T2 hd5 hd4 hd30 he5 he4 he30 x1) gX1_bargeOf_X1_checkPerson rfl (by decide +kernel) ⟨Nat.le_of_ble_eq_true rfl, Nat.le_of_ble_eq_true rfl⟩ 0 (wo_X1_H ..) rfl rfl rfl (rest := []) rfl hl.1 (Nat.le_of_ble_eq_true rfl) (st1 := []) rfl dX1_bargeOf_2 (k2 := 1) (s2 := 6) rfl rfl ⟨Nat.le_of_ble_eq_true rfl, Nat.le_of_ble_eq_true rfl⟩ (fun he1 H locs q9 ce9 hw h1 h2 h3 => ?_) (fun he1 H locs hw => ?_)
  · rw [show e_X1_bargeOf w b n T w2 b2 n2 T2 x1 = (e_X1_checkPerson w b n T w2 b2 n2 T2 x1) from by rw [e_X1_bargeOf, if_neg he1]]
    exact t_out hc hout hw he1 h1 h2 h3 (Nat.le_of_ble_eq_true rfl) (Nat.le_of_ble_eq_true rfl)
  · have hv2 : vp_in x1 30 := vp_x (v_X1_checkPerson he1).1 (v_X1_checkPerson he1).2 hd30 (by omega)
    refine lv_aload_n hx hb dX1_bargeOf_5 rfl (lv_at hl 0 rfl) ?_
    refine g_get (v := .ref (a 0)) hc hw hiX1 0 0 (wo_X1_H ..) rfl (by decide) (List.mem_of_getElem? (i := 1) rfl) (wv_X1_H_0 ..) dX1_bargeOf_6 ?_
    refine lv_iload_n hx hb dX1_bargeOf_9 rfl (lv_at hl 1 rfl) ?_
    refine lv_iconst (v := 0) hx hb dX1_bargeOf_10 (by decide) ?_
    refine g_callV (n := 2) hc hw (k_X0_numberOf l D cI cZ cL a w b n T hd5 hd4 hd30 x1 (0 : Int32) hv2) gX1_bargeOf_X0_numberOf rfl (by decide +kernel) ⟨Nat.le_of_ble_eq_true rfl, Nat.le_of_ble_eq_true rfl⟩ (wo_X0_T ..) rfl rfl [1, 2, 3, 4, 5, 6, 7, 8, 9, 10, 11] [0, 12, 13, 14, 15, 16, 17, 18, 19, 20, 21, 22] [0, 12, 13, 14, 15, 16, 17, 18, 19, 20, 21, 22, 1, 2, 3, 4, 5, 6, 7, 8, 9, 10, 11] (wr := (wb_c0 h a a2 :: wt_c a2 cI cZ w2 b2 n2 T2)) (w' := (wb_c h a a2 cI cZ w b n T w2 b2 n2 T2)) (wpC_X1_T ..) (wpR_X1_T ..) (by decide) (by decide) (by decide) (wpJ_X1_T ..) (by decide) rfl (rest := []) rfl hl.1 (Nat.le_of_ble_eq_true rfl) (st1 := [.int (r_X0_numberOf w b n T x1 (0 : Int32))]) rfl dX1_bargeOf_11 (k2 := 1) (s2 := 6) rfl rfl ⟨Nat.le_of_ble_eq_true rfl, Nat.le_of_ble_eq_true rfl⟩ (fun H locs hw => ?_)
    refine t_end (show e_X1_bargeOf w b n T w2 b2 n2 T2 x1 = 0 from by rw [e_X1_bargeOf, if_pos he1]) (fun _ _ z1 z2 => ?_)
    subst z1; subst z2
    rw [show r_X1_bargeOf w b n T w2 b2 n2 T2 x1 = (r_X0_numberOf w b n T x1 (0 : Int32)) from by rw [r_X1_bargeOf, if_pos he1]]
    exact g_ret hc hw rfl (Nat.le_of_ble_eq_true rfl) (Nat.le_of_ble_eq_true rfl) dX1_bargeOf_14

def e_X1_isHome (w : Nat) (b : Nat) (n : Nat) (T : ct_T) (w2 : Nat) (b2 : Nat) (n2 : Nat) (T2 : ct_T) (x1 : Int32) : Nat := if (e_X1_checkPerson w b n T w2 b2 n2 T2 x1) = 0 then (if ((ct_wh T) x1.toNatClampNeg) = (2 : Int32) then (0) else (0)) else ((e_X1_checkPerson w b n T w2 b2 n2 T2 x1))
def r_X1_isHome (w : Nat) (b : Nat) (n : Nat) (T : ct_T) (w2 : Nat) (b2 : Nat) (n2 : Nat) (T2 : ct_T) (x1 : Int32) : Int32 := if (e_X1_checkPerson w b n T w2 b2 n2 T2 x1) = 0 then (if ((ct_wh T) x1.toNatClampNeg) = (2 : Int32) then ((1 : Int32)) else ((0 : Int32))) else ((0 : Int32))
abbrev rm_X1_isHome : Room := { frames := 7, cells := 1, slots := 6, locals := 111 }
set_option maxHeartbeats 4000000 in
set_option maxRecDepth 100000 in
theorem k_X1_isHome {l : Launch} (hst : l.stackTraces = false) (D : va_G) (cI cZ cL : ClassId) (h : Nat) (a a2 : Nat → Nat) (w : Nat) (b : Nat) (n : Nat) (T : ct_T) (w2 : Nat) (b2 : Nat) (n2 : Nat) (T2 : ct_T) (hd5 : w ≤ 5) (hd4 : b ≤ 4) (hd30 : n ≤ 30) (he5 : w2 ≤ 5) (he4 : b2 ≤ 4) (he30 : n2 ≤ 30) (x1 : Int32)  : TX l yX1_isHome wsX1_isHome rm_X1_isHome D cI cZ cL [.ref h, .int x1] (wb_c h a a2 cI cZ w b n T w2 b2 n2 T2) (e_X1_isHome w b n T w2 b2 n2 T2 x1) (some (.int (r_X1_isHome w b n T w2 b2 n2 T2 x1))) (wb_c h a a2 cI cZ w b n T w2 b2 n2 T2) := by
  refine TX.of (own := RX1) (cc := cX1_isHome) (maxL := 2) (ret := (some .boolean)) (lv0 := [(0, .ref h), (1, .int x1)]) (by decide) rfl rfl (Nat.le_of_ble_eq_true rfl) rfl ?_
  intro p e s m args below meth c A hc hT hout hw ls hl
  obtain ⟨hx, hb, hr, hml, hown, hts, hlk, hK, hA⟩ := id hc
  have hiX0 : ∀ w ∈ u_ws RX0 TX0 16, w ∈ wsX1_isHome := fun _ h => List.mem_cons_of_mem _ (List.mem_append_left _ (List.mem_append_right _ h))
  have hiX1 : ∀ w ∈ u_ws RX1 TX1 2, w ∈ wsX1_isHome := fun _ h => List.mem_cons_of_mem _ (List.mem_append_left _ (List.mem_append_left _ (List.mem_append_right _ h)))
  refine lv_aload_n hx hb dX1_isHome_0 rfl (lv_at hl 0 rfl) ?_
  refine lv_iload_n hx hb dX1_isHome_1 rfl (lv_at hl 1 rfl) ?_
  refine t_callV0 (n := 1) hc hT hw (k_X1_checkPerson hst D cI cZ cL h a a2 w b n T w2 b2 n2 T2 hd5 hd4 hd30 he5 he4 he30 x1) gX1_isHome_X1_checkPerson rfl (by decide +kernel) ⟨Nat.le_of_ble_eq_true rfl, Nat.le_of_ble_eq_true rfl⟩ 0 (wo_X1_H ..) rfl rfl rfl (rest := []) rfl hl.1 (Nat.le_of_ble_eq_true rfl) (st1 := []) rfl dX1_isHome_2 (k2 := 1) (s2 := 6) rfl rfl ⟨Nat.le_of_ble_eq_true rfl, Nat.le_of_ble_eq_true rfl⟩ (fun he1 H locs q9 ce9 hw h1 h2 h3 => ?_) (fun he1 H locs hw => ?_)
  · rw [show e_X1_isHome w b n T w2 b2 n2 T2 x1 = (e_X1_checkPerson w b n T w2 b2 n2 T2 x1) from by rw [e_X1_isHome, if_neg he1]]
    exact t_out hc hout hw he1 h1 h2 h3 (Nat.le_of_ble_eq_true rfl) (Nat.le_of_ble_eq_true rfl)
  · have hv2 : vp_in x1 30 := vp_x (v_X1_checkPerson he1).1 (v_X1_checkPerson he1).2 hd30 (by omega)
    refine lv_aload_n hx hb dX1_isHome_5 rfl (lv_at hl 0 rfl) ?_
    refine g_get (v := .ref (a 0)) hc hw hiX1 0 0 (wo_X1_H ..) rfl (by decide) (List.mem_of_getElem? (i := 1) rfl) (wv_X1_H_0 ..) dX1_isHome_6 ?_
    refine g_get (v := .ref (a 11)) hc hw hiX0 1 11 (wo_X1_T ..) rfl (by decide) (List.mem_of_getElem? (i := 2) rfl) (wv_X1_T_11 ..) dX1_isHome_9 ?_
    refine lv_iload_n hx hb dX1_isHome_12 rfl (lv_at hl 1 rfl) ?_
    refine g_iald (f := (ct_wh T)) hc hw 7 (wr_X1_T_11 ..) hv2 dX1_isHome_13 ?_
    refine lv_iconst (v := 2) hx hb dX1_isHome_14 (by decide) ?_
    refine lv_icmp_ne (tgt := 22) hx hb dX1_isHome_15 (by decide) (fun c3 => ?_) (fun c3 => ?_)
    · refine lv_iconst (v := 0) hx hb dX1_isHome_22 (by decide) ?_
      refine t_end (show e_X1_isHome w b n T w2 b2 n2 T2 x1 = 0 from by rw [e_X1_isHome, if_pos he1, if_neg c3]) (fun _ _ z1 z2 => ?_)
      subst z1; subst z2
      rw [show r_X1_isHome w b n T w2 b2 n2 T2 x1 = (0 : Int32) from by rw [r_X1_isHome, if_pos he1, if_neg c3]]
      exact g_zret hc hw rfl rfl (Nat.le_of_ble_eq_true rfl) (Nat.le_of_ble_eq_true rfl) dX1_isHome_23
    · refine lv_iconst (v := 1) hx hb dX1_isHome_18 (by decide) ?_
      refine lv_goto (tgt := 23) hx hb dX1_isHome_19 (by decide) ?_
      refine t_end (show e_X1_isHome w b n T w2 b2 n2 T2 x1 = 0 from by rw [e_X1_isHome, if_pos he1, if_pos c3]) (fun _ _ z1 z2 => ?_)
      subst z1; subst z2
      rw [show r_X1_isHome w b n T w2 b2 n2 T2 x1 = (1 : Int32) from by rw [r_X1_isHome, if_pos he1, if_pos c3]]
      exact g_zret hc hw rfl rfl (Nat.le_of_ble_eq_true rfl) (Nat.le_of_ble_eq_true rfl) dX1_isHome_23
