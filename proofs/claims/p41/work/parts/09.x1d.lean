def e_X1_setBowls (w : Nat) (b : Nat) (n : Nat) (T : ct_T) (w2 : Nat) (b2 : Nat) (n2 : Nat) (T2 : ct_T) (x1 : Int32) : Nat := if x1 < (0 : Int32) then (1) else (if x1 ≤ (60 : Int32) then (0) else (1))
def r_X1_setBowls (w : Nat) (b : Nat) (n : Nat) (T : ct_T) (w2 : Nat) (b2 : Nat) (n2 : Nat) (T2 : ct_T) (x1 : Int32) : Int32 := if x1 < (0 : Int32) then ((0 : Int32)) else (if x1 ≤ (60 : Int32) then ((ct_bo T)) else ((0 : Int32)))
def s_X1_setBowls (w : Nat) (b : Nat) (n : Nat) (T : ct_T) (w2 : Nat) (b2 : Nat) (n2 : Nat) (T2 : ct_T) (x1 : Int32) : ct_T := if x1 < (0 : Int32) then (T) else (if x1 ≤ (60 : Int32) then ((cs_bo T x1)) else (T))
abbrev rm_X1_setBowls : Room := { frames := 6, cells := 1, slots := 6, locals := 90 }
set_option maxHeartbeats 4000000 in
set_option maxRecDepth 100000 in
theorem k_X1_setBowls {l : Launch} (hst : l.stackTraces = false) (D : va_G) (cI cZ cL : ClassId) (h : Nat) (a a2 : Nat → Nat) (w : Nat) (b : Nat) (n : Nat) (T : ct_T) (w2 : Nat) (b2 : Nat) (n2 : Nat) (T2 : ct_T) (hd5 : w ≤ 5) (hd4 : b ≤ 4) (hd30 : n ≤ 30) (he5 : w2 ≤ 5) (he4 : b2 ≤ 4) (he30 : n2 ≤ 30) (x1 : Int32)  : TX l yX1_setBowls wsX1_setBowls rm_X1_setBowls D cI cZ cL [.ref h, .int x1] (wb_c h a a2 cI cZ w b n T w2 b2 n2 T2) (e_X1_setBowls w b n T w2 b2 n2 T2 x1) (some (.int (r_X1_setBowls w b n T w2 b2 n2 T2 x1))) (wb_c h a a2 cI cZ w b n (s_X1_setBowls w b n T w2 b2 n2 T2 x1) w2 b2 n2 T2) := by
  refine TX.of (own := RX1) (cc := cX1_setBowls) (maxL := 3) (ret := (some .int)) (lv0 := [(0, .ref h), (1, .int x1)]) (by decide) rfl rfl (Nat.le_of_ble_eq_true rfl) rfl ?_
  intro p e s m args below meth c A hc hT hout hw ls hl
  obtain ⟨hx, hb, hr, hml, hown, hts, hlk, hK, hA⟩ := id hc
  have hiX0 : ∀ w ∈ u_ws RX0 TX0 16, w ∈ wsX1_setBowls := fun _ h => List.mem_cons_of_mem _ (List.mem_append_left _ (List.mem_append_right _ h))
  have hiX1 : ∀ w ∈ u_ws RX1 TX1 2, w ∈ wsX1_setBowls := fun _ h => List.mem_cons_of_mem _ (List.mem_append_left _ (List.mem_append_left _ (List.mem_append_right _ h)))
  refine lv_iload_n hx hb dX1_setBowls_0 rfl (lv_at hl 1 rfl) ?_
  refine lv_if_lt (tgt := 10) hx hb dX1_setBowls_1 (by decide) (fun c1 => ?_) (fun c1 => ?_)
  · exact t_throw hst hc hT hout hw hl.1 (k := 1) (show e_X1_setBowls w b n T w2 b2 n2 T2 x1 = 1 from by rw [e_X1_setBowls, if_pos c1]) (by decide) rfl gx_fit1 gx_fitn gx_bad1 gx_gd1 (List.mem_of_getElem? (i := 1) rfl) (List.mem_of_getElem? (i := 2) rfl) (fun _ h => List.mem_cons_of_mem _ (List.mem_append_right _ h)) (text := "the kitchen has 0 to 60 bowls") (by decide +kernel) dX1_setBowls_10 dX1_setBowls_13 dX1_setBowls_14 dX1_setBowls_16 dX1_setBowls_19 (Nat.le_of_ble_eq_true rfl) (Nat.le_of_ble_eq_true rfl) (Nat.le_of_ble_eq_true rfl) (Nat.le_of_ble_eq_true rfl) (Nat.le_of_ble_eq_true rfl) (Nat.le_of_ble_eq_true rfl)
  · refine lv_iload_n hx hb dX1_setBowls_4 rfl (lv_at hl 1 rfl) ?_
    refine lv_bipush (v := 60) hx hb dX1_setBowls_5 (by decide) ?_
    refine lv_icmp_le (tgt := 20) hx hb dX1_setBowls_7 (by decide) (fun c2 => ?_) (fun c2 => ?_)
    · refine lv_aload_n hx hb dX1_setBowls_20 rfl (lv_at hl 0 rfl) ?_
      refine g_get (v := .ref (a 0)) hc hw hiX1 0 0 (wo_X1_H ..) rfl (by decide) (List.mem_of_getElem? (i := 3) rfl) (wv_X1_H_0 ..) dX1_setBowls_21 ?_
      refine g_get (v := .int (ct_bo T)) hc hw hiX0 1 1 (wo_X1_T ..) rfl (by decide) (List.mem_of_getElem? (i := 4) rfl) (wv_X1_T_1 ..) dX1_setBowls_24 ?_
      refine lv_istore_n (lv' := [(2, .int (ct_bo T)), (0, .ref h), (1, .int x1)]) hx hb dX1_setBowls_27 rfl hl (by decide) rfl (fun ls hl => ?_)
      refine lv_aload_n hx hb dX1_setBowls_28 rfl (lv_at hl 1 rfl) ?_
      refine g_get (v := .ref (a 0)) hc hw hiX1 0 0 (wo_X1_H ..) rfl (by decide) (List.mem_of_getElem? (i := 3) rfl) (wv_X1_H_0 ..) dX1_setBowls_29 ?_
      refine lv_iload_n hx hb dX1_setBowls_32 rfl (lv_at hl 2 rfl) ?_
      refine g_put hc hw hiX0 tyX0 tyX0_ok nmX0 1 1 (wo_X1_T ..) rfl (by decide) (List.mem_of_getElem? (i := 4) rfl) (by decide) rfl rfl (Nat.le_of_ble_eq_true rfl) (w' := (wb_c h a a2 cI cZ w b n (cs_bo T x1) w2 b2 n2 T2)) (wp_X1_T_1 ..) dX1_setBowls_33 (fun H locs hw => ?_)
      refine lv_iload_n hx hb dX1_setBowls_36 rfl (lv_at hl 0 rfl) ?_
      refine t_end (show e_X1_setBowls w b n T w2 b2 n2 T2 x1 = 0 from by rw [e_X1_setBowls, if_neg c1, if_pos c2]) (fun _ _ z1 z2 => ?_)
      subst z1; subst z2
      rw [show r_X1_setBowls w b n T w2 b2 n2 T2 x1 = (ct_bo T) from by rw [r_X1_setBowls, if_neg c1, if_pos c2]]
      rw [show s_X1_setBowls w b n T w2 b2 n2 T2 x1 = (cs_bo T x1) from by rw [s_X1_setBowls, if_neg c1, if_pos c2]]
      exact g_ret hc hw rfl (Nat.le_of_ble_eq_true rfl) (Nat.le_of_ble_eq_true rfl) dX1_setBowls_37
    · exact t_throw hst hc hT hout hw hl.1 (k := 1) (show e_X1_setBowls w b n T w2 b2 n2 T2 x1 = 1 from by rw [e_X1_setBowls, if_neg c1, if_neg c2]) (by decide) rfl gx_fit1 gx_fitn gx_bad1 gx_gd1 (List.mem_of_getElem? (i := 1) rfl) (List.mem_of_getElem? (i := 2) rfl) (fun _ h => List.mem_cons_of_mem _ (List.mem_append_right _ h)) (text := "the kitchen has 0 to 60 bowls") (by decide +kernel) dX1_setBowls_10 dX1_setBowls_13 dX1_setBowls_14 dX1_setBowls_16 dX1_setBowls_19 (Nat.le_of_ble_eq_true rfl) (Nat.le_of_ble_eq_true rfl) (Nat.le_of_ble_eq_true rfl) (Nat.le_of_ble_eq_true rfl) (Nat.le_of_ble_eq_true rfl) (Nat.le_of_ble_eq_true rfl)

def e_X1_layStraw (w : Nat) (b : Nat) (n : Nat) (T : ct_T) (w2 : Nat) (b2 : Nat) (n2 : Nat) (T2 : ct_T) (x1 : Int32) : Nat := if (e_X1_checkWard w b n T w2 b2 n2 T2 x1) = 0 then (0) else ((e_X1_checkWard w b n T w2 b2 n2 T2 x1))
def r_X1_layStraw (w : Nat) (b : Nat) (n : Nat) (T : ct_T) (w2 : Nat) (b2 : Nat) (n2 : Nat) (T2 : ct_T) (x1 : Int32) : Int32 := if (e_X1_checkWard w b n T w2 b2 n2 T2 x1) = 0 then (((ct_st T) x1.toNatClampNeg)) else ((0 : Int32))
def s_X1_layStraw (w : Nat) (b : Nat) (n : Nat) (T : ct_T) (w2 : Nat) (b2 : Nat) (n2 : Nat) (T2 : ct_T) (x1 : Int32) : ct_T := if (e_X1_checkWard w b n T w2 b2 n2 T2 x1) = 0 then ((cs_st T (upd (ct_st T) x1.toNatClampNeg (0 : Int32)))) else (T)
abbrev rm_X1_layStraw : Room := { frames := 7, cells := 1, slots := 6, locals := 111 }
set_option maxHeartbeats 4000000 in
set_option maxRecDepth 100000 in
theorem k_X1_layStraw {l : Launch} (hst : l.stackTraces = false) (D : va_G) (cI cZ cL : ClassId) (h : Nat) (a a2 : Nat → Nat) (w : Nat) (b : Nat) (n : Nat) (T : ct_T) (w2 : Nat) (b2 : Nat) (n2 : Nat) (T2 : ct_T) (hd5 : w ≤ 5) (hd4 : b ≤ 4) (hd30 : n ≤ 30) (he5 : w2 ≤ 5) (he4 : b2 ≤ 4) (he30 : n2 ≤ 30) (x1 : Int32)  : TX l yX1_layStraw wsX1_layStraw rm_X1_layStraw D cI cZ cL [.ref h, .int x1] (wb_c h a a2 cI cZ w b n T w2 b2 n2 T2) (e_X1_layStraw w b n T w2 b2 n2 T2 x1) (some (.int (r_X1_layStraw w b n T w2 b2 n2 T2 x1))) (wb_c h a a2 cI cZ w b n (s_X1_layStraw w b n T w2 b2 n2 T2 x1) w2 b2 n2 T2) := by
  refine TX.of (own := RX1) (cc := cX1_layStraw) (maxL := 3) (ret := (some .int)) (lv0 := [(0, .ref h), (1, .int x1)]) (by decide) rfl rfl (Nat.le_of_ble_eq_true rfl) rfl ?_
  intro p e s m args below meth c A hc hT hout hw ls hl
  obtain ⟨hx, hb, hr, hml, hown, hts, hlk, hK, hA⟩ := id hc
  have hiX0 : ∀ w ∈ u_ws RX0 TX0 16, w ∈ wsX1_layStraw := fun _ h => List.mem_cons_of_mem _ (List.mem_append_left _ (List.mem_append_right _ h))
  have hiX1 : ∀ w ∈ u_ws RX1 TX1 2, w ∈ wsX1_layStraw := fun _ h => List.mem_cons_of_mem _ (List.mem_append_left _ (List.mem_append_left _ (List.mem_append_right _ h)))
  refine lv_aload_n hx hb dX1_layStraw_0 rfl (lv_at hl 0 rfl) ?_
  refine lv_iload_n hx hb dX1_layStraw_1 rfl (lv_at hl 1 rfl) ?_
  refine t_callV0 (n := 1) hc hT hw (k_X1_checkWard hst D cI cZ cL h a a2 w b n T w2 b2 n2 T2 hd5 hd4 hd30 he5 he4 he30 x1) gX1_layStraw_X1_checkWard rfl (by decide +kernel) ⟨Nat.le_of_ble_eq_true rfl, Nat.le_of_ble_eq_true rfl⟩ 0 (wo_X1_H ..) rfl rfl rfl (rest := []) rfl hl.1 (Nat.le_of_ble_eq_true rfl) (st1 := []) rfl dX1_layStraw_2 (k2 := 1) (s2 := 6) rfl rfl ⟨Nat.le_of_ble_eq_true rfl, Nat.le_of_ble_eq_true rfl⟩ (fun he1 H locs q9 ce9 hw h1 h2 h3 => ?_) (fun he1 H locs hw => ?_)
  · rw [show e_X1_layStraw w b n T w2 b2 n2 T2 x1 = (e_X1_checkWard w b n T w2 b2 n2 T2 x1) from by rw [e_X1_layStraw, if_neg he1]]
    exact t_out hc hout hw he1 h1 h2 h3 (Nat.le_of_ble_eq_true rfl) (Nat.le_of_ble_eq_true rfl)
  · have hv2 : vp_in x1 5 := vp_x (v_X1_checkWard he1).1 (v_X1_checkWard he1).2 hd5 (by omega)
    refine lv_aload_n hx hb dX1_layStraw_5 rfl (lv_at hl 0 rfl) ?_
    refine g_get (v := .ref (a 0)) hc hw hiX1 0 0 (wo_X1_H ..) rfl (by decide) (List.mem_of_getElem? (i := 1) rfl) (wv_X1_H_0 ..) dX1_layStraw_6 ?_
    refine g_get (v := .ref (a 5)) hc hw hiX0 1 5 (wo_X1_T ..) rfl (by decide) (List.mem_of_getElem? (i := 2) rfl) (wv_X1_T_5 ..) dX1_layStraw_9 ?_
    refine lv_iload_n hx hb dX1_layStraw_12 rfl (lv_at hl 1 rfl) ?_
    refine g_iald (f := (ct_st T)) hc hw 3 (wr_X1_T_5 ..) hv2 dX1_layStraw_13 ?_
    refine lv_istore_n (lv' := [(2, .int ((ct_st T) x1.toNatClampNeg)), (0, .ref h), (1, .int x1)]) hx hb dX1_layStraw_14 rfl hl (by decide) rfl (fun ls hl => ?_)
    refine lv_aload_n hx hb dX1_layStraw_15 rfl (lv_at hl 1 rfl) ?_
    refine g_get (v := .ref (a 0)) hc hw hiX1 0 0 (wo_X1_H ..) rfl (by decide) (List.mem_of_getElem? (i := 1) rfl) (wv_X1_H_0 ..) dX1_layStraw_16 ?_
    refine g_get (v := .ref (a 5)) hc hw hiX0 1 5 (wo_X1_T ..) rfl (by decide) (List.mem_of_getElem? (i := 2) rfl) (wv_X1_T_5 ..) dX1_layStraw_19 ?_
    refine lv_iload_n hx hb dX1_layStraw_22 rfl (lv_at hl 2 rfl) ?_
    refine lv_iconst (v := 0) hx hb dX1_layStraw_23 (by decide) ?_
    refine g_iast (f := (ct_st T)) hc hw 3 (wr_X1_T_5 ..) hv2 (w' := (wb_c h a a2 cI cZ w b n (cs_st T (upd (ct_st T) x1.toNatClampNeg (0 : Int32))) w2 b2 n2 T2)) (wu_X1_T_5 ..) dX1_layStraw_24 (fun H locs hw => ?_)
    refine lv_iload_n hx hb dX1_layStraw_25 rfl (lv_at hl 0 rfl) ?_
    refine t_end (show e_X1_layStraw w b n T w2 b2 n2 T2 x1 = 0 from by rw [e_X1_layStraw, if_pos he1]) (fun _ _ z1 z2 => ?_)
    subst z1; subst z2
    rw [show r_X1_layStraw w b n T w2 b2 n2 T2 x1 = ((ct_st T) x1.toNatClampNeg) from by rw [r_X1_layStraw, if_pos he1]]
    rw [show s_X1_layStraw w b n T w2 b2 n2 T2 x1 = (cs_st T (upd (ct_st T) x1.toNatClampNeg (0 : Int32))) from by rw [s_X1_layStraw, if_pos he1]]
    exact g_ret hc hw rfl (Nat.le_of_ble_eq_true rfl) (Nat.le_of_ble_eq_true rfl) dX1_layStraw_26

def e_X1_carry (w : Nat) (b : Nat) (n : Nat) (T : ct_T) (w2 : Nat) (b2 : Nat) (n2 : Nat) (T2 : ct_T) (x1 : Int32) (x2 : Int32) : Nat := if (e_X1_checkPerson w b n T w2 b2 n2 T2 x1) = 0 then (if (e_X1_checkWard w b n T w2 b2 n2 T2 x2) = 0 then (if (r_X0_numberOf w b n T x1 (1 : Int32)) = (-1 : Int32) then (2) else (if (r_X0_numberOf w b n T x1 (1 : Int32)) = x2 then (2) else (if (r_X0_freeIn w b n T x2) = (0 : Int32) then (2) else (0)))) else ((e_X1_checkWard w b n T w2 b2 n2 T2 x2))) else ((e_X1_checkPerson w b n T w2 b2 n2 T2 x1))
def r_X1_carry (w : Nat) (b : Nat) (n : Nat) (T : ct_T) (w2 : Nat) (b2 : Nat) (n2 : Nat) (T2 : ct_T) (x1 : Int32) (x2 : Int32) : Int32 := if (e_X1_checkPerson w b n T w2 b2 n2 T2 x1) = 0 then (if (e_X1_checkWard w b n T w2 b2 n2 T2 x2) = 0 then (if (r_X0_numberOf w b n T x1 (1 : Int32)) = (-1 : Int32) then ((0 : Int32)) else (if (r_X0_numberOf w b n T x1 (1 : Int32)) = x2 then ((0 : Int32)) else (if (r_X0_freeIn w b n T x2) = (0 : Int32) then ((0 : Int32)) else ((r_X0_numberOf w b n T x1 (1 : Int32)))))) else ((0 : Int32))) else ((0 : Int32))
def s_X1_carry (w : Nat) (b : Nat) (n : Nat) (T : ct_T) (w2 : Nat) (b2 : Nat) (n2 : Nat) (T2 : ct_T) (x1 : Int32) (x2 : Int32) : ct_T := if (e_X1_checkPerson w b n T w2 b2 n2 T2 x1) = 0 then (if (e_X1_checkWard w b n T w2 b2 n2 T2 x2) = 0 then (if (r_X0_numberOf w b n T x1 (1 : Int32)) = (-1 : Int32) then (T) else (if (r_X0_numberOf w b n T x1 (1 : Int32)) = x2 then (T) else (if (r_X0_freeIn w b n T x2) = (0 : Int32) then (T) else ((s_X0_move w b n T x1 (1 : Int32) x2))))) else (T)) else (T)
abbrev rm_X1_carry : Room := { frames := 7, cells := 3, slots := 18, locals := 111 }
set_option maxHeartbeats 4000000 in
set_option maxRecDepth 100000 in
theorem k_X1_carry {l : Launch} (hst : l.stackTraces = false) (D : va_G) (cI cZ cL : ClassId) (h : Nat) (a a2 : Nat → Nat) (w : Nat) (b : Nat) (n : Nat) (T : ct_T) (w2 : Nat) (b2 : Nat) (n2 : Nat) (T2 : ct_T) (hd5 : w ≤ 5) (hd4 : b ≤ 4) (hd30 : n ≤ 30) (he5 : w2 ≤ 5) (he4 : b2 ≤ 4) (he30 : n2 ≤ 30) (x1 : Int32) (x2 : Int32)  : TX l yX1_carry wsX1_carry rm_X1_carry D cI cZ cL [.ref h, .int x1, .int x2] (wb_c h a a2 cI cZ w b n T w2 b2 n2 T2) (e_X1_carry w b n T w2 b2 n2 T2 x1 x2) (some (.int (r_X1_carry w b n T w2 b2 n2 T2 x1 x2))) (wb_c h a a2 cI cZ w b n (s_X1_carry w b n T w2 b2 n2 T2 x1 x2) w2 b2 n2 T2) := by
  refine TX.of (own := RX1) (cc := cX1_carry) (maxL := 4) (ret := (some .int)) (lv0 := [(0, .ref h), (1, .int x1), (2, .int x2)]) (by decide) rfl rfl (Nat.le_of_ble_eq_true rfl) rfl ?_
  intro p e s m args below meth c A hc hT hout hw ls hl
  obtain ⟨hx, hb, hr, hml, hown, hts, hlk, hK, hA⟩ := id hc
  have hiX1 : ∀ w ∈ u_ws RX1 TX1 2, w ∈ wsX1_carry := fun _ h => List.mem_cons_of_mem _ (List.mem_append_left _ (List.mem_append_left _ (List.mem_append_left _ (List.mem_append_right _ h))))
  refine lv_aload_n hx hb dX1_carry_0 rfl (lv_at hl 0 rfl) ?_
  refine lv_iload_n hx hb dX1_carry_1 rfl (lv_at hl 1 rfl) ?_
  refine t_callV0 (n := 1) hc hT hw (k_X1_checkPerson hst D cI cZ cL h a a2 w b n T w2 b2 n2 T2 hd5 hd4 hd30 he5 he4 he30 x1) gX1_carry_X1_checkPerson rfl (by decide +kernel) ⟨Nat.le_of_ble_eq_true rfl, Nat.le_of_ble_eq_true rfl⟩ 0 (wo_X1_H ..) rfl rfl rfl (rest := []) rfl hl.1 (Nat.le_of_ble_eq_true rfl) (st1 := []) rfl dX1_carry_2 (k2 := 1) (s2 := 6) rfl rfl ⟨Nat.le_of_ble_eq_true rfl, Nat.le_of_ble_eq_true rfl⟩ (fun he1 H locs q9 ce9 hw h1 h2 h3 => ?_) (fun he1 H locs hw => ?_)
  · rw [show e_X1_carry w b n T w2 b2 n2 T2 x1 x2 = (e_X1_checkPerson w b n T w2 b2 n2 T2 x1) from by rw [e_X1_carry, if_neg he1]]
    exact t_out hc hout hw he1 h1 h2 h3 (Nat.le_of_ble_eq_true rfl) (Nat.le_of_ble_eq_true rfl)
  · have hv2 : vp_in x1 30 := vp_x (v_X1_checkPerson he1).1 (v_X1_checkPerson he1).2 hd30 (by omega)
    refine lv_aload_n hx hb dX1_carry_5 rfl (lv_at hl 0 rfl) ?_
    refine lv_iload_n hx hb dX1_carry_6 rfl (lv_at hl 2 rfl) ?_
    refine t_callV0 (n := 1) hc hT hw (k_X1_checkWard hst D cI cZ cL h a a2 w b n T w2 b2 n2 T2 hd5 hd4 hd30 he5 he4 he30 x2) gX1_carry_X1_checkWard rfl (by decide +kernel) ⟨Nat.le_of_ble_eq_true rfl, Nat.le_of_ble_eq_true rfl⟩ 0 (wo_X1_H ..) rfl rfl rfl (rest := []) rfl hl.1 (Nat.le_of_ble_eq_true rfl) (st1 := []) rfl dX1_carry_7 (k2 := 2) (s2 := 12) rfl rfl ⟨Nat.le_of_ble_eq_true rfl, Nat.le_of_ble_eq_true rfl⟩ (fun he3 H locs q9 ce9 hw h1 h2 h3 => ?_) (fun he3 H locs hw => ?_)
    · rw [show e_X1_carry w b n T w2 b2 n2 T2 x1 x2 = (e_X1_checkWard w b n T w2 b2 n2 T2 x2) from by rw [e_X1_carry, if_pos he1, if_neg he3]]
      exact t_out hc hout hw he3 h1 h2 h3 (Nat.le_of_ble_eq_true rfl) (Nat.le_of_ble_eq_true rfl)
    · have hv4 : vp_in x2 5 := vp_x (v_X1_checkWard he3).1 (v_X1_checkWard he3).2 hd5 (by omega)
      refine lv_aload_n hx hb dX1_carry_10 rfl (lv_at hl 0 rfl) ?_
      refine g_get (v := .ref (a 0)) hc hw hiX1 0 0 (wo_X1_H ..) rfl (by decide) (List.mem_of_getElem? (i := 3) rfl) (wv_X1_H_0 ..) dX1_carry_11 ?_
      refine lv_iload_n hx hb dX1_carry_14 rfl (lv_at hl 1 rfl) ?_
      refine lv_iconst (v := 1) hx hb dX1_carry_15 (by decide) ?_
      refine g_callV (n := 2) hc hw (k_X0_numberOf l D cI cZ cL a w b n T hd5 hd4 hd30 x1 (1 : Int32) hv2) gX1_carry_X0_numberOf rfl (by decide +kernel) ⟨Nat.le_of_ble_eq_true rfl, Nat.le_of_ble_eq_true rfl⟩ (wo_X0_T ..) rfl rfl [1, 2, 3, 4, 5, 6, 7, 8, 9, 10, 11] [0, 12, 13, 14, 15, 16, 17, 18, 19, 20, 21, 22] [0, 12, 13, 14, 15, 16, 17, 18, 19, 20, 21, 22, 1, 2, 3, 4, 5, 6, 7, 8, 9, 10, 11] (wr := (wb_c0 h a a2 :: wt_c a2 cI cZ w2 b2 n2 T2)) (w' := (wb_c h a a2 cI cZ w b n T w2 b2 n2 T2)) (wpC_X1_T ..) (wpR_X1_T ..) (by decide) (by decide) (by decide) (wpJ_X1_T ..) (by decide) rfl (rest := []) rfl hl.1 (Nat.le_of_ble_eq_true rfl) (st1 := [.int (r_X0_numberOf w b n T x1 (1 : Int32))]) rfl dX1_carry_16 (k2 := 2) (s2 := 12) rfl rfl ⟨Nat.le_of_ble_eq_true rfl, Nat.le_of_ble_eq_true rfl⟩ (fun H locs hw => ?_)
      refine lv_istore_n (lv' := [(3, .int (r_X0_numberOf w b n T x1 (1 : Int32))), (0, .ref h), (1, .int x1), (2, .int x2)]) hx hb dX1_carry_19 rfl hl (by decide) rfl (fun ls hl => ?_)
      refine lv_iload_n hx hb dX1_carry_20 rfl (lv_at hl 0 rfl) ?_
      refine lv_iconst (v := (-1)) hx hb dX1_carry_21 (by decide) ?_
      refine lv_icmp_ne (tgt := 35) hx hb dX1_carry_22 (by decide) (fun c5 => ?_) (fun c5 => ?_)
      · refine lv_iload_n hx hb dX1_carry_35 rfl (lv_at hl 0 rfl) ?_
        refine lv_iload_n hx hb dX1_carry_36 rfl (lv_at hl 3 rfl) ?_
        refine lv_icmp_ne (tgt := 50) hx hb dX1_carry_37 (by decide) (fun c6 => ?_) (fun c6 => ?_)
        · refine lv_aload_n hx hb dX1_carry_50 rfl (lv_at hl 1 rfl) ?_
          refine g_get (v := .ref (a 0)) hc hw hiX1 0 0 (wo_X1_H ..) rfl (by decide) (List.mem_of_getElem? (i := 3) rfl) (wv_X1_H_0 ..) dX1_carry_51 ?_
          refine lv_iload_n hx hb dX1_carry_54 rfl (lv_at hl 3 rfl) ?_
          refine g_callV (n := 1) hc hw (k_X0_freeIn l D cI cZ cL a w b n T hd5 hd4 hd30 x2 hv4) gX1_carry_X0_freeIn rfl (by decide +kernel) ⟨Nat.le_of_ble_eq_true rfl, Nat.le_of_ble_eq_true rfl⟩ (wo_X0_T ..) rfl rfl [1, 2, 3, 4, 5, 6, 7, 8, 9, 10, 11] [0, 12, 13, 14, 15, 16, 17, 18, 19, 20, 21, 22] [0, 12, 13, 14, 15, 16, 17, 18, 19, 20, 21, 22, 1, 2, 3, 4, 5, 6, 7, 8, 9, 10, 11] (wr := (wb_c0 h a a2 :: wt_c a2 cI cZ w2 b2 n2 T2)) (w' := (wb_c h a a2 cI cZ w b n T w2 b2 n2 T2)) (wpC_X1_T ..) (wpR_X1_T ..) (by decide) (by decide) (by decide) (wpJ_X1_T ..) (by decide) rfl (rest := []) rfl hl.1 (Nat.le_of_ble_eq_true rfl) (st1 := [.int (r_X0_freeIn w b n T x2)]) rfl dX1_carry_55 (k2 := 2) (s2 := 12) rfl rfl ⟨Nat.le_of_ble_eq_true rfl, Nat.le_of_ble_eq_true rfl⟩ (fun H locs hw => ?_)
          refine lv_if_ne (tgt := 71) hx hb dX1_carry_58 (by decide) (fun c7 => ?_) (fun c7 => ?_)
          · refine lv_aload_n hx hb dX1_carry_71 rfl (lv_at hl 1 rfl) ?_
            refine g_get (v := .ref (a 0)) hc hw hiX1 0 0 (wo_X1_H ..) rfl (by decide) (List.mem_of_getElem? (i := 3) rfl) (wv_X1_H_0 ..) dX1_carry_72 ?_
            refine lv_iload_n hx hb dX1_carry_75 rfl (lv_at hl 2 rfl) ?_
            refine lv_iconst (v := 1) hx hb dX1_carry_76 (by decide) ?_
            refine lv_iload_n hx hb dX1_carry_77 rfl (lv_at hl 3 rfl) ?_
            refine g_callV (n := 3) hc hw (k_X0_move l D cI cZ cL a w b n T hd5 hd4 hd30 x1 (1 : Int32) x2 hv2) gX1_carry_X0_move rfl (by decide +kernel) ⟨Nat.le_of_ble_eq_true rfl, Nat.le_of_ble_eq_true rfl⟩ (wo_X0_T ..) rfl rfl [1, 2, 3, 4, 5, 6, 7, 8, 9, 10, 11] [0, 12, 13, 14, 15, 16, 17, 18, 19, 20, 21, 22] [0, 12, 13, 14, 15, 16, 17, 18, 19, 20, 21, 22, 1, 2, 3, 4, 5, 6, 7, 8, 9, 10, 11] (wr := (wb_c0 h a a2 :: wt_c a2 cI cZ w2 b2 n2 T2)) (w' := (wb_c h a a2 cI cZ w b n (s_X0_move w b n T x1 (1 : Int32) x2) w2 b2 n2 T2)) (wpC_X1_T ..) (wpR_X1_T ..) (by decide) (by decide) (by decide) (wpJ_X1_T ..) (by decide) rfl (rest := []) rfl hl.1 (Nat.le_of_ble_eq_true rfl) (st1 := []) rfl dX1_carry_78 (k2 := 2) (s2 := 12) rfl rfl ⟨Nat.le_of_ble_eq_true rfl, Nat.le_of_ble_eq_true rfl⟩ (fun H locs hw => ?_)
            refine lv_iload_n hx hb dX1_carry_81 rfl (lv_at hl 0 rfl) ?_
            refine t_end (show e_X1_carry w b n T w2 b2 n2 T2 x1 x2 = 0 from by rw [e_X1_carry, if_pos he1, if_pos he3, if_neg c5, if_neg c6, if_neg c7]) (fun _ _ z1 z2 => ?_)
            subst z1; subst z2
            rw [show r_X1_carry w b n T w2 b2 n2 T2 x1 x2 = (r_X0_numberOf w b n T x1 (1 : Int32)) from by rw [r_X1_carry, if_pos he1, if_pos he3, if_neg c5, if_neg c6, if_neg c7]]
            rw [show s_X1_carry w b n T w2 b2 n2 T2 x1 x2 = (s_X0_move w b n T x1 (1 : Int32) x2) from by rw [s_X1_carry, if_pos he1, if_pos he3, if_neg c5, if_neg c6, if_neg c7]]
            exact g_ret hc hw rfl (Nat.le_of_ble_eq_true rfl) (Nat.le_of_ble_eq_true rfl) dX1_carry_82
          · exact t_throw hst hc hT hout hw hl.1 (k := 2) (show e_X1_carry w b n T w2 b2 n2 T2 x1 x2 = 2 from by rw [e_X1_carry, if_pos he1, if_pos he3, if_neg c5, if_neg c6, if_pos c7]) (by decide) rfl gx_fit2 gx_fitn gx_bad2 gx_gd2 (List.mem_of_getElem? (i := 1) rfl) (List.mem_of_getElem? (i := 2) rfl) (fun _ h => List.mem_cons_of_mem _ (List.mem_append_left _ (List.mem_append_right _ h))) (text := "this ward has no free place") (by decide +kernel) dX1_carry_61 dX1_carry_64 dX1_carry_65 dX1_carry_67 dX1_carry_70 (Nat.le_of_ble_eq_true rfl) (Nat.le_of_ble_eq_true rfl) (Nat.le_of_ble_eq_true rfl) (Nat.le_of_ble_eq_true rfl) (Nat.le_of_ble_eq_true rfl) (Nat.le_of_ble_eq_true rfl)
        · exact t_throw hst hc hT hout hw hl.1 (k := 2) (show e_X1_carry w b n T w2 b2 n2 T2 x1 x2 = 2 from by rw [e_X1_carry, if_pos he1, if_pos he3, if_neg c5, if_pos c6]) (by decide) rfl gx_fit2 gx_fitn gx_bad2 gx_gd2 (List.mem_of_getElem? (i := 1) rfl) (List.mem_of_getElem? (i := 2) rfl) (fun _ h => List.mem_cons_of_mem _ (List.mem_append_left _ (List.mem_append_right _ h))) (text := "this person is in this ward") (by decide +kernel) dX1_carry_40 dX1_carry_43 dX1_carry_44 dX1_carry_46 dX1_carry_49 (Nat.le_of_ble_eq_true rfl) (Nat.le_of_ble_eq_true rfl) (Nat.le_of_ble_eq_true rfl) (Nat.le_of_ble_eq_true rfl) (Nat.le_of_ble_eq_true rfl) (Nat.le_of_ble_eq_true rfl)
      · exact t_throw hst hc hT hout hw hl.1 (k := 2) (show e_X1_carry w b n T w2 b2 n2 T2 x1 x2 = 2 from by rw [e_X1_carry, if_pos he1, if_pos he3, if_pos c5]) (by decide) rfl gx_fit2 gx_fitn gx_bad2 gx_gd2 (List.mem_of_getElem? (i := 1) rfl) (List.mem_of_getElem? (i := 2) rfl) (fun _ h => List.mem_cons_of_mem _ (List.mem_append_left _ (List.mem_append_right _ h))) (text := "this person is in no ward") (by decide +kernel) dX1_carry_25 dX1_carry_28 dX1_carry_29 dX1_carry_31 dX1_carry_34 (Nat.le_of_ble_eq_true rfl) (Nat.le_of_ble_eq_true rfl) (Nat.le_of_ble_eq_true rfl) (Nat.le_of_ble_eq_true rfl) (Nat.le_of_ble_eq_true rfl) (Nat.le_of_ble_eq_true rfl)

def e_X1_pass (w : Nat) (b : Nat) (n : Nat) (T : ct_T) (w2 : Nat) (b2 : Nat) (n2 : Nat) (T2 : ct_T) (x1 : Int32) : Nat := if (e_X1_checkDays x1) = 0 then (0) else ((e_X1_checkDays x1))
def r_X1_pass (w : Nat) (b : Nat) (n : Nat) (T : ct_T) (w2 : Nat) (b2 : Nat) (n2 : Nat) (T2 : ct_T) (x1 : Int32) : Int32 := if (e_X1_checkDays x1) = 0 then (((r_X0_count w b n (s_X0_liveDays w b n T x1.toNatClampNeg) (2 : Int32)) - (r_X0_count w b n T (2 : Int32)))) else ((0 : Int32))
def s_X1_pass (w : Nat) (b : Nat) (n : Nat) (T : ct_T) (w2 : Nat) (b2 : Nat) (n2 : Nat) (T2 : ct_T) (x1 : Int32) : ct_T := if (e_X1_checkDays x1) = 0 then ((s_X0_liveDays w b n T x1.toNatClampNeg)) else (T)
abbrev rm_X1_pass : Room := { frames := 7, cells := 1, slots := 6, locals := 113 }
set_option maxHeartbeats 4000000 in
set_option maxRecDepth 100000 in
theorem k_X1_pass {l : Launch} (hst : l.stackTraces = false) (D : va_G) (cI cZ cL : ClassId) (h : Nat) (a a2 : Nat → Nat) (w : Nat) (b : Nat) (n : Nat) (T : ct_T) (w2 : Nat) (b2 : Nat) (n2 : Nat) (T2 : ct_T) (hd5 : w ≤ 5) (hd4 : b ≤ 4) (hd30 : n ≤ 30) (he5 : w2 ≤ 5) (he4 : b2 ≤ 4) (he30 : n2 ≤ 30) (x1 : Int32)  : TX l yX1_pass wsX1_pass rm_X1_pass D cI cZ cL [.ref h, .int x1] (wb_c h a a2 cI cZ w b n T w2 b2 n2 T2) (e_X1_pass w b n T w2 b2 n2 T2 x1) (some (.int (r_X1_pass w b n T w2 b2 n2 T2 x1))) (wb_c h a a2 cI cZ w b n (s_X1_pass w b n T w2 b2 n2 T2 x1) w2 b2 n2 T2) := by
  refine TX.of (own := RX1) (cc := cX1_pass) (maxL := 3) (ret := (some .int)) (lv0 := [(0, .ref h), (1, .int x1)]) (by decide) rfl rfl (Nat.le_of_ble_eq_true rfl) rfl ?_
  intro p e s m args below meth c A hc hT hout hw ls hl
  obtain ⟨hx, hb, hr, hml, hown, hts, hlk, hK, hA⟩ := id hc
  have hiX1 : ∀ w ∈ u_ws RX1 TX1 2, w ∈ wsX1_pass := fun _ h => List.mem_cons_of_mem _ (List.mem_append_left _ (List.mem_append_left _ (List.mem_append_right _ h)))
  refine lv_iload_n hx hb dX1_pass_0 rfl (lv_at hl 1 rfl) ?_
  refine t_callS0 (n := 1) hc hT hw (k_X1_checkDays hst D cI cZ cL x1) gX1_pass_X1_checkDays rfl (by decide +kernel) ⟨Nat.le_of_ble_eq_true rfl, Nat.le_of_ble_eq_true rfl⟩ rfl (rest := []) rfl hl.1 (Nat.le_of_ble_eq_true rfl) (st1 := []) rfl dX1_pass_1 (k2 := 1) (s2 := 6) rfl rfl ⟨Nat.le_of_ble_eq_true rfl, Nat.le_of_ble_eq_true rfl⟩ (fun he1 H locs q9 ce9 hw h1 h2 h3 => ?_) (fun he1 H locs hw => ?_)
  · rw [show e_X1_pass w b n T w2 b2 n2 T2 x1 = (e_X1_checkDays x1) from by rw [e_X1_pass, if_neg he1]]
    exact t_out hc hout hw he1 h1 h2 h3 (Nat.le_of_ble_eq_true rfl) (Nat.le_of_ble_eq_true rfl)
  · have hN2 := v_X1_checkDays he1
    refine lv_aload_n hx hb dX1_pass_4 rfl (lv_at hl 0 rfl) ?_
    refine g_get (v := .ref (a 0)) hc hw hiX1 0 0 (wo_X1_H ..) rfl (by decide) (List.mem_of_getElem? (i := 1) rfl) (wv_X1_H_0 ..) dX1_pass_5 ?_
    refine lv_iconst (v := 2) hx hb dX1_pass_8 (by decide) ?_
    refine g_callV (n := 1) hc hw (k_X0_count l D cI cZ cL a w b n T hd5 hd4 hd30 (2 : Int32)) gX1_pass_X0_count rfl (by decide +kernel) ⟨Nat.le_of_ble_eq_true rfl, Nat.le_of_ble_eq_true rfl⟩ (wo_X0_T ..) rfl rfl [1, 2, 3, 4, 5, 6, 7, 8, 9, 10, 11] [0, 12, 13, 14, 15, 16, 17, 18, 19, 20, 21, 22] [0, 12, 13, 14, 15, 16, 17, 18, 19, 20, 21, 22, 1, 2, 3, 4, 5, 6, 7, 8, 9, 10, 11] (wr := (wb_c0 h a a2 :: wt_c a2 cI cZ w2 b2 n2 T2)) (w' := (wb_c h a a2 cI cZ w b n T w2 b2 n2 T2)) (wpC_X1_T ..) (wpR_X1_T ..) (by decide) (by decide) (by decide) (wpJ_X1_T ..) (by decide) rfl (rest := []) rfl hl.1 (Nat.le_of_ble_eq_true rfl) (st1 := [.int (r_X0_count w b n T (2 : Int32))]) rfl dX1_pass_9 (k2 := 1) (s2 := 6) rfl rfl ⟨Nat.le_of_ble_eq_true rfl, Nat.le_of_ble_eq_true rfl⟩ (fun H locs hw => ?_)
    refine lv_istore_n (lv' := [(2, .int (r_X0_count w b n T (2 : Int32))), (0, .ref h), (1, .int x1)]) hx hb dX1_pass_12 rfl hl (by decide) rfl (fun ls hl => ?_)
    refine lv_aload_n hx hb dX1_pass_13 rfl (lv_at hl 1 rfl) ?_
    refine g_get (v := .ref (a 0)) hc hw hiX1 0 0 (wo_X1_H ..) rfl (by decide) (List.mem_of_getElem? (i := 1) rfl) (wv_X1_H_0 ..) dX1_pass_14 ?_
    refine lv_iload_n hx hb dX1_pass_17 rfl (lv_at hl 2 rfl) ?_
    refine g_callV (n := 1) hc hw (k_X0_liveDays l D cI cZ cL a w b n T hd5 hd4 hd30 x1.toNatClampNeg hN2.2) gX1_pass_X0_liveDays rfl (by decide +kernel) ⟨Nat.le_of_ble_eq_true rfl, Nat.le_of_ble_eq_true rfl⟩ (wo_X0_T ..) rfl rfl [1, 2, 3, 4, 5, 6, 7, 8, 9, 10, 11] [0, 12, 13, 14, 15, 16, 17, 18, 19, 20, 21, 22] [0, 12, 13, 14, 15, 16, 17, 18, 19, 20, 21, 22, 1, 2, 3, 4, 5, 6, 7, 8, 9, 10, 11] (wr := (wb_c0 h a a2 :: wt_c a2 cI cZ w2 b2 n2 T2)) (w' := (wb_c h a a2 cI cZ w b n (s_X0_liveDays w b n T x1.toNatClampNeg) w2 b2 n2 T2)) (wpC_X1_T ..) (wpR_X1_T ..) (by decide) (by decide) (by decide) (wpJ_X1_T ..) (by decide) rfl (rest := []) (by first | (rw [← hN2.1]; done) | (rw [← hN2.1]; rfl)) hl.1 (Nat.le_of_ble_eq_true rfl) (st1 := []) rfl dX1_pass_18 (k2 := 1) (s2 := 6) rfl rfl ⟨Nat.le_of_ble_eq_true rfl, Nat.le_of_ble_eq_true rfl⟩ (fun H locs hw => ?_)
    refine lv_aload_n hx hb dX1_pass_21 rfl (lv_at hl 1 rfl) ?_
    refine g_get (v := .ref (a 0)) hc hw hiX1 0 0 (wo_X1_H ..) rfl (by decide) (List.mem_of_getElem? (i := 1) rfl) (wv_X1_H_0 ..) dX1_pass_22 ?_
    refine lv_iconst (v := 2) hx hb dX1_pass_25 (by decide) ?_
    refine g_callV (n := 1) hc hw (k_X0_count l D cI cZ cL a w b n (s_X0_liveDays w b n T x1.toNatClampNeg) hd5 hd4 hd30 (2 : Int32)) gX1_pass_X0_count rfl (by decide +kernel) ⟨Nat.le_of_ble_eq_true rfl, Nat.le_of_ble_eq_true rfl⟩ (wo_X0_T ..) rfl rfl [1, 2, 3, 4, 5, 6, 7, 8, 9, 10, 11] [0, 12, 13, 14, 15, 16, 17, 18, 19, 20, 21, 22] [0, 12, 13, 14, 15, 16, 17, 18, 19, 20, 21, 22, 1, 2, 3, 4, 5, 6, 7, 8, 9, 10, 11] (wr := (wb_c0 h a a2 :: wt_c a2 cI cZ w2 b2 n2 T2)) (w' := (wb_c h a a2 cI cZ w b n (s_X0_liveDays w b n T x1.toNatClampNeg) w2 b2 n2 T2)) (wpC_X1_T ..) (wpR_X1_T ..) (by decide) (by decide) (by decide) (wpJ_X1_T ..) (by decide) rfl (rest := []) rfl hl.1 (Nat.le_of_ble_eq_true rfl) (st1 := [.int (r_X0_count w b n (s_X0_liveDays w b n T x1.toNatClampNeg) (2 : Int32))]) rfl dX1_pass_26 (k2 := 1) (s2 := 6) rfl rfl ⟨Nat.le_of_ble_eq_true rfl, Nat.le_of_ble_eq_true rfl⟩ (fun H locs hw => ?_)
    refine lv_iload_n hx hb dX1_pass_29 rfl (lv_at hl 0 rfl) ?_
    refine lv_isub hx hb dX1_pass_30 ?_
    refine t_end (show e_X1_pass w b n T w2 b2 n2 T2 x1 = 0 from by rw [e_X1_pass, if_pos he1]) (fun _ _ z1 z2 => ?_)
    subst z1; subst z2
    rw [show r_X1_pass w b n T w2 b2 n2 T2 x1 = ((r_X0_count w b n (s_X0_liveDays w b n T x1.toNatClampNeg) (2 : Int32)) - (r_X0_count w b n T (2 : Int32))) from by rw [r_X1_pass, if_pos he1]]
    rw [show s_X1_pass w b n T w2 b2 n2 T2 x1 = (s_X0_liveDays w b n T x1.toNatClampNeg) from by rw [s_X1_pass, if_pos he1]]
    exact g_ret hc hw rfl (Nat.le_of_ble_eq_true rfl) (Nat.le_of_ble_eq_true rfl) dX1_pass_31
