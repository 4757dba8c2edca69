def e_X1_isInGreatHouse (w : Nat) (b : Nat) (n : Nat) (T : ct_T) (w2 : Nat) (b2 : Nat) (n2 : Nat) (T2 : ct_T) (x1 : Int32) : Nat := if (e_X1_checkPerson w b n T w2 b2 n2 T2 x1) = 0 then (if ((ct_wh T) x1.toNatClampNeg) = (3 : Int32) then (0) else (0)) else ((e_X1_checkPerson w b n T w2 b2 n2 T2 x1))
def r_X1_isInGreatHouse (w : Nat) (b : Nat) (n : Nat) (T : ct_T) (w2 : Nat) (b2 : Nat) (n2 : Nat) (T2 : ct_T) (x1 : Int32) : Int32 := if (e_X1_checkPerson w b n T w2 b2 n2 T2 x1) = 0 then (if ((ct_wh T) x1.toNatClampNeg) = (3 : Int32) then ((1 : Int32)) else ((0 : Int32))) else ((0 : Int32))
abbrev rm_X1_isInGreatHouse : Room := { frames := 7, cells := 1, slots := 6, locals := 111 }
set_option maxHeartbeats 4000000 in
set_option maxRecDepth 100000 in
theorem k_X1_isInGreatHouse {l : Launch} (hst : l.stackTraces = false) (D : va_G) (cI cZ cL : ClassId) (h : Nat) (a a2 : Nat → Nat) (w : Nat) (b : Nat) (n : Nat) (T : ct_T) (w2 : Nat) (b2 : Nat) (n2 : Nat) (T2 : ct_T) (hd5 : w ≤ 5) (hd4 : b ≤ 4) (hd30 : n ≤ 30) (he5 : w2 ≤ 5) (he4 : b2 ≤ 4) (he30 : n2 ≤ 30) (x1 : Int32)  : TX l yX1_isInGreatHouse wsX1_isInGreatHouse rm_X1_isInGreatHouse D cI cZ cL [.ref h, .int x1] (wb_c h a a2 cI cZ w b n T w2 b2 n2 T2) (e_X1_isInGreatHouse w b n T w2 b2 n2 T2 x1) (some (.int (r_X1_isInGreatHouse w b n T w2 b2 n2 T2 x1))) (wb_c h a a2 cI cZ w b n T w2 b2 n2 T2) := by
  refine TX.of (own := RX1) (cc := cX1_isInGreatHouse) (maxL := 2) (ret := (some .boolean)) (lv0 := [(0, .ref h), (1, .int x1)]) (by decide) rfl rfl (Nat.le_of_ble_eq_true rfl) rfl ?_
  intro p e s m args below meth c A hc hT hout hw ls hl
  obtain ⟨hx, hb, hr, hml, hown, hts, hlk, hK, hA⟩ := id hc
  have hiX0 : ∀ w ∈ u_ws RX0 TX0 16, w ∈ wsX1_isInGreatHouse := fun _ h => List.mem_cons_of_mem _ (List.mem_append_left _ (List.mem_append_right _ h))
  have hiX1 : ∀ w ∈ u_ws RX1 TX1 2, w ∈ wsX1_isInGreatHouse := fun _ h => List.mem_cons_of_mem _ (List.mem_append_left _ (List.mem_append_left _ (List.mem_append_right _ h)))
  refine lv_aload_n hx hb dX1_isInGreatHouse_0 rfl (lv_at hl 0 rfl) ?_
  refine lv_iload_n hx hb dX1_isInGreatHouse_1 rfl (lv_at hl 1 rfl) ?_
  refine t_callV0 (n := 1) hc hT hw (k_X1_checkPerson hst D cI cZ cL h a a2 w b n T w2 b2 n2 T2 hd5 hd4 hd30 he5 he4 he30 x1) gX1_isInGreatHouse_X1_checkPerson rfl (by decide +kernel) ⟨Nat.le_of_ble_eq_true rfl, Nat.le_of_ble_eq_true rfl⟩ 0 (wo_X1_H ..) rfl rfl rfl (rest := []) rfl hl.1 (Nat.le_of_ble_eq_true rfl) (st1 := []) rfl dX1_isInGreatHouse_2 (k2 := 1) (s2 := 6) rfl rfl ⟨Nat.le_of_ble_eq_true rfl, Nat.le_of_ble_eq_true rfl⟩ (fun he1 H locs q9 ce9 hw h1 h2 h3 => ?_) (fun he1 H locs hw => ?_)
  · rw [show e_X1_isInGreatHouse w b n T w2 b2 n2 T2 x1 = (e_X1_checkPerson w b n T w2 b2 n2 T2 x1) from by rw [e_X1_isInGreatHouse, if_neg he1]]
    exact t_out hc hout hw he1 h1 h2 h3 (Nat.le_of_ble_eq_true rfl) (Nat.le_of_ble_eq_true rfl)
  · have hv2 : vp_in x1 30 := vp_x (v_X1_checkPerson he1).1 (v_X1_checkPerson he1).2 hd30 (by omega)
    refine lv_aload_n hx hb dX1_isInGreatHouse_5 rfl (lv_at hl 0 rfl) ?_
    refine g_get (v := .ref (a 0)) hc hw hiX1 0 0 (wo_X1_H ..) rfl (by decide) (List.mem_of_getElem? (i := 1) rfl) (wv_X1_H_0 ..) dX1_isInGreatHouse_6 ?_
    refine g_get (v := .ref (a 11)) hc hw hiX0 1 11 (wo_X1_T ..) rfl (by decide) (List.mem_of_getElem? (i := 2) rfl) (wv_X1_T_11 ..) dX1_isInGreatHouse_9 ?_
    refine lv_iload_n hx hb dX1_isInGreatHouse_12 rfl (lv_at hl 1 rfl) ?_
    refine g_iald (f := (ct_wh T)) hc hw 7 (wr_X1_T_11 ..) hv2 dX1_isInGreatHouse_13 ?_
    refine lv_iconst (v := 3) hx hb dX1_isInGreatHouse_14 (by decide) ?_
    refine lv_icmp_ne (tgt := 22) hx hb dX1_isInGreatHouse_15 (by decide) (fun c3 => ?_) (fun c3 => ?_)
    · refine lv_iconst (v := 0) hx hb dX1_isInGreatHouse_22 (by decide) ?_
      refine t_end (show e_X1_isInGreatHouse w b n T w2 b2 n2 T2 x1 = 0 from by rw [e_X1_isInGreatHouse, if_pos he1, if_neg c3]) (fun _ _ z1 z2 => ?_)
      subst z1; subst z2
      rw [show r_X1_isInGreatHouse w b n T w2 b2 n2 T2 x1 = (0 : Int32) from by rw [r_X1_isInGreatHouse, if_pos he1, if_neg c3]]
      exact g_zret hc hw rfl rfl (Nat.le_of_ble_eq_true rfl) (Nat.le_of_ble_eq_true rfl) dX1_isInGreatHouse_23
    · refine lv_iconst (v := 1) hx hb dX1_isInGreatHouse_18 (by decide) ?_
      refine lv_goto (tgt := 23) hx hb dX1_isInGreatHouse_19 (by decide) ?_
      refine t_end (show e_X1_isInGreatHouse w b n T w2 b2 n2 T2 x1 = 0 from by rw [e_X1_isInGreatHouse, if_pos he1, if_pos c3]) (fun _ _ z1 z2 => ?_)
      subst z1; subst z2
      rw [show r_X1_isInGreatHouse w b n T w2 b2 n2 T2 x1 = (1 : Int32) from by rw [r_X1_isInGreatHouse, if_pos he1, if_pos c3]]
      exact g_zret hc hw rfl rfl (Nat.le_of_ble_eq_true rfl) (Nat.le_of_ble_eq_true rfl) dX1_isInGreatHouse_23

def e_X1_hungryDaysOf (w : Nat) (b : Nat) (n : Nat) (T : ct_T) (w2 : Nat) (b2 : Nat) (n2 : Nat) (T2 : ct_T) (x1 : Int32) : Nat := if (e_X1_checkPerson w b n T w2 b2 n2 T2 x1) = 0 then (0) else ((e_X1_checkPerson w b n T w2 b2 n2 T2 x1))
def r_X1_hungryDaysOf (w : Nat) (b : Nat) (n : Nat) (T : ct_T) (w2 : Nat) (b2 : Nat) (n2 : Nat) (T2 : ct_T) (x1 : Int32) : Int32 := if (e_X1_checkPerson w b n T w2 b2 n2 T2 x1) = 0 then (((ct_hd T) x1.toNatClampNeg)) else ((0 : Int32))
abbrev rm_X1_hungryDaysOf : Room := { frames := 7, cells := 1, slots := 6, locals := 111 }
set_option maxHeartbeats 4000000 in
set_option maxRecDepth 100000 in
theorem k_X1_hungryDaysOf {l : Launch} (hst : l.stackTraces = false) (D : va_G) (cI cZ cL : ClassId) (h : Nat) (a a2 : Nat → Nat) (w : Nat) (b : Nat) (n : Nat) (T : ct_T) (w2 : Nat) (b2 : Nat) (n2 : Nat) (T2 : ct_T) (hd5 : w ≤ 5) (hd4 : b ≤ 4) (hd30 : n ≤ 30) (he5 : w2 ≤ 5) (he4 : b2 ≤ 4) (he30 : n2 ≤ 30) (x1 : Int32)  : TX l yX1_hungryDaysOf wsX1_hungryDaysOf rm_X1_hungryDaysOf D cI cZ cL [.ref h, .int x1] (wb_c h a a2 cI cZ w b n T w2 b2 n2 T2) (e_X1_hungryDaysOf w b n T w2 b2 n2 T2 x1) (some (.int (r_X1_hungryDaysOf w b n T w2 b2 n2 T2 x1))) (wb_c h a a2 cI cZ w b n T w2 b2 n2 T2) := by
  refine TX.of (own := RX1) (cc := cX1_hungryDaysOf) (maxL := 2) (ret := (some .int)) (lv0 := [(0, .ref h), (1, .int x1)]) (by decide) rfl rfl (Nat.le_of_ble_eq_true rfl) rfl ?_
  intro p e s m args below meth c A hc hT hout hw ls hl
  obtain ⟨hx, hb, hr, hml, hown, hts, hlk, hK, hA⟩ := id hc
  have hiX0 : ∀ w ∈ u_ws RX0 TX0 16, w ∈ wsX1_hungryDaysOf := fun _ h => List.mem_cons_of_mem _ (List.mem_append_left _ (List.mem_append_right _ h))
  have hiX1 : ∀ w ∈ u_ws RX1 TX1 2, w ∈ wsX1_hungryDaysOf := fun _ h => List.mem_cons_of_mem _ (List.mem_append_left _ (List.mem_append_left _ (List.mem_append_right _ h)))
  refine lv_aload_n hx hb dX1_hungryDaysOf_0 rfl (lv_at hl 0 rfl) ?_
  refine lv_iload_n hx hb dX1_hungryDaysOf_1 rfl (lv_at hl 1 rfl) ?_
  refine t_callV0 (n := 1) hc hT hw (k_X1_checkPerson hst D cI cZ cL h a a2 w b n T w2 b2 n2 T2 hd5 hd4 hd30 he5 he4 he30 x1) gX1_hungryDaysOf_X1_checkPerson rfl (by decide +kernel) ⟨Nat.le_of_ble_eq_true rfl, Nat.le_of_ble_eq_true rfl⟩ 0 (wo_X1_H ..) rfl rfl rfl (rest := []) rfl hl.1 (Nat.le_of_ble_eq_true rfl) (st1 := []) rfl dX1_hungryDaysOf_2 (k2 := 1) (s2 := 6) rfl rfl ⟨Nat.le_of_ble_eq_true rfl, Nat.le_of_ble_eq_true rfl⟩ (fun he1 H locs q9 ce9 hw h1 h2 h3 => ?_) (fun he1 H locs hw => ?_)
  · rw [show e_X1_hungryDaysOf w b n T w2 b2 n2 T2 x1 = (e_X1_checkPerson w b n T w2 b2 n2 T2 x1) from by rw [e_X1_hungryDaysOf, if_neg he1]]
    exact t_out hc hout hw he1 h1 h2 h3 (Nat.le_of_ble_eq_true rfl) (Nat.le_of_ble_eq_true rfl)
  · have hv2 : vp_in x1 30 := vp_x (v_X1_checkPerson he1).1 (v_X1_checkPerson he1).2 hd30 (by omega)
    refine lv_aload_n hx hb dX1_hungryDaysOf_5 rfl (lv_at hl 0 rfl) ?_
    refine g_get (v := .ref (a 0)) hc hw hiX1 0 0 (wo_X1_H ..) rfl (by decide) (List.mem_of_getElem? (i := 1) rfl) (wv_X1_H_0 ..) dX1_hungryDaysOf_6 ?_
    refine g_get (v := .ref (a 13)) hc hw hiX0 1 13 (wo_X1_T ..) rfl (by decide) (List.mem_of_getElem? (i := 2) rfl) (wv_X1_T_13 ..) dX1_hungryDaysOf_9 ?_
    refine lv_iload_n hx hb dX1_hungryDaysOf_12 rfl (lv_at hl 1 rfl) ?_
    refine g_iald (f := (ct_hd T)) hc hw 9 (wr_X1_T_13 ..) hv2 dX1_hungryDaysOf_13 ?_
    refine t_end (show e_X1_hungryDaysOf w b n T w2 b2 n2 T2 x1 = 0 from by rw [e_X1_hungryDaysOf, if_pos he1]) (fun _ _ z1 z2 => ?_)
    subst z1; subst z2
    rw [show r_X1_hungryDaysOf w b n T w2 b2 n2 T2 x1 = ((ct_hd T) x1.toNatClampNeg) from by rw [r_X1_hungryDaysOf, if_pos he1]]
    exact g_ret hc hw rfl (Nat.le_of_ble_eq_true rfl) (Nat.le_of_ble_eq_true rfl) dX1_hungryDaysOf_14

def e_X1_placesOf (w : Nat) (b : Nat) (n : Nat) (T : ct_T) (w2 : Nat) (b2 : Nat) (n2 : Nat) (T2 : ct_T) (x1 : Int32) : Nat := if (e_X1_checkWard w b n T w2 b2 n2 T2 x1) = 0 then (0) else ((e_X1_checkWard w b n T w2 b2 n2 T2 x1))
def r_X1_placesOf (w : Nat) (b : Nat) (n : Nat) (T : ct_T) (w2 : Nat) (b2 : Nat) (n2 : Nat) (T2 : ct_T) (x1 : Int32) : Int32 := if (e_X1_checkWard w b n T w2 b2 n2 T2 x1) = 0 then (((ct_pl T) x1.toNatClampNeg)) else ((0 : Int32))
abbrev rm_X1_placesOf : Room := { frames := 7, cells := 1, slots := 6, locals := 111 }
set_option maxHeartbeats 4000000 in
set_option maxRecDepth 100000 in
theorem k_X1_placesOf {l : Launch} (hst : l.stackTraces = false) (D : va_G) (cI cZ cL : ClassId) (h : Nat) (a a2 : Nat → Nat) (w : Nat) (b : Nat) (n : Nat) (T : ct_T) (w2 : Nat) (b2 : Nat) (n2 : Nat) (T2 : ct_T) (hd5 : w ≤ 5) (hd4 : b ≤ 4) (hd30 : n ≤ 30) (he5 : w2 ≤ 5) (he4 : b2 ≤ 4) (he30 : n2 ≤ 30) (x1 : Int32)  : TX l yX1_placesOf wsX1_placesOf rm_X1_placesOf D cI cZ cL [.ref h, .int x1] (wb_c h a a2 cI cZ w b n T w2 b2 n2 T2) (e_X1_placesOf w b n T w2 b2 n2 T2 x1) (some (.int (r_X1_placesOf w b n T w2 b2 n2 T2 x1))) (wb_c h a a2 cI cZ w b n T w2 b2 n2 T2) := by
  refine TX.of (own := RX1) (cc := cX1_placesOf) (maxL := 2) (ret := (some .int)) (lv0 := [(0, .ref h), (1, .int x1)]) (by decide) rfl rfl (Nat.le_of_ble_eq_true rfl) rfl ?_
  intro p e s m args below meth c A hc hT hout hw ls hl
  obtain ⟨hx, hb, hr, hml, hown, hts, hlk, hK, hA⟩ := id hc
  have hiX0 : ∀ w ∈ u_ws RX0 TX0 16, w ∈ wsX1_placesOf := fun _ h => List.mem_cons_of_mem _ (List.mem_append_left _ (List.mem_append_right _ h))
  have hiX1 : ∀ w ∈ u_ws RX1 TX1 2, w ∈ wsX1_placesOf := fun _ h => List.mem_cons_of_mem _ (List.mem_append_left _ (List.mem_append_left _ (List.mem_append_right _ h)))
  refine lv_aload_n hx hb dX1_placesOf_0 rfl (lv_at hl 0 rfl) ?_
  refine lv_iload_n hx hb dX1_placesOf_1 rfl (lv_at hl 1 rfl) ?_
  refine t_callV0 (n := 1) hc hT hw (k_X1_checkWard hst D cI cZ cL h a a2 w b n T w2 b2 n2 T2 hd5 hd4 hd30 he5 he4 he30 x1) gX1_placesOf_X1_checkWard rfl (by decide +kernel) ⟨Nat.le_of_ble_eq_true rfl, Nat.le_of_ble_eq_true rfl⟩ 0 (wo_X1_H ..) rfl rfl rfl (rest := []) rfl hl.1 (Nat.le_of_ble_eq_true rfl) (st1 := []) rfl dX1_placesOf_2 (k2 := 1) (s2 := 6) rfl rfl ⟨Nat.le_of_ble_eq_true rfl, Nat.le_of_ble_eq_true rfl⟩ (fun he1 H locs q9 ce9 hw h1 h2 h3 => ?_) (fun he1 H locs hw => ?_)
  · rw [show e_X1_placesOf w b n T w2 b2 n2 T2 x1 = (e_X1_checkWard w b n T w2 b2 n2 T2 x1) from by rw [e_X1_placesOf, if_neg he1]]
    exact t_out hc hout hw he1 h1 h2 h3 (Nat.le_of_ble_eq_true rfl) (Nat.le_of_ble_eq_true rfl)
  · have hv2 : vp_in x1 5 := vp_x (v_X1_checkWard he1).1 (v_X1_checkWard he1).2 hd5 (by omega)
    refine lv_aload_n hx hb dX1_placesOf_5 rfl (lv_at hl 0 rfl) ?_
    refine g_get (v := .ref (a 0)) hc hw hiX1 0 0 (wo_X1_H ..) rfl (by decide) (List.mem_of_getElem? (i := 1) rfl) (wv_X1_H_0 ..) dX1_placesOf_6 ?_
    refine g_get (v := .ref (a 4)) hc hw hiX0 1 4 (wo_X1_T ..) rfl (by decide) (List.mem_of_getElem? (i := 2) rfl) (wv_X1_T_4 ..) dX1_placesOf_9 ?_
    refine lv_iload_n hx hb dX1_placesOf_12 rfl (lv_at hl 1 rfl) ?_
    refine g_iald (f := (ct_pl T)) hc hw 2 (wr_X1_T_4 ..) hv2 dX1_placesOf_13 ?_
    refine t_end (show e_X1_placesOf w b n T w2 b2 n2 T2 x1 = 0 from by rw [e_X1_placesOf, if_pos he1]) (fun _ _ z1 z2 => ?_)
    subst z1; subst z2
    rw [show r_X1_placesOf w b n T w2 b2 n2 T2 x1 = ((ct_pl T) x1.toNatClampNeg) from by rw [r_X1_placesOf, if_pos he1]]
    exact g_ret hc hw rfl (Nat.le_of_ble_eq_true rfl) (Nat.le_of_ble_eq_true rfl) dX1_placesOf_14

def e_X1_peopleIn (w : Nat) (b : Nat) (n : Nat) (T : ct_T) (w2 : Nat) (b2 : Nat) (n2 : Nat) (T2 : ct_T) (x1 : Int32) : Nat := if (e_X1_checkWard w b n T w2 b2 n2 T2 x1) = 0 then (0) else ((e_X1_checkWard w b n T w2 b2 n2 T2 x1))
def r_X1_peopleIn (w : Nat) (b : Nat) (n : Nat) (T : ct_T) (w2 : Nat) (b2 : Nat) (n2 : Nat) (T2 : ct_T) (x1 : Int32) : Int32 := if (e_X1_checkWard w b n T w2 b2 n2 T2 x1) = 0 then ((r_X0_countAt w b n T (1 : Int32) x1)) else ((0 : Int32))
abbrev rm_X1_peopleIn : Room := { frames := 7, cells := 1, slots := 6, locals := 111 }
set_option maxHeartbeats 4000000 in
set_option maxRecDepth 100000 in
theorem k_X1_peopleIn {l : Launch} (hst : l.stackTraces = false) (D : va_G) (cI cZ cL : ClassId) (h : Nat) (a a2 : Nat → Nat) (w : Nat) (b : Nat) (n : Nat) (T : ct_T) (w2 : Nat) (b2 : Nat) (n2 : Nat) (T2 : ct_T) (hd5 : w ≤ 5) (hd4 : b ≤ 4) (hd30 : n ≤ 30) (he5 : w2 ≤ 5) (he4 : b2 ≤ 4) (he30 : n2 ≤ 30) (x1 : Int32)  : TX l yX1_peopleIn wsX1_peopleIn rm_X1_peopleIn D cI cZ cL [.ref h, .int x1] (wb_c h a a2 cI cZ w b n T w2 b2 n2 T2) (e_X1_peopleIn w b n T w2 b2 n2 T2 x1) (some (.int (r_X1_peopleIn w b n T w2 b2 n2 T2 x1))) (wb_c h a a2 cI cZ w b n T w2 b2 n2 T2) := by
  refine TX.of (own := RX1) (cc := cX1_peopleIn) (maxL := 2) (ret := (some .int)) (lv0 := [(0, .ref h), (1, .int x1)]) (by decide) rfl rfl (Nat.le_of_ble_eq_true rfl) rfl ?_
  intro p e s m args below meth c A hc hT hout hw ls hl
  obtain ⟨hx, hb, hr, hml, hown, hts, hlk, hK, hA⟩ := id hc
  have hiX1 : ∀ w ∈ u_ws RX1 TX1 2, w ∈ wsX1_peopleIn := fun _ h => List.mem_cons_of_mem _ (List.mem_append_left _ (List.mem_append_left _ (List.mem_append_right _ h)))
  refine lv_aload_n hx hb dX1_peopleIn_0 rfl (lv_at hl 0 rfl) ?_
  refine lv_iload_n hx hb dX1_peopleIn_1 rfl (lv_at hl 1 rfl) ?_
  refine t_callV0 (n := 1) hc hT hw (k_X1_checkWard hst D cI cZ cL h a a2 w b n T w2 b2 n2 T2 hd5 hd4 hd30 he5 he4 he30 x1) gX1_peopleIn_X1_checkWard rfl (by decide +kernel) ⟨Nat.le_of_ble_eq_true rfl, Nat.le_of_ble_eq_true rfl⟩ 0 (wo_X1_H ..) rfl rfl rfl (rest := []) rfl hl.1 (Nat.le_of_ble_eq_true rfl) (st1 := []) rfl dX1_peopleIn_2 (k2 := 1) (s2 := 6) rfl rfl ⟨Nat.le_of_ble_eq_true rfl, Nat.le_of_ble_eq_true rfl⟩ (fun he1 H locs q9 ce9 hw h1 h2 h3 => ?_) (fun he1 H locs hw => ?_)
  · rw [show e_X1_peopleIn w b n T w2 b2 n2 T2 x1 = (e_X1_checkWard w b n T w2 b2 n2 T2 x1) from by rw [e_X1_peopleIn, if_neg he1]]
    exact t_out hc hout hw he1 h1 h2 h3 (Nat.le_of_ble_eq_true rfl) (Nat.le_of_ble_eq_true rfl)
  · have hv2 : vp_in x1 5 := vp_x (v_X1_checkWard he1).1 (v_X1_checkWard he1).2 hd5 (by omega)
    refine lv_aload_n hx hb dX1_peopleIn_5 rfl (lv_at hl 0 rfl) ?_
    refine g_get (v := .ref (a 0)) hc hw hiX1 0 0 (wo_X1_H ..) rfl (by decide) (List.mem_of_getElem? (i := 1) rfl) (wv_X1_H_0 ..) dX1_peopleIn_6 ?_
    refine lv_iconst (v := 1) hx hb dX1_peopleIn_9 (by decide) ?_
    refine lv_iload_n hx hb dX1_peopleIn_10 rfl (lv_at hl 1 rfl) ?_
    refine g_callV (n := 2) hc hw (k_X0_countAt l D cI cZ cL a w b n T hd5 hd4 hd30 (1 : Int32) x1) gX1_peopleIn_X0_countAt rfl (by decide +kernel) ⟨Nat.le_of_ble_eq_true rfl, Nat.le_of_ble_eq_true rfl⟩ (wo_X0_T ..) rfl rfl [1, 2, 3, 4, 5, 6, 7, 8, 9, 10, 11] [0, 12, 13, 14, 15, 16, 17, 18, 19, 20, 21, 22] [0, 12, 13, 14, 15, 16, 17, 18, 19, 20, 21, 22, 1, 2, 3, 4, 5, 6, 7, 8, 9, 10, 11] (wr := (wb_c0 h a a2 :: wt_c a2 cI cZ w2 b2 n2 T2)) (w' := (wb_c h a a2 cI cZ w b n T w2 b2 n2 T2)) (wpC_X1_T ..) (wpR_X1_T ..) (by decide) (by decide) (by decide) (wpJ_X1_T ..) (by decide) rfl (rest := []) rfl hl.1 (Nat.le_of_ble_eq_true rfl) (st1 := [.int (r_X0_countAt w b n T (1 : Int32) x1)]) rfl dX1_peopleIn_11 (k2 := 1) (s2 := 6) rfl rfl ⟨Nat.le_of_ble_eq_true rfl, Nat.le_of_ble_eq_true rfl⟩ (fun H locs hw => ?_)
    refine t_end (show e_X1_peopleIn w b n T w2 b2 n2 T2 x1 = 0 from by rw [e_X1_peopleIn, if_pos he1]) (fun _ _ z1 z2 => ?_)
    subst z1; subst z2
    rw [show r_X1_peopleIn w b n T w2 b2 n2 T2 x1 = (r_X0_countAt w b n T (1 : Int32) x1) from by rw [r_X1_peopleIn, if_pos he1]]
    exact g_ret hc hw rfl (Nat.le_of_ble_eq_true rfl) (Nat.le_of_ble_eq_true rfl) dX1_peopleIn_14

def e_X1_strawOf (w : Nat) (b : Nat) (n : Nat) (T : ct_T) (w2 : Nat) (b2 : Nat) (n2 : Nat) (T2 : ct_T) (x1 : Int32) : Nat := if (e_X1_checkWard w b n T w2 b2 n2 T2 x1) = 0 then (0) else ((e_X1_checkWard w b n T w2 b2 n2 T2 x1))
def r_X1_strawOf (w : Nat) (b : Nat) (n : Nat) (T : ct_T) (w2 : Nat) (b2 : Nat) (n2 : Nat) (T2 : ct_T) (x1 : Int32) : Int32 := if (e_X1_checkWard w b n T w2 b2 n2 T2 x1) = 0 then (((ct_st T) x1.toNatClampNeg)) else ((0 : Int32))
abbrev rm_X1_strawOf : Room := { frames := 7, cells := 1, slots := 6, locals := 111 }
set_option maxHeartbeats 4000000 in
set_option maxRecDepth 100000 in
theorem k_X1_strawOf {l : Launch} (hst : l.stackTraces = false) (D : va_G) (cI cZ cL : ClassId) (h : Nat) (a a2 : Nat → Nat) (w : Nat) (b : Nat) (n : Nat) (T : ct_T) (w2 : Nat) (b2 : Nat) (n2 : Nat) (T2 : ct_T) (hd5 : w ≤ 5) (hd4 : b ≤ 4) (hd30 : n ≤ 30) (he5 : w2 ≤ 5) (he4 : b2 ≤ 4) (he30 : n2 ≤ 30) (x1 : Int32)  : TX l yX1_strawOf wsX1_strawOf rm_X1_strawOf D cI cZ cL [.ref h, .int x1] (wb_c h a a2 cI cZ w b n T w2 b2 n2 T2) (e_X1_strawOf w b n T w2 b2 n2 T2 x1) (some (.int (r_X1_strawOf w b n T w2 b2 n2 T2 x1))) (wb_c h a a2 cI cZ w b n T w2 b2 n2 T2) := by
  refine TX.of (own := RX1) (cc := cX1_strawOf) (maxL := 2) (ret := (some .int)) (lv0 := [(0, .ref h), (1, .int x1)]) (by decide) rfl rfl (Nat.le_of_ble_eq_true rfl) rfl ?_
  intro p e s m args below meth c A hc hT hout hw ls hl
  obtain ⟨hx, hb, hr, hml, hown, hts, hlk, hK, hA⟩ := id hc
  have hiX0 : ∀ w ∈ u_ws RX0 TX0 16, w ∈ wsX1_strawOf := fun _ h => List.mem_cons_of_mem _ (List.mem_append_left _ (List.mem_append_right _ h))
  have hiX1 : ∀ w ∈ u_ws RX1 TX1 2, w ∈ wsX1_strawOf := fun _ h => List.mem_cons_of_mem _ (List.mem_append_left _ (List.mem_append_left _ (List.mem_append_right _ h)))
  refine lv_aload_n hx hb dX1_strawOf_0 rfl (lv_at hl 0 rfl) ?_
  refine lv_iload_n hx hb dX1_strawOf_1 rfl (lv_at hl 1 rfl) ?_
  refine t_callV0 (n := 1) hc hT hw (k_X1_checkWard hst D cI cZ cL h a a2 w b n T w2 b2 n2 T2 hd5 hd4 hd30 he5 he4 he30 x1) gX1_strawOf_X1_checkWard rfl (by decide +kernel) ⟨Nat.le_of_ble_eq_true rfl, Nat.le_of_ble_eq_true rfl⟩ 0 (wo_X1_H ..) rfl rfl rfl (rest := []) rfl hl.1 (Nat.le_of_ble_eq_true rfl) (st1 := []) rfl dX1_strawOf_2 (k2 := 1) (s2 := 6) rfl rfl ⟨Nat.le_of_ble_eq_true rfl, Nat.le_of_ble_eq_true rfl⟩ (fun he1 H locs q9 ce9 hw h1 h2 h3 => ?_) (fun he1 H locs hw => ?_)
  · rw [show e_X1_strawOf w b n T w2 b2 n2 T2 x1 = (e_X1_checkWard w b n T w2 b2 n2 T2 x1) from by rw [e_X1_strawOf, if_neg he1]]
    exact t_out hc hout hw he1 h1 h2 h3 (Nat.le_of_ble_eq_true rfl) (Nat.le_of_ble_eq_true rfl)
  · have hv2 : vp_in x1 5 := vp_x (v_X1_checkWard he1).1 (v_X1_checkWard he1).2 hd5 (by omega)
    refine lv_aload_n hx hb dX1_strawOf_5 rfl (lv_at hl 0 rfl) ?_
    refine g_get (v := .ref (a 0)) hc hw hiX1 0 0 (wo_X1_H ..) rfl (by decide) (List.mem_of_getElem? (i := 1) rfl) (wv_X1_H_0 ..) dX1_strawOf_6 ?_
    refine g_get (v := .ref (a 5)) hc hw hiX0 1 5 (wo_X1_T ..) rfl (by decide) (List.mem_of_getElem? (i := 2) rfl) (wv_X1_T_5 ..) dX1_strawOf_9 ?_
    refine lv_iload_n hx hb dX1_strawOf_12 rfl (lv_at hl 1 rfl) ?_
    refine g_iald (f := (ct_st T)) hc hw 3 (wr_X1_T_5 ..) hv2 dX1_strawOf_13 ?_
    refine t_end (show e_X1_strawOf w b n T w2 b2 n2 T2 x1 = 0 from by rw [e_X1_strawOf, if_pos he1]) (fun _ _ z1 z2 => ?_)
    subst z1; subst z2
    rw [show r_X1_strawOf w b n T w2 b2 n2 T2 x1 = ((ct_st T) x1.toNatClampNeg) from by rw [r_X1_strawOf, if_pos he1]]
    exact g_ret hc hw rfl (Nat.le_of_ble_eq_true rfl) (Nat.le_of_ble_eq_true rfl) dX1_strawOf_14
