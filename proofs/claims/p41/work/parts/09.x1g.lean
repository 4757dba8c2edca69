def e_X1_feversIn (w : Nat) (b : Nat) (n : Nat) (T : ct_T) (w2 : Nat) (b2 : Nat) (n2 : Nat) (T2 : ct_T) (x1 : Int32) : Nat := if (e_X1_checkWard w b n T w2 b2 n2 T2 x1) = 0 then (0) else ((e_X1_checkWard w b n T w2 b2 n2 T2 x1))
def r_X1_feversIn (w : Nat) (b : Nat) (n : Nat) (T : ct_T) (w2 : Nat) (b2 : Nat) (n2 : Nat) (T2 : ct_T) (x1 : Int32) : Int32 := if (e_X1_checkWard w b n T w2 b2 n2 T2 x1) = 0 then ((r_X0_feversInWard w b n T x1)) else ((0 : Int32))
abbrev rm_X1_feversIn : Room := { frames := 7, cells := 1, slots := 6, locals := 111 }
set_option maxHeartbeats 4000000 in
set_option maxRecDepth 100000 in
theorem k_X1_feversIn {l : Launch} (hst : l.stackTraces = false) (D : va_G) (cI cZ cL : ClassId) (h : Nat) (a a2 : Nat → Nat) (w : Nat) (b : Nat) (n : Nat) (T : ct_T) (w2 : Nat) (b2 : Nat) (n2 : Nat) (T2 : ct_T) (hd5 : w ≤ 5) (hd4 : b ≤ 4) (hd30 : n ≤ 30) (he5 : w2 ≤ 5) (he4 : b2 ≤ 4) (he30 : n2 ≤ 30) (x1 : Int32)  : TX l yX1_feversIn wsX1_feversIn rm_X1_feversIn D cI cZ cL [.ref h, .int x1] (wb_c h a a2 cI cZ w b n T w2 b2 n2 T2) (e_X1_feversIn w b n T w2 b2 n2 T2 x1) (some (.int (r_X1_feversIn w b n T w2 b2 n2 T2 x1))) (wb_c h a a2 cI cZ w b n T w2 b2 n2 T2) := by
  refine TX.of (own := RX1) (cc := cX1_feversIn) (maxL := 2) (ret := (some .int)) (lv0 := [(0, .ref h), (1, .int x1)]) (by decide) rfl rfl (Nat.le_of_ble_eq_true rfl) rfl ?_
  intro p e s m args below meth c A hc hT hout hw ls hl
  obtain ⟨hx, hb, hr, hml, hown, hts, hlk, hK, hA⟩ := id hc
  have hiX1 : ∀ w ∈ u_ws RX1 TX1 2, w ∈ wsX1_feversIn := fun _ h => List.mem_cons_of_mem _ (List.mem_append_left _ (List.mem_append_left _ (List.mem_append_right _ h)))
  refine lv_aload_n hx hb dX1_feversIn_0 rfl (lv_at hl 0 rfl) ?_
  refine lv_iload_n hx hb dX1_feversIn_1 rfl (lv_at hl 1 rfl) ?_
  refine t_callV0 (n := 1) hc hT hw (k_X1_checkWard hst D cI cZ cL h a a2 w b n T w2 b2 n2 T2 hd5 hd4 hd30 he5 he4 he30 x1) gX1_feversIn_X1_checkWard rfl (by decide +kernel) ⟨Nat.le_of_ble_eq_true rfl, Nat.le_of_ble_eq_true rfl⟩ 0 (wo_X1_H ..) rfl rfl rfl (rest := []) rfl hl.1 (Nat.le_of_ble_eq_true rfl) (st1 := []) rfl dX1_feversIn_2 (k2 := 1) (s2 := 6) rfl rfl ⟨Nat.le_of_ble_eq_true rfl, Nat.le_of_ble_eq_true rfl⟩ (fun he1 H locs q9 ce9 hw h1 h2 h3 => ?_) (fun he1 H locs hw => ?_)
  · rw [show e_X1_feversIn w b n T w2 b2 n2 T2 x1 = (e_X1_checkWard w b n T w2 b2 n2 T2 x1) from by rw [e_X1_feversIn, if_neg he1]]
    exact t_out hc hout hw he1 h1 h2 h3 (Nat.le_of_ble_eq_true rfl) (Nat.le_of_ble_eq_true rfl)
  · have hv2 : vp_in x1 5 := vp_x (v_X1_checkWard he1).1 (v_X1_checkWard he1).2 hd5 (by omega)
    refine lv_aload_n hx hb dX1_feversIn_5 rfl (lv_at hl 0 rfl) ?_
    refine g_get (v := .ref (a 0)) hc hw hiX1 0 0 (wo_X1_H ..) rfl (by decide) (List.mem_of_getElem? (i := 1) rfl) (wv_X1_H_0 ..) dX1_feversIn_6 ?_
    refine lv_iload_n hx hb dX1_feversIn_9 rfl (lv_at hl 1 rfl) ?_
    refine g_callV (n := 1) hc hw (k_X0_feversInWard l D cI cZ cL a w b n T hd5 hd4 hd30 x1) gX1_feversIn_X0_feversInWard rfl (by decide +kernel) ⟨Nat.le_of_ble_eq_true rfl, Nat.le_of_ble_eq_true rfl⟩ (wo_X0_T ..) rfl rfl [1, 2, 3, 4, 5, 6, 7, 8, 9, 10, 11] [0, 12, 13, 14, 15, 16, 17, 18, 19, 20, 21, 22] [0, 12, 13, 14, 15, 16, 17, 18, 19, 20, 21, 22, 1, 2, 3, 4, 5, 6, 7, 8, 9, 10, 11] (wr := (wb_c0 h a a2 :: wt_c a2 cI cZ w2 b2 n2 T2)) (w' := (wb_c h a a2 cI cZ w b n T w2 b2 n2 T2)) (wpC_X1_T ..) (wpR_X1_T ..) (by decide) (by decide) (by decide) (wpJ_X1_T ..) (by decide) rfl (rest := []) rfl hl.1 (Nat.le_of_ble_eq_true rfl) (st1 := [.int (r_X0_feversInWard w b n T x1)]) rfl dX1_feversIn_10 (k2 := 1) (s2 := 6) rfl rfl ⟨Nat.le_of_ble_eq_true rfl, Nat.le_of_ble_eq_true rfl⟩ (fun H locs hw => ?_)
    refine t_end (show e_X1_feversIn w b n T w2 b2 n2 T2 x1 = 0 from by rw [e_X1_feversIn, if_pos he1]) (fun _ _ z1 z2 => ?_)
    subst z1; subst z2
    rw [show r_X1_feversIn w b n T w2 b2 n2 T2 x1 = (r_X0_feversInWard w b n T x1) from by rw [r_X1_feversIn, if_pos he1]]
    exact g_ret hc hw rfl (Nat.le_of_ble_eq_true rfl) (Nat.le_of_ble_eq_true rfl) dX1_feversIn_13

def e_X1_daysToGo (w : Nat) (b : Nat) (n : Nat) (T : ct_T) (w2 : Nat) (b2 : Nat) (n2 : Nat) (T2 : ct_T) (x1 : Int32) : Nat := if (e_X1_checkBarge w b n T w2 b2 n2 T2 x1) = 0 then (0) else ((e_X1_checkBarge w b n T w2 b2 n2 T2 x1))
def r_X1_daysToGo (w : Nat) (b : Nat) (n : Nat) (T : ct_T) (w2 : Nat) (b2 : Nat) (n2 : Nat) (T2 : ct_T) (x1 : Int32) : Int32 := if (e_X1_checkBarge w b n T w2 b2 n2 T2 x1) = 0 then (((ct_to T) x1.toNatClampNeg)) else ((0 : Int32))
abbrev rm_X1_daysToGo : Room := { frames := 7, cells := 1, slots := 6, locals := 111 }
set_option maxHeartbeats 4000000 in
set_option maxRecDepth 100000 in
theorem k_X1_daysToGo {l : Launch} (hst : l.stackTraces = false) (D : va_G) (cI cZ cL : ClassId) (h : Nat) (a a2 : Nat → Nat) (w : Nat) (b : Nat) (n : Nat) (T : ct_T) (w2 : Nat) (b2 : Nat) (n2 : Nat) (T2 : ct_T) (hd5 : w ≤ 5) (hd4 : b ≤ 4) (hd30 : n ≤ 30) (he5 : w2 ≤ 5) (he4 : b2 ≤ 4) (he30 : n2 ≤ 30) (x1 : Int32)  : TX l yX1_daysToGo wsX1_daysToGo rm_X1_daysToGo D cI cZ cL [.ref h, .int x1] (wb_c h a a2 cI cZ w b n T w2 b2 n2 T2) (e_X1_daysToGo w b n T w2 b2 n2 T2 x1) (some (.int (r_X1_daysToGo w b n T w2 b2 n2 T2 x1))) (wb_c h a a2 cI cZ w b n T w2 b2 n2 T2) := by
  refine TX.of (own := RX1) (cc := cX1_daysToGo) (maxL := 2) (ret := (some .int)) (lv0 := [(0, .ref h), (1, .int x1)]) (by decide) rfl rfl (Nat.le_of_ble_eq_true rfl) rfl ?_
  intro p e s m args below meth c A hc hT hout hw ls hl
  obtain ⟨hx, hb, hr, hml, hown, hts, hlk, hK, hA⟩ := id hc
  have hiX0 : ∀ w ∈ u_ws RX0 TX0 16, w ∈ wsX1_daysToGo := fun _ h => List.mem_cons_of_mem _ (List.mem_append_left _ (List.mem_append_right _ h))
  have hiX1 : ∀ w ∈ u_ws RX1 TX1 2, w ∈ wsX1_daysToGo := fun _ h => List.mem_cons_of_mem _ (List.mem_append_left _ (List.mem_append_left _ (List.mem_append_right _ h)))
  refine lv_aload_n hx hb dX1_daysToGo_0 rfl (lv_at hl 0 rfl) ?_
  refine lv_iload_n hx hb dX1_daysToGo_1 rfl (lv_at hl 1 rfl) ?_
  refine t_callV0 (n := 1) hc hT hw (k_X1_checkBarge hst D cI cZ cL h a a2 w b n T w2 b2 n2 T2 hd5 hd4 hd30 he5 he4 he30 x1) gX1_daysToGo_X1_checkBarge rfl (by decide +kernel) ⟨Nat.le_of_ble_eq_true rfl, Nat.le_of_ble_eq_true rfl⟩ 0 (wo_X1_H ..) rfl rfl rfl (rest := []) rfl hl.1 (Nat.le_of_ble_eq_true rfl) (st1 := []) rfl dX1_daysToGo_2 (k2 := 1) (s2 := 6) rfl rfl ⟨Nat.le_of_ble_eq_true rfl, Nat.le_of_ble_eq_true rfl⟩ (fun he1 H locs q9 ce9 hw h1 h2 h3 => ?_) (fun he1 H locs hw => ?_)
  · rw [show e_X1_daysToGo w b n T w2 b2 n2 T2 x1 = (e_X1_checkBarge w b n T w2 b2 n2 T2 x1) from by rw [e_X1_daysToGo, if_neg he1]]
    exact t_out hc hout hw he1 h1 h2 h3 (Nat.le_of_ble_eq_true rfl) (Nat.le_of_ble_eq_true rfl)
  · have hv2 : vp_in x1 4 := vp_x (v_X1_checkBarge he1).1 (v_X1_checkBarge he1).2 hd4 (by omega)
    refine lv_aload_n hx hb dX1_daysToGo_5 rfl (lv_at hl 0 rfl) ?_
    refine g_get (v := .ref (a 0)) hc hw hiX1 0 0 (wo_X1_H ..) rfl (by decide) (List.mem_of_getElem? (i := 1) rfl) (wv_X1_H_0 ..) dX1_daysToGo_6 ?_
    refine g_get (v := .ref (a 8)) hc hw hiX0 1 8 (wo_X1_T ..) rfl (by decide) (List.mem_of_getElem? (i := 2) rfl) (wv_X1_T_8 ..) dX1_daysToGo_9 ?_
    refine lv_iload_n hx hb dX1_daysToGo_12 rfl (lv_at hl 1 rfl) ?_
    refine g_iald (f := (ct_to T)) hc hw 5 (wr_X1_T_8 ..) hv2 dX1_daysToGo_13 ?_
    refine t_end (show e_X1_daysToGo w b n T w2 b2 n2 T2 x1 = 0 from by rw [e_X1_daysToGo, if_pos he1]) (fun _ _ z1 z2 => ?_)
    subst z1; subst z2
    rw [show r_X1_daysToGo w b n T w2 b2 n2 T2 x1 = ((ct_to T) x1.toNatClampNeg) from by rw [r_X1_daysToGo, if_pos he1]]
    exact g_ret hc hw rfl (Nat.le_of_ble_eq_true rfl) (Nat.le_of_ble_eq_true rfl) dX1_daysToGo_14

def e_X1_keptFor (w : Nat) (b : Nat) (n : Nat) (T : ct_T) (w2 : Nat) (b2 : Nat) (n2 : Nat) (T2 : ct_T) (x1 : Int32) : Nat := if (e_X1_checkBarge w b n T w2 b2 n2 T2 x1) = 0 then (0) else ((e_X1_checkBarge w b n T w2 b2 n2 T2 x1))
def r_X1_keptFor (w : Nat) (b : Nat) (n : Nat) (T : ct_T) (w2 : Nat) (b2 : Nat) (n2 : Nat) (T2 : ct_T) (x1 : Int32) : Int32 := if (e_X1_checkBarge w b n T w2 b2 n2 T2 x1) = 0 then (((ct_ke T) x1.toNatClampNeg)) else ((0 : Int32))
abbrev rm_X1_keptFor : Room := { frames := 7, cells := 1, slots := 6, locals := 111 }
set_option maxHeartbeats 4000000 in
set_option maxRecDepth 100000 in
theorem k_X1_keptFor {l : Launch} (hst : l.stackTraces = false) (D : va_G) (cI cZ cL : ClassId) (h : Nat) (a a2 : Nat → Nat) (w : Nat) (b : Nat) (n : Nat) (T : ct_T) (w2 : Nat) (b2 : Nat) (n2 : Nat) (T2 : ct_T) (hd5 : w ≤ 5) (hd4 : b ≤ 4) (hd30 : n ≤ 30) (he5 : w2 ≤ 5) (he4 : b2 ≤ 4) (he30 : n2 ≤ 30) (x1 : Int32)  : TX l yX1_keptFor wsX1_keptFor rm_X1_keptFor D cI cZ cL [.ref h, .int x1] (wb_c h a a2 cI cZ w b n T w2 b2 n2 T2) (e_X1_keptFor w b n T w2 b2 n2 T2 x1) (some (.int (r_X1_keptFor w b n T w2 b2 n2 T2 x1))) (wb_c h a a2 cI cZ w b n T w2 b2 n2 T2) := by
  refine TX.of (own := RX1) (cc := cX1_keptFor) (maxL := 2) (ret := (some .int)) (lv0 := [(0, .ref h), (1, .int x1)]) (by decide) rfl rfl (Nat.le_of_ble_eq_true rfl) rfl ?_
  intro p e s m args below meth c A hc hT hout hw ls hl
  obtain ⟨hx, hb, hr, hml, hown, hts, hlk, hK, hA⟩ := id hc
  have hiX0 : ∀ w ∈ u_ws RX0 TX0 16, w ∈ wsX1_keptFor := fun _ h => List.mem_cons_of_mem _ (List.mem_append_left _ (List.mem_append_right _ h))
  have hiX1 : ∀ w ∈ u_ws RX1 TX1 2, w ∈ wsX1_keptFor := fun _ h => List.mem_cons_of_mem _ (List.mem_append_left _ (List.mem_append_left _ (List.mem_append_right _ h)))
  refine lv_aload_n hx hb dX1_keptFor_0 rfl (lv_at hl 0 rfl) ?_
  refine lv_iload_n hx hb dX1_keptFor_1 rfl (lv_at hl 1 rfl) ?_
  refine t_callV0 (n := 1) hc hT hw (k_X1_checkBarge hst D cI cZ cL h a a2 w b n T w2 b2 n2 T2 hd5 hd4 hd30 he5 he4 he30 x1) gX1_keptFor_X1_checkBarge rfl (by decide +kernel) ⟨Nat.le_of_ble_eq_true rfl, Nat.le_of_ble_eq_true rfl⟩ 0 (wo_X1_H ..) rfl rfl rfl (rest := []) rfl hl.1 (Nat.le_of_ble_eq_true rfl) (st1 := []) rfl dX1_keptFor_2 (k2 := 1) (s2 := 6) rfl rfl ⟨Nat.le_of_ble_eq_true rfl, Nat.le_of_ble_eq_true rfl⟩ (fun he1 H locs q9 ce9 hw h1 h2 h3 => ?_) (fun he1 H locs hw => ?_)
  · rw [show e_X1_keptFor w b n T w2 b2 n2 T2 x1 = (e_X1_checkBarge w b n T w2 b2 n2 T2 x1) from by rw [e_X1_keptFor, if_neg he1]]
    exact t_out hc hout hw he1 h1 h2 h3 (Nat.le_of_ble_eq_true rfl) (Nat.le_of_ble_eq_true rfl)
  · have hv2 : vp_in x1 4 := vp_x (v_X1_checkBarge he1).1 (v_X1_checkBarge he1).2 hd4 (by omega)
    refine lv_aload_n hx hb dX1_keptFor_5 rfl (lv_at hl 0 rfl) ?_
    refine g_get (v := .ref (a 0)) hc hw hiX1 0 0 (wo_X1_H ..) rfl (by decide) (List.mem_of_getElem? (i := 1) rfl) (wv_X1_H_0 ..) dX1_keptFor_6 ?_
    refine g_get (v := .ref (a 7)) hc hw hiX0 1 7 (wo_X1_T ..) rfl (by decide) (List.mem_of_getElem? (i := 2) rfl) (wv_X1_T_7 ..) dX1_keptFor_9 ?_
    refine lv_iload_n hx hb dX1_keptFor_12 rfl (lv_at hl 1 rfl) ?_
    refine g_iald (f := (ct_ke T)) hc hw 4 (wr_X1_T_7 ..) hv2 dX1_keptFor_13 ?_
    refine t_end (show e_X1_keptFor w b n T w2 b2 n2 T2 x1 = 0 from by rw [e_X1_keptFor, if_pos he1]) (fun _ _ z1 z2 => ?_)
    subst z1; subst z2
    rw [show r_X1_keptFor w b n T w2 b2 n2 T2 x1 = ((ct_ke T) x1.toNatClampNeg) from by rw [r_X1_keptFor, if_pos he1]]
    exact g_ret hc hw rfl (Nat.le_of_ble_eq_true rfl) (Nat.le_of_ble_eq_true rfl) dX1_keptFor_14

def e_X1_peopleOn (w : Nat) (b : Nat) (n : Nat) (T : ct_T) (w2 : Nat) (b2 : Nat) (n2 : Nat) (T2 : ct_T) (x1 : Int32) : Nat := if (e_X1_checkBarge w b n T w2 b2 n2 T2 x1) = 0 then (0) else ((e_X1_checkBarge w b n T w2 b2 n2 T2 x1))
def r_X1_peopleOn (w : Nat) (b : Nat) (n : Nat) (T : ct_T) (w2 : Nat) (b2 : Nat) (n2 : Nat) (T2 : ct_T) (x1 : Int32) : Int32 := if (e_X1_checkBarge w b n T w2 b2 n2 T2 x1) = 0 then ((r_X0_countAt w b n T (0 : Int32) x1)) else ((0 : Int32))
abbrev rm_X1_peopleOn : Room := { frames := 7, cells := 1, slots := 6, locals := 111 }
set_option maxHeartbeats 4000000 in
set_option maxRecDepth 100000 in
theorem k_X1_peopleOn {l : Launch} (hst : l.stackTraces = false) (D : va_G) (cI cZ cL : ClassId) (h : Nat) (a a2 : Nat → Nat) (w : Nat) (b : Nat) (n : Nat) (T : ct_T) (w2 : Nat) (b2 : Nat) (n2 : Nat) (T2 : ct_T) (hd5 : w ≤ 5) (hd4 : b ≤ 4) (hd30 : n ≤ 30) (he5 : w2 ≤ 5) (he4 : b2 ≤ 4) (he30 : n2 ≤ 30) (x1 : Int32)  : TX l yX1_peopleOn wsX1_peopleOn rm_X1_peopleOn D cI cZ cL [.ref h, .int x1] (wb_c h a a2 cI cZ w b n T w2 b2 n2 T2) (e_X1_peopleOn w b n T w2 b2 n2 T2 x1) (some (.int (r_X1_peopleOn w b n T w2 b2 n2 T2 x1))) (wb_c h a a2 cI cZ w b n T w2 b2 n2 T2) := by
  refine TX.of (own := RX1) (cc := cX1_peopleOn) (maxL := 2) (ret := (some .int)) (lv0 := [(0, .ref h), (1, .int x1)]) (by decide) rfl rfl (Nat.le_of_ble_eq_true rfl) rfl ?_
  intro p e s m args below meth c A hc hT hout hw ls hl
  obtain ⟨hx, hb, hr, hml, hown, hts, hlk, hK, hA⟩ := id hc
  have hiX1 : ∀ w ∈ u_ws RX1 TX1 2, w ∈ wsX1_peopleOn := fun _ h => List.mem_cons_of_mem _ (List.mem_append_left _ (List.mem_append_left _ (List.mem_append_right _ h)))
  refine lv_aload_n hx hb dX1_peopleOn_0 rfl (lv_at hl 0 rfl) ?_
  refine lv_iload_n hx hb dX1_peopleOn_1 rfl (lv_at hl 1 rfl) ?_
  refine t_callV0 (n := 1) hc hT hw (k_X1_checkBarge hst D cI cZ cL h a a2 w b n T w2 b2 n2 T2 hd5 hd4 hd30 he5 he4 he30 x1) gX1_peopleOn_X1_checkBarge rfl (by decide +kernel) ⟨Nat.le_of_ble_eq_true rfl, Nat.le_of_ble_eq_true rfl⟩ 0 (wo_X1_H ..) rfl rfl rfl (rest := []) rfl hl.1 (Nat.le_of_ble_eq_true rfl) (st1 := []) rfl dX1_peopleOn_2 (k2 := 1) (s2 := 6) rfl rfl ⟨Nat.le_of_ble_eq_true rfl, Nat.le_of_ble_eq_true rfl⟩ (fun he1 H locs q9 ce9 hw h1 h2 h3 => ?_) (fun he1 H locs hw => ?_)
  · rw [show e_X1_peopleOn w b n T w2 b2 n2 T2 x1 = (e_X1_checkBarge w b n T w2 b2 n2 T2 x1) from by rw [e_X1_peopleOn, if_neg he1]]
    exact t_out hc hout hw he1 h1 h2 h3 (Nat.le_of_ble_eq_true rfl) (Nat.le_of_ble_eq_true rfl)
  · have hv2 : vp_in x1 4 := vp_x (v_X1_checkBarge he1).1 (v_X1_checkBarge he1).2 hd4 (by omega)
    refine lv_aload_n hx hb dX1_peopleOn_5 rfl (lv_at hl 0 rfl) ?_
    refine g_get (v := .ref (a 0)) hc hw hiX1 0 0 (wo_X1_H ..) rfl (by decide) (List.mem_of_getElem? (i := 1) rfl) (wv_X1_H_0 ..) dX1_peopleOn_6 ?_
    refine lv_iconst (v := 0) hx hb dX1_peopleOn_9 (by decide) ?_
    refine lv_iload_n hx hb dX1_peopleOn_10 rfl (lv_at hl 1 rfl) ?_
    refine g_callV (n := 2) hc hw (k_X0_countAt l D cI cZ cL a w b n T hd5 hd4 hd30 (0 : Int32) x1) gX1_peopleOn_X0_countAt rfl (by decide +kernel) ⟨Nat.le_of_ble_eq_true rfl, Nat.le_of_ble_eq_true rfl⟩ (wo_X0_T ..) rfl rfl [1, 2, 3, 4, 5, 6, 7, 8, 9, 10, 11] [0, 12, 13, 14, 15, 16, 17, 18, 19, 20, 21, 22] [0, 12, 13, 14, 15, 16, 17, 18, 19, 20, 21, 22, 1, 2, 3, 4, 5, 6, 7, 8, 9, 10, 11] (wr := (wb_c0 h a a2 :: wt_c a2 cI cZ w2 b2 n2 T2)) (w' := (wb_c h a a2 cI cZ w b n T w2 b2 n2 T2)) (wpC_X1_T ..) (wpR_X1_T ..) (by decide) (by decide) (by decide) (wpJ_X1_T ..) (by decide) rfl (rest := []) rfl hl.1 (Nat.le_of_ble_eq_true rfl) (st1 := [.int (r_X0_countAt w b n T (0 : Int32) x1)]) rfl dX1_peopleOn_11 (k2 := 1) (s2 := 6) rfl rfl ⟨Nat.le_of_ble_eq_true rfl, Nat.le_of_ble_eq_true rfl⟩ (fun H locs hw => ?_)
    refine t_end (show e_X1_peopleOn w b n T w2 b2 n2 T2 x1 = 0 from by rw [e_X1_peopleOn, if_pos he1]) (fun _ _ z1 z2 => ?_)
    subst z1; subst z2
    rw [show r_X1_peopleOn w b n T w2 b2 n2 T2 x1 = (r_X0_countAt w b n T (0 : Int32) x1) from by rw [r_X1_peopleOn, if_pos he1]]
    exact g_ret hc hw rfl (Nat.le_of_ble_eq_true rfl) (Nat.le_of_ble_eq_true rfl) dX1_peopleOn_14

def e_X1_highestFeverOn (w : Nat) (b : Nat) (n : Nat) (T : ct_T) (w2 : Nat) (b2 : Nat) (n2 : Nat) (T2 : ct_T) (x1 : Int32) : Nat := if (e_X1_checkBarge w b n T w2 b2 n2 T2 x1) = 0 then (0) else ((e_X1_checkBarge w b n T w2 b2 n2 T2 x1))
def r_X1_highestFeverOn (w : Nat) (b : Nat) (n : Nat) (T : ct_T) (w2 : Nat) (b2 : Nat) (n2 : Nat) (T2 : ct_T) (x1 : Int32) : Int32 := if (e_X1_checkBarge w b n T w2 b2 n2 T2 x1) = 0 then ((r_X0_highestFeverAboard w b n T x1)) else ((0 : Int32))
abbrev rm_X1_highestFeverOn : Room := { frames := 7, cells := 1, slots := 6, locals := 111 }
set_option maxHeartbeats 4000000 in
set_option maxRecDepth 100000 in
theorem k_X1_highestFeverOn {l : Launch} (hst : l.stackTraces = false) (D : va_G) (cI cZ cL : ClassId) (h : Nat) (a a2 : Nat → Nat) (w : Nat) (b : Nat) (n : Nat) (T : ct_T) (w2 : Nat) (b2 : Nat) (n2 : Nat) (T2 : ct_T) (hd5 : w ≤ 5) (hd4 : b ≤ 4) (hd30 : n ≤ 30) (he5 : w2 ≤ 5) (he4 : b2 ≤ 4) (he30 : n2 ≤ 30) (x1 : Int32)  : TX l yX1_highestFeverOn wsX1_highestFeverOn rm_X1_highestFeverOn D cI cZ cL [.ref h, .int x1] (wb_c h a a2 cI cZ w b n T w2 b2 n2 T2) (e_X1_highestFeverOn w b n T w2 b2 n2 T2 x1) (some (.int (r_X1_highestFeverOn w b n T w2 b2 n2 T2 x1))) (wb_c h a a2 cI cZ w b n T w2 b2 n2 T2) := by
  refine TX.of (own := RX1) (cc := cX1_highestFeverOn) (maxL := 2) (ret := (some .int)) (lv0 := [(0, .ref h), (1, .int x1)]) (by decide) rfl rfl (Nat.le_of_ble_eq_true rfl) rfl ?_
  intro p e s m args below meth c A hc hT hout hw ls hl
  obtain ⟨hx, hb, hr, hml, hown, hts, hlk, hK, hA⟩ := id hc
  have hiX1 : ∀ w ∈ u_ws RX1 TX1 2, w ∈ wsX1_highestFeverOn := fun _ h => List.mem_cons_of_mem _ (List.mem_append_left _ (List.mem_append_left _ (List.mem_append_right _ h)))
  refine lv_aload_n hx hb dX1_highestFeverOn_0 rfl (lv_at hl 0 rfl) ?_
  refine lv_iload_n hx hb dX1_highestFeverOn_1 rfl (lv_at hl 1 rfl) ?_
  refine t_callV0 (n := 1) hc hT hw (k_X1_checkBarge hst D cI cZ cL h a a2 w b n T w2 b2 n2 T2 hd5 hd4 hd30 he5 he4 he30 x1) gX1_highestFeverOn_X1_checkBarge rfl (by decide +kernel) ⟨Nat.le_of_ble_eq_true rfl, Nat.le_of_ble_eq_true rfl⟩ 0 (wo_X1_H ..) rfl rfl rfl (rest := []) rfl hl.1 (Nat.le_of_ble_eq_true rfl) (st1 := []) rfl dX1_highestFeverOn_2 (k2 := 1) (s2 := 6) rfl rfl ⟨Nat.le_of_ble_eq_true rfl, Nat.le_of_ble_eq_true rfl⟩ (fun he1 H locs q9 ce9 hw h1 h2 h3 => ?_) (fun he1 H locs hw => ?_)
  · rw [show e_X1_highestFeverOn w b n T w2 b2 n2 T2 x1 = (e_X1_checkBarge w b n T w2 b2 n2 T2 x1) from by rw [e_X1_highestFeverOn, if_neg he1]]
    exact t_out hc hout hw he1 h1 h2 h3 (Nat.le_of_ble_eq_true rfl) (Nat.le_of_ble_eq_true rfl)
  · have hv2 : vp_in x1 4 := vp_x (v_X1_checkBarge he1).1 (v_X1_checkBarge he1).2 hd4 (by omega)
    refine lv_aload_n hx hb dX1_highestFeverOn_5 rfl (lv_at hl 0 rfl) ?_
    refine g_get (v := .ref (a 0)) hc hw hiX1 0 0 (wo_X1_H ..) rfl (by decide) (List.mem_of_getElem? (i := 1) rfl) (wv_X1_H_0 ..) dX1_highestFeverOn_6 ?_
    refine lv_iload_n hx hb dX1_highestFeverOn_9 rfl (lv_at hl 1 rfl) ?_
    refine g_callV (n := 1) hc hw (k_X0_highestFeverAboard l D cI cZ cL a w b n T hd5 hd4 hd30 x1) gX1_highestFeverOn_X0_highestFeverAboard rfl (by decide +kernel) ⟨Nat.le_of_ble_eq_true rfl, Nat.le_of_ble_eq_true rfl⟩ (wo_X0_T ..) rfl rfl [1, 2, 3, 4, 5, 6, 7, 8, 9, 10, 11] [0, 12, 13, 14, 15, 16, 17, 18, 19, 20, 21, 22] [0, 12, 13, 14, 15, 16, 17, 18, 19, 20, 21, 22, 1, 2, 3, 4, 5, 6, 7, 8, 9, 10, 11] (wr := (wb_c0 h a a2 :: wt_c a2 cI cZ w2 b2 n2 T2)) (w' := (wb_c h a a2 cI cZ w b n T w2 b2 n2 T2)) (wpC_X1_T ..) (wpR_X1_T ..) (by decide) (by decide) (by decide) (wpJ_X1_T ..) (by decide) rfl (rest := []) rfl hl.1 (Nat.le_of_ble_eq_true rfl) (st1 := [.int (r_X0_highestFeverAboard w b n T x1)]) rfl dX1_highestFeverOn_10 (k2 := 1) (s2 := 6) rfl rfl ⟨Nat.le_of_ble_eq_true rfl, Nat.le_of_ble_eq_true rfl⟩ (fun H locs hw => ?_)
    refine t_end (show e_X1_highestFeverOn w b n T w2 b2 n2 T2 x1 = 0 from by rw [e_X1_highestFeverOn, if_pos he1]) (fun _ _ z1 z2 => ?_)
    subst z1; subst z2
    rw [show r_X1_highestFeverOn w b n T w2 b2 n2 T2 x1 = (r_X0_highestFeverAboard w b n T x1) from by rw [r_X1_highestFeverOn, if_pos he1]]
    exact g_ret hc hw rfl (Nat.le_of_ble_eq_true rfl) (Nat.le_of_ble_eq_true rfl) dX1_highestFeverOn_13
