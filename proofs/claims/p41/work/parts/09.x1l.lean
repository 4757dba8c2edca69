def r_X1_countBehind (w : Nat) (b : Nat) (n : Nat) (T : ct_T) (w2 : Nat) (b2 : Nat) (n2 : Nat) (T2 : ct_T) (x1 : Nat) (x2 : Int32) : Int32 := (r_X0_count w b n (s_X0_liveDays w b n (s_X0_copyFrom w2 b2 n2 T2 w b n T) x1) x2)
def z_X1_countBehind (w : Nat) (b : Nat) (n : Nat) (T : ct_T) (w2 : Nat) (b2 : Nat) (n2 : Nat) (T2 : ct_T) (x1 : Nat) (x2 : Int32) : ct_T := (s_X0_liveDays w b n (s_X0_copyFrom w2 b2 n2 T2 w b n T) x1)
abbrev rm_X1_countBehind : Room := { frames := 5, cells := 0, slots := 0, locals := 113 }
set_option maxHeartbeats 4000000 in
set_option maxRecDepth 100000 in
theorem k_X1_countBehind (l : Launch) (D : va_G) (cI cZ cL : ClassId) (h : Nat) (a a2 : Nat → Nat) (w : Nat) (b : Nat) (n : Nat) (T : ct_T) (w2 : Nat) (b2 : Nat) (n2 : Nat) (T2 : ct_T) (hd5 : w ≤ 5) (hd4 : b ≤ 4) (hd30 : n ≤ 30) (he5 : w2 ≤ 5) (he4 : b2 ≤ 4) (he30 : n2 ≤ 30) (x1 : Nat) (x2 : Int32) (hp1 : x1 < 2 ^ 31) : MX l yX1_countBehind wsX1_countBehind rm_X1_countBehind D cI cZ cL [.ref h, .int (nI x1), .int x2] (wb_c h a a2 cI cZ w b n T w2 b2 n2 T2) (some (.int (r_X1_countBehind w b n T w2 b2 n2 T2 x1 x2))) (wb_c h a a2 cI cZ w b n T w b n (z_X1_countBehind w b n T w2 b2 n2 T2 x1 x2)) := by
  refine MX.of (own := RX1) (cc := cX1_countBehind) (maxL := 3) (ret := (some .int)) (lv0 := [(0, .ref h), (1, .int (nI x1)), (2, .int x2)]) (by decide) rfl rfl (Nat.le_of_ble_eq_true rfl) rfl ?_
  intro p e s m args below meth c A hc hnm hw ls hl
  obtain ⟨hx, hb, hr, hml, hown, hts, hlk, hK, hA⟩ := id hc
  have hiX1 : ∀ w ∈ u_ws RX1 TX1 2, w ∈ wsX1_countBehind := fun _ h => List.mem_cons_of_mem _ (List.mem_append_left _ (List.mem_append_right _ h))
  refine lv_aload_n hx hb dX1_countBehind_0 rfl (lv_at hl 0 rfl) ?_
  refine g_get (v := .ref (a2 0)) hc hw hiX1 0 1 (wo_X1_H ..) rfl (by decide) (List.mem_of_getElem? (i := 1) rfl) (wv_X1_H_1 ..) dX1_countBehind_1 ?_
  refine lv_aload_n hx hb dX1_countBehind_4 rfl (lv_at hl 0 rfl) ?_
  refine g_get (v := .ref (a 0)) hc hw hiX1 0 0 (wo_X1_H ..) rfl (by decide) (List.mem_of_getElem? (i := 2) rfl) (wv_X1_H_0 ..) dX1_countBehind_5 ?_
  refine g_callV (n := 1) hc hw (k_X0_copyFrom l D cI cZ cL a2 a w2 b2 n2 T2 w b n T he5 he4 he30 hd5 hd4 hd30) gX1_countBehind_X0_copyFrom rfl (by decide +kernel) ⟨Nat.le_of_ble_eq_true rfl, Nat.le_of_ble_eq_true rfl⟩ (q0 := 0) rfl rfl rfl [12, 13, 14, 15, 16, 17, 18, 19, 20, 21, 22, 1, 2, 3, 4, 5, 6, 7, 8, 9, 10, 11] [0] [0, 12, 13, 14, 15, 16, 17, 18, 19, 20, 21, 22, 1, 2, 3, 4, 5, 6, 7, 8, 9, 10, 11] (wr := ([wb_c0 h a a2])) (w' := (wb_c h a a2 cI cZ w b n T w b n (s_X0_copyFrom w2 b2 n2 T2 w b n T))) (wqC_X1 ..) (wqR_X1 ..) (by decide) (by decide) (by decide) (wqJ_X1 ..) (by decide) rfl (rest := []) rfl hl.1 (Nat.le_of_ble_eq_true rfl) (st1 := []) rfl dX1_countBehind_8 (k2 := 0) (s2 := 0) rfl rfl ⟨Nat.le_of_ble_eq_true rfl, Nat.le_of_ble_eq_true rfl⟩ (fun H locs hw => ?_)
  refine lv_aload_n hx hb dX1_countBehind_11 rfl (lv_at hl 0 rfl) ?_
  refine g_get (v := .ref (a2 0)) hc hw hiX1 0 1 (wo_X1_H ..) rfl (by decide) (List.mem_of_getElem? (i := 1) rfl) (wv_X1_H_1 ..) dX1_countBehind_12 ?_
  refine lv_iload_n hx hb dX1_countBehind_15 rfl (lv_at hl 1 rfl) ?_
  refine g_callV (n := 1) hc hw (k_X0_liveDays l D cI cZ cL a2 w b n (s_X0_copyFrom w2 b2 n2 T2 w b n T) hd5 hd4 hd30 x1 (by omega)) gX1_countBehind_X0_liveDays rfl (by decide +kernel) ⟨Nat.le_of_ble_eq_true rfl, Nat.le_of_ble_eq_true rfl⟩ (wo_X0_T ..) rfl rfl [12, 13, 14, 15, 16, 17, 18, 19, 20, 21, 22] [0, 1, 2, 3, 4, 5, 6, 7, 8, 9, 10, 11] [0, 1, 2, 3, 4, 5, 6, 7, 8, 9, 10, 11, 12, 13, 14, 15, 16, 17, 18, 19, 20, 21, 22] (wr := (wb_c0 h a a2 :: wt_c a cI cZ w b n T)) (w' := (wb_c h a a2 cI cZ w b n T w b n (s_X0_liveDays w b n (s_X0_copyFrom w2 b2 n2 T2 w b n T) x1))) (wpC_X1_T2 ..) (wpR_X1_T2 ..) (by decide) (by decide) (by decide) (wpJ_X1_T2 ..) (by decide) rfl (rest := []) rfl hl.1 (Nat.le_of_ble_eq_true rfl) (st1 := []) rfl dX1_countBehind_16 (k2 := 0) (s2 := 0) rfl rfl ⟨Nat.le_of_ble_eq_true rfl, Nat.le_of_ble_eq_true rfl⟩ (fun H locs hw => ?_)
  refine lv_aload_n hx hb dX1_countBehind_19 rfl (lv_at hl 0 rfl) ?_
  refine g_get (v := .ref (a2 0)) hc hw hiX1 0 1 (wo_X1_H ..) rfl (by decide) (List.mem_of_getElem? (i := 1) rfl) (wv_X1_H_1 ..) dX1_countBehind_20 ?_
  refine lv_iload_n hx hb dX1_countBehind_23 rfl (lv_at hl 2 rfl) ?_
  refine g_callV (n := 1) hc hw (k_X0_count l D cI cZ cL a2 w b n (s_X0_liveDays w b n (s_X0_copyFrom w2 b2 n2 T2 w b n T) x1) hd5 hd4 hd30 x2) gX1_countBehind_X0_count rfl (by decide +kernel) ⟨Nat.le_of_ble_eq_true rfl, Nat.le_of_ble_eq_true rfl⟩ (wo_X0_T ..) rfl rfl [12, 13, 14, 15, 16, 17, 18, 19, 20, 21, 22] [0, 1, 2, 3, 4, 5, 6, 7, 8, 9, 10, 11] [0, 1, 2, 3, 4, 5, 6, 7, 8, 9, 10, 11, 12, 13, 14, 15, 16, 17, 18, 19, 20, 21, 22] (wr := (wb_c0 h a a2 :: wt_c a cI cZ w b n T)) (w' := (wb_c h a a2 cI cZ w b n T w b n (s_X0_liveDays w b n (s_X0_copyFrom w2 b2 n2 T2 w b n T) x1))) (wpC_X1_T2 ..) (wpR_X1_T2 ..) (by decide) (by decide) (by decide) (wpJ_X1_T2 ..) (by decide) rfl (rest := []) rfl hl.1 (Nat.le_of_ble_eq_true rfl) (st1 := [.int (r_X0_count w b n (s_X0_liveDays w b n (s_X0_copyFrom w2 b2 n2 T2 w b n T) x1) x2)]) rfl dX1_countBehind_24 (k2 := 0) (s2 := 0) rfl rfl ⟨Nat.le_of_ble_eq_true rfl, Nat.le_of_ble_eq_true rfl⟩ (fun H locs hw => ?_)
  rw [show r_X1_countBehind w b n T w2 b2 n2 T2 x1 x2 = (r_X0_count w b n (s_X0_liveDays w b n (s_X0_copyFrom w2 b2 n2 T2 w b n T) x1) x2) from by rw [r_X1_countBehind]]
  rw [show z_X1_countBehind w b n T w2 b2 n2 T2 x1 x2 = (s_X0_liveDays w b n (s_X0_copyFrom w2 b2 n2 T2 w b n T) x1) from by rw [z_X1_countBehind]]
  exact g_ret hc hw rfl (Nat.le_of_ble_eq_true rfl) (Nat.le_of_ble_eq_true rfl) dX1_countBehind_27

def e_X1_homeAfter (w : Nat) (b : Nat) (n : Nat) (T : ct_T) (w2 : Nat) (b2 : Nat) (n2 : Nat) (T2 : ct_T) (x1 : Int32) : Nat := if (e_X1_checkDays x1) = 0 then (0) else ((e_X1_checkDays x1))
def r_X1_homeAfter (w : Nat) (b : Nat) (n : Nat) (T : ct_T) (w2 : Nat) (b2 : Nat) (n2 : Nat) (T2 : ct_T) (x1 : Int32) : Int32 := if (e_X1_checkDays x1) = 0 then ((r_X1_countBehind w b n T w2 b2 n2 T2 x1.toNatClampNeg (2 : Int32))) else ((0 : Int32))
def z_X1_homeAfter (w : Nat) (b : Nat) (n : Nat) (T : ct_T) (w2 : Nat) (b2 : Nat) (n2 : Nat) (T2 : ct_T) (x1 : Int32) : ct_T := if (e_X1_checkDays x1) = 0 then ((z_X1_countBehind w b n T w2 b2 n2 T2 x1.toNatClampNeg (2 : Int32))) else (T2)
abbrev rm_X1_homeAfter : Room := { frames := 7, cells := 1, slots := 6, locals := 135 }
set_option maxHeartbeats 4000000 in
set_option maxRecDepth 100000 in
theorem k_X1_homeAfter {l : Launch} (hst : l.stackTraces = false) (D : va_G) (cI cZ cL : ClassId) (h : Nat) (a a2 : Nat → Nat) (w : Nat) (b : Nat) (n : Nat) (T : ct_T) (w2 : Nat) (b2 : Nat) (n2 : Nat) (T2 : ct_T) (hd5 : w ≤ 5) (hd4 : b ≤ 4) (hd30 : n ≤ 30) (he5 : w2 ≤ 5) (he4 : b2 ≤ 4) (he30 : n2 ≤ 30) (x1 : Int32)  : TX l yX1_homeAfter wsX1_homeAfter rm_X1_homeAfter D cI cZ cL [.ref h, .int x1] (wb_c h a a2 cI cZ w b n T w2 b2 n2 T2) (e_X1_homeAfter w b n T w2 b2 n2 T2 x1) (some (.int (r_X1_homeAfter w b n T w2 b2 n2 T2 x1))) (wb_c h a a2 cI cZ w b n T w b n (z_X1_homeAfter w b n T w2 b2 n2 T2 x1)) := by
  refine TX.of (own := RX1) (cc := cX1_homeAfter) (maxL := 2) (ret := (some .int)) (lv0 := [(0, .ref h), (1, .int x1)]) (by decide) rfl rfl (Nat.le_of_ble_eq_true rfl) rfl ?_
  intro p e s m args below meth c A hc hT hout hw ls hl
  obtain ⟨hx, hb, hr, hml, hown, hts, hlk, hK, hA⟩ := id hc
  refine lv_iload_n hx hb dX1_homeAfter_0 rfl (lv_at hl 1 rfl) ?_
  refine t_callS0 (n := 1) hc hT hw (k_X1_checkDays hst D cI cZ cL x1) gX1_homeAfter_X1_checkDays rfl (by decide +kernel) ⟨Nat.le_of_ble_eq_true rfl, Nat.le_of_ble_eq_true rfl⟩ rfl (rest := []) rfl hl.1 (Nat.le_of_ble_eq_true rfl) (st1 := []) rfl dX1_homeAfter_1 (k2 := 1) (s2 := 6) rfl rfl ⟨Nat.le_of_ble_eq_true rfl, Nat.le_of_ble_eq_true rfl⟩ (fun he1 H locs q9 ce9 hw h1 h2 h3 => ?_) (fun he1 H locs hw => ?_)
  · rw [show e_X1_homeAfter w b n T w2 b2 n2 T2 x1 = (e_X1_checkDays x1) from by rw [e_X1_homeAfter, if_neg he1]]
    exact t_out hc hout hw he1 h1 h2 h3 (Nat.le_of_ble_eq_true rfl) (Nat.le_of_ble_eq_true rfl)
  · have hN2 := v_X1_checkDays he1
    refine lv_aload_n hx hb dX1_homeAfter_4 rfl (lv_at hl 0 rfl) ?_
    refine lv_iload_n hx hb dX1_homeAfter_5 rfl (lv_at hl 1 rfl) ?_
    refine lv_iconst (v := 2) hx hb dX1_homeAfter_6 (by decide) ?_
    refine g_callV0 (n := 2) hc hw (k_X1_countBehind l D cI cZ cL h a a2 w b n T w2 b2 n2 T2 hd5 hd4 hd30 he5 he4 he30 x1.toNatClampNeg (2 : Int32) hN2.2) gX1_homeAfter_X1_countBehind rfl (by decide +kernel) ⟨Nat.le_of_ble_eq_true rfl, Nat.le_of_ble_eq_true rfl⟩ 0 (wo_X1_H ..) rfl rfl rfl (rest := []) (by first | (rw [← hN2.1]; done) | (rw [← hN2.1]; rfl)) hl.1 (Nat.le_of_ble_eq_true rfl) (st1 := [.int (r_X1_countBehind w b n T w2 b2 n2 T2 x1.toNatClampNeg (2 : Int32))]) rfl dX1_homeAfter_7 (k2 := 1) (s2 := 6) rfl rfl ⟨Nat.le_of_ble_eq_true rfl, Nat.le_of_ble_eq_true rfl⟩ (fun H locs hw => ?_)
    refine t_end (show e_X1_homeAfter w b n T w2 b2 n2 T2 x1 = 0 from by rw [e_X1_homeAfter, if_pos he1]) (fun _ _ z1 z2 => ?_)
    subst z1; subst z2
    rw [show r_X1_homeAfter w b n T w2 b2 n2 T2 x1 = (r_X1_countBehind w b n T w2 b2 n2 T2 x1.toNatClampNeg (2 : Int32)) from by rw [r_X1_homeAfter, if_pos he1]]
    rw [show z_X1_homeAfter w b n T w2 b2 n2 T2 x1 = (z_X1_countBehind w b n T w2 b2 n2 T2 x1.toNatClampNeg (2 : Int32)) from by rw [z_X1_homeAfter, if_pos he1]]
    exact g_ret hc hw rfl (Nat.le_of_ble_eq_true rfl) (Nat.le_of_ble_eq_true rfl) dX1_homeAfter_10
