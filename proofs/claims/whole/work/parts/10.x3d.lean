def r_X3_layStraw (th : Int32) (w : Nat) (b : Nat) (n : Nat) (T : mt_T) (w2 : Nat) (b2 : Nat) (n2 : Nat) (T2 : mt_T) (x1 : Int32) : Int32 := if (r_X3_isWard (0 : Int32) w b n T w2 b2 n2 T2 x1) = (0 : Int32) then ((r_X3_no (0 : Int32) w b n T w2 b2 n2 T2 (1 : Int32))) else (((mt_st T) x1.toNatClampNeg))
def t_X3_layStraw (th : Int32) (w : Nat) (b : Nat) (n : Nat) (T : mt_T) (w2 : Nat) (b2 : Nat) (n2 : Nat) (T2 : mt_T) (x1 : Int32) : Int32 := if (r_X3_isWard (0 : Int32) w b n T w2 b2 n2 T2 x1) = (0 : Int32) then ((t_X3_no (0 : Int32) w b n T w2 b2 n2 T2 (1 : Int32))) else ((0 : Int32))
def s_X3_layStraw (th : Int32) (w : Nat) (b : Nat) (n : Nat) (T : mt_T) (w2 : Nat) (b2 : Nat) (n2 : Nat) (T2 : mt_T) (x1 : Int32) : mt_T := if (r_X3_isWard (0 : Int32) w b n T w2 b2 n2 T2 x1) = (0 : Int32) then (T) else ((ms_st T (upd (mt_st T) x1.toNatClampNeg (0 : Int32))))
abbrev rm_X3_layStraw : Room := { frames := 2, cells := 0, slots := 0, locals := 43 }
set_option maxHeartbeats 4000000 in
set_option maxRecDepth 100000 in
theorem k_X3_layStraw (l : Launch) (D : va_G) (cI cZ cL : ClassId) (h : Nat) (a a2 : Nat → Nat) (th : Int32) (w : Nat) (b : Nat) (n : Nat) (T : mt_T) (w2 : Nat) (b2 : Nat) (n2 : Nat) (T2 : mt_T) (hd5 : w ≤ 5) (hd4 : b ≤ 4) (hd30 : n ≤ 30) (he5 : w2 ≤ 5) (he4 : b2 ≤ 4) (he30 : n2 ≤ 30) (x1 : Int32)  : MX l yX3_layStraw wsX3_layStraw rm_X3_layStraw D cI cZ cL [.ref h, .int x1] (wb_m h a a2 cI th w b n T w2 b2 n2 T2) (some (.int (r_X3_layStraw th w b n T w2 b2 n2 T2 x1))) (wb_m h a a2 cI (t_X3_layStraw th w b n T w2 b2 n2 T2 x1) w b n (s_X3_layStraw th w b n T w2 b2 n2 T2 x1) w2 b2 n2 T2) := by
  refine MX.of (own := RX3) (cc := cX3_layStraw) (maxL := 3) (ret := (some .int)) (lv0 := [(0, .ref h), (1, .int x1)]) (by decide) rfl rfl (Nat.le_of_ble_eq_true rfl) rfl ?_
  intro p e s m args below meth c A hc hnm hw ls hl
  obtain ⟨hx, hb, hr, hml, hown, hts, hlk, hK, hA⟩ := id hc
  have hiX2 : ∀ w ∈ u_ws RX2 TX2 13, w ∈ wsX3_layStraw := fun _ h => List.mem_cons_of_mem _ (List.mem_append_right _ h)
  have hiX3 : ∀ w ∈ u_ws RX3 TX3 3, w ∈ wsX3_layStraw := fun _ h => List.mem_cons_of_mem _ (List.mem_append_left _ (List.mem_append_right _ h))
  refine lv_aload_n hx hb dX3_layStraw_0 rfl (lv_at hl 0 rfl) ?_
  refine lv_iconst (v := 0) hx hb dX3_layStraw_1 (by decide) ?_
  refine g_put hc hw hiX3 tyX3 tyX3_ok nmX3 0 0 (wo_X3_H ..) rfl (by decide) (List.mem_of_getElem? (i := 1) rfl) (by decide) rfl rfl (Nat.le_of_ble_eq_true rfl) (w' := (wb_m h a a2 cI (0 : Int32) w b n T w2 b2 n2 T2)) (wp_X3_H_0 ..) dX3_layStraw_2 (fun H locs hw => ?_)
  refine lv_aload_n hx hb dX3_layStraw_5 rfl (lv_at hl 0 rfl) ?_
  refine lv_iload_n hx hb dX3_layStraw_6 rfl (lv_at hl 1 rfl) ?_
  refine g_callV0 (n := 1) hc hw (k_X3_isWard l D cI cZ cL h a a2 (0 : Int32) w b n T w2 b2 n2 T2 hd5 hd4 hd30 he5 he4 he30 x1) gX3_layStraw_X3_isWard rfl (by decide +kernel) ⟨Nat.le_of_ble_eq_true rfl, Nat.le_of_ble_eq_true rfl⟩ 0 (wo_X3_H ..) rfl rfl rfl (rest := []) rfl hl.1 (Nat.le_of_ble_eq_true rfl) (st1 := [.int (r_X3_isWard (0 : Int32) w b n T w2 b2 n2 T2 x1)]) rfl dX3_layStraw_7 (k2 := 0) (s2 := 0) rfl rfl ⟨Nat.le_of_ble_eq_true rfl, Nat.le_of_ble_eq_true rfl⟩ (fun H locs hw => ?_)
  refine lv_if_ne (tgt := 19) hx hb dX3_layStraw_10 (by decide) (fun c1 => ?_) (fun c1 => ?_)
  · refine lv_aload_n hx hb dX3_layStraw_19 rfl (lv_at hl 0 rfl) ?_
    refine g_get (v := .ref (a 0)) hc hw hiX3 0 1 (wo_X3_H ..) rfl (by decide) (List.mem_of_getElem? (i := 2) rfl) (wv_X3_H_1 ..) dX3_layStraw_20 ?_
    refine g_getN (v := .ref (a 7)) (host := RX3) hc hw hiX2 1 7 (wo_X3_T ..) rfl (by decide) (fun z => z.2 (66, "straw", "[I") (by decide +kernel)) (wv_X3_T_7 ..) dX3_layStraw_23 ?_
    refine lv_iload_n hx hb dX3_layStraw_26 rfl (lv_at hl 1 rfl) ?_
    refine g_iald (f := (mt_st T)) hc hw 3 (wr_X3_T_7 ..) (v_X3_isWard c1 hd5) dX3_layStraw_27 ?_
    refine lv_istore_n (lv' := [(2, .int ((mt_st T) x1.toNatClampNeg)), (0, .ref h), (1, .int x1)]) hx hb dX3_layStraw_28 rfl hl (by decide) rfl (fun ls hl => ?_)
    refine lv_aload_n hx hb dX3_layStraw_29 rfl (lv_at hl 1 rfl) ?_
    refine g_get (v := .ref (a 0)) hc hw hiX3 0 1 (wo_X3_H ..) rfl (by decide) (List.mem_of_getElem? (i := 2) rfl) (wv_X3_H_1 ..) dX3_layStraw_30 ?_
    refine g_getN (v := .ref (a 7)) (host := RX3) hc hw hiX2 1 7 (wo_X3_T ..) rfl (by decide) (fun z => z.2 (66, "straw", "[I") (by decide +kernel)) (wv_X3_T_7 ..) dX3_layStraw_33 ?_
    refine lv_iload_n hx hb dX3_layStraw_36 rfl (lv_at hl 2 rfl) ?_
    refine lv_iconst (v := 0) hx hb dX3_layStraw_37 (by decide) ?_
    refine g_iast (f := (mt_st T)) hc hw 3 (wr_X3_T_7 ..) (v_X3_isWard c1 hd5) (w' := (wb_m h a a2 cI (0 : Int32) w b n (ms_st T (upd (mt_st T) x1.toNatClampNeg (0 : Int32))) w2 b2 n2 T2)) (wu_X3_T_7 ..) dX3_layStraw_38 (fun H locs hw => ?_)
    refine lv_iload_n hx hb dX3_layStraw_39 rfl (lv_at hl 0 rfl) ?_
    rw [show r_X3_layStraw th w b n T w2 b2 n2 T2 x1 = ((mt_st T) x1.toNatClampNeg) from by rw [r_X3_layStraw, if_neg c1]]
    rw [show t_X3_layStraw th w b n T w2 b2 n2 T2 x1 = (0 : Int32) from by rw [t_X3_layStraw, if_neg c1]]
    rw [show s_X3_layStraw th w b n T w2 b2 n2 T2 x1 = (ms_st T (upd (mt_st T) x1.toNatClampNeg (0 : Int32))) from by rw [s_X3_layStraw, if_neg c1]]
    exact g_ret hc hw rfl (Nat.le_of_ble_eq_true rfl) (Nat.le_of_ble_eq_true rfl) dX3_layStraw_40
  · refine lv_aload_n hx hb dX3_layStraw_13 rfl (lv_at hl 0 rfl) ?_
    refine lv_iconst (v := 1) hx hb dX3_layStraw_14 (by decide) ?_
    refine g_callV0 (n := 1) hc hw (k_X3_no l D cI cZ cL h a a2 (0 : Int32) w b n T w2 b2 n2 T2 hd5 hd4 hd30 he5 he4 he30 (1 : Int32)) gX3_layStraw_X3_no rfl (by decide +kernel) ⟨Nat.le_of_ble_eq_true rfl, Nat.le_of_ble_eq_true rfl⟩ 0 (wo_X3_H ..) rfl rfl rfl (rest := []) rfl hl.1 (Nat.le_of_ble_eq_true rfl) (st1 := [.int (r_X3_no (0 : Int32) w b n T w2 b2 n2 T2 (1 : Int32))]) rfl dX3_layStraw_15 (k2 := 0) (s2 := 0) rfl rfl ⟨Nat.le_of_ble_eq_true rfl, Nat.le_of_ble_eq_true rfl⟩ (fun H locs hw => ?_)
    rw [show r_X3_layStraw th w b n T w2 b2 n2 T2 x1 = (r_X3_no (0 : Int32) w b n T w2 b2 n2 T2 (1 : Int32)) from by rw [r_X3_layStraw, if_pos c1]]
    rw [show t_X3_layStraw th w b n T w2 b2 n2 T2 x1 = (t_X3_no (0 : Int32) w b n T w2 b2 n2 T2 (1 : Int32)) from by rw [t_X3_layStraw, if_pos c1]]
    rw [show s_X3_layStraw th w b n T w2 b2 n2 T2 x1 = T from by rw [s_X3_layStraw, if_pos c1]]
    exact g_ret hc hw rfl (Nat.le_of_ble_eq_true rfl) (Nat.le_of_ble_eq_true rfl) dX3_layStraw_18

def r_X3_carry (th : Int32) (w : Nat) (b : Nat) (n : Nat) (T : mt_T) (w2 : Nat) (b2 : Nat) (n2 : Nat) (T2 : mt_T) (x1 : Int32) (x2 : Int32) : Int32 := if (r_X3_isPerson (0 : Int32) w b n T w2 b2 n2 T2 x1) = (0 : Int32) then ((r_X3_no (0 : Int32) w b n T w2 b2 n2 T2 (1 : Int32))) else (if (r_X3_isWard (0 : Int32) w b n T w2 b2 n2 T2 x2) = (0 : Int32) then ((r_X3_no (0 : Int32) w b n T w2 b2 n2 T2 (1 : Int32))) else (if (nI w) ≤ ((mt_wh T) x1.toNatClampNeg) then ((r_X3_no (0 : Int32) w b n T w2 b2 n2 T2 (2 : Int32))) else (if ((mt_wh T) x1.toNatClampNeg) = x2 then ((r_X3_no (0 : Int32) w b n T w2 b2 n2 T2 (2 : Int32))) else (if (r_X2_at w b n T x2) < ((mt_pl T) x2.toNatClampNeg) then (((mt_wh T) x1.toNatClampNeg)) else ((r_X3_no (0 : Int32) w b n T w2 b2 n2 T2 (2 : Int32)))))))
def t_X3_carry (th : Int32) (w : Nat) (b : Nat) (n : Nat) (T : mt_T) (w2 : Nat) (b2 : Nat) (n2 : Nat) (T2 : mt_T) (x1 : Int32) (x2 : Int32) : Int32 := if (r_X3_isPerson (0 : Int32) w b n T w2 b2 n2 T2 x1) = (0 : Int32) then ((t_X3_no (0 : Int32) w b n T w2 b2 n2 T2 (1 : Int32))) else (if (r_X3_isWard (0 : Int32) w b n T w2 b2 n2 T2 x2) = (0 : Int32) then ((t_X3_no (0 : Int32) w b n T w2 b2 n2 T2 (1 : Int32))) else (if (nI w) ≤ ((mt_wh T) x1.toNatClampNeg) then ((t_X3_no (0 : Int32) w b n T w2 b2 n2 T2 (2 : Int32))) else (if ((mt_wh T) x1.toNatClampNeg) = x2 then ((t_X3_no (0 : Int32) w b n T w2 b2 n2 T2 (2 : Int32))) else (if (r_X2_at w b n T x2) < ((mt_pl T) x2.toNatClampNeg) then ((0 : Int32)) else ((t_X3_no (0 : Int32) w b n T w2 b2 n2 T2 (2 : Int32)))))))
def s_X3_carry (th : Int32) (w : Nat) (b : Nat) (n : Nat) (T : mt_T) (w2 : Nat) (b2 : Nat) (n2 : Nat) (T2 : mt_T) (x1 : Int32) (x2 : Int32) : mt_T := if (r_X3_isPerson (0 : Int32) w b n T w2 b2 n2 T2 x1) = (0 : Int32) then (T) else (if (r_X3_isWard (0 : Int32) w b n T w2 b2 n2 T2 x2) = (0 : Int32) then (T) else (if (nI w) ≤ ((mt_wh T) x1.toNatClampNeg) then (T) else (if ((mt_wh T) x1.toNatClampNeg) = x2 then (T) else (if (r_X2_at w b n T x2) < ((mt_pl T) x2.toNatClampNeg) then ((ms_wh T (upd (mt_wh T) x1.toNatClampNeg x2))) else (T)))))
abbrev rm_X3_carry : Room := { frames := 2, cells := 0, slots := 0, locals := 43 }
set_option maxHeartbeats 4000000 in
set_option maxRecDepth 100000 in
theorem k_X3_carry (l : Launch) (D : va_G) (cI cZ cL : ClassId) (h : Nat) (a a2 : Nat → Nat) (th : Int32) (w : Nat) (b : Nat) (n : Nat) (T : mt_T) (w2 : Nat) (b2 : Nat) (n2 : Nat) (T2 : mt_T) (hd5 : w ≤ 5) (hd4 : b ≤ 4) (hd30 : n ≤ 30) (he5 : w2 ≤ 5) (he4 : b2 ≤ 4) (he30 : n2 ≤ 30) (x1 : Int32) (x2 : Int32)  : MX l yX3_carry wsX3_carry rm_X3_carry D cI cZ cL [.ref h, .int x1, .int x2] (wb_m h a a2 cI th w b n T w2 b2 n2 T2) (some (.int (r_X3_carry th w b n T w2 b2 n2 T2 x1 x2))) (wb_m h a a2 cI (t_X3_carry th w b n T w2 b2 n2 T2 x1 x2) w b n (s_X3_carry th w b n T w2 b2 n2 T2 x1 x2) w2 b2 n2 T2) := by
  refine MX.of (own := RX3) (cc := cX3_carry) (maxL := 4) (ret := (some .int)) (lv0 := [(0, .ref h), (1, .int x1), (2, .int x2)]) (by decide) rfl rfl (Nat.le_of_ble_eq_true rfl) rfl ?_
  intro p e s m args below meth c A hc hnm hw ls hl
  obtain ⟨hx, hb, hr, hml, hown, hts, hlk, hK, hA⟩ := id hc
  have hiX2 : ∀ w ∈ u_ws RX2 TX2 13, w ∈ wsX3_carry := fun _ h => List.mem_cons_of_mem _ (List.mem_append_right _ h)
  have hiX3 : ∀ w ∈ u_ws RX3 TX3 3, w ∈ wsX3_carry := fun _ h => List.mem_cons_of_mem _ (List.mem_append_left _ (List.mem_append_right _ h))
  refine lv_aload_n hx hb dX3_carry_0 rfl (lv_at hl 0 rfl) ?_
  refine lv_iconst (v := 0) hx hb dX3_carry_1 (by decide) ?_
  refine g_put hc hw hiX3 tyX3 tyX3_ok nmX3 0 0 (wo_X3_H ..) rfl (by decide) (List.mem_of_getElem? (i := 1) rfl) (by decide) rfl rfl (Nat.le_of_ble_eq_true rfl) (w' := (wb_m h a a2 cI (0 : Int32) w b n T w2 b2 n2 T2)) (wp_X3_H_0 ..) dX3_carry_2 (fun H locs hw => ?_)
  refine lv_aload_n hx hb dX3_carry_5 rfl (lv_at hl 0 rfl) ?_
  refine lv_iload_n hx hb dX3_carry_6 rfl (lv_at hl 1 rfl) ?_
  refine g_callV0 (n := 1) hc hw (k_X3_isPerson l D cI cZ cL h a a2 (0 : Int32) w b n T w2 b2 n2 T2 hd5 hd4 hd30 he5 he4 he30 x1) gX3_carry_X3_isPerson rfl (by decide +kernel) ⟨Nat.le_of_ble_eq_true rfl, Nat.le_of_ble_eq_true rfl⟩ 0 (wo_X3_H ..) rfl rfl rfl (rest := []) rfl hl.1 (Nat.le_of_ble_eq_true rfl) (st1 := [.int (r_X3_isPerson (0 : Int32) w b n T w2 b2 n2 T2 x1)]) rfl dX3_carry_7 (k2 := 0) (s2 := 0) rfl rfl ⟨Nat.le_of_ble_eq_true rfl, Nat.le_of_ble_eq_true rfl⟩ (fun H locs hw => ?_)
  refine lv_if_eq (tgt := 21) hx hb dX3_carry_10 (by decide) (fun c1 => ?_) (fun c1 => ?_)
  · refine lv_aload_n hx hb dX3_carry_21 rfl (lv_at hl 0 rfl) ?_
    refine lv_iconst (v := 1) hx hb dX3_carry_22 (by decide) ?_
    refine g_callV0 (n := 1) hc hw (k_X3_no l D cI cZ cL h a a2 (0 : Int32) w b n T w2 b2 n2 T2 hd5 hd4 hd30 he5 he4 he30 (1 : Int32)) gX3_carry_X3_no rfl (by decide +kernel) ⟨Nat.le_of_ble_eq_true rfl, Nat.le_of_ble_eq_true rfl⟩ 0 (wo_X3_H ..) rfl rfl rfl (rest := []) rfl hl.1 (Nat.le_of_ble_eq_true rfl) (st1 := [.int (r_X3_no (0 : Int32) w b n T w2 b2 n2 T2 (1 : Int32))]) rfl dX3_carry_23 (k2 := 0) (s2 := 0) rfl rfl ⟨Nat.le_of_ble_eq_true rfl, Nat.le_of_ble_eq_true rfl⟩ (fun H locs hw => ?_)
    rw [show r_X3_carry th w b n T w2 b2 n2 T2 x1 x2 = (r_X3_no (0 : Int32) w b n T w2 b2 n2 T2 (1 : Int32)) from by rw [r_X3_carry, if_pos c1]]
    rw [show t_X3_carry th w b n T w2 b2 n2 T2 x1 x2 = (t_X3_no (0 : Int32) w b n T w2 b2 n2 T2 (1 : Int32)) from by rw [t_X3_carry, if_pos c1]]
    rw [show s_X3_carry th w b n T w2 b2 n2 T2 x1 x2 = T from by rw [s_X3_carry, if_pos c1]]
    exact g_ret hc hw rfl (Nat.le_of_ble_eq_true rfl) (Nat.le_of_ble_eq_true rfl) dX3_carry_26
  · refine lv_aload_n hx hb dX3_carry_13 rfl (lv_at hl 0 rfl) ?_
    refine lv_iload_n hx hb dX3_carry_14 rfl (lv_at hl 2 rfl) ?_
    refine g_callV0 (n := 1) hc hw (k_X3_isWard l D cI cZ cL h a a2 (0 : Int32) w b n T w2 b2 n2 T2 hd5 hd4 hd30 he5 he4 he30 x2) gX3_carry_X3_isWard rfl (by decide +kernel) ⟨Nat.le_of_ble_eq_true rfl, Nat.le_of_ble_eq_true rfl⟩ 0 (wo_X3_H ..) rfl rfl rfl (rest := []) rfl hl.1 (Nat.le_of_ble_eq_true rfl) (st1 := [.int (r_X3_isWard (0 : Int32) w b n T w2 b2 n2 T2 x2)]) rfl dX3_carry_15 (k2 := 0) (s2 := 0) rfl rfl ⟨Nat.le_of_ble_eq_true rfl, Nat.le_of_ble_eq_true rfl⟩ (fun H locs hw => ?_)
    refine lv_if_ne (tgt := 27) hx hb dX3_carry_18 (by decide) (fun c2 => ?_) (fun c2 => ?_)
    · refine lv_aload_n hx hb dX3_carry_27 rfl (lv_at hl 0 rfl) ?_
      refine g_get (v := .ref (a 0)) hc hw hiX3 0 1 (wo_X3_H ..) rfl (by decide) (List.mem_of_getElem? (i := 2) rfl) (wv_X3_H_1 ..) dX3_carry_28 ?_
      refine g_getN (v := .ref (a 11)) (host := RX3) hc hw hiX2 1 11 (wo_X3_T ..) rfl (by decide) (fun z => z.2 (57, "where", "[I") (by decide +kernel)) (wv_X3_T_11 ..) dX3_carry_31 ?_
      refine lv_iload_n hx hb dX3_carry_34 rfl (lv_at hl 1 rfl) ?_
      refine g_iald (f := (mt_wh T)) hc hw 7 (wr_X3_T_11 ..) (v_X3_isPerson c1 hd30) dX3_carry_35 ?_
      refine lv_istore_n (lv' := [(3, .int ((mt_wh T) x1.toNatClampNeg)), (0, .ref h), (1, .int x1), (2, .int x2)]) hx hb dX3_carry_36 rfl hl (by decide) rfl (fun ls hl => ?_)
      refine lv_iload_n hx hb dX3_carry_37 rfl (lv_at hl 0 rfl) ?_
      refine lv_aload_n hx hb dX3_carry_38 rfl (lv_at hl 1 rfl) ?_
      refine g_get (v := .ref (a 0)) hc hw hiX3 0 1 (wo_X3_H ..) rfl (by decide) (List.mem_of_getElem? (i := 2) rfl) (wv_X3_H_1 ..) dX3_carry_39 ?_
      refine g_getN (v := .int (nI w)) (host := RX3) hc hw hiX2 1 1 (wo_X3_T ..) rfl (by decide) (fun z => z.2 (23, "wards", "I") (by decide +kernel)) (wv_X3_T_1 ..) dX3_carry_42 ?_
      refine lv_icmp_ge (tgt := 73) hx hb dX3_carry_45 (by decide) (fun c3 => ?_) (fun c3 => ?_)
      · refine lv_aload_n hx hb dX3_carry_73 rfl (lv_at hl 1 rfl) ?_
        refine lv_iconst (v := 2) hx hb dX3_carry_74 (by decide) ?_
        refine g_callV0 (n := 1) hc hw (k_X3_no l D cI cZ cL h a a2 (0 : Int32) w b n T w2 b2 n2 T2 hd5 hd4 hd30 he5 he4 he30 (2 : Int32)) gX3_carry_X3_no rfl (by decide +kernel) ⟨Nat.le_of_ble_eq_true rfl, Nat.le_of_ble_eq_true rfl⟩ 0 (wo_X3_H ..) rfl rfl rfl (rest := []) rfl hl.1 (Nat.le_of_ble_eq_true rfl) (st1 := [.int (r_X3_no (0 : Int32) w b n T w2 b2 n2 T2 (2 : Int32))]) rfl dX3_carry_75 (k2 := 0) (s2 := 0) rfl rfl ⟨Nat.le_of_ble_eq_true rfl, Nat.le_of_ble_eq_true rfl⟩ (fun H locs hw => ?_)
        rw [show r_X3_carry th w b n T w2 b2 n2 T2 x1 x2 = (r_X3_no (0 : Int32) w b n T w2 b2 n2 T2 (2 : Int32)) from by rw [r_X3_carry, if_neg c1, if_neg c2, if_pos c3]]
        rw [show t_X3_carry th w b n T w2 b2 n2 T2 x1 x2 = (t_X3_no (0 : Int32) w b n T w2 b2 n2 T2 (2 : Int32)) from by rw [t_X3_carry, if_neg c1, if_neg c2, if_pos c3]]
        rw [show s_X3_carry th w b n T w2 b2 n2 T2 x1 x2 = T from by rw [s_X3_carry, if_neg c1, if_neg c2, if_pos c3]]
        exact g_ret hc hw rfl (Nat.le_of_ble_eq_true rfl) (Nat.le_of_ble_eq_true rfl) dX3_carry_78
      · refine lv_iload_n hx hb dX3_carry_48 rfl (lv_at hl 0 rfl) ?_
        refine lv_iload_n hx hb dX3_carry_49 rfl (lv_at hl 3 rfl) ?_
        refine lv_icmp_eq (tgt := 73) hx hb dX3_carry_50 (by decide) (fun c4 => ?_) (fun c4 => ?_)
        · refine lv_aload_n hx hb dX3_carry_73 rfl (lv_at hl 1 rfl) ?_
          refine lv_iconst (v := 2) hx hb dX3_carry_74 (by decide) ?_
          refine g_callV0 (n := 1) hc hw (k_X3_no l D cI cZ cL h a a2 (0 : Int32) w b n T w2 b2 n2 T2 hd5 hd4 hd30 he5 he4 he30 (2 : Int32)) gX3_carry_X3_no rfl (by decide +kernel) ⟨Nat.le_of_ble_eq_true rfl, Nat.le_of_ble_eq_true rfl⟩ 0 (wo_X3_H ..) rfl rfl rfl (rest := []) rfl hl.1 (Nat.le_of_ble_eq_true rfl) (st1 := [.int (r_X3_no (0 : Int32) w b n T w2 b2 n2 T2 (2 : Int32))]) rfl dX3_carry_75 (k2 := 0) (s2 := 0) rfl rfl ⟨Nat.le_of_ble_eq_true rfl, Nat.le_of_ble_eq_true rfl⟩ (fun H locs hw => ?_)
          rw [show r_X3_carry th w b n T w2 b2 n2 T2 x1 x2 = (r_X3_no (0 : Int32) w b n T w2 b2 n2 T2 (2 : Int32)) from by rw [r_X3_carry, if_neg c1, if_neg c2, if_neg c3, if_pos c4]]
          rw [show t_X3_carry th w b n T w2 b2 n2 T2 x1 x2 = (t_X3_no (0 : Int32) w b n T w2 b2 n2 T2 (2 : Int32)) from by rw [t_X3_carry, if_neg c1, if_neg c2, if_neg c3, if_pos c4]]
          rw [show s_X3_carry th w b n T w2 b2 n2 T2 x1 x2 = T from by rw [s_X3_carry, if_neg c1, if_neg c2, if_neg c3, if_pos c4]]
          exact g_ret hc hw rfl (Nat.le_of_ble_eq_true rfl) (Nat.le_of_ble_eq_true rfl) dX3_carry_78
        · refine lv_aload_n hx hb dX3_carry_53 rfl (lv_at hl 1 rfl) ?_
          refine g_get (v := .ref (a 0)) hc hw hiX3 0 1 (wo_X3_H ..) rfl (by decide) (List.mem_of_getElem? (i := 2) rfl) (wv_X3_H_1 ..) dX3_carry_54 ?_
          refine lv_iload_n hx hb dX3_carry_57 rfl (lv_at hl 3 rfl) ?_
          refine g_callV (n := 1) hc hw (k_X2_at l D cI cZ cL a w b n T hd5 hd4 hd30 x2) gX3_carry_X2_at rfl (by decide +kernel) ⟨Nat.le_of_ble_eq_true rfl, Nat.le_of_ble_eq_true rfl⟩ (wo_X2_T ..) rfl rfl [1, 2, 3, 4, 5, 6, 7, 8] [0, 9, 10, 11, 12, 13, 14, 15, 16] [0, 9, 10, 11, 12, 13, 14, 15, 16, 1, 2, 3, 4, 5, 6, 7, 8] (wr := (wb_m0 h a a2 (0 : Int32) :: wt_m a2 cI w2 b2 n2 T2)) (w' := (wb_m h a a2 cI (0 : Int32) w b n T w2 b2 n2 T2)) (wpC_X3_T ..) (wpR_X3_T ..) (by decide) (by decide) (by decide) (wpJ_X3_T ..) (by decide) rfl (rest := []) rfl hl.1 (Nat.le_of_ble_eq_true rfl) (st1 := [.int (r_X2_at w b n T x2)]) rfl dX3_carry_58 (k2 := 0) (s2 := 0) rfl rfl ⟨Nat.le_of_ble_eq_true rfl, Nat.le_of_ble_eq_true rfl⟩ (fun H locs hw => ?_)
          refine lv_aload_n hx hb dX3_carry_61 rfl (lv_at hl 1 rfl) ?_
          refine g_get (v := .ref (a 0)) hc hw hiX3 0 1 (wo_X3_H ..) rfl (by decide) (List.mem_of_getElem? (i := 2) rfl) (wv_X3_H_1 ..) dX3_carry_62 ?_
          refine g_getN (v := .ref (a 6)) (host := RX3) hc hw hiX2 1 6 (wo_X3_T ..) rfl (by decide) (fun z => z.2 (40, "places", "[I") (by decide +kernel)) (wv_X3_T_6 ..) dX3_carry_65 ?_
          refine lv_iload_n hx hb dX3_carry_68 rfl (lv_at hl 3 rfl) ?_
          refine g_iald (f := (mt_pl T)) hc hw 2 (wr_X3_T_6 ..) (v_X3_isWard c2 hd5) dX3_carry_69 ?_
          refine lv_icmp_lt (tgt := 79) hx hb dX3_carry_70 (by decide) (fun c5 => ?_) (fun c5 => ?_)
          · refine lv_aload_n hx hb dX3_carry_79 rfl (lv_at hl 1 rfl) ?_
            refine g_get (v := .ref (a 0)) hc hw hiX3 0 1 (wo_X3_H ..) rfl (by decide) (List.mem_of_getElem? (i := 2) rfl) (wv_X3_H_1 ..) dX3_carry_80 ?_
            refine g_getN (v := .ref (a 11)) (host := RX3) hc hw hiX2 1 11 (wo_X3_T ..) rfl (by decide) (fun z => z.2 (57, "where", "[I") (by decide +kernel)) (wv_X3_T_11 ..) dX3_carry_83 ?_
            refine lv_iload_n hx hb dX3_carry_86 rfl (lv_at hl 2 rfl) ?_
            refine lv_iload_n hx hb dX3_carry_87 rfl (lv_at hl 3 rfl) ?_
            refine g_iast (f := (mt_wh T)) hc hw 7 (wr_X3_T_11 ..) (v_X3_isPerson c1 hd30) (w' := (wb_m h a a2 cI (0 : Int32) w b n (ms_wh T (upd (mt_wh T) x1.toNatClampNeg x2)) w2 b2 n2 T2)) (wu_X3_T_11 ..) dX3_carry_88 (fun H locs hw => ?_)
            refine lv_iload_n hx hb dX3_carry_89 rfl (lv_at hl 0 rfl) ?_
            rw [show r_X3_carry th w b n T w2 b2 n2 T2 x1 x2 = ((mt_wh T) x1.toNatClampNeg) from by rw [r_X3_carry, if_neg c1, if_neg c2, if_neg c3, if_neg c4, if_pos c5]]
            rw [show t_X3_carry th w b n T w2 b2 n2 T2 x1 x2 = (0 : Int32) from by rw [t_X3_carry, if_neg c1, if_neg c2, if_neg c3, if_neg c4, if_pos c5]]
            rw [show s_X3_carry th w b n T w2 b2 n2 T2 x1 x2 = (ms_wh T (upd (mt_wh T) x1.toNatClampNeg x2)) from by rw [s_X3_carry, if_neg c1, if_neg c2, if_neg c3, if_neg c4, if_pos c5]]
            exact g_ret hc hw rfl (Nat.le_of_ble_eq_true rfl) (Nat.le_of_ble_eq_true rfl) dX3_carry_90
          · refine lv_aload_n hx hb dX3_carry_73 rfl (lv_at hl 1 rfl) ?_
            refine lv_iconst (v := 2) hx hb dX3_carry_74 (by decide) ?_
            refine g_callV0 (n := 1) hc hw (k_X3_no l D cI cZ cL h a a2 (0 : Int32) w b n T w2 b2 n2 T2 hd5 hd4 hd30 he5 he4 he30 (2 : Int32)) gX3_carry_X3_no rfl (by decide +kernel) ⟨Nat.le_of_ble_eq_true rfl, Nat.le_of_ble_eq_true rfl⟩ 0 (wo_X3_H ..) rfl rfl rfl (rest := []) rfl hl.1 (Nat.le_of_ble_eq_true rfl) (st1 := [.int (r_X3_no (0 : Int32) w b n T w2 b2 n2 T2 (2 : Int32))]) rfl dX3_carry_75 (k2 := 0) (s2 := 0) rfl rfl ⟨Nat.le_of_ble_eq_true rfl, Nat.le_of_ble_eq_true rfl⟩ (fun H locs hw => ?_)
            rw [show r_X3_carry th w b n T w2 b2 n2 T2 x1 x2 = (r_X3_no (0 : Int32) w b n T w2 b2 n2 T2 (2 : Int32)) from by rw [r_X3_carry, if_neg c1, if_neg c2, if_neg c3, if_neg c4, if_neg c5]]
            rw [show t_X3_carry th w b n T w2 b2 n2 T2 x1 x2 = (t_X3_no (0 : Int32) w b n T w2 b2 n2 T2 (2 : Int32)) from by rw [t_X3_carry, if_neg c1, if_neg c2, if_neg c3, if_neg c4, if_neg c5]]
            rw [show s_X3_carry th w b n T w2 b2 n2 T2 x1 x2 = T from by rw [s_X3_carry, if_neg c1, if_neg c2, if_neg c3, if_neg c4, if_neg c5]]
            exact g_ret hc hw rfl (Nat.le_of_ble_eq_true rfl) (Nat.le_of_ble_eq_true rfl) dX3_carry_78
    · refine lv_aload_n hx hb dX3_carry_21 rfl (lv_at hl 0 rfl) ?_
      refine lv_iconst (v := 1) hx hb dX3_carry_22 (by decide) ?_
      refine g_callV0 (n := 1) hc hw (k_X3_no l D cI cZ cL h a a2 (0 : Int32) w b n T w2 b2 n2 T2 hd5 hd4 hd30 he5 he4 he30 (1 : Int32)) gX3_carry_X3_no rfl (by decide +kernel) ⟨Nat.le_of_ble_eq_true rfl, Nat.le_of_ble_eq_true rfl⟩ 0 (wo_X3_H ..) rfl rfl rfl (rest := []) rfl hl.1 (Nat.le_of_ble_eq_true rfl) (st1 := [.int (r_X3_no (0 : Int32) w b n T w2 b2 n2 T2 (1 : Int32))]) rfl dX3_carry_23 (k2 := 0) (s2 := 0) rfl rfl ⟨Nat.le_of_ble_eq_true rfl, Nat.le_of_ble_eq_true rfl⟩ (fun H locs hw => ?_)
      rw [show r_X3_carry th w b n T w2 b2 n2 T2 x1 x2 = (r_X3_no (0 : Int32) w b n T w2 b2 n2 T2 (1 : Int32)) from by rw [r_X3_carry, if_neg c1, if_pos c2]]
      rw [show t_X3_carry th w b n T w2 b2 n2 T2 x1 x2 = (t_X3_no (0 : Int32) w b n T w2 b2 n2 T2 (1 : Int32)) from by rw [t_X3_carry, if_neg c1, if_pos c2]]
      rw [show s_X3_carry th w b n T w2 b2 n2 T2 x1 x2 = T from by rw [s_X3_carry, if_neg c1, if_pos c2]]
      exact g_ret hc hw rfl (Nat.le_of_ble_eq_true rfl) (Nat.le_of_ble_eq_true rfl) dX3_carry_26

def r_X3_pass (th : Int32) (w : Nat) (b : Nat) (n : Nat) (T : mt_T) (w2 : Nat) (b2 : Nat) (n2 : Nat) (T2 : mt_T) (x1 : Int32) : Int32 := if (r_X3_isIn x1 (1 : Int32) (40 : Int32)) = (0 : Int32) then ((r_X3_no (0 : Int32) w b n T w2 b2 n2 T2 (1 : Int32))) else (((r_X2_at w b n (s_X2_passOn w b n T x1.toNatClampNeg) (20 : Int32)) - (r_X2_at w b n T (20 : Int32))))
def t_X3_pass (th : Int32) (w : Nat) (b : Nat) (n : Nat) (T : mt_T) (w2 : Nat) (b2 : Nat) (n2 : Nat) (T2 : mt_T) (x1 : Int32) : Int32 := if (r_X3_isIn x1 (1 : Int32) (40 : Int32)) = (0 : Int32) then ((t_X3_no (0 : Int32) w b n T w2 b2 n2 T2 (1 : Int32))) else ((0 : Int32))
def s_X3_pass (th : Int32) (w : Nat) (b : Nat) (n : Nat) (T : mt_T) (w2 : Nat) (b2 : Nat) (n2 : Nat) (T2 : mt_T) (x1 : Int32) : mt_T := if (r_X3_isIn x1 (1 : Int32) (40 : Int32)) = (0 : Int32) then (T) else ((s_X2_passOn w b n T x1.toNatClampNeg))
abbrev rm_X3_pass : Room := { frames := 5, cells := 0, slots := 0, locals := 110 }
set_option maxHeartbeats 4000000 in
set_option maxRecDepth 100000 in
theorem k_X3_pass (l : Launch) (D : va_G) (cI cZ cL : ClassId) (h : Nat) (a a2 : Nat → Nat) (th : Int32) (w : Nat) (b : Nat) (n : Nat) (T : mt_T) (w2 : Nat) (b2 : Nat) (n2 : Nat) (T2 : mt_T) (hd5 : w ≤ 5) (hd4 : b ≤ 4) (hd30 : n ≤ 30) (he5 : w2 ≤ 5) (he4 : b2 ≤ 4) (he30 : n2 ≤ 30) (x1 : Int32)  : MX l yX3_pass wsX3_pass rm_X3_pass D cI cZ cL [.ref h, .int x1] (wb_m h a a2 cI th w b n T w2 b2 n2 T2) (some (.int (r_X3_pass th w b n T w2 b2 n2 T2 x1))) (wb_m h a a2 cI (t_X3_pass th w b n T w2 b2 n2 T2 x1) w b n (s_X3_pass th w b n T w2 b2 n2 T2 x1) w2 b2 n2 T2) := by
  refine MX.of (own := RX3) (cc := cX3_pass) (maxL := 3) (ret := (some .int)) (lv0 := [(0, .ref h), (1, .int x1)]) (by decide) rfl rfl (Nat.le_of_ble_eq_true rfl) rfl ?_
  intro p e s m args below meth c A hc hnm hw ls hl
  obtain ⟨hx, hb, hr, hml, hown, hts, hlk, hK, hA⟩ := id hc
  have hiX3 : ∀ w ∈ u_ws RX3 TX3 3, w ∈ wsX3_pass := fun _ h => List.mem_cons_of_mem _ (List.mem_append_left _ (List.mem_append_right _ h))
  refine lv_aload_n hx hb dX3_pass_0 rfl (lv_at hl 0 rfl) ?_
  refine lv_iconst (v := 0) hx hb dX3_pass_1 (by decide) ?_
  refine g_put hc hw hiX3 tyX3 tyX3_ok nmX3 0 0 (wo_X3_H ..) rfl (by decide) (List.mem_of_getElem? (i := 1) rfl) (by decide) rfl rfl (Nat.le_of_ble_eq_true rfl) (w' := (wb_m h a a2 cI (0 : Int32) w b n T w2 b2 n2 T2)) (wp_X3_H_0 ..) dX3_pass_2 (fun H locs hw => ?_)
  refine lv_iload_n hx hb dX3_pass_5 rfl (lv_at hl 1 rfl) ?_
  refine lv_iconst (v := 1) hx hb dX3_pass_6 (by decide) ?_
  refine lv_bipush (v := 40) hx hb dX3_pass_7 (by decide) ?_
  refine g_callS0 (n := 3) hc hw (k_X3_isIn l D cI cZ cL x1 (1 : Int32) (40 : Int32)) gX3_pass_X3_isIn rfl (by decide +kernel) ⟨Nat.le_of_ble_eq_true rfl, Nat.le_of_ble_eq_true rfl⟩ rfl (rest := []) rfl hl.1 (Nat.le_of_ble_eq_true rfl) (st1 := [.int (r_X3_isIn x1 (1 : Int32) (40 : Int32))]) rfl dX3_pass_9 (k2 := 0) (s2 := 0) rfl rfl ⟨Nat.le_of_ble_eq_true rfl, Nat.le_of_ble_eq_true rfl⟩ (fun H locs hw => ?_)
  refine lv_if_ne (tgt := 21) hx hb dX3_pass_12 (by decide) (fun c1 => ?_) (fun c1 => ?_)
  · refine lv_aload_n hx hb dX3_pass_21 rfl (lv_at hl 0 rfl) ?_
    refine g_get (v := .ref (a 0)) hc hw hiX3 0 1 (wo_X3_H ..) rfl (by decide) (List.mem_of_getElem? (i := 2) rfl) (wv_X3_H_1 ..) dX3_pass_22 ?_
    refine lv_bipush (v := 20) hx hb dX3_pass_25 (by decide) ?_
    refine g_callV (n := 1) hc hw (k_X2_at l D cI cZ cL a w b n T hd5 hd4 hd30 (20 : Int32)) gX3_pass_X2_at rfl (by decide +kernel) ⟨Nat.le_of_ble_eq_true rfl, Nat.le_of_ble_eq_true rfl⟩ (wo_X2_T ..) rfl rfl [1, 2, 3, 4, 5, 6, 7, 8] [0, 9, 10, 11, 12, 13, 14, 15, 16] [0, 9, 10, 11, 12, 13, 14, 15, 16, 1, 2, 3, 4, 5, 6, 7, 8] (wr := (wb_m0 h a a2 (0 : Int32) :: wt_m a2 cI w2 b2 n2 T2)) (w' := (wb_m h a a2 cI (0 : Int32) w b n T w2 b2 n2 T2)) (wpC_X3_T ..) (wpR_X3_T ..) (by decide) (by decide) (by decide) (wpJ_X3_T ..) (by decide) rfl (rest := []) rfl hl.1 (Nat.le_of_ble_eq_true rfl) (st1 := [.int (r_X2_at w b n T (20 : Int32))]) rfl dX3_pass_27 (k2 := 0) (s2 := 0) rfl rfl ⟨Nat.le_of_ble_eq_true rfl, Nat.le_of_ble_eq_true rfl⟩ (fun H locs hw => ?_)
    refine lv_istore_n (lv' := [(2, .int (r_X2_at w b n T (20 : Int32))), (0, .ref h), (1, .int x1)]) hx hb dX3_pass_30 rfl hl (by decide) rfl (fun ls hl => ?_)
    refine lv_aload_n hx hb dX3_pass_31 rfl (lv_at hl 1 rfl) ?_
    refine g_get (v := .ref (a 0)) hc hw hiX3 0 1 (wo_X3_H ..) rfl (by decide) (List.mem_of_getElem? (i := 2) rfl) (wv_X3_H_1 ..) dX3_pass_32 ?_
    refine lv_iload_n hx hb dX3_pass_35 rfl (lv_at hl 2 rfl) ?_
    refine g_callV (n := 1) hc hw (k_X2_passOn l D cI cZ cL a w b n T hd5 hd4 hd30 x1.toNatClampNeg (v_X3_days c1).2) gX3_pass_X2_passOn rfl (by decide +kernel) ⟨Nat.le_of_ble_eq_true rfl, Nat.le_of_ble_eq_true rfl⟩ (wo_X2_T ..) rfl rfl [1, 2, 3, 4, 5, 6, 7, 8] [0, 9, 10, 11, 12, 13, 14, 15, 16] [0, 9, 10, 11, 12, 13, 14, 15, 16, 1, 2, 3, 4, 5, 6, 7, 8] (wr := (wb_m0 h a a2 (0 : Int32) :: wt_m a2 cI w2 b2 n2 T2)) (w' := (wb_m h a a2 cI (0 : Int32) w b n (s_X2_passOn w b n T x1.toNatClampNeg) w2 b2 n2 T2)) (wpC_X3_T ..) (wpR_X3_T ..) (by decide) (by decide) (by decide) (wpJ_X3_T ..) (by decide) rfl (rest := []) (by first | (rw [← (v_X3_days c1).1]; done) | (rw [← (v_X3_days c1).1]; rfl)) hl.1 (Nat.le_of_ble_eq_true rfl) (st1 := []) rfl dX3_pass_36 (k2 := 0) (s2 := 0) rfl rfl ⟨Nat.le_of_ble_eq_true rfl, Nat.le_of_ble_eq_true rfl⟩ (fun H locs hw => ?_)
    refine lv_aload_n hx hb dX3_pass_39 rfl (lv_at hl 1 rfl) ?_
    refine g_get (v := .ref (a 0)) hc hw hiX3 0 1 (wo_X3_H ..) rfl (by decide) (List.mem_of_getElem? (i := 2) rfl) (wv_X3_H_1 ..) dX3_pass_40 ?_
    refine lv_bipush (v := 20) hx hb dX3_pass_43 (by decide) ?_
    refine g_callV (n := 1) hc hw (k_X2_at l D cI cZ cL a w b n (s_X2_passOn w b n T x1.toNatClampNeg) hd5 hd4 hd30 (20 : Int32)) gX3_pass_X2_at rfl (by decide +kernel) ⟨Nat.le_of_ble_eq_true rfl, Nat.le_of_ble_eq_true rfl⟩ (wo_X2_T ..) rfl rfl [1, 2, 3, 4, 5, 6, 7, 8] [0, 9, 10, 11, 12, 13, 14, 15, 16] [0, 9, 10, 11, 12, 13, 14, 15, 16, 1, 2, 3, 4, 5, 6, 7, 8] (wr := (wb_m0 h a a2 (0 : Int32) :: wt_m a2 cI w2 b2 n2 T2)) (w' := (wb_m h a a2 cI (0 : Int32) w b n (s_X2_passOn w b n T x1.toNatClampNeg) w2 b2 n2 T2)) (wpC_X3_T ..) (wpR_X3_T ..) (by decide) (by decide) (by decide) (wpJ_X3_T ..) (by decide) rfl (rest := []) rfl hl.1 (Nat.le_of_ble_eq_true rfl) (st1 := [.int (r_X2_at w b n (s_X2_passOn w b n T x1.toNatClampNeg) (20 : Int32))]) rfl dX3_pass_45 (k2 := 0) (s2 := 0) rfl rfl ⟨Nat.le_of_ble_eq_true rfl, Nat.le_of_ble_eq_true rfl⟩ (fun H locs hw => ?_)
    refine lv_iload_n hx hb dX3_pass_48 rfl (lv_at hl 0 rfl) ?_
    refine lv_isub hx hb dX3_pass_49 ?_
    rw [show r_X3_pass th w b n T w2 b2 n2 T2 x1 = ((r_X2_at w b n (s_X2_passOn w b n T x1.toNatClampNeg) (20 : Int32)) - (r_X2_at w b n T (20 : Int32))) from by rw [r_X3_pass, if_neg c1]]
    rw [show t_X3_pass th w b n T w2 b2 n2 T2 x1 = (0 : Int32) from by rw [t_X3_pass, if_neg c1]]
    rw [show s_X3_pass th w b n T w2 b2 n2 T2 x1 = (s_X2_passOn w b n T x1.toNatClampNeg) from by rw [s_X3_pass, if_neg c1]]
    exact g_ret hc hw rfl (Nat.le_of_ble_eq_true rfl) (Nat.le_of_ble_eq_true rfl) dX3_pass_50
  · refine lv_aload_n hx hb dX3_pass_15 rfl (lv_at hl 0 rfl) ?_
    refine lv_iconst (v := 1) hx hb dX3_pass_16 (by decide) ?_
    refine g_callV0 (n := 1) hc hw (k_X3_no l D cI cZ cL h a a2 (0 : Int32) w b n T w2 b2 n2 T2 hd5 hd4 hd30 he5 he4 he30 (1 : Int32)) gX3_pass_X3_no rfl (by decide +kernel) ⟨Nat.le_of_ble_eq_true rfl, Nat.le_of_ble_eq_true rfl⟩ 0 (wo_X3_H ..) rfl rfl rfl (rest := []) rfl hl.1 (Nat.le_of_ble_eq_true rfl) (st1 := [.int (r_X3_no (0 : Int32) w b n T w2 b2 n2 T2 (1 : Int32))]) rfl dX3_pass_17 (k2 := 0) (s2 := 0) rfl rfl ⟨Nat.le_of_ble_eq_true rfl, Nat.le_of_ble_eq_true rfl⟩ (fun H locs hw => ?_)
    rw [show r_X3_pass th w b n T w2 b2 n2 T2 x1 = (r_X3_no (0 : Int32) w b n T w2 b2 n2 T2 (1 : Int32)) from by rw [r_X3_pass, if_pos c1]]
    rw [show t_X3_pass th w b n T w2 b2 n2 T2 x1 = (t_X3_no (0 : Int32) w b n T w2 b2 n2 T2 (1 : Int32)) from by rw [t_X3_pass, if_pos c1]]
    rw [show s_X3_pass th w b n T w2 b2 n2 T2 x1 = T from by rw [s_X3_pass, if_pos c1]]
    exact g_ret hc hw rfl (Nat.le_of_ble_eq_true rfl) (Nat.le_of_ble_eq_true rfl) dX3_pass_20
