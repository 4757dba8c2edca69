def r_X3_wardTold (th : Int32) (w : Nat) (b : Nat) (n : Nat) (T : mt_T) (w2 : Nat) (b2 : Nat) (n2 : Nat) (T2 : mt_T) (x1 : Int32) : Int32 := if (nI w) ≤ ((mt_wh T) x1.toNatClampNeg) then ((-1 : Int32)) else (((mt_wh T) x1.toNatClampNeg))
abbrev rm_X3_wardTold : Room := { frames := 0, cells := 0, slots := 0, locals := 0 }
set_option maxHeartbeats 4000000 in
set_option maxRecDepth 100000 in
theorem k_X3_wardTold (l : Launch) (D : va_G) (cI cZ cL : ClassId) (h : Nat) (a a2 : Nat → Nat) (th : Int32) (w : Nat) (b : Nat) (n : Nat) (T : mt_T) (w2 : Nat) (b2 : Nat) (n2 : Nat) (T2 : mt_T) (hd5 : w ≤ 5) (hd4 : b ≤ 4) (hd30 : n ≤ 30) (he5 : w2 ≤ 5) (he4 : b2 ≤ 4) (he30 : n2 ≤ 30) (x1 : Int32) (hp1 : vp_in x1 30) : MX l yX3_wardTold wsX3_wardTold rm_X3_wardTold D cI cZ cL [.ref h, .int x1] (wb_m h a a2 cI th w b n T w2 b2 n2 T2) (some (.int (r_X3_wardTold th w b n T w2 b2 n2 T2 x1))) (wb_m h a a2 cI th w b n T w2 b2 n2 T2) := by
  refine MX.of (own := RX3) (cc := cX3_wardTold) (maxL := 2) (ret := (some .int)) (lv0 := [(0, .ref h), (1, .int x1)]) (by decide) rfl rfl (Nat.le_of_ble_eq_true rfl) rfl ?_
  intro p e s m args below meth c A hc hnm hw ls hl
  obtain ⟨hx, hb, hr, hml, hown, hts, hlk, hK, hA⟩ := id hc
  have hiX2 : ∀ w ∈ u_ws RX2 TX2 13, w ∈ wsX3_wardTold := fun _ h => List.mem_cons_of_mem _ (List.mem_append_right _ h)
  have hiX3 : ∀ w ∈ u_ws RX3 TX3 3, w ∈ wsX3_wardTold := fun _ h => List.mem_cons_of_mem _ (List.mem_append_left _ (List.mem_append_right _ h))
  refine lv_aload_n hx hb dX3_wardTold_0 rfl (lv_at hl 0 rfl) ?_
  refine g_get (v := .ref (a 0)) hc hw hiX3 0 1 (wo_X3_H ..) rfl (by decide) (List.mem_of_getElem? (i := 1) rfl) (wv_X3_H_1 ..) dX3_wardTold_1 ?_
  refine g_getN (v := .ref (a 11)) (host := RX3) hc hw hiX2 1 11 (wo_X3_T ..) rfl (by decide) (fun z => z.2 (57, "where", "[I") (by decide +kernel)) (wv_X3_T_11 ..) dX3_wardTold_4 ?_
  refine lv_iload_n hx hb dX3_wardTold_7 rfl (lv_at hl 1 rfl) ?_
  refine g_iald (f := (mt_wh T)) hc hw 7 (wr_X3_T_11 ..) hp1 dX3_wardTold_8 ?_
  refine lv_aload_n hx hb dX3_wardTold_9 rfl (lv_at hl 0 rfl) ?_
  refine g_get (v := .ref (a 0)) hc hw hiX3 0 1 (wo_X3_H ..) rfl (by decide) (List.mem_of_getElem? (i := 1) rfl) (wv_X3_H_1 ..) dX3_wardTold_10 ?_
  refine g_getN (v := .int (nI w)) (host := RX3) hc hw hiX2 1 1 (wo_X3_T ..) rfl (by decide) (fun z => z.2 (23, "wards", "I") (by decide +kernel)) (wv_X3_T_1 ..) dX3_wardTold_13 ?_
  refine lv_icmp_ge (tgt := 31) hx hb dX3_wardTold_16 (by decide) (fun c1 => ?_) (fun c1 => ?_)
  · refine lv_iconst (v := (-1)) hx hb dX3_wardTold_31 (by decide) ?_
    rw [show r_X3_wardTold th w b n T w2 b2 n2 T2 x1 = (-1 : Int32) from by rw [r_X3_wardTold, if_pos c1]]
    exact g_ret hc hw rfl (Nat.le_of_ble_eq_true rfl) (Nat.le_of_ble_eq_true rfl) dX3_wardTold_32
  · refine lv_aload_n hx hb dX3_wardTold_19 rfl (lv_at hl 0 rfl) ?_
    refine g_get (v := .ref (a 0)) hc hw hiX3 0 1 (wo_X3_H ..) rfl (by decide) (List.mem_of_getElem? (i := 1) rfl) (wv_X3_H_1 ..) dX3_wardTold_20 ?_
    refine g_getN (v := .ref (a 11)) (host := RX3) hc hw hiX2 1 11 (wo_X3_T ..) rfl (by decide) (fun z => z.2 (57, "where", "[I") (by decide +kernel)) (wv_X3_T_11 ..) dX3_wardTold_23 ?_
    refine lv_iload_n hx hb dX3_wardTold_26 rfl (lv_at hl 1 rfl) ?_
    refine g_iald (f := (mt_wh T)) hc hw 7 (wr_X3_T_11 ..) hp1 dX3_wardTold_27 ?_
    refine lv_goto (tgt := 32) hx hb dX3_wardTold_28 (by decide) ?_
    rw [show r_X3_wardTold th w b n T w2 b2 n2 T2 x1 = ((mt_wh T) x1.toNatClampNeg) from by rw [r_X3_wardTold, if_neg c1]]
    exact g_ret hc hw rfl (Nat.le_of_ble_eq_true rfl) (Nat.le_of_ble_eq_true rfl) dX3_wardTold_32

def r_X3_bargeTold (th : Int32) (w : Nat) (b : Nat) (n : Nat) (T : mt_T) (w2 : Nat) (b2 : Nat) (n2 : Nat) (T2 : mt_T) (x1 : Int32) : Int32 := if (r_X3_isIn ((mt_wh T) x1.toNatClampNeg) (10 : Int32) (19 : Int32)) = (0 : Int32) then ((-1 : Int32)) else ((((mt_wh T) x1.toNatClampNeg) - (10 : Int32)))
abbrev rm_X3_bargeTold : Room := { frames := 1, cells := 0, slots := 0, locals := 22 }
set_option maxHeartbeats 4000000 in
set_option maxRecDepth 100000 in
theorem k_X3_bargeTold (l : Launch) (D : va_G) (cI cZ cL : ClassId) (h : Nat) (a a2 : Nat → Nat) (th : Int32) (w : Nat) (b : Nat) (n : Nat) (T : mt_T) (w2 : Nat) (b2 : Nat) (n2 : Nat) (T2 : mt_T) (hd5 : w ≤ 5) (hd4 : b ≤ 4) (hd30 : n ≤ 30) (he5 : w2 ≤ 5) (he4 : b2 ≤ 4) (he30 : n2 ≤ 30) (x1 : Int32) (hp1 : vp_in x1 30) : MX l yX3_bargeTold wsX3_bargeTold rm_X3_bargeTold D cI cZ cL [.ref h, .int x1] (wb_m h a a2 cI th w b n T w2 b2 n2 T2) (some (.int (r_X3_bargeTold th w b n T w2 b2 n2 T2 x1))) (wb_m h a a2 cI th w b n T w2 b2 n2 T2) := by
  refine MX.of (own := RX3) (cc := cX3_bargeTold) (maxL := 2) (ret := (some .int)) (lv0 := [(0, .ref h), (1, .int x1)]) (by decide) rfl rfl (Nat.le_of_ble_eq_true rfl) rfl ?_
  intro p e s m args below meth c A hc hnm hw ls hl
  obtain ⟨hx, hb, hr, hml, hown, hts, hlk, hK, hA⟩ := id hc
  have hiX2 : ∀ w ∈ u_ws RX2 TX2 13, w ∈ wsX3_bargeTold := fun _ h => List.mem_cons_of_mem _ (List.mem_append_right _ h)
  have hiX3 : ∀ w ∈ u_ws RX3 TX3 3, w ∈ wsX3_bargeTold := fun _ h => List.mem_cons_of_mem _ (List.mem_append_left _ (List.mem_append_right _ h))
  refine lv_aload_n hx hb dX3_bargeTold_0 rfl (lv_at hl 0 rfl) ?_
  refine g_get (v := .ref (a 0)) hc hw hiX3 0 1 (wo_X3_H ..) rfl (by decide) (List.mem_of_getElem? (i := 1) rfl) (wv_X3_H_1 ..) dX3_bargeTold_1 ?_
  refine g_getN (v := .ref (a 11)) (host := RX3) hc hw hiX2 1 11 (wo_X3_T ..) rfl (by decide) (fun z => z.2 (57, "where", "[I") (by decide +kernel)) (wv_X3_T_11 ..) dX3_bargeTold_4 ?_
  refine lv_iload_n hx hb dX3_bargeTold_7 rfl (lv_at hl 1 rfl) ?_
  refine g_iald (f := (mt_wh T)) hc hw 7 (wr_X3_T_11 ..) hp1 dX3_bargeTold_8 ?_
  refine lv_bipush (v := 10) hx hb dX3_bargeTold_9 (by decide) ?_
  refine lv_bipush (v := 19) hx hb dX3_bargeTold_11 (by decide) ?_
  refine g_callS0 (n := 3) hc hw (k_X3_isIn l D cI cZ cL ((mt_wh T) x1.toNatClampNeg) (10 : Int32) (19 : Int32)) gX3_bargeTold_X3_isIn rfl (by decide +kernel) ⟨Nat.le_of_ble_eq_true rfl, Nat.le_of_ble_eq_true rfl⟩ rfl (rest := []) rfl hl.1 (Nat.le_of_ble_eq_true rfl) (st1 := [.int (r_X3_isIn ((mt_wh T) x1.toNatClampNeg) (10 : Int32) (19 : Int32))]) rfl dX3_bargeTold_13 (k2 := 0) (s2 := 0) rfl rfl ⟨Nat.le_of_ble_eq_true rfl, Nat.le_of_ble_eq_true rfl⟩ (fun H locs hw => ?_)
  refine lv_if_eq (tgt := 34) hx hb dX3_bargeTold_16 (by decide) (fun c1 => ?_) (fun c1 => ?_)
  · refine lv_iconst (v := (-1)) hx hb dX3_bargeTold_34 (by decide) ?_
    rw [show r_X3_bargeTold th w b n T w2 b2 n2 T2 x1 = (-1 : Int32) from by rw [r_X3_bargeTold, if_pos c1]]
    exact g_ret hc hw rfl (Nat.le_of_ble_eq_true rfl) (Nat.le_of_ble_eq_true rfl) dX3_bargeTold_35
  · refine lv_aload_n hx hb dX3_bargeTold_19 rfl (lv_at hl 0 rfl) ?_
    refine g_get (v := .ref (a 0)) hc hw hiX3 0 1 (wo_X3_H ..) rfl (by decide) (List.mem_of_getElem? (i := 1) rfl) (wv_X3_H_1 ..) dX3_bargeTold_20 ?_
    refine g_getN (v := .ref (a 11)) (host := RX3) hc hw hiX2 1 11 (wo_X3_T ..) rfl (by decide) (fun z => z.2 (57, "where", "[I") (by decide +kernel)) (wv_X3_T_11 ..) dX3_bargeTold_23 ?_
    refine lv_iload_n hx hb dX3_bargeTold_26 rfl (lv_at hl 1 rfl) ?_
    refine g_iald (f := (mt_wh T)) hc hw 7 (wr_X3_T_11 ..) hp1 dX3_bargeTold_27 ?_
    refine lv_bipush (v := 10) hx hb dX3_bargeTold_28 (by decide) ?_
    refine lv_isub hx hb dX3_bargeTold_30 ?_
    refine lv_goto (tgt := 35) hx hb dX3_bargeTold_31 (by decide) ?_
    rw [show r_X3_bargeTold th w b n T w2 b2 n2 T2 x1 = (((mt_wh T) x1.toNatClampNeg) - (10 : Int32)) from by rw [r_X3_bargeTold, if_neg c1]]
    exact g_ret hc hw rfl (Nat.le_of_ble_eq_true rfl) (Nat.le_of_ble_eq_true rfl) dX3_bargeTold_35

def r_X3_feverOf (th : Int32) (w : Nat) (b : Nat) (n : Nat) (T : mt_T) (w2 : Nat) (b2 : Nat) (n2 : Nat) (T2 : mt_T) (x1 : Int32) : Int32 := if (r_X3_isPerson (0 : Int32) w b n T w2 b2 n2 T2 x1) = (0 : Int32) then ((r_X3_no (0 : Int32) w b n T w2 b2 n2 T2 (1 : Int32))) else (((mt_fe T) x1.toNatClampNeg))
def t_X3_feverOf (th : Int32) (w : Nat) (b : Nat) (n : Nat) (T : mt_T) (w2 : Nat) (b2 : Nat) (n2 : Nat) (T2 : mt_T) (x1 : Int32) : Int32 := if (r_X3_isPerson (0 : Int32) w b n T w2 b2 n2 T2 x1) = (0 : Int32) then ((t_X3_no (0 : Int32) w b n T w2 b2 n2 T2 (1 : Int32))) else ((0 : Int32))
abbrev rm_X3_feverOf : Room := { frames := 2, cells := 0, slots := 0, locals := 43 }
set_option maxHeartbeats 4000000 in
set_option maxRecDepth 100000 in
theorem k_X3_feverOf (l : Launch) (D : va_G) (cI cZ cL : ClassId) (h : Nat) (a a2 : Nat → Nat) (th : Int32) (w : Nat) (b : Nat) (n : Nat) (T : mt_T) (w2 : Nat) (b2 : Nat) (n2 : Nat) (T2 : mt_T) (hd5 : w ≤ 5) (hd4 : b ≤ 4) (hd30 : n ≤ 30) (he5 : w2 ≤ 5) (he4 : b2 ≤ 4) (he30 : n2 ≤ 30) (x1 : Int32)  : MX l yX3_feverOf wsX3_feverOf rm_X3_feverOf D cI cZ cL [.ref h, .int x1] (wb_m h a a2 cI th w b n T w2 b2 n2 T2) (some (.int (r_X3_feverOf th w b n T w2 b2 n2 T2 x1))) (wb_m h a a2 cI (t_X3_feverOf th w b n T w2 b2 n2 T2 x1) w b n T w2 b2 n2 T2) := by
  refine MX.of (own := RX3) (cc := cX3_feverOf) (maxL := 2) (ret := (some .int)) (lv0 := [(0, .ref h), (1, .int x1)]) (by decide) rfl rfl (Nat.le_of_ble_eq_true rfl) rfl ?_
  intro p e s m args below meth c A hc hnm hw ls hl
  obtain ⟨hx, hb, hr, hml, hown, hts, hlk, hK, hA⟩ := id hc
  have hiX2 : ∀ w ∈ u_ws RX2 TX2 13, w ∈ wsX3_feverOf := fun _ h => List.mem_cons_of_mem _ (List.mem_append_right _ h)
  have hiX3 : ∀ w ∈ u_ws RX3 TX3 3, w ∈ wsX3_feverOf := fun _ h => List.mem_cons_of_mem _ (List.mem_append_left _ (List.mem_append_right _ h))
  refine lv_aload_n hx hb dX3_feverOf_0 rfl (lv_at hl 0 rfl) ?_
  refine lv_iconst (v := 0) hx hb dX3_feverOf_1 (by decide) ?_
  refine g_put hc hw hiX3 tyX3 tyX3_ok nmX3 0 0 (wo_X3_H ..) rfl (by decide) (List.mem_of_getElem? (i := 1) rfl) (by decide) rfl rfl (Nat.le_of_ble_eq_true rfl) (w' := (wb_m h a a2 cI (0 : Int32) w b n T w2 b2 n2 T2)) (wp_X3_H_0 ..) dX3_feverOf_2 (fun H locs hw => ?_)
  refine lv_aload_n hx hb dX3_feverOf_5 rfl (lv_at hl 0 rfl) ?_
  refine lv_iload_n hx hb dX3_feverOf_6 rfl (lv_at hl 1 rfl) ?_
  refine g_callV0 (n := 1) hc hw (k_X3_isPerson l D cI cZ cL h a a2 (0 : Int32) w b n T w2 b2 n2 T2 hd5 hd4 hd30 he5 he4 he30 x1) gX3_feverOf_X3_isPerson rfl (by decide +kernel) ⟨Nat.le_of_ble_eq_true rfl, Nat.le_of_ble_eq_true rfl⟩ 0 (wo_X3_H ..) rfl rfl rfl (rest := []) rfl hl.1 (Nat.le_of_ble_eq_true rfl) (st1 := [.int (r_X3_isPerson (0 : Int32) w b n T w2 b2 n2 T2 x1)]) rfl dX3_feverOf_7 (k2 := 0) (s2 := 0) rfl rfl ⟨Nat.le_of_ble_eq_true rfl, Nat.le_of_ble_eq_true rfl⟩ (fun H locs hw => ?_)
  refine lv_if_eq (tgt := 25) hx hb dX3_feverOf_10 (by decide) (fun c1 => ?_) (fun c1 => ?_)
  · refine lv_aload_n hx hb dX3_feverOf_25 rfl (lv_at hl 0 rfl) ?_
    refine lv_iconst (v := 1) hx hb dX3_feverOf_26 (by decide) ?_
    refine g_callV0 (n := 1) hc hw (k_X3_no l D cI cZ cL h a a2 (0 : Int32) w b n T w2 b2 n2 T2 hd5 hd4 hd30 he5 he4 he30 (1 : Int32)) gX3_feverOf_X3_no rfl (by decide +kernel) ⟨Nat.le_of_ble_eq_true rfl, Nat.le_of_ble_eq_true rfl⟩ 0 (wo_X3_H ..) rfl rfl rfl (rest := []) rfl hl.1 (Nat.le_of_ble_eq_true rfl) (st1 := [.int (r_X3_no (0 : Int32) w b n T w2 b2 n2 T2 (1 : Int32))]) rfl dX3_feverOf_27 (k2 := 0) (s2 := 0) rfl rfl ⟨Nat.le_of_ble_eq_true rfl, Nat.le_of_ble_eq_true rfl⟩ (fun H locs hw => ?_)
    rw [show r_X3_feverOf th w b n T w2 b2 n2 T2 x1 = (r_X3_no (0 : Int32) w b n T w2 b2 n2 T2 (1 : Int32)) from by rw [r_X3_feverOf, if_pos c1]]
    rw [show t_X3_feverOf th w b n T w2 b2 n2 T2 x1 = (t_X3_no (0 : Int32) w b n T w2 b2 n2 T2 (1 : Int32)) from by rw [t_X3_feverOf, if_pos c1]]
    exact g_ret hc hw rfl (Nat.le_of_ble_eq_true rfl) (Nat.le_of_ble_eq_true rfl) dX3_feverOf_30
  · refine lv_aload_n hx hb dX3_feverOf_13 rfl (lv_at hl 0 rfl) ?_
    refine g_get (v := .ref (a 0)) hc hw hiX3 0 1 (wo_X3_H ..) rfl (by decide) (List.mem_of_getElem? (i := 2) rfl) (wv_X3_H_1 ..) dX3_feverOf_14 ?_
    refine g_getN (v := .ref (a 10)) (host := RX3) hc hw hiX2 1 10 (wo_X3_T ..) rfl (by decide) (fun z => z.2 (54, "fever", "[I") (by decide +kernel)) (wv_X3_T_10 ..) dX3_feverOf_17 ?_
    refine lv_iload_n hx hb dX3_feverOf_20 rfl (lv_at hl 1 rfl) ?_
    refine g_iald (f := (mt_fe T)) hc hw 6 (wr_X3_T_10 ..) (v_X3_isPerson c1 hd30) dX3_feverOf_21 ?_
    refine lv_goto (tgt := 30) hx hb dX3_feverOf_22 (by decide) ?_
    rw [show r_X3_feverOf th w b n T w2 b2 n2 T2 x1 = ((mt_fe T) x1.toNatClampNeg) from by rw [r_X3_feverOf, if_neg c1]]
    rw [show t_X3_feverOf th w b n T w2 b2 n2 T2 x1 = (0 : Int32) from by rw [t_X3_feverOf, if_neg c1]]
    exact g_ret hc hw rfl (Nat.le_of_ble_eq_true rfl) (Nat.le_of_ble_eq_true rfl) dX3_feverOf_30

def r_X3_wardOf (th : Int32) (w : Nat) (b : Nat) (n : Nat) (T : mt_T) (w2 : Nat) (b2 : Nat) (n2 : Nat) (T2 : mt_T) (x1 : Int32) : Int32 := if (r_X3_isPerson (0 : Int32) w b n T w2 b2 n2 T2 x1) = (0 : Int32) then ((r_X3_no (0 : Int32) w b n T w2 b2 n2 T2 (1 : Int32))) else ((r_X3_wardTold (0 : Int32) w b n T w2 b2 n2 T2 x1))
def t_X3_wardOf (th : Int32) (w : Nat) (b : Nat) (n : Nat) (T : mt_T) (w2 : Nat) (b2 : Nat) (n2 : Nat) (T2 : mt_T) (x1 : Int32) : Int32 := if (r_X3_isPerson (0 : Int32) w b n T w2 b2 n2 T2 x1) = (0 : Int32) then ((t_X3_no (0 : Int32) w b n T w2 b2 n2 T2 (1 : Int32))) else ((0 : Int32))
abbrev rm_X3_wardOf : Room := { frames := 2, cells := 0, slots := 0, locals := 43 }
set_option maxHeartbeats 4000000 in
set_option maxRecDepth 100000 in
theorem k_X3_wardOf (l : Launch) (D : va_G) (cI cZ cL : ClassId) (h : Nat) (a a2 : Nat → Nat) (th : Int32) (w : Nat) (b : Nat) (n : Nat) (T : mt_T) (w2 : Nat) (b2 : Nat) (n2 : Nat) (T2 : mt_T) (hd5 : w ≤ 5) (hd4 : b ≤ 4) (hd30 : n ≤ 30) (he5 : w2 ≤ 5) (he4 : b2 ≤ 4) (he30 : n2 ≤ 30) (x1 : Int32)  : MX l yX3_wardOf wsX3_wardOf rm_X3_wardOf D cI cZ cL [.ref h, .int x1] (wb_m h a a2 cI th w b n T w2 b2 n2 T2) (some (.int (r_X3_wardOf th w b n T w2 b2 n2 T2 x1))) (wb_m h a a2 cI (t_X3_wardOf th w b n T w2 b2 n2 T2 x1) w b n T w2 b2 n2 T2) := by
  refine MX.of (own := RX3) (cc := cX3_wardOf) (maxL := 2) (ret := (some .int)) (lv0 := [(0, .ref h), (1, .int x1)]) (by decide) rfl rfl (Nat.le_of_ble_eq_true rfl) rfl ?_
  intro p e s m args below meth c A hc hnm hw ls hl
  obtain ⟨hx, hb, hr, hml, hown, hts, hlk, hK, hA⟩ := id hc
  have hiX3 : ∀ w ∈ u_ws RX3 TX3 3, w ∈ wsX3_wardOf := fun _ h => List.mem_cons_of_mem _ (List.mem_append_left _ (List.mem_append_right _ h))
  refine lv_aload_n hx hb dX3_wardOf_0 rfl (lv_at hl 0 rfl) ?_
  refine lv_iconst (v := 0) hx hb dX3_wardOf_1 (by decide) ?_
  refine g_put hc hw hiX3 tyX3 tyX3_ok nmX3 0 0 (wo_X3_H ..) rfl (by decide) (List.mem_of_getElem? (i := 1) rfl) (by decide) rfl rfl (Nat.le_of_ble_eq_true rfl) (w' := (wb_m h a a2 cI (0 : Int32) w b n T w2 b2 n2 T2)) (wp_X3_H_0 ..) dX3_wardOf_2 (fun H locs hw => ?_)
  refine lv_aload_n hx hb dX3_wardOf_5 rfl (lv_at hl 0 rfl) ?_
  refine lv_iload_n hx hb dX3_wardOf_6 rfl (lv_at hl 1 rfl) ?_
  refine g_callV0 (n := 1) hc hw (k_X3_isPerson l D cI cZ cL h a a2 (0 : Int32) w b n T w2 b2 n2 T2 hd5 hd4 hd30 he5 he4 he30 x1) gX3_wardOf_X3_isPerson rfl (by decide +kernel) ⟨Nat.le_of_ble_eq_true rfl, Nat.le_of_ble_eq_true rfl⟩ 0 (wo_X3_H ..) rfl rfl rfl (rest := []) rfl hl.1 (Nat.le_of_ble_eq_true rfl) (st1 := [.int (r_X3_isPerson (0 : Int32) w b n T w2 b2 n2 T2 x1)]) rfl dX3_wardOf_7 (k2 := 0) (s2 := 0) rfl rfl ⟨Nat.le_of_ble_eq_true rfl, Nat.le_of_ble_eq_true rfl⟩ (fun H locs hw => ?_)
  refine lv_if_eq (tgt := 21) hx hb dX3_wardOf_10 (by decide) (fun c1 => ?_) (fun c1 => ?_)
  · refine lv_aload_n hx hb dX3_wardOf_21 rfl (lv_at hl 0 rfl) ?_
    refine lv_iconst (v := 1) hx hb dX3_wardOf_22 (by decide) ?_
    refine g_callV0 (n := 1) hc hw (k_X3_no l D cI cZ cL h a a2 (0 : Int32) w b n T w2 b2 n2 T2 hd5 hd4 hd30 he5 he4 he30 (1 : Int32)) gX3_wardOf_X3_no rfl (by decide +kernel) ⟨Nat.le_of_ble_eq_true rfl, Nat.le_of_ble_eq_true rfl⟩ 0 (wo_X3_H ..) rfl rfl rfl (rest := []) rfl hl.1 (Nat.le_of_ble_eq_true rfl) (st1 := [.int (r_X3_no (0 : Int32) w b n T w2 b2 n2 T2 (1 : Int32))]) rfl dX3_wardOf_23 (k2 := 0) (s2 := 0) rfl rfl ⟨Nat.le_of_ble_eq_true rfl, Nat.le_of_ble_eq_true rfl⟩ (fun H locs hw => ?_)
    rw [show r_X3_wardOf th w b n T w2 b2 n2 T2 x1 = (r_X3_no (0 : Int32) w b n T w2 b2 n2 T2 (1 : Int32)) from by rw [r_X3_wardOf, if_pos c1]]
    rw [show t_X3_wardOf th w b n T w2 b2 n2 T2 x1 = (t_X3_no (0 : Int32) w b n T w2 b2 n2 T2 (1 : Int32)) from by rw [t_X3_wardOf, if_pos c1]]
    exact g_ret hc hw rfl (Nat.le_of_ble_eq_true rfl) (Nat.le_of_ble_eq_true rfl) dX3_wardOf_26
  · refine lv_aload_n hx hb dX3_wardOf_13 rfl (lv_at hl 0 rfl) ?_
    refine lv_iload_n hx hb dX3_wardOf_14 rfl (lv_at hl 1 rfl) ?_
    refine g_callV0 (n := 1) hc hw (k_X3_wardTold l D cI cZ cL h a a2 (0 : Int32) w b n T w2 b2 n2 T2 hd5 hd4 hd30 he5 he4 he30 x1 (v_X3_isPerson c1 hd30)) gX3_wardOf_X3_wardTold rfl (by decide +kernel) ⟨Nat.le_of_ble_eq_true rfl, Nat.le_of_ble_eq_true rfl⟩ 0 (wo_X3_H ..) rfl rfl rfl (rest := []) rfl hl.1 (Nat.le_of_ble_eq_true rfl) (st1 := [.int (r_X3_wardTold (0 : Int32) w b n T w2 b2 n2 T2 x1)]) rfl dX3_wardOf_15 (k2 := 0) (s2 := 0) rfl rfl ⟨Nat.le_of_ble_eq_true rfl, Nat.le_of_ble_eq_true rfl⟩ (fun H locs hw => ?_)
    refine lv_goto (tgt := 26) hx hb dX3_wardOf_18 (by decide) ?_
    rw [show r_X3_wardOf th w b n T w2 b2 n2 T2 x1 = (r_X3_wardTold (0 : Int32) w b n T w2 b2 n2 T2 x1) from by rw [r_X3_wardOf, if_neg c1]]
    rw [show t_X3_wardOf th w b n T w2 b2 n2 T2 x1 = (0 : Int32) from by rw [t_X3_wardOf, if_neg c1]]
    exact g_ret hc hw rfl (Nat.le_of_ble_eq_true rfl) (Nat.le_of_ble_eq_true rfl) dX3_wardOf_26

def r_X3_bargeOf (th : Int32) (w : Nat) (b : Nat) (n : Nat) (T : mt_T) (w2 : Nat) (b2 : Nat) (n2 : Nat) (T2 : mt_T) (x1 : Int32) : Int32 := if (r_X3_isPerson (0 : Int32) w b n T w2 b2 n2 T2 x1) = (0 : Int32) then ((r_X3_no (0 : Int32) w b n T w2 b2 n2 T2 (1 : Int32))) else ((r_X3_bargeTold (0 : Int32) w b n T w2 b2 n2 T2 x1))
def t_X3_bargeOf (th : Int32) (w : Nat) (b : Nat) (n : Nat) (T : mt_T) (w2 : Nat) (b2 : Nat) (n2 : Nat) (T2 : mt_T) (x1 : Int32) : Int32 := if (r_X3_isPerson (0 : Int32) w b n T w2 b2 n2 T2 x1) = (0 : Int32) then ((t_X3_no (0 : Int32) w b n T w2 b2 n2 T2 (1 : Int32))) else ((0 : Int32))
abbrev rm_X3_bargeOf : Room := { frames := 2, cells := 0, slots := 0, locals := 43 }
set_option maxHeartbeats 4000000 in
set_option maxRecDepth 100000 in
theorem k_X3_bargeOf (l : Launch) (D : va_G) (cI cZ cL : ClassId) (h : Nat) (a a2 : Nat → Nat) (th : Int32) (w : Nat) (b : Nat) (n : Nat) (T : mt_T) (w2 : Nat) (b2 : Nat) (n2 : Nat) (T2 : mt_T) (hd5 : w ≤ 5) (hd4 : b ≤ 4) (hd30 : n ≤ 30) (he5 : w2 ≤ 5) (he4 : b2 ≤ 4) (he30 : n2 ≤ 30) (x1 : Int32)  : MX l yX3_bargeOf wsX3_bargeOf rm_X3_bargeOf D cI cZ cL [.ref h, .int x1] (wb_m h a a2 cI th w b n T w2 b2 n2 T2) (some (.int (r_X3_bargeOf th w b n T w2 b2 n2 T2 x1))) (wb_m h a a2 cI (t_X3_bargeOf th w b n T w2 b2 n2 T2 x1) w b n T w2 b2 n2 T2) := by
  refine MX.of (own := RX3) (cc := cX3_bargeOf) (maxL := 2) (ret := (some .int)) (lv0 := [(0, .ref h), (1, .int x1)]) (by decide) rfl rfl (Nat.le_of_ble_eq_true rfl) rfl ?_
  intro p e s m args below meth c A hc hnm hw ls hl
  obtain ⟨hx, hb, hr, hml, hown, hts, hlk, hK, hA⟩ := id hc
  have hiX3 : ∀ w ∈ u_ws RX3 TX3 3, w ∈ wsX3_bargeOf := fun _ h => List.mem_cons_of_mem _ (List.mem_append_left _ (List.mem_append_right _ h))
  refine lv_aload_n hx hb dX3_bargeOf_0 rfl (lv_at hl 0 rfl) ?_
  refine lv_iconst (v := 0) hx hb dX3_bargeOf_1 (by decide) ?_
  refine g_put hc hw hiX3 tyX3 tyX3_ok nmX3 0 0 (wo_X3_H ..) rfl (by decide) (List.mem_of_getElem? (i := 1) rfl) (by decide) rfl rfl (Nat.le_of_ble_eq_true rfl) (w' := (wb_m h a a2 cI (0 : Int32) w b n T w2 b2 n2 T2)) (wp_X3_H_0 ..) dX3_bargeOf_2 (fun H locs hw => ?_)
  refine lv_aload_n hx hb dX3_bargeOf_5 rfl (lv_at hl 0 rfl) ?_
  refine lv_iload_n hx hb dX3_bargeOf_6 rfl (lv_at hl 1 rfl) ?_
  refine g_callV0 (n := 1) hc hw (k_X3_isPerson l D cI cZ cL h a a2 (0 : Int32) w b n T w2 b2 n2 T2 hd5 hd4 hd30 he5 he4 he30 x1) gX3_bargeOf_X3_isPerson rfl (by decide +kernel) ⟨Nat.le_of_ble_eq_true rfl, Nat.le_of_ble_eq_true rfl⟩ 0 (wo_X3_H ..) rfl rfl rfl (rest := []) rfl hl.1 (Nat.le_of_ble_eq_true rfl) (st1 := [.int (r_X3_isPerson (0 : Int32) w b n T w2 b2 n2 T2 x1)]) rfl dX3_bargeOf_7 (k2 := 0) (s2 := 0) rfl rfl ⟨Nat.le_of_ble_eq_true rfl, Nat.le_of_ble_eq_true rfl⟩ (fun H locs hw => ?_)
  refine lv_if_eq (tgt := 21) hx hb dX3_bargeOf_10 (by decide) (fun c1 => ?_) (fun c1 => ?_)
  · refine lv_aload_n hx hb dX3_bargeOf_21 rfl (lv_at hl 0 rfl) ?_
    refine lv_iconst (v := 1) hx hb dX3_bargeOf_22 (by decide) ?_
    refine g_callV0 (n := 1) hc hw (k_X3_no l D cI cZ cL h a a2 (0 : Int32) w b n T w2 b2 n2 T2 hd5 hd4 hd30 he5 he4 he30 (1 : Int32)) gX3_bargeOf_X3_no rfl (by decide +kernel) ⟨Nat.le_of_ble_eq_true rfl, Nat.le_of_ble_eq_true rfl⟩ 0 (wo_X3_H ..) rfl rfl rfl (rest := []) rfl hl.1 (Nat.le_of_ble_eq_true rfl) (st1 := [.int (r_X3_no (0 : Int32) w b n T w2 b2 n2 T2 (1 : Int32))]) rfl dX3_bargeOf_23 (k2 := 0) (s2 := 0) rfl rfl ⟨Nat.le_of_ble_eq_true rfl, Nat.le_of_ble_eq_true rfl⟩ (fun H locs hw => ?_)
    rw [show r_X3_bargeOf th w b n T w2 b2 n2 T2 x1 = (r_X3_no (0 : Int32) w b n T w2 b2 n2 T2 (1 : Int32)) from by rw [r_X3_bargeOf, if_pos c1]]
    rw [show t_X3_bargeOf th w b n T w2 b2 n2 T2 x1 = (t_X3_no (0 : Int32) w b n T w2 b2 n2 T2 (1 : Int32)) from by rw [t_X3_bargeOf, if_pos c1]]
    exact g_ret hc hw rfl (Nat.le_of_ble_eq_true rfl) (Nat.le_of_ble_eq_true rfl) dX3_bargeOf_26
  · refine lv_aload_n hx hb dX3_bargeOf_13 rfl (lv_at hl 0 rfl) ?_
    refine lv_iload_n hx hb dX3_bargeOf_14 rfl (lv_at hl 1 rfl) ?_
    refine g_callV0 (n := 1) hc hw (k_X3_bargeTold l D cI cZ cL h a a2 (0 : Int32) w b n T w2 b2 n2 T2 hd5 hd4 hd30 he5 he4 he30 x1 (v_X3_isPerson c1 hd30)) gX3_bargeOf_X3_bargeTold rfl (by decide +kernel) ⟨Nat.le_of_ble_eq_true rfl, Nat.le_of_ble_eq_true rfl⟩ 0 (wo_X3_H ..) rfl rfl rfl (rest := []) rfl hl.1 (Nat.le_of_ble_eq_true rfl) (st1 := [.int (r_X3_bargeTold (0 : Int32) w b n T w2 b2 n2 T2 x1)]) rfl dX3_bargeOf_15 (k2 := 0) (s2 := 0) rfl rfl ⟨Nat.le_of_ble_eq_true rfl, Nat.le_of_ble_eq_true rfl⟩ (fun H locs hw => ?_)
    refine lv_goto (tgt := 26) hx hb dX3_bargeOf_18 (by decide) ?_
    rw [show r_X3_bargeOf th w b n T w2 b2 n2 T2 x1 = (r_X3_bargeTold (0 : Int32) w b n T w2 b2 n2 T2 x1) from by rw [r_X3_bargeOf, if_neg c1]]
    rw [show t_X3_bargeOf th w b n T w2 b2 n2 T2 x1 = (0 : Int32) from by rw [t_X3_bargeOf, if_neg c1]]
    exact g_ret hc hw rfl (Nat.le_of_ble_eq_true rfl) (Nat.le_of_ble_eq_true rfl) dX3_bargeOf_26

def r_X3_isHome (th : Int32) (w : Nat) (b : Nat) (n : Nat) (T : mt_T) (w2 : Nat) (b2 : Nat) (n2 : Nat) (T2 : mt_T) (x1 : Int32) : Int32 := if (r_X3_isPerson th w b n T w2 b2 n2 T2 x1) = (0 : Int32) then ((0 : Int32)) else (if ((mt_wh T) x1.toNatClampNeg) = (20 : Int32) then ((1 : Int32)) else ((0 : Int32)))
def t_X3_isHome (th : Int32) (w : Nat) (b : Nat) (n : Nat) (T : mt_T) (w2 : Nat) (b2 : Nat) (n2 : Nat) (T2 : mt_T) (x1 : Int32) : Int32 := if (r_X3_isPerson th w b n T w2 b2 n2 T2 x1) = (0 : Int32) then ((1 : Int32)) else (if ((mt_wh T) x1.toNatClampNeg) = (20 : Int32) then ((0 : Int32)) else ((0 : Int32)))
abbrev rm_X3_isHome : Room := { frames := 2, cells := 0, slots := 0, locals := 43 }
set_option maxHeartbeats 4000000 in
set_option maxRecDepth 100000 in
theorem k_X3_isHome (l : Launch) (D : va_G) (cI cZ cL : ClassId) (h : Nat) (a a2 : Nat → Nat) (th : Int32) (w : Nat) (b : Nat) (n : Nat) (T : mt_T) (w2 : Nat) (b2 : Nat) (n2 : Nat) (T2 : mt_T) (hd5 : w ≤ 5) (hd4 : b ≤ 4) (hd30 : n ≤ 30) (he5 : w2 ≤ 5) (he4 : b2 ≤ 4) (he30 : n2 ≤ 30) (x1 : Int32)  : MX l yX3_isHome wsX3_isHome rm_X3_isHome D cI cZ cL [.ref h, .int x1] (wb_m h a a2 cI th w b n T w2 b2 n2 T2) (some (.int (r_X3_isHome th w b n T w2 b2 n2 T2 x1))) (wb_m h a a2 cI (t_X3_isHome th w b n T w2 b2 n2 T2 x1) w b n T w2 b2 n2 T2) := by
  refine MX.of (own := RX3) (cc := cX3_isHome) (maxL := 2) (ret := (some .boolean)) (lv0 := [(0, .ref h), (1, .int x1)]) (by decide) rfl rfl (Nat.le_of_ble_eq_true rfl) rfl ?_
  intro p e s m args below meth c A hc hnm hw ls hl
  obtain ⟨hx, hb, hr, hml, hown, hts, hlk, hK, hA⟩ := id hc
  have hiX2 : ∀ w ∈ u_ws RX2 TX2 13, w ∈ wsX3_isHome := fun _ h => List.mem_cons_of_mem _ (List.mem_append_right _ h)
  have hiX3 : ∀ w ∈ u_ws RX3 TX3 3, w ∈ wsX3_isHome := fun _ h => List.mem_cons_of_mem _ (List.mem_append_left _ (List.mem_append_right _ h))
  refine lv_aload_n hx hb dX3_isHome_0 rfl (lv_at hl 0 rfl) ?_
  refine lv_aload_n hx hb dX3_isHome_1 rfl (lv_at hl 0 rfl) ?_
  refine lv_iload_n hx hb dX3_isHome_2 rfl (lv_at hl 1 rfl) ?_
  refine g_callV0 (n := 1) hc hw (k_X3_isPerson l D cI cZ cL h a a2 th w b n T w2 b2 n2 T2 hd5 hd4 hd30 he5 he4 he30 x1) gX3_isHome_X3_isPerson rfl (by decide +kernel) ⟨Nat.le_of_ble_eq_true rfl, Nat.le_of_ble_eq_true rfl⟩ 0 (wo_X3_H ..) rfl rfl rfl (rest := [.ref h]) rfl hl.1 (Nat.le_of_ble_eq_true rfl) (st1 := [.int (r_X3_isPerson th w b n T w2 b2 n2 T2 x1), .ref h]) rfl dX3_isHome_3 (k2 := 0) (s2 := 0) rfl rfl ⟨Nat.le_of_ble_eq_true rfl, Nat.le_of_ble_eq_true rfl⟩ (fun H locs hw => ?_)
  refine lv_if_eq (tgt := 13) hx hb dX3_isHome_6 (by decide) (fun c1 => ?_) (fun c1 => ?_)
  · refine lv_iconst (v := 1) hx hb dX3_isHome_13 (by decide) ?_
    refine g_put hc hw hiX3 tyX3 tyX3_ok nmX3 0 0 (wo_X3_H ..) rfl (by decide) (List.mem_of_getElem? (i := 1) rfl) (by decide) rfl rfl (Nat.le_of_ble_eq_true rfl) (w' := (wb_m h a a2 cI (1 : Int32) w b n T w2 b2 n2 T2)) (wp_X3_H_0 ..) dX3_isHome_14 (fun H locs hw => ?_)
    refine lv_aload_n hx hb dX3_isHome_17 rfl (lv_at hl 0 rfl) ?_
    refine g_get (v := .int (1 : Int32)) hc hw hiX3 0 0 (wo_X3_H ..) rfl (by decide) (List.mem_of_getElem? (i := 1) rfl) (wv_X3_H_0 ..) dX3_isHome_18 ?_
    refine lv_if_ne (tgt := 42) hx hb dX3_isHome_21 (by decide) (fun _ => ?_) (fun z => absurd z (by decide))
    refine lv_iconst (v := 0) hx hb dX3_isHome_42 (by decide) ?_
    rw [show r_X3_isHome th w b n T w2 b2 n2 T2 x1 = (0 : Int32) from by rw [r_X3_isHome, if_pos c1]]
    rw [show t_X3_isHome th w b n T w2 b2 n2 T2 x1 = (1 : Int32) from by rw [t_X3_isHome, if_pos c1]]
    exact g_zret hc hw rfl rfl (Nat.le_of_ble_eq_true rfl) (Nat.le_of_ble_eq_true rfl) dX3_isHome_43
  · refine lv_iconst (v := 0) hx hb dX3_isHome_9 (by decide) ?_
    refine lv_goto (tgt := 14) hx hb dX3_isHome_10 (by decide) ?_
    refine g_put hc hw hiX3 tyX3 tyX3_ok nmX3 0 0 (wo_X3_H ..) rfl (by decide) (List.mem_of_getElem? (i := 1) rfl) (by decide) rfl rfl (Nat.le_of_ble_eq_true rfl) (w' := (wb_m h a a2 cI (0 : Int32) w b n T w2 b2 n2 T2)) (wp_X3_H_0 ..) dX3_isHome_14 (fun H locs hw => ?_)
    refine lv_aload_n hx hb dX3_isHome_17 rfl (lv_at hl 0 rfl) ?_
    refine g_get (v := .int (0 : Int32)) hc hw hiX3 0 0 (wo_X3_H ..) rfl (by decide) (List.mem_of_getElem? (i := 1) rfl) (wv_X3_H_0 ..) dX3_isHome_18 ?_
    refine lv_if_ne (tgt := 42) hx hb dX3_isHome_21 (by decide) (fun z => absurd (by decide) z) (fun _ => ?_)
    refine lv_aload_n hx hb dX3_isHome_24 rfl (lv_at hl 0 rfl) ?_
    refine g_get (v := .ref (a 0)) hc hw hiX3 0 1 (wo_X3_H ..) rfl (by decide) (List.mem_of_getElem? (i := 2) rfl) (wv_X3_H_1 ..) dX3_isHome_25 ?_
    refine g_getN (v := .ref (a 11)) (host := RX3) hc hw hiX2 1 11 (wo_X3_T ..) rfl (by decide) (fun z => z.2 (57, "where", "[I") (by decide +kernel)) (wv_X3_T_11 ..) dX3_isHome_28 ?_
    refine lv_iload_n hx hb dX3_isHome_31 rfl (lv_at hl 1 rfl) ?_
    refine g_iald (f := (mt_wh T)) hc hw 7 (wr_X3_T_11 ..) (v_X3_isPerson c1 hd30) dX3_isHome_32 ?_
    refine lv_bipush (v := 20) hx hb dX3_isHome_33 (by decide) ?_
    refine lv_icmp_ne (tgt := 42) hx hb dX3_isHome_35 (by decide) (fun c2 => ?_) (fun c2 => ?_)
    · refine lv_iconst (v := 0) hx hb dX3_isHome_42 (by decide) ?_
      rw [show r_X3_isHome th w b n T w2 b2 n2 T2 x1 = (0 : Int32) from by rw [r_X3_isHome, if_neg c1, if_neg c2]]
      rw [show t_X3_isHome th w b n T w2 b2 n2 T2 x1 = (0 : Int32) from by rw [t_X3_isHome, if_neg c1, if_neg c2]]
      exact g_zret hc hw rfl rfl (Nat.le_of_ble_eq_true rfl) (Nat.le_of_ble_eq_true rfl) dX3_isHome_43
    · refine lv_iconst (v := 1) hx hb dX3_isHome_38 (by decide) ?_
      refine lv_goto (tgt := 43) hx hb dX3_isHome_39 (by decide) ?_
      rw [show r_X3_isHome th w b n T w2 b2 n2 T2 x1 = (1 : Int32) from by rw [r_X3_isHome, if_neg c1, if_pos c2]]
      rw [show t_X3_isHome th w b n T w2 b2 n2 T2 x1 = (0 : Int32) from by rw [t_X3_isHome, if_neg c1, if_pos c2]]
      exact g_zret hc hw rfl rfl (Nat.le_of_ble_eq_true rfl) (Nat.le_of_ble_eq_true rfl) dX3_isHome_43
