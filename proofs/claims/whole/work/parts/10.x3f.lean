def r_X3_isInGreatHouse (th : Int32) (w : Nat) (b : Nat) (n : Nat) (T : mt_T) (w2 : Nat) (b2 : Nat) (n2 : Nat) (T2 : mt_T) (x1 : Int32) : Int32 := if (r_X3_isPerson th w b n T w2 b2 n2 T2 x1) = (0 : Int32) then ((0 : Int32)) else (if ((mt_wh T) x1.toNatClampNeg) = (21 : Int32) then ((1 : Int32)) else ((0 : Int32)))
def t_X3_isInGreatHouse (th : Int32) (w : Nat) (b : Nat) (n : Nat) (T : mt_T) (w2 : Nat) (b2 : Nat) (n2 : Nat) (T2 : mt_T) (x1 : Int32) : Int32 := if (r_X3_isPerson th w b n T w2 b2 n2 T2 x1) = (0 : Int32) then ((1 : Int32)) else (if ((mt_wh T) x1.toNatClampNeg) = (21 : Int32) then ((0 : Int32)) else ((0 : Int32)))
abbrev rm_X3_isInGreatHouse : Room := { frames := 2, cells := 0, slots := 0, locals := 43 }
set_option maxHeartbeats 4000000 in
set_option maxRecDepth 100000 in
theorem k_X3_isInGreatHouse (l : Launch) (D : va_G) (cI cZ cL : ClassId) (h : Nat) (a a2 : Nat → Nat) (th : Int32) (w : Nat) (b : Nat) (n : Nat) (T : mt_T) (w2 : Nat) (b2 : Nat) (n2 : Nat) (T2 : mt_T) (hd5 : w ≤ 5) (hd4 : b ≤ 4) (hd30 : n ≤ 30) (he5 : w2 ≤ 5) (he4 : b2 ≤ 4) (he30 : n2 ≤ 30) (x1 : Int32)  : MX l yX3_isInGreatHouse wsX3_isInGreatHouse rm_X3_isInGreatHouse D cI cZ cL [.ref h, .int x1] (wb_m h a a2 cI th w b n T w2 b2 n2 T2) (some (.int (r_X3_isInGreatHouse th w b n T w2 b2 n2 T2 x1))) (wb_m h a a2 cI (t_X3_isInGreatHouse th w b n T w2 b2 n2 T2 x1) w b n T w2 b2 n2 T2) := by
  refine MX.of (own := RX3) (cc := cX3_isInGreatHouse) (maxL := 2) (ret := (some .boolean)) (lv0 := [(0, .ref h), (1, .int x1)]) (by decide) rfl rfl (Nat.le_of_ble_eq_true rfl) rfl ?_
  intro p e s m args below meth c A hc hnm hw ls hl
  obtain ⟨hx, hb, hr, hml, hown, hts, hlk, hK, hA⟩ := id hc
  have hiX2 : ∀ w ∈ u_ws RX2 TX2 13, w ∈ wsX3_isInGreatHouse := fun _ h => List.mem_cons_of_mem _ (List.mem_append_right _ h)
  have hiX3 : ∀ w ∈ u_ws RX3 TX3 3, w ∈ wsX3_isInGreatHouse := fun _ h => List.mem_cons_of_mem _ (List.mem_append_left _ (List.mem_append_right _ h))
  refine lv_aload_n hx hb dX3_isInGreatHouse_0 rfl (lv_at hl 0 rfl) ?_
  refine lv_aload_n hx hb dX3_isInGreatHouse_1 rfl (lv_at hl 0 rfl) ?_
  refine lv_iload_n hx hb dX3_isInGreatHouse_2 rfl (lv_at hl 1 rfl) ?_
  refine g_callV0 (n := 1) hc hw (k_X3_isPerson l D cI cZ cL h a a2 th w b n T w2 b2 n2 T2 hd5 hd4 hd30 he5 he4 he30 x1) gX3_isInGreatHouse_X3_isPerson rfl (by decide +kernel) ⟨Nat.le_of_ble_eq_true rfl, Nat.le_of_ble_eq_true rfl⟩ 0 (wo_X3_H ..) rfl rfl rfl (rest := [.ref h]) rfl hl.1 (Nat.le_of_ble_eq_true rfl) (st1 := [.int (r_X3_isPerson th w b n T w2 b2 n2 T2 x1), .ref h]) rfl dX3_isInGreatHouse_3 (k2 := 0) (s2 := 0) rfl rfl ⟨Nat.le_of_ble_eq_true rfl, Nat.le_of_ble_eq_true rfl⟩ (fun H locs hw => ?_)
  refine lv_if_eq (tgt := 13) hx hb dX3_isInGreatHouse_6 (by decide) (fun c1 => ?_) (fun c1 => ?_)
  · refine lv_iconst (v := 1) hx hb dX3_isInGreatHouse_13 (by decide) ?_
    refine g_put hc hw hiX3 tyX3 tyX3_ok nmX3 0 0 (wo_X3_H ..) rfl (by decide) (List.mem_of_getElem? (i := 1) rfl) (by decide) rfl rfl (Nat.le_of_ble_eq_true rfl) (w' := (wb_m h a a2 cI (1 : Int32) w b n T w2 b2 n2 T2)) (wp_X3_H_0 ..) dX3_isInGreatHouse_14 (fun H locs hw => ?_)
    refine lv_aload_n hx hb dX3_isInGreatHouse_17 rfl (lv_at hl 0 rfl) ?_
    refine g_get (v := .int (1 : Int32)) hc hw hiX3 0 0 (wo_X3_H ..) rfl (by decide) (List.mem_of_getElem? (i := 1) rfl) (wv_X3_H_0 ..) dX3_isInGreatHouse_18 ?_
    refine lv_if_ne (tgt := 42) hx hb dX3_isInGreatHouse_21 (by decide) (fun _ => ?_) (fun z => absurd z (by decide))
    refine lv_iconst (v := 0) hx hb dX3_isInGreatHouse_42 (by decide) ?_
    rw [show r_X3_isInGreatHouse th w b n T w2 b2 n2 T2 x1 = (0 : Int32) from by rw [r_X3_isInGreatHouse, if_pos c1]]
    rw [show t_X3_isInGreatHouse th w b n T w2 b2 n2 T2 x1 = (1 : Int32) from by rw [t_X3_isInGreatHouse, if_pos c1]]
    exact g_zret hc hw rfl rfl (Nat.le_of_ble_eq_true rfl) (Nat.le_of_ble_eq_true rfl) dX3_isInGreatHouse_43
  · refine lv_iconst (v := 0) hx hb dX3_isInGreatHouse_9 (by decide) ?_
    refine lv_goto (tgt := 14) hx hb dX3_isInGreatHouse_10 (by decide) ?_
    refine g_put hc hw hiX3 tyX3 tyX3_ok nmX3 0 0 (wo_X3_H ..) rfl (by decide) (List.mem_of_getElem? (i := 1) rfl) (by decide) rfl rfl (Nat.le_of_ble_eq_true rfl) (w' := (wb_m h a a2 cI (0 : Int32) w b n T w2 b2 n2 T2)) (wp_X3_H_0 ..) dX3_isInGreatHouse_14 (fun H locs hw => ?_)
    refine lv_aload_n hx hb dX3_isInGreatHouse_17 rfl (lv_at hl 0 rfl) ?_
    refine g_get (v := .int (0 : Int32)) hc hw hiX3 0 0 (wo_X3_H ..) rfl (by decide) (List.mem_of_getElem? (i := 1) rfl) (wv_X3_H_0 ..) dX3_isInGreatHouse_18 ?_
    refine lv_if_ne (tgt := 42) hx hb dX3_isInGreatHouse_21 (by decide) (fun z => absurd (by decide) z) (fun _ => ?_)
    refine lv_aload_n hx hb dX3_isInGreatHouse_24 rfl (lv_at hl 0 rfl) ?_
    refine g_get (v := .ref (a 0)) hc hw hiX3 0 1 (wo_X3_H ..) rfl (by decide) (List.mem_of_getElem? (i := 2) rfl) (wv_X3_H_1 ..) dX3_isInGreatHouse_25 ?_
    refine g_getN (v := .ref (a 11)) (host := RX3) hc hw hiX2 1 11 (wo_X3_T ..) rfl (by decide) (fun z => z.2 (57, "where", "[I") (by decide +kernel)) (wv_X3_T_11 ..) dX3_isInGreatHouse_28 ?_
    refine lv_iload_n hx hb dX3_isInGreatHouse_31 rfl (lv_at hl 1 rfl) ?_
    refine g_iald (f := (mt_wh T)) hc hw 7 (wr_X3_T_11 ..) (v_X3_isPerson c1 hd30) dX3_isInGreatHouse_32 ?_
    refine lv_bipush (v := 21) hx hb dX3_isInGreatHouse_33 (by decide) ?_
    refine lv_icmp_ne (tgt := 42) hx hb dX3_isInGreatHouse_35 (by decide) (fun c2 => ?_) (fun c2 => ?_)
    · refine lv_iconst (v := 0) hx hb dX3_isInGreatHouse_42 (by decide) ?_
      rw [show r_X3_isInGreatHouse th w b n T w2 b2 n2 T2 x1 = (0 : Int32) from by rw [r_X3_isInGreatHouse, if_neg c1, if_neg c2]]
      rw [show t_X3_isInGreatHouse th w b n T w2 b2 n2 T2 x1 = (0 : Int32) from by rw [t_X3_isInGreatHouse, if_neg c1, if_neg c2]]
      exact g_zret hc hw rfl rfl (Nat.le_of_ble_eq_true rfl) (Nat.le_of_ble_eq_true rfl) dX3_isInGreatHouse_43
    · refine lv_iconst (v := 1) hx hb dX3_isInGreatHouse_38 (by decide) ?_
      refine lv_goto (tgt := 43) hx hb dX3_isInGreatHouse_39 (by decide) ?_
      rw [show r_X3_isInGreatHouse th w b n T w2 b2 n2 T2 x1 = (1 : Int32) from by rw [r_X3_isInGreatHouse, if_neg c1, if_pos c2]]
      rw [show t_X3_isInGreatHouse th w b n T w2 b2 n2 T2 x1 = (0 : Int32) from by rw [t_X3_isInGreatHouse, if_neg c1, if_pos c2]]
      exact g_zret hc hw rfl rfl (Nat.le_of_ble_eq_true rfl) (Nat.le_of_ble_eq_true rfl) dX3_isInGreatHouse_43

def r_X3_hungryDaysOf (th : Int32) (w : Nat) (b : Nat) (n : Nat) (T : mt_T) (w2 : Nat) (b2 : Nat) (n2 : Nat) (T2 : mt_T) (x1 : Int32) : Int32 := if (r_X3_isPerson (0 : Int32) w b n T w2 b2 n2 T2 x1) = (0 : Int32) then ((r_X3_no (0 : Int32) w b n T w2 b2 n2 T2 (1 : Int32))) else (((mt_hu T) x1.toNatClampNeg))
def t_X3_hungryDaysOf (th : Int32) (w : Nat) (b : Nat) (n : Nat) (T : mt_T) (w2 : Nat) (b2 : Nat) (n2 : Nat) (T2 : mt_T) (x1 : Int32) : Int32 := if (r_X3_isPerson (0 : Int32) w b n T w2 b2 n2 T2 x1) = (0 : Int32) then ((t_X3_no (0 : Int32) w b n T w2 b2 n2 T2 (1 : Int32))) else ((0 : Int32))
abbrev rm_X3_hungryDaysOf : Room := { frames := 2, cells := 0, slots := 0, locals := 43 }
set_option maxHeartbeats 4000000 in
set_option maxRecDepth 100000 in
theorem k_X3_hungryDaysOf (l : Launch) (D : va_G) (cI cZ cL : ClassId) (h : Nat) (a a2 : Nat → Nat) (th : Int32) (w : Nat) (b : Nat) (n : Nat) (T : mt_T) (w2 : Nat) (b2 : Nat) (n2 : Nat) (T2 : mt_T) (hd5 : w ≤ 5) (hd4 : b ≤ 4) (hd30 : n ≤ 30) (he5 : w2 ≤ 5) (he4 : b2 ≤ 4) (he30 : n2 ≤ 30) (x1 : Int32)  : MX l yX3_hungryDaysOf wsX3_hungryDaysOf rm_X3_hungryDaysOf D cI cZ cL [.ref h, .int x1] (wb_m h a a2 cI th w b n T w2 b2 n2 T2) (some (.int (r_X3_hungryDaysOf th w b n T w2 b2 n2 T2 x1))) (wb_m h a a2 cI (t_X3_hungryDaysOf th w b n T w2 b2 n2 T2 x1) w b n T w2 b2 n2 T2) := by
  refine MX.of (own := RX3) (cc := cX3_hungryDaysOf) (maxL := 2) (ret := (some .int)) (lv0 := [(0, .ref h), (1, .int x1)]) (by decide) rfl rfl (Nat.le_of_ble_eq_true rfl) rfl ?_
  intro p e s m args below meth c A hc hnm hw ls hl
  obtain ⟨hx, hb, hr, hml, hown, hts, hlk, hK, hA⟩ := id hc
  have hiX2 : ∀ w ∈ u_ws RX2 TX2 13, w ∈ wsX3_hungryDaysOf := fun _ h => List.mem_cons_of_mem _ (List.mem_append_right _ h)
  have hiX3 : ∀ w ∈ u_ws RX3 TX3 3, w ∈ wsX3_hungryDaysOf := fun _ h => List.mem_cons_of_mem _ (List.mem_append_left _ (List.mem_append_right _ h))
  refine lv_aload_n hx hb dX3_hungryDaysOf_0 rfl (lv_at hl 0 rfl) ?_
  refine lv_iconst (v := 0) hx hb dX3_hungryDaysOf_1 (by decide) ?_
  refine g_put hc hw hiX3 tyX3 tyX3_ok nmX3 0 0 (wo_X3_H ..) rfl (by decide) (List.mem_of_getElem? (i := 1) rfl) (by decide) rfl rfl (Nat.le_of_ble_eq_true rfl) (w' := (wb_m h a a2 cI (0 : Int32) w b n T w2 b2 n2 T2)) (wp_X3_H_0 ..) dX3_hungryDaysOf_2 (fun H locs hw => ?_)
  refine lv_aload_n hx hb dX3_hungryDaysOf_5 rfl (lv_at hl 0 rfl) ?_
  refine lv_iload_n hx hb dX3_hungryDaysOf_6 rfl (lv_at hl 1 rfl) ?_
  refine g_callV0 (n := 1) hc hw (k_X3_isPerson l D cI cZ cL h a a2 (0 : Int32) w b n T w2 b2 n2 T2 hd5 hd4 hd30 he5 he4 he30 x1) gX3_hungryDaysOf_X3_isPerson rfl (by decide +kernel) ⟨Nat.le_of_ble_eq_true rfl, Nat.le_of_ble_eq_true rfl⟩ 0 (wo_X3_H ..) rfl rfl rfl (rest := []) rfl hl.1 (Nat.le_of_ble_eq_true rfl) (st1 := [.int (r_X3_isPerson (0 : Int32) w b n T w2 b2 n2 T2 x1)]) rfl dX3_hungryDaysOf_7 (k2 := 0) (s2 := 0) rfl rfl ⟨Nat.le_of_ble_eq_true rfl, Nat.le_of_ble_eq_true rfl⟩ (fun H locs hw => ?_)
  refine lv_if_eq (tgt := 25) hx hb dX3_hungryDaysOf_10 (by decide) (fun c1 => ?_) (fun c1 => ?_)
  · refine lv_aload_n hx hb dX3_hungryDaysOf_25 rfl (lv_at hl 0 rfl) ?_
    refine lv_iconst (v := 1) hx hb dX3_hungryDaysOf_26 (by decide) ?_
    refine g_callV0 (n := 1) hc hw (k_X3_no l D cI cZ cL h a a2 (0 : Int32) w b n T w2 b2 n2 T2 hd5 hd4 hd30 he5 he4 he30 (1 : Int32)) gX3_hungryDaysOf_X3_no rfl (by decide +kernel) ⟨Nat.le_of_ble_eq_true rfl, Nat.le_of_ble_eq_true rfl⟩ 0 (wo_X3_H ..) rfl rfl rfl (rest := []) rfl hl.1 (Nat.le_of_ble_eq_true rfl) (st1 := [.int (r_X3_no (0 : Int32) w b n T w2 b2 n2 T2 (1 : Int32))]) rfl dX3_hungryDaysOf_27 (k2 := 0) (s2 := 0) rfl rfl ⟨Nat.le_of_ble_eq_true rfl, Nat.le_of_ble_eq_true rfl⟩ (fun H locs hw => ?_)
    rw [show r_X3_hungryDaysOf th w b n T w2 b2 n2 T2 x1 = (r_X3_no (0 : Int32) w b n T w2 b2 n2 T2 (1 : Int32)) from by rw [r_X3_hungryDaysOf, if_pos c1]]
    rw [show t_X3_hungryDaysOf th w b n T w2 b2 n2 T2 x1 = (t_X3_no (0 : Int32) w b n T w2 b2 n2 T2 (1 : Int32)) from by rw [t_X3_hungryDaysOf, if_pos c1]]
    exact g_ret hc hw rfl (Nat.le_of_ble_eq_true rfl) (Nat.le_of_ble_eq_true rfl) dX3_hungryDaysOf_30
  · refine lv_aload_n hx hb dX3_hungryDaysOf_13 rfl (lv_at hl 0 rfl) ?_
    refine g_get (v := .ref (a 0)) hc hw hiX3 0 1 (wo_X3_H ..) rfl (by decide) (List.mem_of_getElem? (i := 2) rfl) (wv_X3_H_1 ..) dX3_hungryDaysOf_14 ?_
    refine g_getN (v := .ref (a 12)) (host := RX3) hc hw hiX2 1 12 (wo_X3_T ..) rfl (by decide) (fun z => z.2 (85, "hungry", "[I") (by decide +kernel)) (wv_X3_T_12 ..) dX3_hungryDaysOf_17 ?_
    refine lv_iload_n hx hb dX3_hungryDaysOf_20 rfl (lv_at hl 1 rfl) ?_
    refine g_iald (f := (mt_hu T)) hc hw 8 (wr_X3_T_12 ..) (v_X3_isPerson c1 hd30) dX3_hungryDaysOf_21 ?_
    refine lv_goto (tgt := 30) hx hb dX3_hungryDaysOf_22 (by decide) ?_
    rw [show r_X3_hungryDaysOf th w b n T w2 b2 n2 T2 x1 = ((mt_hu T) x1.toNatClampNeg) from by rw [r_X3_hungryDaysOf, if_neg c1]]
    rw [show t_X3_hungryDaysOf th w b n T w2 b2 n2 T2 x1 = (0 : Int32) from by rw [t_X3_hungryDaysOf, if_neg c1]]
    exact g_ret hc hw rfl (Nat.le_of_ble_eq_true rfl) (Nat.le_of_ble_eq_true rfl) dX3_hungryDaysOf_30

def f_X3_feversAt_4 (th : Int32) (w : Nat) (b : Nat) (n : Nat) (T : mt_T) (w2 : Nat) (b2 : Nat) (n2 : Nat) (T2 : mt_T) (x1 : Int32) (i4 : Nat) (q4 : Int32) : Int32 := if ((mt_wh T) (nI i4).toNatClampNeg) = x1 then ((q4 + ((mt_fe T) (nI i4).toNatClampNeg))) else ((q4 + (0 : Int32)))
def r_X3_feversAt (th : Int32) (w : Nat) (b : Nat) (n : Nat) (T : mt_T) (w2 : Nat) (b2 : Nat) (n2 : Nat) (T2 : mt_T) (x1 : Int32) : Int32 := (lpf (f_X3_feversAt_4 th w b n T w2 b2 n2 T2 x1) n 0 ((0 : Int32)))
abbrev rm_X3_feversAt : Room := { frames := 0, cells := 0, slots := 0, locals := 0 }
set_option maxHeartbeats 4000000 in
set_option maxRecDepth 100000 in
theorem k_X3_feversAt (l : Launch) (D : va_G) (cI cZ cL : ClassId) (h : Nat) (a a2 : Nat → Nat) (th : Int32) (w : Nat) (b : Nat) (n : Nat) (T : mt_T) (w2 : Nat) (b2 : Nat) (n2 : Nat) (T2 : mt_T) (hd5 : w ≤ 5) (hd4 : b ≤ 4) (hd30 : n ≤ 30) (he5 : w2 ≤ 5) (he4 : b2 ≤ 4) (he30 : n2 ≤ 30) (x1 : Int32)  : MX l yX3_feversAt wsX3_feversAt rm_X3_feversAt D cI cZ cL [.ref h, .int x1] (wb_m h a a2 cI th w b n T w2 b2 n2 T2) (some (.int (r_X3_feversAt th w b n T w2 b2 n2 T2 x1))) (wb_m h a a2 cI th w b n T w2 b2 n2 T2) := by
  refine MX.of (own := RX3) (cc := cX3_feversAt) (maxL := 4) (ret := (some .int)) (lv0 := [(0, .ref h), (1, .int x1)]) (by decide) rfl rfl (Nat.le_of_ble_eq_true rfl) rfl ?_
  intro p e s m args below meth c A hc hnm hw ls hl
  obtain ⟨hx, hb, hr, hml, hown, hts, hlk, hK, hA⟩ := id hc
  have hiX2 : ∀ w ∈ u_ws RX2 TX2 13, w ∈ wsX3_feversAt := fun _ h => List.mem_cons_of_mem _ (List.mem_append_right _ h)
  have hiX3 : ∀ w ∈ u_ws RX3 TX3 3, w ∈ wsX3_feversAt := fun _ h => List.mem_cons_of_mem _ (List.mem_append_left _ (List.mem_append_right _ h))
  refine lv_iconst (v := 0) hx hb dX3_feversAt_0 (by decide) ?_
  refine lv_istore_n (lv' := [(2, .int (0 : Int32)), (0, .ref h), (1, .int x1)]) hx hb dX3_feversAt_1 rfl hl (by decide) rfl (fun ls hl => ?_)
  refine lv_iconst (v := 0) hx hb dX3_feversAt_2 (by decide) ?_
  refine lv_istore_n (lv' := [(3, .int (0 : Int32)), (2, .int (0 : Int32)), (0, .ref h), (1, .int x1)]) hx hb dX3_feversAt_3 rfl hl (by decide) rfl (fun ls hl => ?_)
  refine lp_go (fun (i4 : Nat) (q4 : Int32) => ∀ (H : Heap) (locs : List Loc) (ls : Array Slot), Wo D A s.heap (wb_m h a a2 cI th w b n T w2 b2 n2 T2) H locs → lv_has ls 4 [(0, .ref h), (1, .int x1), (2, .int q4), (3, .int (nI i4))] → W p l e rm_X3_feversAt s m args below meth c H locs 0 0 (QE below args s D A (some (.int (r_X3_feversAt th w b n T w2 b2 n2 T2 x1))) (wb_m h a a2 cI th w b n T w2 b2 n2 T2) rm_X3_feversAt) (F0 m 4 ls [])) (f_X3_feversAt_4 th w b n T w2 b2 n2 T2 x1) n ((0 : Int32)) ?_ ?_ s.heap [] ls hw (lv_sub hl [2, 3, 1, 0] rfl)
  · intro i4 q4 hi4 k4 H locs ls hw hl
    refine lv_iload_n hx hb dX3_feversAt_4 rfl (lv_at hl 3 rfl) ?_
    refine lv_aload_n hx hb dX3_feversAt_5 rfl (lv_at hl 0 rfl) ?_
    refine g_get (v := .ref (a 0)) hc hw hiX3 0 1 (wo_X3_H ..) rfl (by decide) (List.mem_of_getElem? (i := 1) rfl) (wv_X3_H_1 ..) dX3_feversAt_6 ?_
    refine g_getN (v := .int (nI n)) (host := RX3) hc hw hiX2 1 3 (wo_X3_T ..) rfl (by decide) (fun z => z.2 (33, "people", "I") (by decide +kernel)) (wv_X3_T_3 ..) dX3_feversAt_9 ?_
    refine lv_icmp_ge (tgt := 50) hx hb dX3_feversAt_12 (by decide) (fun z => absurd z (nI_ge hi4 (by omega))) (fun _ => ?_)
    refine lv_iload_n hx hb dX3_feversAt_15 rfl (lv_at hl 2 rfl) ?_
    refine lv_aload_n hx hb dX3_feversAt_16 rfl (lv_at hl 0 rfl) ?_
    refine g_get (v := .ref (a 0)) hc hw hiX3 0 1 (wo_X3_H ..) rfl (by decide) (List.mem_of_getElem? (i := 1) rfl) (wv_X3_H_1 ..) dX3_feversAt_17 ?_
    refine g_getN (v := .ref (a 11)) (host := RX3) hc hw hiX2 1 11 (wo_X3_T ..) rfl (by decide) (fun z => z.2 (57, "where", "[I") (by decide +kernel)) (wv_X3_T_11 ..) dX3_feversAt_20 ?_
    refine lv_iload_n hx hb dX3_feversAt_23 rfl (lv_at hl 3 rfl) ?_
    refine g_iald (f := (mt_wh T)) hc hw 7 (wr_X3_T_11 ..) (vp_in_nI (show i4 < 30 by omega) (by omega)) dX3_feversAt_24 ?_
    refine lv_iload_n hx hb dX3_feversAt_25 rfl (lv_at hl 1 rfl) ?_
    refine lv_icmp_ne (tgt := 41) hx hb dX3_feversAt_26 (by decide) (fun c1 => ?_) (fun c1 => ?_)
    · refine lv_iconst (v := 0) hx hb dX3_feversAt_41 (by decide) ?_
      refine lv_iadd hx hb dX3_feversAt_42 ?_
      refine lv_istore_n (lv' := [(2, .int (q4 + (0 : Int32))), (0, .ref h), (1, .int x1), (3, .int (nI i4))]) hx hb dX3_feversAt_43 rfl hl (by decide) rfl (fun ls hl => ?_)
      refine lv_iinc (v := (nI (i4 + 1))) (lv' := [(3, .int (nI (i4 + 1))), (2, .int (q4 + (0 : Int32))), (0, .ref h), (1, .int x1)]) hx hb dX3_feversAt_44 hl (k := 3) rfl (inc_n i4) (by decide) rfl (fun ls hl => ?_)
      refine lv_goto (tgt := 4) hx hb dX3_feversAt_47 (by decide) ?_
      rw [show (f_X3_feversAt_4 th w b n T w2 b2 n2 T2 x1) i4 q4 = ((q4 + (0 : Int32))) from by rw [f_X3_feversAt_4, if_neg c1]] at k4
      exact k4 H locs ls hw (lv_sub hl [2, 3, 1, 0] rfl)
    · refine lv_aload_n hx hb dX3_feversAt_29 rfl (lv_at hl 0 rfl) ?_
      refine g_get (v := .ref (a 0)) hc hw hiX3 0 1 (wo_X3_H ..) rfl (by decide) (List.mem_of_getElem? (i := 1) rfl) (wv_X3_H_1 ..) dX3_feversAt_30 ?_
      refine g_getN (v := .ref (a 10)) (host := RX3) hc hw hiX2 1 10 (wo_X3_T ..) rfl (by decide) (fun z => z.2 (54, "fever", "[I") (by decide +kernel)) (wv_X3_T_10 ..) dX3_feversAt_33 ?_
      refine lv_iload_n hx hb dX3_feversAt_36 rfl (lv_at hl 3 rfl) ?_
      refine g_iald (f := (mt_fe T)) hc hw 6 (wr_X3_T_10 ..) (vp_in_nI (show i4 < 30 by omega) (by omega)) dX3_feversAt_37 ?_
      refine lv_goto (tgt := 42) hx hb dX3_feversAt_38 (by decide) ?_
      refine lv_iadd hx hb dX3_feversAt_42 ?_
      refine lv_istore_n (lv' := [(2, .int (q4 + ((mt_fe T) (nI i4).toNatClampNeg))), (0, .ref h), (1, .int x1), (3, .int (nI i4))]) hx hb dX3_feversAt_43 rfl hl (by decide) rfl (fun ls hl => ?_)
      refine lv_iinc (v := (nI (i4 + 1))) (lv' := [(3, .int (nI (i4 + 1))), (2, .int (q4 + ((mt_fe T) (nI i4).toNatClampNeg))), (0, .ref h), (1, .int x1)]) hx hb dX3_feversAt_44 hl (k := 3) rfl (inc_n i4) (by decide) rfl (fun ls hl => ?_)
      refine lv_goto (tgt := 4) hx hb dX3_feversAt_47 (by decide) ?_
      rw [show (f_X3_feversAt_4 th w b n T w2 b2 n2 T2 x1) i4 q4 = ((q4 + ((mt_fe T) (nI i4).toNatClampNeg))) from by rw [f_X3_feversAt_4, if_pos c1]] at k4
      exact k4 H locs ls hw (lv_sub hl [2, 3, 1, 0] rfl)
  · intro H locs ls hw hl
    refine lv_iload_n hx hb dX3_feversAt_4 rfl (lv_at hl 3 rfl) ?_
    refine lv_aload_n hx hb dX3_feversAt_5 rfl (lv_at hl 0 rfl) ?_
    refine g_get (v := .ref (a 0)) hc hw hiX3 0 1 (wo_X3_H ..) rfl (by decide) (List.mem_of_getElem? (i := 1) rfl) (wv_X3_H_1 ..) dX3_feversAt_6 ?_
    refine g_getN (v := .int (nI n)) (host := RX3) hc hw hiX2 1 3 (wo_X3_T ..) rfl (by decide) (fun z => z.2 (33, "people", "I") (by decide +kernel)) (wv_X3_T_3 ..) dX3_feversAt_9 ?_
    refine lv_icmp_ge (tgt := 50) hx hb dX3_feversAt_12 (by decide) (fun _ => ?_) (fun z => absurd (nI_le (Nat.le_refl _) (by omega)) z)
    refine lv_iload_n hx hb dX3_feversAt_50 rfl (lv_at hl 2 rfl) ?_
    rw [show r_X3_feversAt th w b n T w2 b2 n2 T2 x1 = (lpf (f_X3_feversAt_4 th w b n T w2 b2 n2 T2 x1) n 0 ((0 : Int32))) from by rw [r_X3_feversAt]]
    exact g_ret hc hw rfl (Nat.le_of_ble_eq_true rfl) (Nat.le_of_ble_eq_true rfl) dX3_feversAt_51

def r_X3_placesOf (th : Int32) (w : Nat) (b : Nat) (n : Nat) (T : mt_T) (w2 : Nat) (b2 : Nat) (n2 : Nat) (T2 : mt_T) (x1 : Int32) : Int32 := if (r_X3_isWard (0 : Int32) w b n T w2 b2 n2 T2 x1) = (0 : Int32) then ((r_X3_no (0 : Int32) w b n T w2 b2 n2 T2 (1 : Int32))) else (((mt_pl T) x1.toNatClampNeg))
def t_X3_placesOf (th : Int32) (w : Nat) (b : Nat) (n : Nat) (T : mt_T) (w2 : Nat) (b2 : Nat) (n2 : Nat) (T2 : mt_T) (x1 : Int32) : Int32 := if (r_X3_isWard (0 : Int32) w b n T w2 b2 n2 T2 x1) = (0 : Int32) then ((t_X3_no (0 : Int32) w b n T w2 b2 n2 T2 (1 : Int32))) else ((0 : Int32))
abbrev rm_X3_placesOf : Room := { frames := 2, cells := 0, slots := 0, locals := 43 }
set_option maxHeartbeats 4000000 in
set_option maxRecDepth 100000 in
theorem k_X3_placesOf (l : Launch) (D : va_G) (cI cZ cL : ClassId) (h : Nat) (a a2 : Nat → Nat) (th : Int32) (w : Nat) (b : Nat) (n : Nat) (T : mt_T) (w2 : Nat) (b2 : Nat) (n2 : Nat) (T2 : mt_T) (hd5 : w ≤ 5) (hd4 : b ≤ 4) (hd30 : n ≤ 30) (he5 : w2 ≤ 5) (he4 : b2 ≤ 4) (he30 : n2 ≤ 30) (x1 : Int32)  : MX l yX3_placesOf wsX3_placesOf rm_X3_placesOf D cI cZ cL [.ref h, .int x1] (wb_m h a a2 cI th w b n T w2 b2 n2 T2) (some (.int (r_X3_placesOf th w b n T w2 b2 n2 T2 x1))) (wb_m h a a2 cI (t_X3_placesOf th w b n T w2 b2 n2 T2 x1) w b n T w2 b2 n2 T2) := by
  refine MX.of (own := RX3) (cc := cX3_placesOf) (maxL := 2) (ret := (some .int)) (lv0 := [(0, .ref h), (1, .int x1)]) (by decide) rfl rfl (Nat.le_of_ble_eq_true rfl) rfl ?_
  intro p e s m args below meth c A hc hnm hw ls hl
  obtain ⟨hx, hb, hr, hml, hown, hts, hlk, hK, hA⟩ := id hc
  have hiX2 : ∀ w ∈ u_ws RX2 TX2 13, w ∈ wsX3_placesOf := fun _ h => List.mem_cons_of_mem _ (List.mem_append_right _ h)
  have hiX3 : ∀ w ∈ u_ws RX3 TX3 3, w ∈ wsX3_placesOf := fun _ h => List.mem_cons_of_mem _ (List.mem_append_left _ (List.mem_append_right _ h))
  refine lv_aload_n hx hb dX3_placesOf_0 rfl (lv_at hl 0 rfl) ?_
  refine lv_iconst (v := 0) hx hb dX3_placesOf_1 (by decide) ?_
  refine g_put hc hw hiX3 tyX3 tyX3_ok nmX3 0 0 (wo_X3_H ..) rfl (by decide) (List.mem_of_getElem? (i := 1) rfl) (by decide) rfl rfl (Nat.le_of_ble_eq_true rfl) (w' := (wb_m h a a2 cI (0 : Int32) w b n T w2 b2 n2 T2)) (wp_X3_H_0 ..) dX3_placesOf_2 (fun H locs hw => ?_)
  refine lv_aload_n hx hb dX3_placesOf_5 rfl (lv_at hl 0 rfl) ?_
  refine lv_iload_n hx hb dX3_placesOf_6 rfl (lv_at hl 1 rfl) ?_
  refine g_callV0 (n := 1) hc hw (k_X3_isWard l D cI cZ cL h a a2 (0 : Int32) w b n T w2 b2 n2 T2 hd5 hd4 hd30 he5 he4 he30 x1) gX3_placesOf_X3_isWard rfl (by decide +kernel) ⟨Nat.le_of_ble_eq_true rfl, Nat.le_of_ble_eq_true rfl⟩ 0 (wo_X3_H ..) rfl rfl rfl (rest := []) rfl hl.1 (Nat.le_of_ble_eq_true rfl) (st1 := [.int (r_X3_isWard (0 : Int32) w b n T w2 b2 n2 T2 x1)]) rfl dX3_placesOf_7 (k2 := 0) (s2 := 0) rfl rfl ⟨Nat.le_of_ble_eq_true rfl, Nat.le_of_ble_eq_true rfl⟩ (fun H locs hw => ?_)
  refine lv_if_eq (tgt := 25) hx hb dX3_placesOf_10 (by decide) (fun c1 => ?_) (fun c1 => ?_)
  · refine lv_aload_n hx hb dX3_placesOf_25 rfl (lv_at hl 0 rfl) ?_
    refine lv_iconst (v := 1) hx hb dX3_placesOf_26 (by decide) ?_
    refine g_callV0 (n := 1) hc hw (k_X3_no l D cI cZ cL h a a2 (0 : Int32) w b n T w2 b2 n2 T2 hd5 hd4 hd30 he5 he4 he30 (1 : Int32)) gX3_placesOf_X3_no rfl (by decide +kernel) ⟨Nat.le_of_ble_eq_true rfl, Nat.le_of_ble_eq_true rfl⟩ 0 (wo_X3_H ..) rfl rfl rfl (rest := []) rfl hl.1 (Nat.le_of_ble_eq_true rfl) (st1 := [.int (r_X3_no (0 : Int32) w b n T w2 b2 n2 T2 (1 : Int32))]) rfl dX3_placesOf_27 (k2 := 0) (s2 := 0) rfl rfl ⟨Nat.le_of_ble_eq_true rfl, Nat.le_of_ble_eq_true rfl⟩ (fun H locs hw => ?_)
    rw [show r_X3_placesOf th w b n T w2 b2 n2 T2 x1 = (r_X3_no (0 : Int32) w b n T w2 b2 n2 T2 (1 : Int32)) from by rw [r_X3_placesOf, if_pos c1]]
    rw [show t_X3_placesOf th w b n T w2 b2 n2 T2 x1 = (t_X3_no (0 : Int32) w b n T w2 b2 n2 T2 (1 : Int32)) from by rw [t_X3_placesOf, if_pos c1]]
    exact g_ret hc hw rfl (Nat.le_of_ble_eq_true rfl) (Nat.le_of_ble_eq_true rfl) dX3_placesOf_30
  · refine lv_aload_n hx hb dX3_placesOf_13 rfl (lv_at hl 0 rfl) ?_
    refine g_get (v := .ref (a 0)) hc hw hiX3 0 1 (wo_X3_H ..) rfl (by decide) (List.mem_of_getElem? (i := 2) rfl) (wv_X3_H_1 ..) dX3_placesOf_14 ?_
    refine g_getN (v := .ref (a 6)) (host := RX3) hc hw hiX2 1 6 (wo_X3_T ..) rfl (by decide) (fun z => z.2 (40, "places", "[I") (by decide +kernel)) (wv_X3_T_6 ..) dX3_placesOf_17 ?_
    refine lv_iload_n hx hb dX3_placesOf_20 rfl (lv_at hl 1 rfl) ?_
    refine g_iald (f := (mt_pl T)) hc hw 2 (wr_X3_T_6 ..) (v_X3_isWard c1 hd5) dX3_placesOf_21 ?_
    refine lv_goto (tgt := 30) hx hb dX3_placesOf_22 (by decide) ?_
    rw [show r_X3_placesOf th w b n T w2 b2 n2 T2 x1 = ((mt_pl T) x1.toNatClampNeg) from by rw [r_X3_placesOf, if_neg c1]]
    rw [show t_X3_placesOf th w b n T w2 b2 n2 T2 x1 = (0 : Int32) from by rw [t_X3_placesOf, if_neg c1]]
    exact g_ret hc hw rfl (Nat.le_of_ble_eq_true rfl) (Nat.le_of_ble_eq_true rfl) dX3_placesOf_30

def r_X3_peopleIn (th : Int32) (w : Nat) (b : Nat) (n : Nat) (T : mt_T) (w2 : Nat) (b2 : Nat) (n2 : Nat) (T2 : mt_T) (x1 : Int32) : Int32 := if (r_X3_isWard (0 : Int32) w b n T w2 b2 n2 T2 x1) = (0 : Int32) then ((r_X3_no (0 : Int32) w b n T w2 b2 n2 T2 (1 : Int32))) else ((r_X2_at w b n T x1))
def t_X3_peopleIn (th : Int32) (w : Nat) (b : Nat) (n : Nat) (T : mt_T) (w2 : Nat) (b2 : Nat) (n2 : Nat) (T2 : mt_T) (x1 : Int32) : Int32 := if (r_X3_isWard (0 : Int32) w b n T w2 b2 n2 T2 x1) = (0 : Int32) then ((t_X3_no (0 : Int32) w b n T w2 b2 n2 T2 (1 : Int32))) else ((0 : Int32))
abbrev rm_X3_peopleIn : Room := { frames := 2, cells := 0, slots := 0, locals := 43 }
set_option maxHeartbeats 4000000 in
set_option maxRecDepth 100000 in
theorem k_X3_peopleIn (l : Launch) (D : va_G) (cI cZ cL : ClassId) (h : Nat) (a a2 : Nat → Nat) (th : Int32) (w : Nat) (b : Nat) (n : Nat) (T : mt_T) (w2 : Nat) (b2 : Nat) (n2 : Nat) (T2 : mt_T) (hd5 : w ≤ 5) (hd4 : b ≤ 4) (hd30 : n ≤ 30) (he5 : w2 ≤ 5) (he4 : b2 ≤ 4) (he30 : n2 ≤ 30) (x1 : Int32)  : MX l yX3_peopleIn wsX3_peopleIn rm_X3_peopleIn D cI cZ cL [.ref h, .int x1] (wb_m h a a2 cI th w b n T w2 b2 n2 T2) (some (.int (r_X3_peopleIn th w b n T w2 b2 n2 T2 x1))) (wb_m h a a2 cI (t_X3_peopleIn th w b n T w2 b2 n2 T2 x1) w b n T w2 b2 n2 T2) := by
  refine MX.of (own := RX3) (cc := cX3_peopleIn) (maxL := 2) (ret := (some .int)) (lv0 := [(0, .ref h), (1, .int x1)]) (by decide) rfl rfl (Nat.le_of_ble_eq_true rfl) rfl ?_
  intro p e s m args below meth c A hc hnm hw ls hl
  obtain ⟨hx, hb, hr, hml, hown, hts, hlk, hK, hA⟩ := id hc
  have hiX3 : ∀ w ∈ u_ws RX3 TX3 3, w ∈ wsX3_peopleIn := fun _ h => List.mem_cons_of_mem _ (List.mem_append_left _ (List.mem_append_right _ h))
  refine lv_aload_n hx hb dX3_peopleIn_0 rfl (lv_at hl 0 rfl) ?_
  refine lv_iconst (v := 0) hx hb dX3_peopleIn_1 (by decide) ?_
  refine g_put hc hw hiX3 tyX3 tyX3_ok nmX3 0 0 (wo_X3_H ..) rfl (by decide) (List.mem_of_getElem? (i := 1) rfl) (by decide) rfl rfl (Nat.le_of_ble_eq_true rfl) (w' := (wb_m h a a2 cI (0 : Int32) w b n T w2 b2 n2 T2)) (wp_X3_H_0 ..) dX3_peopleIn_2 (fun H locs hw => ?_)
  refine lv_aload_n hx hb dX3_peopleIn_5 rfl (lv_at hl 0 rfl) ?_
  refine lv_iload_n hx hb dX3_peopleIn_6 rfl (lv_at hl 1 rfl) ?_
  refine g_callV0 (n := 1) hc hw (k_X3_isWard l D cI cZ cL h a a2 (0 : Int32) w b n T w2 b2 n2 T2 hd5 hd4 hd30 he5 he4 he30 x1) gX3_peopleIn_X3_isWard rfl (by decide +kernel) ⟨Nat.le_of_ble_eq_true rfl, Nat.le_of_ble_eq_true rfl⟩ 0 (wo_X3_H ..) rfl rfl rfl (rest := []) rfl hl.1 (Nat.le_of_ble_eq_true rfl) (st1 := [.int (r_X3_isWard (0 : Int32) w b n T w2 b2 n2 T2 x1)]) rfl dX3_peopleIn_7 (k2 := 0) (s2 := 0) rfl rfl ⟨Nat.le_of_ble_eq_true rfl, Nat.le_of_ble_eq_true rfl⟩ (fun H locs hw => ?_)
  refine lv_if_eq (tgt := 24) hx hb dX3_peopleIn_10 (by decide) (fun c1 => ?_) (fun c1 => ?_)
  · refine lv_aload_n hx hb dX3_peopleIn_24 rfl (lv_at hl 0 rfl) ?_
    refine lv_iconst (v := 1) hx hb dX3_peopleIn_25 (by decide) ?_
    refine g_callV0 (n := 1) hc hw (k_X3_no l D cI cZ cL h a a2 (0 : Int32) w b n T w2 b2 n2 T2 hd5 hd4 hd30 he5 he4 he30 (1 : Int32)) gX3_peopleIn_X3_no rfl (by decide +kernel) ⟨Nat.le_of_ble_eq_true rfl, Nat.le_of_ble_eq_true rfl⟩ 0 (wo_X3_H ..) rfl rfl rfl (rest := []) rfl hl.1 (Nat.le_of_ble_eq_true rfl) (st1 := [.int (r_X3_no (0 : Int32) w b n T w2 b2 n2 T2 (1 : Int32))]) rfl dX3_peopleIn_26 (k2 := 0) (s2 := 0) rfl rfl ⟨Nat.le_of_ble_eq_true rfl, Nat.le_of_ble_eq_true rfl⟩ (fun H locs hw => ?_)
    rw [show r_X3_peopleIn th w b n T w2 b2 n2 T2 x1 = (r_X3_no (0 : Int32) w b n T w2 b2 n2 T2 (1 : Int32)) from by rw [r_X3_peopleIn, if_pos c1]]
    rw [show t_X3_peopleIn th w b n T w2 b2 n2 T2 x1 = (t_X3_no (0 : Int32) w b n T w2 b2 n2 T2 (1 : Int32)) from by rw [t_X3_peopleIn, if_pos c1]]
    exact g_ret hc hw rfl (Nat.le_of_ble_eq_true rfl) (Nat.le_of_ble_eq_true rfl) dX3_peopleIn_29
  · refine lv_aload_n hx hb dX3_peopleIn_13 rfl (lv_at hl 0 rfl) ?_
    refine g_get (v := .ref (a 0)) hc hw hiX3 0 1 (wo_X3_H ..) rfl (by decide) (List.mem_of_getElem? (i := 2) rfl) (wv_X3_H_1 ..) dX3_peopleIn_14 ?_
    refine lv_iload_n hx hb dX3_peopleIn_17 rfl (lv_at hl 1 rfl) ?_
    refine g_callV (n := 1) hc hw (k_X2_at l D cI cZ cL a w b n T hd5 hd4 hd30 x1) gX3_peopleIn_X2_at rfl (by decide +kernel) ⟨Nat.le_of_ble_eq_true rfl, Nat.le_of_ble_eq_true rfl⟩ (wo_X2_T ..) rfl rfl [1, 2, 3, 4, 5, 6, 7, 8] [0, 9, 10, 11, 12, 13, 14, 15, 16] [0, 9, 10, 11, 12, 13, 14, 15, 16, 1, 2, 3, 4, 5, 6, 7, 8] (wr := (wb_m0 h a a2 (0 : Int32) :: wt_m a2 cI w2 b2 n2 T2)) (w' := (wb_m h a a2 cI (0 : Int32) w b n T w2 b2 n2 T2)) (wpC_X3_T ..) (wpR_X3_T ..) (by decide) (by decide) (by decide) (wpJ_X3_T ..) (by decide) rfl (rest := []) rfl hl.1 (Nat.le_of_ble_eq_true rfl) (st1 := [.int (r_X2_at w b n T x1)]) rfl dX3_peopleIn_18 (k2 := 0) (s2 := 0) rfl rfl ⟨Nat.le_of_ble_eq_true rfl, Nat.le_of_ble_eq_true rfl⟩ (fun H locs hw => ?_)
    refine lv_goto (tgt := 29) hx hb dX3_peopleIn_21 (by decide) ?_
    rw [show r_X3_peopleIn th w b n T w2 b2 n2 T2 x1 = (r_X2_at w b n T x1) from by rw [r_X3_peopleIn, if_neg c1]]
    rw [show t_X3_peopleIn th w b n T w2 b2 n2 T2 x1 = (0 : Int32) from by rw [t_X3_peopleIn, if_neg c1]]
    exact g_ret hc hw rfl (Nat.le_of_ble_eq_true rfl) (Nat.le_of_ble_eq_true rfl) dX3_peopleIn_29
