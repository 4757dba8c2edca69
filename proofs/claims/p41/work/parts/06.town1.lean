def s_X0_move (w : Nat) (b : Nat) (n : Nat) (T : ct_T) (x1 : Int32) (x2 : Int32) (x3 : Int32) : ct_T := (cs_nu (cs_wh T (upd (ct_wh T) x1.toNatClampNeg x2)) (upd (ct_nu (cs_wh T (upd (ct_wh T) x1.toNatClampNeg x2))) x1.toNatClampNeg x3))
abbrev rm_X0_move : Room := { frames := 0, cells := 0, slots := 0, locals := 0 }
set_option maxHeartbeats 4000000 in
set_option maxRecDepth 100000 in
theorem k_X0_move (l : Launch) (D : va_G) (cI cZ cL : ClassId) (a : Nat → Nat) (w : Nat) (b : Nat) (n : Nat) (T : ct_T) (hd5 : w ≤ 5) (hd4 : b ≤ 4) (hd30 : n ≤ 30) (x1 : Int32) (x2 : Int32) (x3 : Int32) (hp1 : vp_in x1 30) : MX l yX0_move wsX0_move rm_X0_move D cI cZ cL [.ref (a 0), .int x1, .int x2, .int x3] (wt_c a cI cZ w b n T) none (wt_c a cI cZ w b n (s_X0_move w b n T x1 x2 x3)) := by
  refine MX.of (own := RX0) (cc := cX0_move) (maxL := 4) (ret := none) (lv0 := [(0, .ref (a 0)), (1, .int x1), (2, .int x2), (3, .int x3)]) (by decide) rfl rfl (Nat.le_of_ble_eq_true rfl) rfl ?_
  intro p e s m args below meth c A hc hnm hw ls hl
  obtain ⟨hx, hb, hr, hml, hown, hts, hlk, hK, hA⟩ := id hc
  have hiX0 : ∀ w ∈ u_ws RX0 TX0 16, w ∈ wsX0_move := fun _ h => List.mem_cons_of_mem _ (List.mem_append_right _ h)
  refine lv_aload_n hx hb dX0_move_0 rfl (lv_at hl 0 rfl) ?_
  refine g_get (v := .ref (a 11)) hc hw hiX0 0 11 (wo_X0_T ..) rfl (by decide) (List.mem_of_getElem? (i := 1) rfl) (wv_X0_T_11 ..) dX0_move_1 ?_
  refine lv_iload_n hx hb dX0_move_4 rfl (lv_at hl 1 rfl) ?_
  refine lv_iload_n hx hb dX0_move_5 rfl (lv_at hl 2 rfl) ?_
  refine g_iast (f := (ct_wh T)) hc hw 6 (wr_X0_T_11 ..) hp1 (w' := (wt_c a cI cZ w b n (cs_wh T (upd (ct_wh T) x1.toNatClampNeg x2)))) (wu_X0_T_11 ..) dX0_move_6 (fun H locs hw => ?_)
  refine lv_aload_n hx hb dX0_move_7 rfl (lv_at hl 0 rfl) ?_
  refine g_get (v := .ref (a 12)) hc hw hiX0 0 12 (wo_X0_T ..) rfl (by decide) (List.mem_of_getElem? (i := 2) rfl) (wv_X0_T_12 ..) dX0_move_8 ?_
  refine lv_iload_n hx hb dX0_move_11 rfl (lv_at hl 1 rfl) ?_
  refine lv_iload_n hx hb dX0_move_12 rfl (lv_at hl 3 rfl) ?_
  refine g_iast (f := (ct_nu (cs_wh T (upd (ct_wh T) x1.toNatClampNeg x2)))) hc hw 7 (wr_X0_T_12 ..) hp1 (w' := (wt_c a cI cZ w b n (cs_nu (cs_wh T (upd (ct_wh T) x1.toNatClampNeg x2)) (upd (ct_nu (cs_wh T (upd (ct_wh T) x1.toNatClampNeg x2))) x1.toNatClampNeg x3)))) (wu_X0_T_12 ..) dX0_move_13 (fun H locs hw => ?_)
  rw [show s_X0_move w b n T x1 x2 x3 = (cs_nu (cs_wh T (upd (ct_wh T) x1.toNatClampNeg x2)) (upd (ct_nu (cs_wh T (upd (ct_wh T) x1.toNatClampNeg x2))) x1.toNatClampNeg x3)) from by rw [s_X0_move]]
  exact g_vret hc hw rfl (Nat.le_of_ble_eq_true rfl) (Nat.le_of_ble_eq_true rfl) dX0_move_14

def r_X0_isAt (w : Nat) (b : Nat) (n : Nat) (T : ct_T) (x1 : Int32) (x2 : Int32) (x3 : Int32) : Int32 := if ((ct_wh T) x1.toNatClampNeg) = x2 then (if ((ct_nu T) x1.toNatClampNeg) = x3 then ((1 : Int32)) else ((0 : Int32))) else ((0 : Int32))
abbrev rm_X0_isAt : Room := { frames := 0, cells := 0, slots := 0, locals := 0 }
set_option maxHeartbeats 4000000 in
set_option maxRecDepth 100000 in
theorem k_X0_isAt (l : Launch) (D : va_G) (cI cZ cL : ClassId) (a : Nat → Nat) (w : Nat) (b : Nat) (n : Nat) (T : ct_T) (hd5 : w ≤ 5) (hd4 : b ≤ 4) (hd30 : n ≤ 30) (x1 : Int32) (x2 : Int32) (x3 : Int32) (hp1 : vp_in x1 30) : MX l yX0_isAt wsX0_isAt rm_X0_isAt D cI cZ cL [.ref (a 0), .int x1, .int x2, .int x3] (wt_c a cI cZ w b n T) (some (.int (r_X0_isAt w b n T x1 x2 x3))) (wt_c a cI cZ w b n T) := by
  refine MX.of (own := RX0) (cc := cX0_isAt) (maxL := 4) (ret := (some .boolean)) (lv0 := [(0, .ref (a 0)), (1, .int x1), (2, .int x2), (3, .int x3)]) (by decide) rfl rfl (Nat.le_of_ble_eq_true rfl) rfl ?_
  intro p e s m args below meth c A hc hnm hw ls hl
  obtain ⟨hx, hb, hr, hml, hown, hts, hlk, hK, hA⟩ := id hc
  have hiX0 : ∀ w ∈ u_ws RX0 TX0 16, w ∈ wsX0_isAt := fun _ h => List.mem_cons_of_mem _ (List.mem_append_right _ h)
  refine lv_aload_n hx hb dX0_isAt_0 rfl (lv_at hl 0 rfl) ?_
  refine g_get (v := .ref (a 11)) hc hw hiX0 0 11 (wo_X0_T ..) rfl (by decide) (List.mem_of_getElem? (i := 1) rfl) (wv_X0_T_11 ..) dX0_isAt_1 ?_
  refine lv_iload_n hx hb dX0_isAt_4 rfl (lv_at hl 1 rfl) ?_
  refine g_iald (f := (ct_wh T)) hc hw 6 (wr_X0_T_11 ..) hp1 dX0_isAt_5 ?_
  refine lv_iload_n hx hb dX0_isAt_6 rfl (lv_at hl 2 rfl) ?_
  refine lv_icmp_ne (tgt := 24) hx hb dX0_isAt_7 (by decide) (fun c1 => ?_) (fun c1 => ?_)
  · refine lv_iconst (v := 0) hx hb dX0_isAt_24 (by decide) ?_
    rw [show r_X0_isAt w b n T x1 x2 x3 = (0 : Int32) from by rw [r_X0_isAt, if_neg c1]]
    exact g_zret hc hw rfl rfl (Nat.le_of_ble_eq_true rfl) (Nat.le_of_ble_eq_true rfl) dX0_isAt_25
  · refine lv_aload_n hx hb dX0_isAt_10 rfl (lv_at hl 0 rfl) ?_
    refine g_get (v := .ref (a 12)) hc hw hiX0 0 12 (wo_X0_T ..) rfl (by decide) (List.mem_of_getElem? (i := 2) rfl) (wv_X0_T_12 ..) dX0_isAt_11 ?_
    refine lv_iload_n hx hb dX0_isAt_14 rfl (lv_at hl 1 rfl) ?_
    refine g_iald (f := (ct_nu T)) hc hw 7 (wr_X0_T_12 ..) hp1 dX0_isAt_15 ?_
    refine lv_iload_n hx hb dX0_isAt_16 rfl (lv_at hl 3 rfl) ?_
    refine lv_icmp_ne (tgt := 24) hx hb dX0_isAt_17 (by decide) (fun c2 => ?_) (fun c2 => ?_)
    · refine lv_iconst (v := 0) hx hb dX0_isAt_24 (by decide) ?_
      rw [show r_X0_isAt w b n T x1 x2 x3 = (0 : Int32) from by rw [r_X0_isAt, if_pos c1, if_neg c2]]
      exact g_zret hc hw rfl rfl (Nat.le_of_ble_eq_true rfl) (Nat.le_of_ble_eq_true rfl) dX0_isAt_25
    · refine lv_iconst (v := 1) hx hb dX0_isAt_20 (by decide) ?_
      refine lv_goto (tgt := 25) hx hb dX0_isAt_21 (by decide) ?_
      rw [show r_X0_isAt w b n T x1 x2 x3 = (1 : Int32) from by rw [r_X0_isAt, if_pos c1, if_pos c2]]
      exact g_zret hc hw rfl rfl (Nat.le_of_ble_eq_true rfl) (Nat.le_of_ble_eq_true rfl) dX0_isAt_25

def r_X0_numberOf (w : Nat) (b : Nat) (n : Nat) (T : ct_T) (x1 : Int32) (x2 : Int32) : Int32 := if ((ct_wh T) x1.toNatClampNeg) = x2 then (((ct_nu T) x1.toNatClampNeg)) else ((-1 : Int32))
abbrev rm_X0_numberOf : Room := { frames := 0, cells := 0, slots := 0, locals := 0 }
set_option maxHeartbeats 4000000 in
set_option maxRecDepth 100000 in
theorem k_X0_numberOf (l : Launch) (D : va_G) (cI cZ cL : ClassId) (a : Nat → Nat) (w : Nat) (b : Nat) (n : Nat) (T : ct_T) (hd5 : w ≤ 5) (hd4 : b ≤ 4) (hd30 : n ≤ 30) (x1 : Int32) (x2 : Int32) (hp1 : vp_in x1 30) : MX l yX0_numberOf wsX0_numberOf rm_X0_numberOf D cI cZ cL [.ref (a 0), .int x1, .int x2] (wt_c a cI cZ w b n T) (some (.int (r_X0_numberOf w b n T x1 x2))) (wt_c a cI cZ w b n T) := by
  refine MX.of (own := RX0) (cc := cX0_numberOf) (maxL := 3) (ret := (some .int)) (lv0 := [(0, .ref (a 0)), (1, .int x1), (2, .int x2)]) (by decide) rfl rfl (Nat.le_of_ble_eq_true rfl) rfl ?_
  intro p e s m args below meth c A hc hnm hw ls hl
  obtain ⟨hx, hb, hr, hml, hown, hts, hlk, hK, hA⟩ := id hc
  have hiX0 : ∀ w ∈ u_ws RX0 TX0 16, w ∈ wsX0_numberOf := fun _ h => List.mem_cons_of_mem _ (List.mem_append_right _ h)
  refine lv_aload_n hx hb dX0_numberOf_0 rfl (lv_at hl 0 rfl) ?_
  refine g_get (v := .ref (a 11)) hc hw hiX0 0 11 (wo_X0_T ..) rfl (by decide) (List.mem_of_getElem? (i := 1) rfl) (wv_X0_T_11 ..) dX0_numberOf_1 ?_
  refine lv_iload_n hx hb dX0_numberOf_4 rfl (lv_at hl 1 rfl) ?_
  refine g_iald (f := (ct_wh T)) hc hw 6 (wr_X0_T_11 ..) hp1 dX0_numberOf_5 ?_
  refine lv_iload_n hx hb dX0_numberOf_6 rfl (lv_at hl 2 rfl) ?_
  refine lv_icmp_ne (tgt := 19) hx hb dX0_numberOf_7 (by decide) (fun c1 => ?_) (fun c1 => ?_)
  · refine lv_iconst (v := (-1)) hx hb dX0_numberOf_19 (by decide) ?_
    rw [show r_X0_numberOf w b n T x1 x2 = (-1 : Int32) from by rw [r_X0_numberOf, if_neg c1]]
    exact g_ret hc hw rfl (Nat.le_of_ble_eq_true rfl) (Nat.le_of_ble_eq_true rfl) dX0_numberOf_20
  · refine lv_aload_n hx hb dX0_numberOf_10 rfl (lv_at hl 0 rfl) ?_
    refine g_get (v := .ref (a 12)) hc hw hiX0 0 12 (wo_X0_T ..) rfl (by decide) (List.mem_of_getElem? (i := 2) rfl) (wv_X0_T_12 ..) dX0_numberOf_11 ?_
    refine lv_iload_n hx hb dX0_numberOf_14 rfl (lv_at hl 1 rfl) ?_
    refine g_iald (f := (ct_nu T)) hc hw 7 (wr_X0_T_12 ..) hp1 dX0_numberOf_15 ?_
    refine lv_goto (tgt := 20) hx hb dX0_numberOf_16 (by decide) ?_
    rw [show r_X0_numberOf w b n T x1 x2 = ((ct_nu T) x1.toNatClampNeg) from by rw [r_X0_numberOf, if_pos c1]]
    exact g_ret hc hw rfl (Nat.le_of_ble_eq_true rfl) (Nat.le_of_ble_eq_true rfl) dX0_numberOf_20

def f_X0_count_4 (w : Nat) (b : Nat) (n : Nat) (T : ct_T) (x1 : Int32) (i4 : Nat) (q4 : Int32) : Int32 := if ((ct_wh T) (nI i4).toNatClampNeg) = x1 then ((q4 + 1)) else (q4)
def r_X0_count (w : Nat) (b : Nat) (n : Nat) (T : ct_T) (x1 : Int32) : Int32 := (lpf (f_X0_count_4 w b n T x1) n 0 ((0 : Int32)))
abbrev rm_X0_count : Room := { frames := 0, cells := 0, slots := 0, locals := 0 }
set_option maxHeartbeats 4000000 in
set_option maxRecDepth 100000 in
theorem k_X0_count (l : Launch) (D : va_G) (cI cZ cL : ClassId) (a : Nat → Nat) (w : Nat) (b : Nat) (n : Nat) (T : ct_T) (hd5 : w ≤ 5) (hd4 : b ≤ 4) (hd30 : n ≤ 30) (x1 : Int32)  : MX l yX0_count wsX0_count rm_X0_count D cI cZ cL [.ref (a 0), .int x1] (wt_c a cI cZ w b n T) (some (.int (r_X0_count w b n T x1))) (wt_c a cI cZ w b n T) := by
  refine MX.of (own := RX0) (cc := cX0_count) (maxL := 4) (ret := (some .int)) (lv0 := [(0, .ref (a 0)), (1, .int x1)]) (by decide) rfl rfl (Nat.le_of_ble_eq_true rfl) rfl ?_
  intro p e s m args below meth c A hc hnm hw ls hl
  obtain ⟨hx, hb, hr, hml, hown, hts, hlk, hK, hA⟩ := id hc
  have hiX0 : ∀ w ∈ u_ws RX0 TX0 16, w ∈ wsX0_count := fun _ h => List.mem_cons_of_mem _ (List.mem_append_right _ h)
  refine lv_iconst (v := 0) hx hb dX0_count_0 (by decide) ?_
  refine lv_istore_n (lv' := [(2, .int (0 : Int32)), (0, .ref (a 0)), (1, .int x1)]) hx hb dX0_count_1 rfl hl (by decide) rfl (fun ls hl => ?_)
  refine lv_iconst (v := 0) hx hb dX0_count_2 (by decide) ?_
  refine lv_istore_n (lv' := [(3, .int (0 : Int32)), (2, .int (0 : Int32)), (0, .ref (a 0)), (1, .int x1)]) hx hb dX0_count_3 rfl hl (by decide) rfl (fun ls hl => ?_)
  refine lp_go (fun (i4 : Nat) (q4 : Int32) => ∀ (H : Heap) (locs : List Loc) (ls : Array Slot), Wo D A s.heap (wt_c a cI cZ w b n T) H locs → lv_has ls 4 [(0, .ref (a 0)), (1, .int x1), (2, .int q4), (3, .int (nI i4))] → W p l e rm_X0_count s m args below meth c H locs 0 0 (QE below args s D A (some (.int (r_X0_count w b n T x1))) (wt_c a cI cZ w b n T) rm_X0_count) (F0 m 4 ls [])) (f_X0_count_4 w b n T x1) n ((0 : Int32)) ?_ ?_ s.heap [] ls hw (lv_sub hl [2, 3, 1, 0] rfl)
  · intro i4 q4 hi4 k4 H locs ls hw hl
    refine lv_iload_n hx hb dX0_count_4 rfl (lv_at hl 3 rfl) ?_
    refine lv_aload_n hx hb dX0_count_5 rfl (lv_at hl 0 rfl) ?_
    refine g_get (v := .int (nI n)) hc hw hiX0 0 9 (wo_X0_T ..) rfl (by decide) (List.mem_of_getElem? (i := 1) rfl) (wv_X0_T_9 ..) dX0_count_6 ?_
    refine lv_icmp_ge (tgt := 31) hx hb dX0_count_9 (by decide) (fun z => absurd z (nI_ge hi4 (by omega))) (fun _ => ?_)
    refine lv_aload_n hx hb dX0_count_12 rfl (lv_at hl 0 rfl) ?_
    refine g_get (v := .ref (a 11)) hc hw hiX0 0 11 (wo_X0_T ..) rfl (by decide) (List.mem_of_getElem? (i := 2) rfl) (wv_X0_T_11 ..) dX0_count_13 ?_
    refine lv_iload_n hx hb dX0_count_16 rfl (lv_at hl 3 rfl) ?_
    refine g_iald (f := (ct_wh T)) hc hw 6 (wr_X0_T_11 ..) (vp_in_nI (show i4 < 30 by omega) (by omega)) dX0_count_17 ?_
    refine lv_iload_n hx hb dX0_count_18 rfl (lv_at hl 1 rfl) ?_
    refine lv_icmp_ne (tgt := 25) hx hb dX0_count_19 (by decide) (fun c1 => ?_) (fun c1 => ?_)
    · refine lv_iinc (v := (nI (i4 + 1))) (lv' := [(3, .int (nI (i4 + 1))), (0, .ref (a 0)), (1, .int x1), (2, .int q4)]) hx hb dX0_count_25 hl (k := 3) rfl (inc_n i4) (by decide) rfl (fun ls hl => ?_)
      refine lv_goto (tgt := 4) hx hb dX0_count_28 (by decide) ?_
      rw [show (f_X0_count_4 w b n T x1) i4 q4 = (q4) from by rw [f_X0_count_4, if_neg c1]] at k4
      exact k4 H locs ls hw (lv_sub hl [1, 2, 3, 0] rfl)
    · refine lv_iinc (v := (q4 + 1)) (lv' := [(2, .int (q4 + 1)), (0, .ref (a 0)), (1, .int x1), (3, .int (nI i4))]) hx hb dX0_count_22 hl (k := 2) rfl (inc_1 _) (by decide) rfl (fun ls hl => ?_)
      refine lv_iinc (v := (nI (i4 + 1))) (lv' := [(3, .int (nI (i4 + 1))), (2, .int (q4 + 1)), (0, .ref (a 0)), (1, .int x1)]) hx hb dX0_count_25 hl (k := 3) rfl (inc_n i4) (by decide) rfl (fun ls hl => ?_)
      refine lv_goto (tgt := 4) hx hb dX0_count_28 (by decide) ?_
      rw [show (f_X0_count_4 w b n T x1) i4 q4 = ((q4 + 1)) from by rw [f_X0_count_4, if_pos c1]] at k4
      exact k4 H locs ls hw (lv_sub hl [2, 3, 1, 0] rfl)
  · intro H locs ls hw hl
    refine lv_iload_n hx hb dX0_count_4 rfl (lv_at hl 3 rfl) ?_
    refine lv_aload_n hx hb dX0_count_5 rfl (lv_at hl 0 rfl) ?_
    refine g_get (v := .int (nI n)) hc hw hiX0 0 9 (wo_X0_T ..) rfl (by decide) (List.mem_of_getElem? (i := 1) rfl) (wv_X0_T_9 ..) dX0_count_6 ?_
    refine lv_icmp_ge (tgt := 31) hx hb dX0_count_9 (by decide) (fun _ => ?_) (fun z => absurd (nI_le (Nat.le_refl _) (by omega)) z)
    refine lv_iload_n hx hb dX0_count_31 rfl (lv_at hl 2 rfl) ?_
    rw [show r_X0_count w b n T x1 = (lpf (f_X0_count_4 w b n T x1) n 0 ((0 : Int32))) from by rw [r_X0_count]]
    exact g_ret hc hw rfl (Nat.le_of_ble_eq_true rfl) (Nat.le_of_ble_eq_true rfl) dX0_count_32

def f_X0_countAt_5 (w : Nat) (b : Nat) (n : Nat) (T : ct_T) (x1 : Int32) (x2 : Int32) (i5 : Nat) (q5 : Int32) : Int32 := if (r_X0_isAt w b n T (nI i5) x1 x2) = (0 : Int32) then (q5) else ((q5 + 1))
def r_X0_countAt (w : Nat) (b : Nat) (n : Nat) (T : ct_T) (x1 : Int32) (x2 : Int32) : Int32 := (lpf (f_X0_countAt_5 w b n T x1 x2) n 0 ((0 : Int32)))
abbrev rm_X0_countAt : Room := { frames := 1, cells := 0, slots := 0, locals := 23 }
set_option maxHeartbeats 4000000 in
set_option maxRecDepth 100000 in
theorem k_X0_countAt (l : Launch) (D : va_G) (cI cZ cL : ClassId) (a : Nat → Nat) (w : Nat) (b : Nat) (n : Nat) (T : ct_T) (hd5 : w ≤ 5) (hd4 : b ≤ 4) (hd30 : n ≤ 30) (x1 : Int32) (x2 : Int32)  : MX l yX0_countAt wsX0_countAt rm_X0_countAt D cI cZ cL [.ref (a 0), .int x1, .int x2] (wt_c a cI cZ w b n T) (some (.int (r_X0_countAt w b n T x1 x2))) (wt_c a cI cZ w b n T) := by
  refine MX.of (own := RX0) (cc := cX0_countAt) (maxL := 5) (ret := (some .int)) (lv0 := [(0, .ref (a 0)), (1, .int x1), (2, .int x2)]) (by decide) rfl rfl (Nat.le_of_ble_eq_true rfl) rfl ?_
  intro p e s m args below meth c A hc hnm hw ls hl
  obtain ⟨hx, hb, hr, hml, hown, hts, hlk, hK, hA⟩ := id hc
  have hiX0 : ∀ w ∈ u_ws RX0 TX0 16, w ∈ wsX0_countAt := fun _ h => List.mem_cons_of_mem _ (List.mem_append_right _ h)
  refine lv_iconst (v := 0) hx hb dX0_countAt_0 (by decide) ?_
  refine lv_istore_n (lv' := [(3, .int (0 : Int32)), (0, .ref (a 0)), (1, .int x1), (2, .int x2)]) hx hb dX0_countAt_1 rfl hl (by decide) rfl (fun ls hl => ?_)
  refine lv_iconst (v := 0) hx hb dX0_countAt_2 (by decide) ?_
  refine lv_istore (lv' := [(4, .int (0 : Int32)), (3, .int (0 : Int32)), (0, .ref (a 0)), (1, .int x1), (2, .int x2)]) hx hb dX0_countAt_3 hl (by decide) rfl (fun ls hl => ?_)
  refine lp_go (fun (i5 : Nat) (q5 : Int32) => ∀ (H : Heap) (locs : List Loc) (ls : Array Slot), Wo D A s.heap (wt_c a cI cZ w b n T) H locs → lv_has ls 5 [(0, .ref (a 0)), (1, .int x1), (2, .int x2), (3, .int q5), (4, .int (nI i5))] → W p l e rm_X0_countAt s m args below meth c H locs 0 0 (QE below args s D A (some (.int (r_X0_countAt w b n T x1 x2))) (wt_c a cI cZ w b n T) rm_X0_countAt) (F0 m 5 ls [])) (f_X0_countAt_5 w b n T x1 x2) n ((0 : Int32)) ?_ ?_ s.heap [] ls hw (lv_sub hl [2, 3, 4, 1, 0] rfl)
  · intro i5 q5 hi5 k5 H locs ls hw hl
    refine lv_iload hx hb dX0_countAt_5 (lv_at hl 4 rfl) ?_
    refine lv_aload_n hx hb dX0_countAt_7 rfl (lv_at hl 0 rfl) ?_
    refine g_get (v := .int (nI n)) hc hw hiX0 0 9 (wo_X0_T ..) rfl (by decide) (List.mem_of_getElem? (i := 1) rfl) (wv_X0_T_9 ..) dX0_countAt_8 ?_
    refine lv_icmp_ge (tgt := 34) hx hb dX0_countAt_11 (by decide) (fun z => absurd z (nI_ge hi5 (by omega))) (fun _ => ?_)
    refine lv_aload_n hx hb dX0_countAt_14 rfl (lv_at hl 0 rfl) ?_
    refine lv_iload hx hb dX0_countAt_15 (lv_at hl 4 rfl) ?_
    refine lv_iload_n hx hb dX0_countAt_17 rfl (lv_at hl 1 rfl) ?_
    refine lv_iload_n hx hb dX0_countAt_18 rfl (lv_at hl 2 rfl) ?_
    refine g_callV0 (n := 3) hc hw (k_X0_isAt l D cI cZ cL a w b n T hd5 hd4 hd30 (nI i5) x1 x2 (vp_in_nI (show i5 < 30 by omega) (by omega))) gX0_countAt_X0_isAt rfl (by decide +kernel) ⟨Nat.le_of_ble_eq_true rfl, Nat.le_of_ble_eq_true rfl⟩ 0 (wo_X0_T ..) rfl rfl rfl (rest := []) rfl hl.1 (Nat.le_of_ble_eq_true rfl) (st1 := [.int (r_X0_isAt w b n T (nI i5) x1 x2)]) rfl dX0_countAt_19 (k2 := 0) (s2 := 0) rfl rfl ⟨Nat.le_of_ble_eq_true rfl, Nat.le_of_ble_eq_true rfl⟩ (fun H locs hw => ?_)
    refine lv_if_eq (tgt := 28) hx hb dX0_countAt_22 (by decide) (fun c1 => ?_) (fun c1 => ?_)
    · refine lv_iinc (v := (nI (i5 + 1))) (lv' := [(4, .int (nI (i5 + 1))), (0, .ref (a 0)), (1, .int x1), (2, .int x2), (3, .int q5)]) hx hb dX0_countAt_28 hl (k := 4) rfl (inc_n i5) (by decide) rfl (fun ls hl => ?_)
      refine lv_goto (tgt := 5) hx hb dX0_countAt_31 (by decide) ?_
      rw [show (f_X0_countAt_5 w b n T x1 x2) i5 q5 = (q5) from by rw [f_X0_countAt_5, if_pos c1]] at k5
      exact k5 H locs ls hw (lv_sub hl [1, 2, 3, 4, 0] rfl)
    · refine lv_iinc (v := (q5 + 1)) (lv' := [(3, .int (q5 + 1)), (0, .ref (a 0)), (1, .int x1), (2, .int x2), (4, .int (nI i5))]) hx hb dX0_countAt_25 hl (k := 3) rfl (inc_1 _) (by decide) rfl (fun ls hl => ?_)
      refine lv_iinc (v := (nI (i5 + 1))) (lv' := [(4, .int (nI (i5 + 1))), (3, .int (q5 + 1)), (0, .ref (a 0)), (1, .int x1), (2, .int x2)]) hx hb dX0_countAt_28 hl (k := 4) rfl (inc_n i5) (by decide) rfl (fun ls hl => ?_)
      refine lv_goto (tgt := 5) hx hb dX0_countAt_31 (by decide) ?_
      rw [show (f_X0_countAt_5 w b n T x1 x2) i5 q5 = ((q5 + 1)) from by rw [f_X0_countAt_5, if_neg c1]] at k5
      exact k5 H locs ls hw (lv_sub hl [2, 3, 4, 1, 0] rfl)
  · intro H locs ls hw hl
    refine lv_iload hx hb dX0_countAt_5 (lv_at hl 4 rfl) ?_
    refine lv_aload_n hx hb dX0_countAt_7 rfl (lv_at hl 0 rfl) ?_
    refine g_get (v := .int (nI n)) hc hw hiX0 0 9 (wo_X0_T ..) rfl (by decide) (List.mem_of_getElem? (i := 1) rfl) (wv_X0_T_9 ..) dX0_countAt_8 ?_
    refine lv_icmp_ge (tgt := 34) hx hb dX0_countAt_11 (by decide) (fun _ => ?_) (fun z => absurd (nI_le (Nat.le_refl _) (by omega)) z)
    refine lv_iload_n hx hb dX0_countAt_34 rfl (lv_at hl 3 rfl) ?_
    rw [show r_X0_countAt w b n T x1 x2 = (lpf (f_X0_countAt_5 w b n T x1 x2) n 0 ((0 : Int32))) from by rw [r_X0_countAt]]
    exact g_ret hc hw rfl (Nat.le_of_ble_eq_true rfl) (Nat.le_of_ble_eq_true rfl) dX0_countAt_35

def r_X0_freeIn (w : Nat) (b : Nat) (n : Nat) (T : ct_T) (x1 : Int32) : Int32 := (((ct_pl T) x1.toNatClampNeg) - (r_X0_countAt w b n T (1 : Int32) x1))
abbrev rm_X0_freeIn : Room := { frames := 2, cells := 0, slots := 0, locals := 47 }
set_option maxHeartbeats 4000000 in
set_option maxRecDepth 100000 in
theorem k_X0_freeIn (l : Launch) (D : va_G) (cI cZ cL : ClassId) (a : Nat → Nat) (w : Nat) (b : Nat) (n : Nat) (T : ct_T) (hd5 : w ≤ 5) (hd4 : b ≤ 4) (hd30 : n ≤ 30) (x1 : Int32) (hp1 : vp_in x1 5) : MX l yX0_freeIn wsX0_freeIn rm_X0_freeIn D cI cZ cL [.ref (a 0), .int x1] (wt_c a cI cZ w b n T) (some (.int (r_X0_freeIn w b n T x1))) (wt_c a cI cZ w b n T) := by
  refine MX.of (own := RX0) (cc := cX0_freeIn) (maxL := 2) (ret := (some .int)) (lv0 := [(0, .ref (a 0)), (1, .int x1)]) (by decide) rfl rfl (Nat.le_of_ble_eq_true rfl) rfl ?_
  intro p e s m args below meth c A hc hnm hw ls hl
  obtain ⟨hx, hb, hr, hml, hown, hts, hlk, hK, hA⟩ := id hc
  have hiX0 : ∀ w ∈ u_ws RX0 TX0 16, w ∈ wsX0_freeIn := fun _ h => List.mem_cons_of_mem _ (List.mem_append_right _ h)
  refine lv_aload_n hx hb dX0_freeIn_0 rfl (lv_at hl 0 rfl) ?_
  refine g_get (v := .ref (a 4)) hc hw hiX0 0 4 (wo_X0_T ..) rfl (by decide) (List.mem_of_getElem? (i := 1) rfl) (wv_X0_T_4 ..) dX0_freeIn_1 ?_
  refine lv_iload_n hx hb dX0_freeIn_4 rfl (lv_at hl 1 rfl) ?_
  refine g_iald (f := (ct_pl T)) hc hw 1 (wr_X0_T_4 ..) hp1 dX0_freeIn_5 ?_
  refine lv_aload_n hx hb dX0_freeIn_6 rfl (lv_at hl 0 rfl) ?_
  refine lv_iconst (v := 1) hx hb dX0_freeIn_7 (by decide) ?_
  refine lv_iload_n hx hb dX0_freeIn_8 rfl (lv_at hl 1 rfl) ?_
  refine g_callV0 (n := 2) hc hw (k_X0_countAt l D cI cZ cL a w b n T hd5 hd4 hd30 (1 : Int32) x1) gX0_freeIn_X0_countAt rfl (by decide +kernel) ⟨Nat.le_of_ble_eq_true rfl, Nat.le_of_ble_eq_true rfl⟩ 0 (wo_X0_T ..) rfl rfl rfl (rest := [.int ((ct_pl T) x1.toNatClampNeg)]) rfl hl.1 (Nat.le_of_ble_eq_true rfl) (st1 := [.int (r_X0_countAt w b n T (1 : Int32) x1), .int ((ct_pl T) x1.toNatClampNeg)]) rfl dX0_freeIn_9 (k2 := 0) (s2 := 0) rfl rfl ⟨Nat.le_of_ble_eq_true rfl, Nat.le_of_ble_eq_true rfl⟩ (fun H locs hw => ?_)
  refine lv_isub hx hb dX0_freeIn_12 ?_
  rw [show r_X0_freeIn w b n T x1 = (((ct_pl T) x1.toNatClampNeg) - (r_X0_countAt w b n T (1 : Int32) x1)) from by rw [r_X0_freeIn]]
  exact g_ret hc hw rfl (Nat.le_of_ble_eq_true rfl) (Nat.le_of_ble_eq_true rfl) dX0_freeIn_13

def f_X0_feversInWard_4 (w : Nat) (b : Nat) (n : Nat) (T : ct_T) (x1 : Int32) (i4 : Nat) (q4 : Int32) : Int32 := if (r_X0_isAt w b n T (nI i4) (1 : Int32) x1) = (0 : Int32) then (q4) else ((q4 + ((ct_fe T) (nI i4).toNatClampNeg)))
def r_X0_feversInWard (w : Nat) (b : Nat) (n : Nat) (T : ct_T) (x1 : Int32) : Int32 := (lpf (f_X0_feversInWard_4 w b n T x1) n 0 ((0 : Int32)))
abbrev rm_X0_feversInWard : Room := { frames := 1, cells := 0, slots := 0, locals := 23 }
set_option maxHeartbeats 4000000 in
set_option maxRecDepth 100000 in
theorem k_X0_feversInWard (l : Launch) (D : va_G) (cI cZ cL : ClassId) (a : Nat → Nat) (w : Nat) (b : Nat) (n : Nat) (T : ct_T) (hd5 : w ≤ 5) (hd4 : b ≤ 4) (hd30 : n ≤ 30) (x1 : Int32)  : MX l yX0_feversInWard wsX0_feversInWard rm_X0_feversInWard D cI cZ cL [.ref (a 0), .int x1] (wt_c a cI cZ w b n T) (some (.int (r_X0_feversInWard w b n T x1))) (wt_c a cI cZ w b n T) := by
  refine MX.of (own := RX0) (cc := cX0_feversInWard) (maxL := 4) (ret := (some .int)) (lv0 := [(0, .ref (a 0)), (1, .int x1)]) (by decide) rfl rfl (Nat.le_of_ble_eq_true rfl) rfl ?_
  intro p e s m args below meth c A hc hnm hw ls hl
  obtain ⟨hx, hb, hr, hml, hown, hts, hlk, hK, hA⟩ := id hc
  have hiX0 : ∀ w ∈ u_ws RX0 TX0 16, w ∈ wsX0_feversInWard := fun _ h => List.mem_cons_of_mem _ (List.mem_append_right _ h)
  refine lv_iconst (v := 0) hx hb dX0_feversInWard_0 (by decide) ?_
  refine lv_istore_n (lv' := [(2, .int (0 : Int32)), (0, .ref (a 0)), (1, .int x1)]) hx hb dX0_feversInWard_1 rfl hl (by decide) rfl (fun ls hl => ?_)
  refine lv_iconst (v := 0) hx hb dX0_feversInWard_2 (by decide) ?_
  refine lv_istore_n (lv' := [(3, .int (0 : Int32)), (2, .int (0 : Int32)), (0, .ref (a 0)), (1, .int x1)]) hx hb dX0_feversInWard_3 rfl hl (by decide) rfl (fun ls hl => ?_)
  refine lp_go (fun (i4 : Nat) (q4 : Int32) => ∀ (H : Heap) (locs : List Loc) (ls : Array Slot), Wo D A s.heap (wt_c a cI cZ w b n T) H locs → lv_has ls 4 [(0, .ref (a 0)), (1, .int x1), (2, .int q4), (3, .int (nI i4))] → W p l e rm_X0_feversInWard s m args below meth c H locs 0 0 (QE below args s D A (some (.int (r_X0_feversInWard w b n T x1))) (wt_c a cI cZ w b n T) rm_X0_feversInWard) (F0 m 4 ls [])) (f_X0_feversInWard_4 w b n T x1) n ((0 : Int32)) ?_ ?_ s.heap [] ls hw (lv_sub hl [2, 3, 1, 0] rfl)
  · intro i4 q4 hi4 k4 H locs ls hw hl
    refine lv_iload_n hx hb dX0_feversInWard_4 rfl (lv_at hl 3 rfl) ?_
    refine lv_aload_n hx hb dX0_feversInWard_5 rfl (lv_at hl 0 rfl) ?_
    refine g_get (v := .int (nI n)) hc hw hiX0 0 9 (wo_X0_T ..) rfl (by decide) (List.mem_of_getElem? (i := 1) rfl) (wv_X0_T_9 ..) dX0_feversInWard_6 ?_
    refine lv_icmp_ge (tgt := 37) hx hb dX0_feversInWard_9 (by decide) (fun z => absurd z (nI_ge hi4 (by omega))) (fun _ => ?_)
    refine lv_aload_n hx hb dX0_feversInWard_12 rfl (lv_at hl 0 rfl) ?_
    refine lv_iload_n hx hb dX0_feversInWard_13 rfl (lv_at hl 3 rfl) ?_
    refine lv_iconst (v := 1) hx hb dX0_feversInWard_14 (by decide) ?_
    refine lv_iload_n hx hb dX0_feversInWard_15 rfl (lv_at hl 1 rfl) ?_
    refine g_callV0 (n := 3) hc hw (k_X0_isAt l D cI cZ cL a w b n T hd5 hd4 hd30 (nI i4) (1 : Int32) x1 (vp_in_nI (show i4 < 30 by omega) (by omega))) gX0_feversInWard_X0_isAt rfl (by decide +kernel) ⟨Nat.le_of_ble_eq_true rfl, Nat.le_of_ble_eq_true rfl⟩ 0 (wo_X0_T ..) rfl rfl rfl (rest := []) rfl hl.1 (Nat.le_of_ble_eq_true rfl) (st1 := [.int (r_X0_isAt w b n T (nI i4) (1 : Int32) x1)]) rfl dX0_feversInWard_16 (k2 := 0) (s2 := 0) rfl rfl ⟨Nat.le_of_ble_eq_true rfl, Nat.le_of_ble_eq_true rfl⟩ (fun H locs hw => ?_)
    refine lv_if_eq (tgt := 31) hx hb dX0_feversInWard_19 (by decide) (fun c1 => ?_) (fun c1 => ?_)
    · refine lv_iinc (v := (nI (i4 + 1))) (lv' := [(3, .int (nI (i4 + 1))), (0, .ref (a 0)), (1, .int x1), (2, .int q4)]) hx hb dX0_feversInWard_31 hl (k := 3) rfl (inc_n i4) (by decide) rfl (fun ls hl => ?_)
      refine lv_goto (tgt := 4) hx hb dX0_feversInWard_34 (by decide) ?_
      rw [show (f_X0_feversInWard_4 w b n T x1) i4 q4 = (q4) from by rw [f_X0_feversInWard_4, if_pos c1]] at k4
      exact k4 H locs ls hw (lv_sub hl [1, 2, 3, 0] rfl)
    · refine lv_iload_n hx hb dX0_feversInWard_22 rfl (lv_at hl 2 rfl) ?_
      refine lv_aload_n hx hb dX0_feversInWard_23 rfl (lv_at hl 0 rfl) ?_
      refine g_get (v := .ref (a 10)) hc hw hiX0 0 10 (wo_X0_T ..) rfl (by decide) (List.mem_of_getElem? (i := 2) rfl) (wv_X0_T_10 ..) dX0_feversInWard_24 ?_
      refine lv_iload_n hx hb dX0_feversInWard_27 rfl (lv_at hl 3 rfl) ?_
      refine g_iald (f := (ct_fe T)) hc hw 5 (wr_X0_T_10 ..) (vp_in_nI (show i4 < 30 by omega) (by omega)) dX0_feversInWard_28 ?_
      refine lv_iadd hx hb dX0_feversInWard_29 ?_
      refine lv_istore_n (lv' := [(2, .int (q4 + ((ct_fe T) (nI i4).toNatClampNeg))), (0, .ref (a 0)), (1, .int x1), (3, .int (nI i4))]) hx hb dX0_feversInWard_30 rfl hl (by decide) rfl (fun ls hl => ?_)
      refine lv_iinc (v := (nI (i4 + 1))) (lv' := [(3, .int (nI (i4 + 1))), (2, .int (q4 + ((ct_fe T) (nI i4).toNatClampNeg))), (0, .ref (a 0)), (1, .int x1)]) hx hb dX0_feversInWard_31 hl (k := 3) rfl (inc_n i4) (by decide) rfl (fun ls hl => ?_)
      refine lv_goto (tgt := 4) hx hb dX0_feversInWard_34 (by decide) ?_
      rw [show (f_X0_feversInWard_4 w b n T x1) i4 q4 = ((q4 + ((ct_fe T) (nI i4).toNatClampNeg))) from by rw [f_X0_feversInWard_4, if_neg c1]] at k4
      exact k4 H locs ls hw (lv_sub hl [2, 3, 1, 0] rfl)
  · intro H locs ls hw hl
    refine lv_iload_n hx hb dX0_feversInWard_4 rfl (lv_at hl 3 rfl) ?_
    refine lv_aload_n hx hb dX0_feversInWard_5 rfl (lv_at hl 0 rfl) ?_
    refine g_get (v := .int (nI n)) hc hw hiX0 0 9 (wo_X0_T ..) rfl (by decide) (List.mem_of_getElem? (i := 1) rfl) (wv_X0_T_9 ..) dX0_feversInWard_6 ?_
    refine lv_icmp_ge (tgt := 37) hx hb dX0_feversInWard_9 (by decide) (fun _ => ?_) (fun z => absurd (nI_le (Nat.le_refl _) (by omega)) z)
    refine lv_iload_n hx hb dX0_feversInWard_37 rfl (lv_at hl 2 rfl) ?_
    rw [show r_X0_feversInWard w b n T x1 = (lpf (f_X0_feversInWard_4 w b n T x1) n 0 ((0 : Int32))) from by rw [r_X0_feversInWard]]
    exact g_ret hc hw rfl (Nat.le_of_ble_eq_true rfl) (Nat.le_of_ble_eq_true rfl) dX0_feversInWard_38

def f_X0_highestFeverAboard_4 (w : Nat) (b : Nat) (n : Nat) (T : ct_T) (x1 : Int32) (i4 : Nat) (q4 : Int32) : Int32 := if (r_X0_isAt w b n T (nI i4) (0 : Int32) x1) = (0 : Int32) then (q4) else ((if q4 < ((ct_fe T) (nI i4).toNatClampNeg) then ((ct_fe T) (nI i4).toNatClampNeg) else q4))
def r_X0_highestFeverAboard (w : Nat) (b : Nat) (n : Nat) (T : ct_T) (x1 : Int32) : Int32 := (lpf (f_X0_highestFeverAboard_4 w b n T x1) n 0 ((0 : Int32)))
abbrev rm_X0_highestFeverAboard : Room := { frames := 1, cells := 0, slots := 0, locals := 23 }
set_option maxHeartbeats 4000000 in
set_option maxRecDepth 100000 in
theorem k_X0_highestFeverAboard (l : Launch) (D : va_G) (cI cZ cL : ClassId) (a : Nat → Nat) (w : Nat) (b : Nat) (n : Nat) (T : ct_T) (hd5 : w ≤ 5) (hd4 : b ≤ 4) (hd30 : n ≤ 30) (x1 : Int32)  : MX l yX0_highestFeverAboard wsX0_highestFeverAboard rm_X0_highestFeverAboard D cI cZ cL [.ref (a 0), .int x1] (wt_c a cI cZ w b n T) (some (.int (r_X0_highestFeverAboard w b n T x1))) (wt_c a cI cZ w b n T) := by
  refine MX.of (own := RX0) (cc := cX0_highestFeverAboard) (maxL := 4) (ret := (some .int)) (lv0 := [(0, .ref (a 0)), (1, .int x1)]) (by decide) rfl rfl (Nat.le_of_ble_eq_true rfl) rfl ?_
  intro p e s m args below meth c A hc hnm hw ls hl
  obtain ⟨hx, hb, hr, hml, hown, hts, hlk, hK, hA⟩ := id hc
  have hiX0 : ∀ w ∈ u_ws RX0 TX0 16, w ∈ wsX0_highestFeverAboard := fun _ h => List.mem_cons_of_mem _ (List.mem_append_right _ h)
  refine lv_iconst (v := 0) hx hb dX0_highestFeverAboard_0 (by decide) ?_
  refine lv_istore_n (lv' := [(2, .int (0 : Int32)), (0, .ref (a 0)), (1, .int x1)]) hx hb dX0_highestFeverAboard_1 rfl hl (by decide) rfl (fun ls hl => ?_)
  refine lv_iconst (v := 0) hx hb dX0_highestFeverAboard_2 (by decide) ?_
  refine lv_istore_n (lv' := [(3, .int (0 : Int32)), (2, .int (0 : Int32)), (0, .ref (a 0)), (1, .int x1)]) hx hb dX0_highestFeverAboard_3 rfl hl (by decide) rfl (fun ls hl => ?_)
  refine lp_go (fun (i4 : Nat) (q4 : Int32) => ∀ (H : Heap) (locs : List Loc) (ls : Array Slot), Wo D A s.heap (wt_c a cI cZ w b n T) H locs → lv_has ls 4 [(0, .ref (a 0)), (1, .int x1), (2, .int q4), (3, .int (nI i4))] → W p l e rm_X0_highestFeverAboard s m args below meth c H locs 0 0 (QE below args s D A (some (.int (r_X0_highestFeverAboard w b n T x1))) (wt_c a cI cZ w b n T) rm_X0_highestFeverAboard) (F0 m 4 ls [])) (f_X0_highestFeverAboard_4 w b n T x1) n ((0 : Int32)) ?_ ?_ s.heap [] ls hw (lv_sub hl [2, 3, 1, 0] rfl)
  · intro i4 q4 hi4 k4 H locs ls hw hl
    refine lv_iload_n hx hb dX0_highestFeverAboard_4 rfl (lv_at hl 3 rfl) ?_
    refine lv_aload_n hx hb dX0_highestFeverAboard_5 rfl (lv_at hl 0 rfl) ?_
    refine g_get (v := .int (nI n)) hc hw hiX0 0 9 (wo_X0_T ..) rfl (by decide) (List.mem_of_getElem? (i := 1) rfl) (wv_X0_T_9 ..) dX0_highestFeverAboard_6 ?_
    refine lv_icmp_ge (tgt := 39) hx hb dX0_highestFeverAboard_9 (by decide) (fun z => absurd z (nI_ge hi4 (by omega))) (fun _ => ?_)
    refine lv_aload_n hx hb dX0_highestFeverAboard_12 rfl (lv_at hl 0 rfl) ?_
    refine lv_iload_n hx hb dX0_highestFeverAboard_13 rfl (lv_at hl 3 rfl) ?_
    refine lv_iconst (v := 0) hx hb dX0_highestFeverAboard_14 (by decide) ?_
    refine lv_iload_n hx hb dX0_highestFeverAboard_15 rfl (lv_at hl 1 rfl) ?_
    refine g_callV0 (n := 3) hc hw (k_X0_isAt l D cI cZ cL a w b n T hd5 hd4 hd30 (nI i4) (0 : Int32) x1 (vp_in_nI (show i4 < 30 by omega) (by omega))) gX0_highestFeverAboard_X0_isAt rfl (by decide +kernel) ⟨Nat.le_of_ble_eq_true rfl, Nat.le_of_ble_eq_true rfl⟩ 0 (wo_X0_T ..) rfl rfl rfl (rest := []) rfl hl.1 (Nat.le_of_ble_eq_true rfl) (st1 := [.int (r_X0_isAt w b n T (nI i4) (0 : Int32) x1)]) rfl dX0_highestFeverAboard_16 (k2 := 0) (s2 := 0) rfl rfl ⟨Nat.le_of_ble_eq_true rfl, Nat.le_of_ble_eq_true rfl⟩ (fun H locs hw => ?_)
    refine lv_if_eq (tgt := 33) hx hb dX0_highestFeverAboard_19 (by decide) (fun c1 => ?_) (fun c1 => ?_)
    · refine lv_iinc (v := (nI (i4 + 1))) (lv' := [(3, .int (nI (i4 + 1))), (0, .ref (a 0)), (1, .int x1), (2, .int q4)]) hx hb dX0_highestFeverAboard_33 hl (k := 3) rfl (inc_n i4) (by decide) rfl (fun ls hl => ?_)
      refine lv_goto (tgt := 4) hx hb dX0_highestFeverAboard_36 (by decide) ?_
      rw [show (f_X0_highestFeverAboard_4 w b n T x1) i4 q4 = (q4) from by rw [f_X0_highestFeverAboard_4, if_pos c1]] at k4
      exact k4 H locs ls hw (lv_sub hl [1, 2, 3, 0] rfl)
    · refine lv_iload_n hx hb dX0_highestFeverAboard_22 rfl (lv_at hl 2 rfl) ?_
      refine lv_aload_n hx hb dX0_highestFeverAboard_23 rfl (lv_at hl 0 rfl) ?_
      refine g_get (v := .ref (a 10)) hc hw hiX0 0 10 (wo_X0_T ..) rfl (by decide) (List.mem_of_getElem? (i := 2) rfl) (wv_X0_T_10 ..) dX0_highestFeverAboard_24 ?_
      refine lv_iload_n hx hb dX0_highestFeverAboard_27 rfl (lv_at hl 3 rfl) ?_
      refine g_iald (f := (ct_fe T)) hc hw 5 (wr_X0_T_10 ..) (vp_in_nI (show i4 < 30 by omega) (by omega)) dX0_highestFeverAboard_28 ?_
      refine g_mmax hc hl.1 (List.mem_of_getElem? (i := 3) rfl) (List.mem_of_getElem? (i := 4) rfl) (List.mem_of_getElem? (i := 5) rfl) (List.mem_of_getElem? (i := 6) rfl) (Nat.le_of_ble_eq_true rfl) (Nat.le_of_ble_eq_true rfl) (Nat.le_of_ble_eq_true rfl) (Nat.le_of_ble_eq_true rfl) dX0_highestFeverAboard_29 ?_
      refine lv_istore_n (lv' := [(2, .int (if q4 < ((ct_fe T) (nI i4).toNatClampNeg) then ((ct_fe T) (nI i4).toNatClampNeg) else q4)), (0, .ref (a 0)), (1, .int x1), (3, .int (nI i4))]) hx hb dX0_highestFeverAboard_32 rfl hl (by decide) rfl (fun ls hl => ?_)
      refine lv_iinc (v := (nI (i4 + 1))) (lv' := [(3, .int (nI (i4 + 1))), (2, .int (if q4 < ((ct_fe T) (nI i4).toNatClampNeg) then ((ct_fe T) (nI i4).toNatClampNeg) else q4)), (0, .ref (a 0)), (1, .int x1)]) hx hb dX0_highestFeverAboard_33 hl (k := 3) rfl (inc_n i4) (by decide) rfl (fun ls hl => ?_)
      refine lv_goto (tgt := 4) hx hb dX0_highestFeverAboard_36 (by decide) ?_
      rw [show (f_X0_highestFeverAboard_4 w b n T x1) i4 q4 = ((if q4 < ((ct_fe T) (nI i4).toNatClampNeg) then ((ct_fe T) (nI i4).toNatClampNeg) else q4)) from by rw [f_X0_highestFeverAboard_4, if_neg c1]] at k4
      exact k4 H locs ls hw (lv_sub hl [2, 3, 1, 0] rfl)
  · intro H locs ls hw hl
    refine lv_iload_n hx hb dX0_highestFeverAboard_4 rfl (lv_at hl 3 rfl) ?_
    refine lv_aload_n hx hb dX0_highestFeverAboard_5 rfl (lv_at hl 0 rfl) ?_
    refine g_get (v := .int (nI n)) hc hw hiX0 0 9 (wo_X0_T ..) rfl (by decide) (List.mem_of_getElem? (i := 1) rfl) (wv_X0_T_9 ..) dX0_highestFeverAboard_6 ?_
    refine lv_icmp_ge (tgt := 39) hx hb dX0_highestFeverAboard_9 (by decide) (fun _ => ?_) (fun z => absurd (nI_le (Nat.le_refl _) (by omega)) z)
    refine lv_iload_n hx hb dX0_highestFeverAboard_39 rfl (lv_at hl 2 rfl) ?_
    rw [show r_X0_highestFeverAboard w b n T x1 = (lpf (f_X0_highestFeverAboard_4 w b n T x1) n 0 ((0 : Int32))) from by rw [r_X0_highestFeverAboard]]
    exact g_ret hc hw rfl (Nat.le_of_ble_eq_true rfl) (Nat.le_of_ble_eq_true rfl) dX0_highestFeverAboard_40

def s_X0_raiseFever (w : Nat) (b : Nat) (n : Nat) (T : ct_T) (x1 : Int32) : ct_T := (cs_fe T (upd (ct_fe T) x1.toNatClampNeg (if (((ct_fe T) x1.toNatClampNeg) + (1 : Int32)) < (10 : Int32) then (((ct_fe T) x1.toNatClampNeg) + (1 : Int32)) else (10 : Int32))))
abbrev rm_X0_raiseFever : Room := { frames := 1, cells := 0, slots := 0, locals := 21 }
set_option maxHeartbeats 4000000 in
set_option maxRecDepth 100000 in
theorem k_X0_raiseFever (l : Launch) (D : va_G) (cI cZ cL : ClassId) (a : Nat → Nat) (w : Nat) (b : Nat) (n : Nat) (T : ct_T) (hd5 : w ≤ 5) (hd4 : b ≤ 4) (hd30 : n ≤ 30) (x1 : Int32) (hp1 : vp_in x1 30) : MX l yX0_raiseFever wsX0_raiseFever rm_X0_raiseFever D cI cZ cL [.ref (a 0), .int x1] (wt_c a cI cZ w b n T) none (wt_c a cI cZ w b n (s_X0_raiseFever w b n T x1)) := by
  refine MX.of (own := RX0) (cc := cX0_raiseFever) (maxL := 2) (ret := none) (lv0 := [(0, .ref (a 0)), (1, .int x1)]) (by decide) rfl rfl (Nat.le_of_ble_eq_true rfl) rfl ?_
  intro p e s m args below meth c A hc hnm hw ls hl
  obtain ⟨hx, hb, hr, hml, hown, hts, hlk, hK, hA⟩ := id hc
  have hiX0 : ∀ w ∈ u_ws RX0 TX0 16, w ∈ wsX0_raiseFever := fun _ h => List.mem_cons_of_mem _ (List.mem_append_right _ h)
  refine lv_aload_n hx hb dX0_raiseFever_0 rfl (lv_at hl 0 rfl) ?_
  refine g_get (v := .ref (a 10)) hc hw hiX0 0 10 (wo_X0_T ..) rfl (by decide) (List.mem_of_getElem? (i := 1) rfl) (wv_X0_T_10 ..) dX0_raiseFever_1 ?_
  refine lv_iload_n hx hb dX0_raiseFever_4 rfl (lv_at hl 1 rfl) ?_
  refine lv_bipush (v := 10) hx hb dX0_raiseFever_5 (by decide) ?_
  refine lv_aload_n hx hb dX0_raiseFever_7 rfl (lv_at hl 0 rfl) ?_
  refine g_get (v := .ref (a 10)) hc hw hiX0 0 10 (wo_X0_T ..) rfl (by decide) (List.mem_of_getElem? (i := 1) rfl) (wv_X0_T_10 ..) dX0_raiseFever_8 ?_
  refine lv_iload_n hx hb dX0_raiseFever_11 rfl (lv_at hl 1 rfl) ?_
  refine g_iald (f := (ct_fe T)) hc hw 5 (wr_X0_T_10 ..) hp1 dX0_raiseFever_12 ?_
  refine lv_iconst (v := 1) hx hb dX0_raiseFever_13 (by decide) ?_
  refine lv_iadd hx hb dX0_raiseFever_14 ?_
  refine g_mmin hc hl.1 (List.mem_of_getElem? (i := 2) rfl) (List.mem_of_getElem? (i := 3) rfl) (List.mem_of_getElem? (i := 4) rfl) (List.mem_of_getElem? (i := 5) rfl) (Nat.le_of_ble_eq_true rfl) (Nat.le_of_ble_eq_true rfl) (Nat.le_of_ble_eq_true rfl) (Nat.le_of_ble_eq_true rfl) dX0_raiseFever_15 ?_
  refine g_iast (f := (ct_fe T)) hc hw 5 (wr_X0_T_10 ..) hp1 (w' := (wt_c a cI cZ w b n (cs_fe T (upd (ct_fe T) x1.toNatClampNeg (if (((ct_fe T) x1.toNatClampNeg) + (1 : Int32)) < (10 : Int32) then (((ct_fe T) x1.toNatClampNeg) + (1 : Int32)) else (10 : Int32)))))) (wu_X0_T_10 ..) dX0_raiseFever_18 (fun H locs hw => ?_)
  rw [show s_X0_raiseFever w b n T x1 = (cs_fe T (upd (ct_fe T) x1.toNatClampNeg (if (((ct_fe T) x1.toNatClampNeg) + (1 : Int32)) < (10 : Int32) then (((ct_fe T) x1.toNatClampNeg) + (1 : Int32)) else (10 : Int32)))) from by rw [s_X0_raiseFever]]
  exact g_vret hc hw rfl (Nat.le_of_ble_eq_true rfl) (Nat.le_of_ble_eq_true rfl) dX0_raiseFever_19
