def s_X0_move (w : Nat) (b : Nat) (n : Nat) (T : ct_T) (x1 : Int32) (x2 : Int32) (x3 : Int32) : ct_T := (cs_nu (cs_wh T (upd (ct_wh T) x1.toNatClampNeg x2)) (upd (ct_nu T) x1.toNatClampNeg x3))
abbrev rm_X0_move : Room := { frames := 0, cells := 0, slots := 0, locals := 0 }
set_option maxHeartbeats 4000000 in
set_option maxRecDepth 100000 in
theorem k_X0_move (l : Launch) (D : va_G) (cI cZ cL : ClassId) (a : Nat → Nat) (w : Nat) (b : Nat) (n : Nat) (T : ct_T) (hd5 : w ≤ 5) (hd4 : b ≤ 4) (hd30 : n ≤ 30) (x1 : Int32) (x2 : Int32) (x3 : Int32) (hp1 : vp_in x1 30) : MX l yX0_move wsX0_move rm_X0_move D cI cZ cL [.ref (a 0), .int x1, .int x2, .int x3] (wt_c a cI cZ w b n T) none (wt_c a cI cZ w b n (s_X0_move w b n T x1 x2 x3)) := by
  refine MX.of (own := RX0) (cc := cX0_move) (maxL := 4) (ret := none) (lv0 := [(0, .ref (a 0)), (1, .int x1), (2, .int x2), (3, .int x3)]) (by decide) rfl rfl (Nat.le_of_ble_eq_true rfl) rfl ?_
  intro p e s m args below meth c A hc hnm hw ls hl
  obtain ⟨hx, hb, hr, hml, hown, hts, hlk, hK, hA⟩ := id hc
  have hiX0 : ∀ w ∈ u_ws RX0 TX0 16, w ∈ wsX0_move := fun _ h => List.mem_cons_of_mem _ (List.mem_append_right _ h)
  refine lv_aload_n hx hb dX0_move_0 rfl (lv_at hl 0 rfl) ?_
  refine g_get (v := .ref (a 11)) hc hw hiX0 0 11 rfl rfl (by decide) (List.mem_of_getElem? (i := 1) rfl) rfl dX0_move_1 ?_
  refine lv_iload_n hx hb dX0_move_4 rfl (lv_at hl 1 rfl) ?_
  refine lv_iload_n hx hb dX0_move_5 rfl (lv_at hl 2 rfl) ?_
  refine g_iast (f := (ct_wh T)) hc hw 6 rfl hp1 (w' := (wt_c a cI cZ w b n (cs_wh T (upd (ct_wh T) x1.toNatClampNeg x2)))) rfl dX0_move_6 (fun H locs hw => ?_)
  refine lv_aload_n hx hb dX0_move_7 rfl (lv_at hl 0 rfl) ?_
  refine g_get (v := .ref (a 12)) hc hw hiX0 0 12 rfl rfl (by decide) (List.mem_of_getElem? (i := 2) rfl) rfl dX0_move_8 ?_
  refine lv_iload_n hx hb dX0_move_11 rfl (lv_at hl 1 rfl) ?_
  refine lv_iload_n hx hb dX0_move_12 rfl (lv_at hl 3 rfl) ?_
  refine g_iast (f := (ct_nu T)) hc hw 7 rfl hp1 (w' := (wt_c a cI cZ w b n (cs_nu (cs_wh T (upd (ct_wh T) x1.toNatClampNeg x2)) (upd (ct_nu T) x1.toNatClampNeg x3)))) rfl dX0_move_13 (fun H locs hw => ?_)
  rw [show s_X0_move w b n T x1 x2 x3 = (cs_nu (cs_wh T (upd (ct_wh T) x1.toNatClampNeg x2)) (upd (ct_nu T) x1.toNatClampNeg x3)) from by rw [s_X0_move]]
  exact g_vret hc hw rfl (Nat.le_of_ble_eq_true rfl) (Nat.le_of_ble_eq_true rfl) dX0_move_14

def r_X0_isAt (w : Nat) (b : Nat) (n : Nat) (T : ct_T) (x1 : Int32) (x2 : Int32) (x3 : Int32) : Int32 := if ((ct_wh T) x1.toNatClampNeg) = x2 then (if ((ct_nu T) x1.toNatClampNeg) = x3 then ((1 : Int32)) else ((0 : Int32))) else ((0 : Int32))
abbrev rm_X0_isAt : Room := { frames := 0, cells := 0, slots := 0, locals := 0 }
set_option maxHeartbeats 4000000 in
set_option maxRecDepth 100000 in
theorem k_X0_isAt (l : Launch) (D : va_G) (cI cZ cL : ClassId) (a : Nat → Nat) (w : Nat) (b : Nat) (n : Nat) (T : ct_T) (hd5 : w ≤ 5) (hd4 : b ≤ 4) (hd30 : n ≤ 30) (x1 : Int32) (x2 : Int32) (x3 : Int32) (hp1 : vp_in x1 30) : MX l yX0_isAt wsX0_isAt rm_X0_isAt D cI cZ cL [.ref (a 0), .int x1, .int x2, .int x3] (wt_c a cI cZ w b n T) (some (.int (r_X0_isAt w b n T x1 x2 x3))) (wt_c a cI cZ w b n T) := by
  refine MX.of (own := RX0) (cc := cX0_isAt) (maxL := 4) (ret := (some .boolean)) (lv0 := [(0, .ref (a 0)), (1, .int x1), (2, .int x2), (3, .int x3)]) (by decide) rfl rfl (Nat.le_of_ble_eq_true rfl) rfl ?_
  intro p e s m args below meth c A hc hnm hw ls hl
  obtain ⟨hx, hb, hr, hml, hown, hts, hlk, hK, hA⟩ := id hc
  have hiX0 : ∀ w ∈ u_ws RX0 TX0 16, w ∈ wsX0_isAt := fun _ h => List.mem_cons_of_mem _ (List.mem_append_right _ h)
  refine lv_aload_n hx hb dX0_isAt_0 rfl (lv_at hl 0 rfl) ?_
  refine g_get (v := .ref (a 11)) hc hw hiX0 0 11 rfl rfl (by decide) (List.mem_of_getElem? (i := 1) rfl) rfl dX0_isAt_1 ?_
  refine lv_iload_n hx hb dX0_isAt_4 rfl (lv_at hl 1 rfl) ?_
  refine g_iald (f := (ct_wh T)) hc hw 6 rfl hp1 dX0_isAt_5 ?_
  refine lv_iload_n hx hb dX0_isAt_6 rfl (lv_at hl 2 rfl) ?_
  refine lv_icmp_ne (tgt := 24) hx hb dX0_isAt_7 (by decide) (fun c1 => ?_) (fun c1 => ?_)
  · refine lv_iconst (v := 0) hx hb dX0_isAt_24 (by decide) ?_
    rw [show r_X0_isAt w b n T x1 x2 x3 = (0 : Int32) from by rw [r_X0_isAt, if_neg c1]]
    exact g_zret hc hw rfl rfl (Nat.le_of_ble_eq_true rfl) (Nat.le_of_ble_eq_true rfl) dX0_isAt_25
  · refine lv_aload_n hx hb dX0_isAt_10 rfl (lv_at hl 0 rfl) ?_
    refine g_get (v := .ref (a 12)) hc hw hiX0 0 12 rfl rfl (by decide) (List.mem_of_getElem? (i := 2) rfl) rfl dX0_isAt_11 ?_
    refine lv_iload_n hx hb dX0_isAt_14 rfl (lv_at hl 1 rfl) ?_
    refine g_iald (f := (ct_nu T)) hc hw 7 rfl hp1 dX0_isAt_15 ?_
    refine lv_iload_n hx hb dX0_isAt_16 rfl (lv_at hl 3 rfl) ?_
    refine lv_icmp_ne (tgt := 24) hx hb dX0_isAt_17 (by decide) (fun c2 => ?_) (fun c2 => ?_)
    · refine lv_iconst (v := 0) hx hb dX0_isAt_24 (by decide) ?_
      rw [show r_X0_isAt w b n T x1 x2 x3 = (0 : Int32) from by rw [r_X0_isAt, if_pos c1, if_neg c2]]
      exact g_zret hc hw rfl rfl (Nat.le_of_ble_eq_true rfl) (Nat.le_of_ble_eq_true rfl) dX0_isAt_25
    · refine lv_iconst (v := 1) hx hb dX0_isAt_20 (by decide) ?_
      refine lv_goto (tgt := 25) hx hb dX0_isAt_21 (by decide) ?_
      rw [show r_X0_isAt w b n T x1 x2 x3 = (1 : Int32) from by rw [r_X0_isAt, if_pos c1, if_pos c2]]
      exact g_zret hc hw rfl rfl (Nat.le_of_ble_eq_true rfl) (Nat.le_of_ble_eq_true rfl) dX0_isAt_25

def r_X0_numberOf (w : Nat) (b : Nat) (n : Nat) (T : ct_T) (x1 : Int32) (x2 : Int32) : Int32 := if ((ct_wh T) x1.toNatClampNeg) = x2 then (((ct_nu T) x1.toNatClampNeg)) else ((-1 : Int32))
abbrev rm_X0_numberOf : Room := { frames := 0, cells := 0, slots := 0, locals := 0 }
set_option maxHeartbeats 4000000 in
set_option maxRecDepth 100000 in
theorem k_X0_numberOf (l : Launch) (D : va_G) (cI cZ cL : ClassId) (a : Nat → Nat) (w : Nat) (b : Nat) (n : Nat) (T : ct_T) (hd5 : w ≤ 5) (hd4 : b ≤ 4) (hd30 : n ≤ 30) (x1 : Int32) (x2 : Int32) (hp1 : vp_in x1 30) : MX l yX0_numberOf wsX0_numberOf rm_X0_numberOf D cI cZ cL [.ref (a 0), .int x1, .int x2] (wt_c a cI cZ w b n T) (some (.int (r_X0_numberOf w b n T x1 x2))) (wt_c a cI cZ w b n T) := by
  refine MX.of (own := RX0) (cc := cX0_numberOf) (maxL := 3) (ret := (some .int)) (lv0 := [(0, .ref (a 0)), (1, .int x1), (2, .int x2)]) (by decide) rfl rfl (Nat.le_of_ble_eq_true rfl) rfl ?_
  intro p e s m args below meth c A hc hnm hw ls hl
  obtain ⟨hx, hb, hr, hml, hown, hts, hlk, hK, hA⟩ := id hc
  have hiX0 : ∀ w ∈ u_ws RX0 TX0 16, w ∈ wsX0_numberOf := fun _ h => List.mem_cons_of_mem _ (List.mem_append_right _ h)
  refine lv_aload_n hx hb dX0_numberOf_0 rfl (lv_at hl 0 rfl) ?_
  refine g_get (v := .ref (a 11)) hc hw hiX0 0 11 rfl rfl (by decide) (List.mem_of_getElem? (i := 1) rfl) rfl dX0_numberOf_1 ?_
  refine lv_iload_n hx hb dX0_numberOf_4 rfl (lv_at hl 1 rfl) ?_
  refine g_iald (f := (ct_wh T)) hc hw 6 rfl hp1 dX0_numberOf_5 ?_
  refine lv_iload_n hx hb dX0_numberOf_6 rfl (lv_at hl 2 rfl) ?_
  refine lv_icmp_ne (tgt := 19) hx hb dX0_numberOf_7 (by decide) (fun c1 => ?_) (fun c1 => ?_)
  · refine lv_iconst (v := (-1)) hx hb dX0_numberOf_19 (by decide) ?_
    rw [show r_X0_numberOf w b n T x1 x2 = (-1 : Int32) from by rw [r_X0_numberOf, if_neg c1]]
    exact g_ret hc hw rfl (Nat.le_of_ble_eq_true rfl) (Nat.le_of_ble_eq_true rfl) dX0_numberOf_20
  · refine lv_aload_n hx hb dX0_numberOf_10 rfl (lv_at hl 0 rfl) ?_
    refine g_get (v := .ref (a 12)) hc hw hiX0 0 12 rfl rfl (by decide) (List.mem_of_getElem? (i := 2) rfl) rfl dX0_numberOf_11 ?_
    refine lv_iload_n hx hb dX0_numberOf_14 rfl (lv_at hl 1 rfl) ?_
    refine g_iald (f := (ct_nu T)) hc hw 7 rfl hp1 dX0_numberOf_15 ?_
    refine lv_goto (tgt := 20) hx hb dX0_numberOf_16 (by decide) ?_
    rw [show r_X0_numberOf w b n T x1 x2 = ((ct_nu T) x1.toNatClampNeg) from by rw [r_X0_numberOf, if_pos c1]]
    exact g_ret hc hw rfl (Nat.le_of_ble_eq_true rfl) (Nat.le_of_ble_eq_true rfl) dX0_numberOf_20

def f_X0_count_4 (w : Nat) (b : Nat) (n : Nat) (T : ct_T) (x1 : Int32) (i4 : Nat) (q4 : Int32) : Int32 := if ((ct_wh T) (nI i4).toNatClampNeg) = x1 then ((q4 + 1)) else (q4)
def r_X0_count (w : Nat) (b : Nat) (n : Nat) (T : ct_T) (x1 : Int32) : Int32 := (lpf (f_X0_count_4 w b n T x1) n 0 ((0 : Int32)))
abbrev rm_X0_count : Room := { frames := 0, cells := 0, slots := 0, locals := 0 }
set_option maxHeartbeats 4000000 in
set_option maxRecDepth 100000 in
theorem k_X0_count (l : Launch) (D : va_G) (cI cZ cL : ClassId) (a : Nat → Nat) (w : Nat) (b : Nat) (n : Nat) (T : ct_T) (hd5 : w ≤ 5) (hd4 : b ≤ 4) (hd30 : n ≤ 30) (x1 : Int32)  : MX l yX0_count wsX0_count rm_X0_count D cI cZ cL [.ref (a 0), .int x1] (wt_c a cI cZ w b n T) (some (.int (r_X0_count w b n T x1))) (wt_c a cI cZ w b n T) := by
  refine MX.of (own := RX0) (cc := cX0_count) (maxL := 4) (ret := (some .int)) (lv0 := [(0, .ref (a 0)), (1, .int x1)]) (by decide) rfl rfl (Nat.le_of_ble_eq_true rfl) rfl ?_
  intro p e s m args below meth c A hc hnm hw ls hl
  obtain ⟨hx, hb, hr, hml, hown, hts, hlk, hK, hA⟩ := id hc
  have hiX0 : ∀ w ∈ u_ws RX0 TX0 16, w ∈ wsX0_count := fun _ h => List.mem_cons_of_mem _ (List.mem_append_right _ h)
  refine lv_iconst (v := 0) hx hb dX0_count_0 (by decide) ?_
  refine lv_istore_n (lv' := [(2, .int (0 : Int32)), (0, .ref (a 0)), (1, .int x1)]) hx hb dX0_count_1 rfl hl (by decide) rfl (fun ls hl => ?_)
  refine lv_iconst (v := 0) hx hb dX0_count_2 (by decide) ?_
  refine lv_istore_n (lv' := [(3, .int (0 : Int32)), (2, .int (0 : Int32)), (0, .ref (a 0)), (1, .int x1)]) hx hb dX0_count_3 rfl hl (by decide) rfl (fun ls hl => ?_)
  refine lp_go (fun (i4 : Nat) (q4 : Int32) => ∀ (H : Heap) (locs : List Loc) (ls : Array Slot), Wo D A s.heap (wt_c a cI cZ w b n T) H locs → lv_has ls 4 [(0, .ref (a 0)), (1, .int x1), (2, .int q4), (3, .int (nI i4))] → W p l e rm_X0_count s m args below meth c H locs 0 0 (QE below args s D A (some (.int (r_X0_count w b n T x1))) (wt_c a cI cZ w b n T) rm_X0_count) (F0 m 4 ls [])) (f_X0_count_4 w b n T x1) n ((0 : Int32)) ?_ ?_ s.heap [] ls hw (lv_sub hl [2, 3, 1, 0] rfl)
  · intro i4 q4 hi4 k4 H locs ls hw hl
    refine lv_iload_n hx hb dX0_count_4 rfl (lv_at hl 3 rfl) ?_
    refine lv_aload_n hx hb dX0_count_5 rfl (lv_at hl 0 rfl) ?_
    refine g_get (v := .int (nI n)) hc hw hiX0 0 9 rfl rfl (by decide) (List.mem_of_getElem? (i := 1) rfl) rfl dX0_count_6 ?_
    refine lv_icmp_ge (tgt := 31) hx hb dX0_count_9 (by decide) (fun z => absurd z (nI_ge hi4 (by omega))) (fun _ => ?_)
    refine lv_aload_n hx hb dX0_count_12 rfl (lv_at hl 0 rfl) ?_
    refine g_get (v := .ref (a 11)) hc hw hiX0 0 11 rfl rfl (by decide) (List.mem_of_getElem? (i := 2) rfl) rfl dX0_count_13 ?_
    refine lv_iload_n hx hb dX0_count_16 rfl (lv_at hl 3 rfl) ?_
    refine g_iald (f := (ct_wh T)) hc hw 6 rfl (vp_in_nI (show i4 < 30 by omega) (by omega)) dX0_count_17 ?_
    refine lv_iload_n hx hb dX0_count_18 rfl (lv_at hl 1 rfl) ?_
    refine lv_icmp_ne (tgt := 25) hx hb dX0_count_19 (by decide) (fun c1 => ?_) (fun c1 => ?_)
    · refine lv_iinc (v := (nI (i4 + 1))) (lv' := [(3, .int (nI (i4 + 1))), (0, .ref (a 0)), (1, .int x1), (2, .int q4)]) hx hb dX0_count_25 hl (k := 3) rfl (inc_n i4) (by decide) rfl (fun ls hl => ?_)
      refine lv_goto (tgt := 4) hx hb dX0_count_28 (by decide) ?_
      rw [show (f_X0_count_4 w b n T x1) i4 q4 = (q4) from by rw [f_X0_count_4, if_neg c1]] at k4
      exact k4 H locs ls hw (lv_sub hl [1, 2, 3, 0] rfl)
    · refine lv_iinc (v := (q4 + 1)) (lv' := [(2, .int (q4 + 1)), (0, .ref (a 0)), (1, .int x1), (3, .int (nI i4))]) hx hb dX0_count_22 hl (k := 2) rfl rfl (by decide) rfl (fun ls hl => ?_)
      refine lv_iinc (v := (nI (i4 + 1))) (lv' := [(3, .int (nI (i4 + 1))), (2, .int (q4 + 1)), (0, .ref (a 0)), (1, .int x1)]) hx hb dX0_count_25 hl (k := 3) rfl (inc_n i4) (by decide) rfl (fun ls hl => ?_)
      refine lv_goto (tgt := 4) hx hb dX0_count_28 (by decide) ?_
      rw [show (f_X0_count_4 w b n T x1) i4 q4 = ((q4 + 1)) from by rw [f_X0_count_4, if_pos c1]] at k4
      exact k4 H locs ls hw (lv_sub hl [2, 3, 1, 0] rfl)
  · intro H locs ls hw hl
    refine lv_iload_n hx hb dX0_count_4 rfl (lv_at hl 3 rfl) ?_
    refine lv_aload_n hx hb dX0_count_5 rfl (lv_at hl 0 rfl) ?_
    refine g_get (v := .int (nI n)) hc hw hiX0 0 9 rfl rfl (by decide) (List.mem_of_getElem? (i := 1) rfl) rfl dX0_count_6 ?_
    refine lv_icmp_ge (tgt := 31) hx hb dX0_count_9 (by decide) (fun _ => ?_) (fun z => absurd (nI_le (Nat.le_refl _) (by omega)) z)
    refine lv_iload_n hx hb dX0_count_31 rfl (lv_at hl 2 rfl) ?_
    rw [show r_X0_count w b n T x1 = (lpf (f_X0_count_4 w b n T x1) n 0 ((0 : Int32))) from by rw [r_X0_count]]
    exact g_ret hc hw rfl (Nat.le_of_ble_eq_true rfl) (Nat.le_of_ble_eq_true rfl) dX0_count_32

def f_X0_countAt_5 (w : Nat) (b : Nat) (n : Nat) (T : ct_T) (x1 : Int32) (x2 : Int32) (i5 : Nat) (q5 : Int32) : Int32 := if (r_X0_isAt w b n T (nI i5) x1 x2) = (0 : Int32) then (q5) else ((q5 + 1))
def r_X0_countAt (w : Nat) (b : Nat) (n : Nat) (T : ct_T) (x1 : Int32) (x2 : Int32) : Int32 := (lpf (f_X0_countAt_5 w b n T x1 x2) n 0 ((0 : Int32)))
abbrev rm_X0_countAt : Room := { frames := 1, cells := 0, slots := 0, locals := 23 }
set_option maxHeartbeats 4000000 in
set_option maxRecDepth 100000 in
theorem k_X0_countAt (l : Launch) (D : va_G) (cI cZ cL : ClassId) (a : Nat → Nat) (w : Nat) (b : Nat) (n : Nat) (T : ct_T) (hd5 : w ≤ 5) (hd4 : b ≤ 4) (hd30 : n ≤ 30) (x1 : Int32) (x2 : Int32)  : MX l yX0_countAt wsX0_countAt rm_X0_countAt D cI cZ cL [.ref (a 0), .int x1, .int x2] (wt_c a cI cZ w b n T) (some (.int (r_X0_countAt w b n T x1 x2))) (wt_c a cI cZ w b n T) := by
  refine MX.of (own := RX0) (cc := cX0_countAt) (maxL := 5) (ret := (some .int)) (lv0 := [(0, .ref (a 0)), (1, .int x1), (2, .int x2)]) (by decide) rfl rfl (Nat.le_of_ble_eq_true rfl) rfl ?_
  intro p e s m args below meth c A hc hnm hw ls hl
  obtain ⟨hx, hb, hr, hml, hown, hts, hlk, hK, hA⟩ := id hc
  have hiX0 : ∀ w ∈ u_ws RX0 TX0 16, w ∈ wsX0_countAt := fun _ h => List.mem_cons_of_mem _ (List.mem_append_right _ h)
  refine lv_iconst (v := 0) hx hb dX0_countAt_0 (by decide) ?_
  refine lv_istore_n (lv' := [(3, .int (0 : Int32)), (0, .ref (a 0)), (1, .int x1), (2, .int x2)]) hx hb dX0_countAt_1 rfl hl (by decide) rfl (fun ls hl => ?_)
  refine lv_iconst (v := 0) hx hb dX0_countAt_2 (by decide) ?_
  refine lv_istore (lv' := [(4, .int (0 : Int32)), (3, .int (0 : Int32)), (0, .ref (a 0)), (1, .int x1), (2, .int x2)]) hx hb dX0_countAt_3 hl (by decide) rfl (fun ls hl => ?_)
  refine lp_go (fun (i5 : Nat) (q5 : Int32) => ∀ (H : Heap) (locs : List Loc) (ls : Array Slot), Wo D A s.heap (wt_c a cI cZ w b n T) H locs → lv_has ls 5 [(0, .ref (a 0)), (1, .int x1), (2, .int x2), (3, .int q5), (4, .int (nI i5))] → W p l e rm_X0_countAt s m args below meth c H locs 0 0 (QE below args s D A (some (.int (r_X0_countAt w b n T x1 x2))) (wt_c a cI cZ w b n T) rm_X0_countAt) (F0 m 5 ls [])) (f_X0_countAt_5 w b n T x1 x2) n ((0 : Int32)) ?_ ?_ s.heap [] ls hw (lv_sub hl [2, 3, 4, 1, 0] rfl)
  · intro i5 q5 hi5 k5 H locs ls hw hl
    refine lv_iload hx hb dX0_countAt_5 (lv_at hl 4 rfl) ?_
    refine lv_aload_n hx hb dX0_countAt_7 rfl (lv_at hl 0 rfl) ?_
    refine g_get (v := .int (nI n)) hc hw hiX0 0 9 rfl rfl (by decide) (List.mem_of_getElem? (i := 1) rfl) rfl dX0_countAt_8 ?_
    refine lv_icmp_ge (tgt := 34) hx hb dX0_countAt_11 (by decide) (fun z => absurd z (nI_ge hi5 (by omega))) (fun _ => ?_)
    refine lv_aload_n hx hb dX0_countAt_14 rfl (lv_at hl 0 rfl) ?_
    refine lv_iload hx hb dX0_countAt_15 (lv_at hl 4 rfl) ?_
    refine lv_iload_n hx hb dX0_countAt_17 rfl (lv_at hl 1 rfl) ?_
    refine lv_iload_n hx hb dX0_countAt_18 rfl (lv_at hl 2 rfl) ?_
    refine g_callV0 hc hw (k_X0_isAt l D cI cZ cL a w b n T hd5 hd4 hd30 (nI i5) x1 x2 (vp_in_nI (show i5 < 30 by omega) (by omega))) gX0_countAt_X0_isAt rfl (by decide +kernel) ⟨Nat.le_of_ble_eq_true rfl, Nat.le_of_ble_eq_true rfl⟩ 0 rfl rfl rfl rfl (rest := []) rfl hl.1 (Nat.le_of_ble_eq_true rfl) (st1 := [.int (r_X0_isAt w b n T (nI i5) x1 x2)]) rfl dX0_countAt_19 (k2 := 0) (s2 := 0) rfl rfl ⟨Nat.le_of_ble_eq_true rfl, Nat.le_of_ble_eq_true rfl⟩ (fun H locs hw => ?_)
    refine lv_if_eq (tgt := 28) hx hb dX0_countAt_22 (by decide) (fun c1 => ?_) (fun c1 => ?_)
    · refine lv_iinc (v := (nI (i5 + 1))) (lv' := [(4, .int (nI (i5 + 1))), (0, .ref (a 0)), (1, .int x1), (2, .int x2), (3, .int q5)]) hx hb dX0_countAt_28 hl (k := 4) rfl (inc_n i5) (by decide) rfl (fun ls hl => ?_)
      refine lv_goto (tgt := 5) hx hb dX0_countAt_31 (by decide) ?_
      rw [show (f_X0_countAt_5 w b n T x1 x2) i5 q5 = (q5) from by rw [f_X0_countAt_5, if_pos c1]] at k5
      exact k5 H locs ls hw (lv_sub hl [1, 2, 3, 4, 0] rfl)
    · refine lv_iinc (v := (q5 + 1)) (lv' := [(3, .int (q5 + 1)), (0, .ref (a 0)), (1, .int x1), (2, .int x2), (4, .int (nI i5))]) hx hb dX0_countAt_25 hl (k := 3) rfl rfl (by decide) rfl (fun ls hl => ?_)
      refine lv_iinc (v := (nI (i5 + 1))) (lv' := [(4, .int (nI (i5 + 1))), (3, .int (q5 + 1)), (0, .ref (a 0)), (1, .int x1), (2, .int x2)]) hx hb dX0_countAt_28 hl (k := 4) rfl (inc_n i5) (by decide) rfl (fun ls hl => ?_)
      refine lv_goto (tgt := 5) hx hb dX0_countAt_31 (by decide) ?_
      rw [show (f_X0_countAt_5 w b n T x1 x2) i5 q5 = ((q5 + 1)) from by rw [f_X0_countAt_5, if_neg c1]] at k5
      exact k5 H locs ls hw (lv_sub hl [2, 3, 4, 1, 0] rfl)
  · intro H locs ls hw hl
    refine lv_iload hx hb dX0_countAt_5 (lv_at hl 4 rfl) ?_
    refine lv_aload_n hx hb dX0_countAt_7 rfl (lv_at hl 0 rfl) ?_
    refine g_get (v := .int (nI n)) hc hw hiX0 0 9 rfl rfl (by decide) (List.mem_of_getElem? (i := 1) rfl) rfl dX0_countAt_8 ?_
    refine lv_icmp_ge (tgt := 34) hx hb dX0_countAt_11 (by decide) (fun _ => ?_) (fun z => absurd (nI_le (Nat.le_refl _) (by omega)) z)
    refine lv_iload_n hx hb dX0_countAt_34 rfl (lv_at hl 3 rfl) ?_
    rw [show r_X0_countAt w b n T x1 x2 = (lpf (f_X0_countAt_5 w b n T x1 x2) n 0 ((0 : Int32))) from by rw [r_X0_countAt]]
    exact g_ret hc hw rfl (Nat.le_of_ble_eq_true rfl) (Nat.le_of_ble_eq_true rfl) dX0_countAt_35

def r_X0_freeIn (w : Nat) (b : Nat) (n : Nat) (T : ct_T) (x1 : Int32) : Int32 := (((ct_pl T) x1.toNatClampNeg) - (r_X0_countAt w b n T (1 : Int32) x1))
abbrev rm_X0_freeIn : Room := { frames := 2, cells := 0, slots := 0, locals := 47 }
set_option maxHeartbeats 4000000 in
set_option maxRecDepth 100000 in
theorem k_X0_freeIn (l : Launch) (D : va_G) (cI cZ cL : ClassId) (a : Nat → Nat) (w : Nat) (b : Nat) (n : Nat) (T : ct_T) (hd5 : w ≤ 5) (hd4 : b ≤ 4) (hd30 : n ≤ 30) (x1 : Int32) (hp1 : vp_in x1 5) : MX l yX0_freeIn wsX0_freeIn rm_X0_freeIn D cI cZ cL [.ref (a 0), .int x1] (wt_c a cI cZ w b n T) (some (.int (r_X0_freeIn w b n T x1))) (wt_c a cI cZ w b n T) := by
  refine MX.of (own := RX0) (cc := cX0_freeIn) (maxL := 2) (ret := (some .int)) (lv0 := [(0, .ref (a 0)), (1, .int x1)]) (by decide) rfl rfl (Nat.le_of_ble_eq_true rfl) rfl ?_
  intro p e s m args below meth c A hc hnm hw ls hl
  obtain ⟨hx, hb, hr, hml, hown, hts, hlk, hK, hA⟩ := id hc
  have hiX0 : ∀ w ∈ u_ws RX0 TX0 16, w ∈ wsX0_freeIn := fun _ h => List.mem_cons_of_mem _ (List.mem_append_right _ h)
  refine lv_aload_n hx hb dX0_freeIn_0 rfl (lv_at hl 0 rfl) ?_
  refine g_get (v := .ref (a 4)) hc hw hiX0 0 4 rfl rfl (by decide) (List.mem_of_getElem? (i := 1) rfl) rfl dX0_freeIn_1 ?_
  refine lv_iload_n hx hb dX0_freeIn_4 rfl (lv_at hl 1 rfl) ?_
  refine g_iald (f := (ct_pl T)) hc hw 1 rfl hp1 dX0_freeIn_5 ?_
  refine lv_aload_n hx hb dX0_freeIn_6 rfl (lv_at hl 0 rfl) ?_
  refine lv_iconst (v := 1) hx hb dX0_freeIn_7 (by decide) ?_
  refine lv_iload_n hx hb dX0_freeIn_8 rfl (lv_at hl 1 rfl) ?_
  refine g_callV0 hc hw (k_X0_countAt l D cI cZ cL a w b n T hd5 hd4 hd30 (1 : Int32) x1) gX0_freeIn_X0_countAt rfl (by decide +kernel) ⟨Nat.le_of_ble_eq_true rfl, Nat.le_of_ble_eq_true rfl⟩ 0 rfl rfl rfl rfl (rest := [.int ((ct_pl T) x1.toNatClampNeg)]) rfl hl.1 (Nat.le_of_ble_eq_true rfl) (st1 := [.int (r_X0_countAt w b n T (1 : Int32) x1), .int ((ct_pl T) x1.toNatClampNeg)]) rfl dX0_freeIn_9 (k2 := 0) (s2 := 0) rfl rfl ⟨Nat.le_of_ble_eq_true rfl, Nat.le_of_ble_eq_true rfl⟩ (fun H locs hw => ?_)
  refine lv_isub hx hb dX0_freeIn_12 ?_
  rw [show r_X0_freeIn w b n T x1 = (((ct_pl T) x1.toNatClampNeg) - (r_X0_countAt w b n T (1 : Int32) x1)) from by rw [r_X0_freeIn]]
  exact g_ret hc hw rfl (Nat.le_of_ble_eq_true rfl) (Nat.le_of_ble_eq_true rfl) dX0_freeIn_13

def f_X0_feversInWard_4 (w : Nat) (b : Nat) (n : Nat) (T : ct_T) (x1 : Int32) (i4 : Nat) (q4 : Int32) : Int32 := if (r_X0_isAt w b n T (nI i4) (1 : Int32) x1) = (0 : Int32) then (q4) else ((q4 + ((ct_fe T) (nI i4).toNatClampNeg)))
def r_X0_feversInWard (w : Nat) (b : Nat) (n : Nat) (T : ct_T) (x1 : Int32) : Int32 := (lpf (f_X0_feversInWard_4 w b n T x1) n 0 ((0 : Int32)))
abbrev rm_X0_feversInWard : Room := { frames := 1, cells := 0, slots := 0, locals := 23 }
set_option maxHeartbeats 4000000 in
set_option maxRecDepth 100000 in
theorem k_X0_feversInWard (l : Launch) (D : va_G) (cI cZ cL : ClassId) (a : Nat → Nat) (w : Nat) (b : Nat) (n : Nat) (T : ct_T) (hd5 : w ≤ 5) (hd4 : b ≤ 4) (hd30 : n ≤ 30) (x1 : Int32)  : MX l yX0_feversInWard wsX0_feversInWard rm_X0_feversInWard D cI cZ cL [.ref (a 0), .int x1] (wt_c a cI cZ w b n T) (some (.int (r_X0_feversInWard w b n T x1))) (wt_c a cI cZ w b n T) := by
  refine MX.of (own := RX0) (cc := cX0_feversInWard) (maxL := 4) (ret := (some .int)) (lv0 := [(0, .ref (a 0)), (1, .int x1)]) (by decide) rfl rfl (Nat.le_of_ble_eq_true rfl) rfl ?_
  intro p e s m args below meth c A hc hnm hw ls hl
  obtain ⟨hx, hb, hr, hml, hown, hts, hlk, hK, hA⟩ := id hc
  have hiX0 : ∀ w ∈ u_ws RX0 TX0 16, w ∈ wsX0_feversInWard := fun _ h => List.mem_cons_of_mem _ (List.mem_append_right _ h)
  refine lv_iconst (v := 0) hx hb dX0_feversInWard_0 (by decide) ?_
  refine lv_istore_n (lv' := [(2, .int (0 : Int32)), (0, .ref (a 0)), (1, .int x1)]) hx hb dX0_feversInWard_1 rfl hl (by decide) rfl (fun ls hl => ?_)
  refine lv_iconst (v := 0) hx hb dX0_feversInWard_2 (by decide) ?_
  refine lv_istore_n (lv' := [(3, .int (0 : Int32)), (2, .int (0 : Int32)), (0, .ref (a 0)), (1, .int x1)]) hx hb dX0_feversInWard_3 rfl hl (by decide) rfl (fun ls hl => ?_)
  refine lp_go (fun (i4 : Nat) (q4 : Int32) => ∀ (H : Heap) (locs : List Loc) (ls : Array Slot), Wo D A s.heap (wt_c a cI cZ w b n T) H locs → lv_has ls 4 [(0, .ref (a 0)), (1, .int x1), (2, .int q4), (3, .int (nI i4))] → W p l e rm_X0_feversInWard s m args below meth c H locs 0 0 (QE below args s D A (some (.int (r_X0_feversInWard w b n T x1))) (wt_c a cI cZ w b n T) rm_X0_feversInWard) (F0 m 4 ls [])) (f_X0_feversInWard_4 w b n T x1) n ((0 : Int32)) ?_ ?_ s.heap [] ls hw (lv_sub hl [2, 3, 1, 0] rfl)
  · intro i4 q4 hi4 k4 H locs ls hw hl
    refine lv_iload_n hx hb dX0_feversInWard_4 rfl (lv_at hl 3 rfl) ?_
    refine lv_aload_n hx hb dX0_feversInWard_5 rfl (lv_at hl 0 rfl) ?_
    refine g_get (v := .int (nI n)) hc hw hiX0 0 9 rfl rfl (by decide) (List.mem_of_getElem? (i := 1) rfl) rfl dX0_feversInWard_6 ?_
    refine lv_icmp_ge (tgt := 37) hx hb dX0_feversInWard_9 (by decide) (fun z => absurd z (nI_ge hi4 (by omega))) (fun _ => ?_)
    refine lv_aload_n hx hb dX0_feversInWard_12 rfl (lv_at hl 0 rfl) ?_
    refine lv_iload_n hx hb dX0_feversInWard_13 rfl (lv_at hl 3 rfl) ?_
    refine lv_iconst (v := 1) hx hb dX0_feversInWard_14 (by decide) ?_
    refine lv_iload_n hx hb dX0_feversInWard_15 rfl (lv_at hl 1 rfl) ?_
    refine g_callV0 hc hw (k_X0_isAt l D cI cZ cL a w b n T hd5 hd4 hd30 (nI i4) (1 : Int32) x1 (vp_in_nI (show i4 < 30 by omega) (by omega))) gX0_feversInWard_X0_isAt rfl (by decide +kernel) ⟨Nat.le_of_ble_eq_true rfl, Nat.le_of_ble_eq_true rfl⟩ 0 rfl rfl rfl rfl (rest := []) rfl hl.1 (Nat.le_of_ble_eq_true rfl) (st1 := [.int (r_X0_isAt w b n T (nI i4) (1 : Int32) x1)]) rfl dX0_feversInWard_16 (k2 := 0) (s2 := 0) rfl rfl ⟨Nat.le_of_ble_eq_true rfl, Nat.le_of_ble_eq_true rfl⟩ (fun H locs hw => ?_)
    refine lv_if_eq (tgt := 31) hx hb dX0_feversInWard_19 (by decide) (fun c1 => ?_) (fun c1 => ?_)
    · refine lv_iinc (v := (nI (i4 + 1))) (lv' := [(3, .int (nI (i4 + 1))), (0, .ref (a 0)), (1, .int x1), (2, .int q4)]) hx hb dX0_feversInWard_31 hl (k := 3) rfl (inc_n i4) (by decide) rfl (fun ls hl => ?_)
      refine lv_goto (tgt := 4) hx hb dX0_feversInWard_34 (by decide) ?_
      rw [show (f_X0_feversInWard_4 w b n T x1) i4 q4 = (q4) from by rw [f_X0_feversInWard_4, if_pos c1]] at k4
      exact k4 H locs ls hw (lv_sub hl [1, 2, 3, 0] rfl)
    · refine lv_iload_n hx hb dX0_feversInWard_22 rfl (lv_at hl 2 rfl) ?_
      refine lv_aload_n hx hb dX0_feversInWard_23 rfl (lv_at hl 0 rfl) ?_
      refine g_get (v := .ref (a 10)) hc hw hiX0 0 10 rfl rfl (by decide) (List.mem_of_getElem? (i := 2) rfl) rfl dX0_feversInWard_24 ?_
      refine lv_iload_n hx hb dX0_feversInWard_27 rfl (lv_at hl 3 rfl) ?_
      refine g_iald (f := (ct_fe T)) hc hw 5 rfl (vp_in_nI (show i4 < 30 by omega) (by omega)) dX0_feversInWard_28 ?_
      refine lv_iadd hx hb dX0_feversInWard_29 ?_
      refine lv_istore_n (lv' := [(2, .int (q4 + ((ct_fe T) (nI i4).toNatClampNeg))), (0, .ref (a 0)), (1, .int x1), (3, .int (nI i4))]) hx hb dX0_feversInWard_30 rfl hl (by decide) rfl (fun ls hl => ?_)
      refine lv_iinc (v := (nI (i4 + 1))) (lv' := [(3, .int (nI (i4 + 1))), (2, .int (q4 + ((ct_fe T) (nI i4).toNatClampNeg))), (0, .ref (a 0)), (1, .int x1)]) hx hb dX0_feversInWard_31 hl (k := 3) rfl (inc_n i4) (by decide) rfl (fun ls hl => ?_)
      refine lv_goto (tgt := 4) hx hb dX0_feversInWard_34 (by decide) ?_
      rw [show (f_X0_feversInWard_4 w b n T x1) i4 q4 = ((q4 + ((ct_fe T) (nI i4).toNatClampNeg))) from by rw [f_X0_feversInWard_4, if_neg c1]] at k4
      exact k4 H locs ls hw (lv_sub hl [2, 3, 1, 0] rfl)
  · intro H locs ls hw hl
    refine lv_iload_n hx hb dX0_feversInWard_4 rfl (lv_at hl 3 rfl) ?_
    refine lv_aload_n hx hb dX0_feversInWard_5 rfl (lv_at hl 0 rfl) ?_
    refine g_get (v := .int (nI n)) hc hw hiX0 0 9 rfl rfl (by decide) (List.mem_of_getElem? (i := 1) rfl) rfl dX0_feversInWard_6 ?_
    refine lv_icmp_ge (tgt := 37) hx hb dX0_feversInWard_9 (by decide) (fun _ => ?_) (fun z => absurd (nI_le (Nat.le_refl _) (by omega)) z)
    refine lv_iload_n hx hb dX0_feversInWard_37 rfl (lv_at hl 2 rfl) ?_
    rw [show r_X0_feversInWard w b n T x1 = (lpf (f_X0_feversInWard_4 w b n T x1) n 0 ((0 : Int32))) from by rw [r_X0_feversInWard]]
    exact g_ret hc hw rfl (Nat.le_of_ble_eq_true rfl) (Nat.le_of_ble_eq_true rfl) dX0_feversInWard_38

def f_X0_highestFeverAboard_4 (w : Nat) (b : Nat) (n : Nat) (T : ct_T) (x1 : Int32) (i4 : Nat) (q4 : Int32) : Int32 := if (r_X0_isAt w b n T (nI i4) (0 : Int32) x1) = (0 : Int32) then (q4) else ((if q4 < ((ct_fe T) (nI i4).toNatClampNeg) then ((ct_fe T) (nI i4).toNatClampNeg) else q4))
def r_X0_highestFeverAboard (w : Nat) (b : Nat) (n : Nat) (T : ct_T) (x1 : Int32) : Int32 := (lpf (f_X0_highestFeverAboard_4 w b n T x1) n 0 ((0 : Int32)))
abbrev rm_X0_highestFeverAboard : Room := { frames := 1, cells := 0, slots := 0, locals := 23 }
set_option maxHeartbeats 4000000 in
set_option maxRecDepth 100000 in
theorem k_X0_highestFeverAboard (l : Launch) (D : va_G) (cI cZ cL : ClassId) (a : Nat → Nat) (w : Nat) (b : Nat) (n : Nat) (T : ct_T) (hd5 : w ≤ 5) (hd4 : b ≤ 4) (hd30 : n ≤ 30) (x1 : Int32)  : MX l yX0_highestFeverAboard wsX0_highestFeverAboard rm_X0_highestFeverAboard D cI cZ cL [.ref (a 0), .int x1] (wt_c a cI cZ w b n T) (some (.int (r_X0_highestFeverAboard w b n T x1))) (wt_c a cI cZ w b n T) := by
  refine MX.of (own := RX0) (cc := cX0_highestFeverAboard) (maxL := 4) (ret := (some .int)) (lv0 := [(0, .ref (a 0)), (1, .int x1)]) (by decide) rfl rfl (Nat.le_of_ble_eq_true rfl) rfl ?_
  intro p e s m args below meth c A hc hnm hw ls hl
  obtain ⟨hx, hb, hr, hml, hown, hts, hlk, hK, hA⟩ := id hc
  have hiX0 : ∀ w ∈ u_ws RX0 TX0 16, w ∈ wsX0_highestFeverAboard := fun _ h => List.mem_cons_of_mem _ (List.mem_append_right _ h)
  refine lv_iconst (v := 0) hx hb dX0_highestFeverAboard_0 (by decide) ?_
  refine lv_istore_n (lv' := [(2, .int (0 : Int32)), (0, .ref (a 0)), (1, .int x1)]) hx hb dX0_highestFeverAboard_1 rfl hl (by decide) rfl (fun ls hl => ?_)
  refine lv_iconst (v := 0) hx hb dX0_highestFeverAboard_2 (by decide) ?_
  refine lv_istore_n (lv' := [(3, .int (0 : Int32)), (2, .int (0 : Int32)), (0, .ref (a 0)), (1, .int x1)]) hx hb dX0_highestFeverAboard_3 rfl hl (by decide) rfl (fun ls hl => ?_)
  refine lp_go (fun (i4 : Nat) (q4 : Int32) => ∀ (H : Heap) (locs : List Loc) (ls : Array Slot), Wo D A s.heap (wt_c a cI cZ w b n T) H locs → lv_has ls 4 [(0, .ref (a 0)), (1, .int x1), (2, .int q4), (3, .int (nI i4))] → W p l e rm_X0_highestFeverAboard s m args below meth c H locs 0 0 (QE below args s D A (some (.int (r_X0_highestFeverAboard w b n T x1))) (wt_c a cI cZ w b n T) rm_X0_highestFeverAboard) (F0 m 4 ls [])) (f_X0_highestFeverAboard_4 w b n T x1) n ((0 : Int32)) ?_ ?_ s.heap [] ls hw (lv_sub hl [2, 3, 1, 0] rfl)
  · intro i4 q4 hi4 k4 H locs ls hw hl
    refine lv_iload_n hx hb dX0_highestFeverAboard_4 rfl (lv_at hl 3 rfl) ?_
    refine lv_aload_n hx hb dX0_highestFeverAboard_5 rfl (lv_at hl 0 rfl) ?_
    refine g_get (v := .int (nI n)) hc hw hiX0 0 9 rfl rfl (by decide) (List.mem_of_getElem? (i := 1) rfl) rfl dX0_highestFeverAboard_6 ?_
    refine lv_icmp_ge (tgt := 39) hx hb dX0_highestFeverAboard_9 (by decide) (fun z => absurd z (nI_ge hi4 (by omega))) (fun _ => ?_)
    refine lv_aload_n hx hb dX0_highestFeverAboard_12 rfl (lv_at hl 0 rfl) ?_
    refine lv_iload_n hx hb dX0_highestFeverAboard_13 rfl (lv_at hl 3 rfl) ?_
    refine lv_iconst (v := 0) hx hb dX0_highestFeverAboard_14 (by decide) ?_
    refine lv_iload_n hx hb dX0_highestFeverAboard_15 rfl (lv_at hl 1 rfl) ?_
    refine g_callV0 hc hw (k_X0_isAt l D cI cZ cL a w b n T hd5 hd4 hd30 (nI i4) (0 : Int32) x1 (vp_in_nI (show i4 < 30 by omega) (by omega))) gX0_highestFeverAboard_X0_isAt rfl (by decide +kernel) ⟨Nat.le_of_ble_eq_true rfl, Nat.le_of_ble_eq_true rfl⟩ 0 rfl rfl rfl rfl (rest := []) rfl hl.1 (Nat.le_of_ble_eq_true rfl) (st1 := [.int (r_X0_isAt w b n T (nI i4) (0 : Int32) x1)]) rfl dX0_highestFeverAboard_16 (k2 := 0) (s2 := 0) rfl rfl ⟨Nat.le_of_ble_eq_true rfl, Nat.le_of_ble_eq_true rfl⟩ (fun H locs hw => ?_)
    refine lv_if_eq (tgt := 33) hx hb dX0_highestFeverAboard_19 (by decide) (fun c1 => ?_) (fun c1 => ?_)
    · refine lv_iinc (v := (nI (i4 + 1))) (lv' := [(3, .int (nI (i4 + 1))), (0, .ref (a 0)), (1, .int x1), (2, .int q4)]) hx hb dX0_highestFeverAboard_33 hl (k := 3) rfl (inc_n i4) (by decide) rfl (fun ls hl => ?_)
      refine lv_goto (tgt := 4) hx hb dX0_highestFeverAboard_36 (by decide) ?_
      rw [show (f_X0_highestFeverAboard_4 w b n T x1) i4 q4 = (q4) from by rw [f_X0_highestFeverAboard_4, if_pos c1]] at k4
      exact k4 H locs ls hw (lv_sub hl [1, 2, 3, 0] rfl)
    · refine lv_iload_n hx hb dX0_highestFeverAboard_22 rfl (lv_at hl 2 rfl) ?_
      refine lv_aload_n hx hb dX0_highestFeverAboard_23 rfl (lv_at hl 0 rfl) ?_
      refine g_get (v := .ref (a 10)) hc hw hiX0 0 10 rfl rfl (by decide) (List.mem_of_getElem? (i := 2) rfl) rfl dX0_highestFeverAboard_24 ?_
      refine lv_iload_n hx hb dX0_highestFeverAboard_27 rfl (lv_at hl 3 rfl) ?_
      refine g_iald (f := (ct_fe T)) hc hw 5 rfl (vp_in_nI (show i4 < 30 by omega) (by omega)) dX0_highestFeverAboard_28 ?_
      refine g_mmax hc hl.1 (List.mem_of_getElem? (i := 3) rfl) (List.mem_of_getElem? (i := 4) rfl) (List.mem_of_getElem? (i := 5) rfl) (List.mem_of_getElem? (i := 6) rfl) (Nat.le_of_ble_eq_true rfl) (Nat.le_of_ble_eq_true rfl) (Nat.le_of_ble_eq_true rfl) (Nat.le_of_ble_eq_true rfl) dX0_highestFeverAboard_29 ?_
      refine lv_istore_n (lv' := [(2, .int (if q4 < ((ct_fe T) (nI i4).toNatClampNeg) then ((ct_fe T) (nI i4).toNatClampNeg) else q4)), (0, .ref (a 0)), (1, .int x1), (3, .int (nI i4))]) hx hb dX0_highestFeverAboard_32 rfl hl (by decide) rfl (fun ls hl => ?_)
      refine lv_iinc (v := (nI (i4 + 1))) (lv' := [(3, .int (nI (i4 + 1))), (2, .int (if q4 < ((ct_fe T) (nI i4).toNatClampNeg) then ((ct_fe T) (nI i4).toNatClampNeg) else q4)), (0, .ref (a 0)), (1, .int x1)]) hx hb dX0_highestFeverAboard_33 hl (k := 3) rfl (inc_n i4) (by decide) rfl (fun ls hl => ?_)
      refine lv_goto (tgt := 4) hx hb dX0_highestFeverAboard_36 (by decide) ?_
      rw [show (f_X0_highestFeverAboard_4 w b n T x1) i4 q4 = ((if q4 < ((ct_fe T) (nI i4).toNatClampNeg) then ((ct_fe T) (nI i4).toNatClampNeg) else q4)) from by rw [f_X0_highestFeverAboard_4, if_neg c1]] at k4
      exact k4 H locs ls hw (lv_sub hl [2, 3, 1, 0] rfl)
  · intro H locs ls hw hl
    refine lv_iload_n hx hb dX0_highestFeverAboard_4 rfl (lv_at hl 3 rfl) ?_
    refine lv_aload_n hx hb dX0_highestFeverAboard_5 rfl (lv_at hl 0 rfl) ?_
    refine g_get (v := .int (nI n)) hc hw hiX0 0 9 rfl rfl (by decide) (List.mem_of_getElem? (i := 1) rfl) rfl dX0_highestFeverAboard_6 ?_
    refine lv_icmp_ge (tgt := 39) hx hb dX0_highestFeverAboard_9 (by decide) (fun _ => ?_) (fun z => absurd (nI_le (Nat.le_refl _) (by omega)) z)
    refine lv_iload_n hx hb dX0_highestFeverAboard_39 rfl (lv_at hl 2 rfl) ?_
    rw [show r_X0_highestFeverAboard w b n T x1 = (lpf (f_X0_highestFeverAboard_4 w b n T x1) n 0 ((0 : Int32))) from by rw [r_X0_highestFeverAboard]]
    exact g_ret hc hw rfl (Nat.le_of_ble_eq_true rfl) (Nat.le_of_ble_eq_true rfl) dX0_highestFeverAboard_40

def s_X0_raiseFever (w : Nat) (b : Nat) (n : Nat) (T : ct_T) (x1 : Int32) : ct_T := (cs_fe T (upd (ct_fe T) x1.toNatClampNeg (if (((ct_fe T) x1.toNatClampNeg) + (1 : Int32)) < (10 : Int32) then (((ct_fe T) x1.toNatClampNeg) + (1 : Int32)) else (10 : Int32))))
abbrev rm_X0_raiseFever : Room := { frames := 1, cells := 0, slots := 0, locals := 21 }
set_option maxHeartbeats 4000000 in
set_option maxRecDepth 100000 in
theorem k_X0_raiseFever (l : Launch) (D : va_G) (cI cZ cL : ClassId) (a : Nat → Nat) (w : Nat) (b : Nat) (n : Nat) (T : ct_T) (hd5 : w ≤ 5) (hd4 : b ≤ 4) (hd30 : n ≤ 30) (x1 : Int32) (hp1 : vp_in x1 30) : MX l yX0_raiseFever wsX0_raiseFever rm_X0_raiseFever D cI cZ cL [.ref (a 0), .int x1] (wt_c a cI cZ w b n T) none (wt_c a cI cZ w b n (s_X0_raiseFever w b n T x1)) := by
  refine MX.of (own := RX0) (cc := cX0_raiseFever) (maxL := 2) (ret := none) (lv0 := [(0, .ref (a 0)), (1, .int x1)]) (by decide) rfl rfl (Nat.le_of_ble_eq_true rfl) rfl ?_
  intro p e s m args below meth c A hc hnm hw ls hl
  obtain ⟨hx, hb, hr, hml, hown, hts, hlk, hK, hA⟩ := id hc
  have hiX0 : ∀ w ∈ u_ws RX0 TX0 16, w ∈ wsX0_raiseFever := fun _ h => List.mem_cons_of_mem _ (List.mem_append_right _ h)
  refine lv_aload_n hx hb dX0_raiseFever_0 rfl (lv_at hl 0 rfl) ?_
  refine g_get (v := .ref (a 10)) hc hw hiX0 0 10 rfl rfl (by decide) (List.mem_of_getElem? (i := 1) rfl) rfl dX0_raiseFever_1 ?_
  refine lv_iload_n hx hb dX0_raiseFever_4 rfl (lv_at hl 1 rfl) ?_
  refine lv_bipush (v := 10) hx hb dX0_raiseFever_5 (by decide) ?_
  refine lv_aload_n hx hb dX0_raiseFever_7 rfl (lv_at hl 0 rfl) ?_
  refine g_get (v := .ref (a 10)) hc hw hiX0 0 10 rfl rfl (by decide) (List.mem_of_getElem? (i := 1) rfl) rfl dX0_raiseFever_8 ?_
  refine lv_iload_n hx hb dX0_raiseFever_11 rfl (lv_at hl 1 rfl) ?_
  refine g_iald (f := (ct_fe T)) hc hw 5 rfl hp1 dX0_raiseFever_12 ?_
  refine lv_iconst (v := 1) hx hb dX0_raiseFever_13 (by decide) ?_
  refine lv_iadd hx hb dX0_raiseFever_14 ?_
  refine g_mmin hc hl.1 (List.mem_of_getElem? (i := 2) rfl) (List.mem_of_getElem? (i := 3) rfl) (List.mem_of_getElem? (i := 4) rfl) (List.mem_of_getElem? (i := 5) rfl) (Nat.le_of_ble_eq_true rfl) (Nat.le_of_ble_eq_true rfl) (Nat.le_of_ble_eq_true rfl) (Nat.le_of_ble_eq_true rfl) dX0_raiseFever_15 ?_
  refine g_iast (f := (ct_fe T)) hc hw 5 rfl hp1 (w' := (wt_c a cI cZ w b n (cs_fe T (upd (ct_fe T) x1.toNatClampNeg (if (((ct_fe T) x1.toNatClampNeg) + (1 : Int32)) < (10 : Int32) then (((ct_fe T) x1.toNatClampNeg) + (1 : Int32)) else (10 : Int32)))))) rfl dX0_raiseFever_18 (fun H locs hw => ?_)
  rw [show s_X0_raiseFever w b n T x1 = (cs_fe T (upd (ct_fe T) x1.toNatClampNeg (if (((ct_fe T) x1.toNatClampNeg) + (1 : Int32)) < (10 : Int32) then (((ct_fe T) x1.toNatClampNeg) + (1 : Int32)) else (10 : Int32)))) from by rw [s_X0_raiseFever]]
  exact g_vret hc hw rfl (Nat.le_of_ble_eq_true rfl) (Nat.le_of_ble_eq_true rfl) dX0_raiseFever_19

def f_X0_giveBowls_17 (w : Nat) (b : Nat) (n : Nat) (T : ct_T) (i7 : Nat) (q7 : ct_T × Int32) (i17 : Nat) (q17 : ct_T × Int32) : ct_T × Int32 := if (r_X0_isAt w b n q17.1 (nI i17) (1 : Int32) (nI i7)) = (0 : Int32) then (q17.1, q17.2) else (if q17.2 = (0 : Int32) then ((cs_ht (cs_hd q17.1 (upd (ct_hd q17.1) (nI i17).toNatClampNeg (((ct_hd q17.1) (nI i17).toNatClampNeg) + (1 : Int32)))) (upd (ct_ht q17.1) (nI i17).toNatClampNeg (1 : Int32))), q17.2) else ((cs_ht q17.1 (upd (ct_ht q17.1) (nI i17).toNatClampNeg (0 : Int32))), (q17.2 + (-1))))
def f_X0_giveBowls_7 (w : Nat) (b : Nat) (n : Nat) (T : ct_T) (i7 : Nat) (q7 : ct_T × Int32) : ct_T × Int32 := ((lpf (f_X0_giveBowls_17 w b n T i7 q7) n 0 (q7.1, q7.2)).1, (lpf (f_X0_giveBowls_17 w b n T i7 q7) n 0 (q7.1, q7.2)).2)
def s_X0_giveBowls (w : Nat) (b : Nat) (n : Nat) (T : ct_T) : ct_T := (cs_ea (lpf (f_X0_giveBowls_7 w b n T) w 0 (T, (ct_bo T))).1 ((ct_ea (lpf (f_X0_giveBowls_7 w b n T) w 0 (T, (ct_bo T))).1) + ((ct_bo (lpf (f_X0_giveBowls_7 w b n T) w 0 (T, (ct_bo T))).1) - (lpf (f_X0_giveBowls_7 w b n T) w 0 (T, (ct_bo T))).2)))
abbrev rm_X0_giveBowls : Room := { frames := 1, cells := 0, slots := 0, locals := 23 }
set_option maxHeartbeats 4000000 in
set_option maxRecDepth 100000 in
theorem k_X0_giveBowls (l : Launch) (D : va_G) (cI cZ cL : ClassId) (a : Nat → Nat) (w : Nat) (b : Nat) (n : Nat) (T : ct_T) (hd5 : w ≤ 5) (hd4 : b ≤ 4) (hd30 : n ≤ 30)   : MX l yX0_giveBowls wsX0_giveBowls rm_X0_giveBowls D cI cZ cL [.ref (a 0)] (wt_c a cI cZ w b n T) none (wt_c a cI cZ w b n (s_X0_giveBowls w b n T)) := by
  refine MX.of (own := RX0) (cc := cX0_giveBowls) (maxL := 4) (ret := none) (lv0 := [(0, .ref (a 0))]) (by decide) rfl rfl (Nat.le_of_ble_eq_true rfl) rfl ?_
  intro p e s m args below meth c A hc hnm hw ls hl
  obtain ⟨hx, hb, hr, hml, hown, hts, hlk, hK, hA⟩ := id hc
  have hiX0 : ∀ w ∈ u_ws RX0 TX0 16, w ∈ wsX0_giveBowls := fun _ h => List.mem_cons_of_mem _ (List.mem_append_right _ h)
  refine lv_aload_n hx hb dX0_giveBowls_0 rfl (lv_at hl 0 rfl) ?_
  refine g_get (v := .int (ct_bo T)) hc hw hiX0 0 1 rfl rfl (by decide) (List.mem_of_getElem? (i := 1) rfl) rfl dX0_giveBowls_1 ?_
  refine lv_istore_n (lv' := [(1, .int (ct_bo T)), (0, .ref (a 0))]) hx hb dX0_giveBowls_4 rfl hl (by decide) rfl (fun ls hl => ?_)
  refine lv_iconst (v := 0) hx hb dX0_giveBowls_5 (by decide) ?_
  refine lv_istore_n (lv' := [(2, .int (0 : Int32)), (1, .int (ct_bo T)), (0, .ref (a 0))]) hx hb dX0_giveBowls_6 rfl hl (by decide) rfl (fun ls hl => ?_)
  refine lp_go (fun (i7 : Nat) (q7 : ct_T × Int32) => ∀ (H : Heap) (locs : List Loc) (ls : Array Slot), Wo D A s.heap (wt_c a cI cZ w b n q7.1) H locs → lv_has ls 4 [(0, .ref (a 0)), (1, .int q7.2), (2, .int (nI i7))] → W p l e rm_X0_giveBowls s m args below meth c H locs 0 0 (QE below args s D A none (wt_c a cI cZ w b n (s_X0_giveBowls w b n T)) rm_X0_giveBowls) (F0 m 7 ls [])) (f_X0_giveBowls_7 w b n T) w (T, (ct_bo T)) ?_ ?_ s.heap [] ls hw (lv_sub hl [2, 1, 0] rfl)
  · intro i7 q7 hi7 k7 H locs ls hw hl
    refine lv_iload_n hx hb dX0_giveBowls_7 rfl (lv_at hl 2 rfl) ?_
    refine lv_aload_n hx hb dX0_giveBowls_8 rfl (lv_at hl 0 rfl) ?_
    refine g_get (v := .int (nI w)) hc hw hiX0 0 3 rfl rfl (by decide) (List.mem_of_getElem? (i := 2) rfl) rfl dX0_giveBowls_9 ?_
    refine lv_icmp_ge (tgt := 85) hx hb dX0_giveBowls_12 (by decide) (fun z => absurd z (nI_ge hi7 (by omega))) (fun _ => ?_)
    refine lv_iconst (v := 0) hx hb dX0_giveBowls_15 (by decide) ?_
    refine lv_istore_n (lv' := [(3, .int (0 : Int32)), (0, .ref (a 0)), (1, .int q7.2), (2, .int (nI i7))]) hx hb dX0_giveBowls_16 rfl hl (by decide) rfl (fun ls hl => ?_)
    refine lp_go (fun (i17 : Nat) (q17 : ct_T × Int32) => ∀ (H : Heap) (locs : List Loc) (ls : Array Slot), Wo D A s.heap (wt_c a cI cZ w b n q17.1) H locs → lv_has ls 4 [(0, .ref (a 0)), (1, .int q17.2), (2, .int (nI i7)), (3, .int (nI i17))] → W p l e rm_X0_giveBowls s m args below meth c H locs 0 0 (QE below args s D A none (wt_c a cI cZ w b n (s_X0_giveBowls w b n T)) rm_X0_giveBowls) (F0 m 17 ls [])) (f_X0_giveBowls_17 w b n T i7 q7) n (q7.1, q7.2) ?_ ?_ H locs ls hw (lv_sub hl [1, 2, 3, 0] rfl)
    · intro i17 q17 hi17 k17 H locs ls hw hl
      refine lv_iload_n hx hb dX0_giveBowls_17 rfl (lv_at hl 3 rfl) ?_
      refine lv_aload_n hx hb dX0_giveBowls_18 rfl (lv_at hl 0 rfl) ?_
      refine g_get (v := .int (nI n)) hc hw hiX0 0 9 rfl rfl (by decide) (List.mem_of_getElem? (i := 3) rfl) rfl dX0_giveBowls_19 ?_
      refine lv_icmp_ge (tgt := 79) hx hb dX0_giveBowls_22 (by decide) (fun z => absurd z (nI_ge hi17 (by omega))) (fun _ => ?_)
      refine lv_aload_n hx hb dX0_giveBowls_25 rfl (lv_at hl 0 rfl) ?_
      refine lv_iload_n hx hb dX0_giveBowls_26 rfl (lv_at hl 3 rfl) ?_
      refine lv_iconst (v := 1) hx hb dX0_giveBowls_27 (by decide) ?_
      refine lv_iload_n hx hb dX0_giveBowls_28 rfl (lv_at hl 2 rfl) ?_
      refine g_callV0 hc hw (k_X0_isAt l D cI cZ cL a w b n q17.1 hd5 hd4 hd30 (nI i17) (1 : Int32) (nI i7) (vp_in_nI (show i17 < 30 by omega) (by omega))) gX0_giveBowls_X0_isAt rfl (by decide +kernel) ⟨Nat.le_of_ble_eq_true rfl, Nat.le_of_ble_eq_true rfl⟩ 0 rfl rfl rfl rfl (rest := []) rfl hl.1 (Nat.le_of_ble_eq_true rfl) (st1 := [.int (r_X0_isAt w b n q17.1 (nI i17) (1 : Int32) (nI i7))]) rfl dX0_giveBowls_29 (k2 := 0) (s2 := 0) rfl rfl ⟨Nat.le_of_ble_eq_true rfl, Nat.le_of_ble_eq_true rfl⟩ (fun H locs hw => ?_)
      refine lv_if_ne (tgt := 38) hx hb dX0_giveBowls_32 (by decide) (fun c1 => ?_) (fun c1 => ?_)
      · refine lv_aload_n hx hb dX0_giveBowls_38 rfl (lv_at hl 0 rfl) ?_
        refine g_get (v := .ref (a 14)) hc hw hiX0 0 14 rfl rfl (by decide) (List.mem_of_getElem? (i := 4) rfl) rfl dX0_giveBowls_39 ?_
        refine lv_iload_n hx hb dX0_giveBowls_42 rfl (lv_at hl 3 rfl) ?_
        refine lv_iload_n hx hb dX0_giveBowls_43 rfl (lv_at hl 1 rfl) ?_
        refine lv_if_ne (tgt := 51) hx hb dX0_giveBowls_44 (by decide) (fun c2 => ?_) (fun c2 => ?_)
        · refine lv_iconst (v := 0) hx hb dX0_giveBowls_51 (by decide) ?_
          refine g_zast (f := (ct_ht q17.1)) hc hw 9 rfl (vp_in_nI (show i17 < 30 by omega) (by omega)) rfl (w' := (wt_c a cI cZ w b n (cs_ht q17.1 (upd (ct_ht q17.1) (nI i17).toNatClampNeg (0 : Int32))))) rfl dX0_giveBowls_52 (fun H locs hw => ?_)
          refine lv_iload_n hx hb dX0_giveBowls_53 rfl (lv_at hl 1 rfl) ?_
          refine lv_if_ne (tgt := 70) hx hb dX0_giveBowls_54 (by decide) (fun _ => ?_) (fun z => absurd c2 z)
          refine lv_iinc (v := (q17.2 + (-1))) (lv' := [(1, .int (q17.2 + (-1))), (0, .ref (a 0)), (2, .int (nI i7)), (3, .int (nI i17))]) hx hb dX0_giveBowls_70 hl (k := 1) rfl rfl (by decide) rfl (fun ls hl => ?_)
          refine lv_iinc (v := (nI (i17 + 1))) (lv' := [(3, .int (nI (i17 + 1))), (1, .int (q17.2 + (-1))), (0, .ref (a 0)), (2, .int (nI i7))]) hx hb dX0_giveBowls_73 hl (k := 3) rfl (inc_n i17) (by decide) rfl (fun ls hl => ?_)
          refine lv_goto (tgt := 17) hx hb dX0_giveBowls_76 (by decide) ?_
          rw [show (f_X0_giveBowls_17 w b n T i7 q7) i17 q17 = ((cs_ht q17.1 (upd (ct_ht q17.1) (nI i17).toNatClampNeg (0 : Int32))), (q17.2 + (-1))) from by rw [f_X0_giveBowls_17, if_neg c1, if_neg c2]] at k17
          exact k17 H locs ls hw (lv_sub hl [2, 1, 3, 0] rfl)
        · refine lv_iconst (v := 1) hx hb dX0_giveBowls_47 (by decide) ?_
          refine lv_goto (tgt := 52) hx hb dX0_giveBowls_48 (by decide) ?_
          refine g_zast (f := (ct_ht q17.1)) hc hw 9 rfl (vp_in_nI (show i17 < 30 by omega) (by omega)) rfl (w' := (wt_c a cI cZ w b n (cs_ht q17.1 (upd (ct_ht q17.1) (nI i17).toNatClampNeg (1 : Int32))))) rfl dX0_giveBowls_52 (fun H locs hw => ?_)
          refine lv_iload_n hx hb dX0_giveBowls_53 rfl (lv_at hl 1 rfl) ?_
          refine lv_if_ne (tgt := 70) hx hb dX0_giveBowls_54 (by decide) (fun z => absurd z (fun z => z c2)) (fun _ => ?_)
          refine lv_aload_n hx hb dX0_giveBowls_57 rfl (lv_at hl 0 rfl) ?_
          refine g_get (v := .ref (a 13)) hc hw hiX0 0 13 rfl rfl (by decide) (List.mem_of_getElem? (i := 5) rfl) rfl dX0_giveBowls_58 ?_
          refine lv_iload_n hx hb dX0_giveBowls_61 rfl (lv_at hl 3 rfl) ?_
          refine lv_dup2_11 hx hb dX0_giveBowls_62 rfl rfl ?_
          refine g_iald (f := (ct_hd q17.1)) hc hw 8 rfl (vp_in_nI (show i17 < 30 by omega) (by omega)) dX0_giveBowls_63 ?_
          refine lv_iconst (v := 1) hx hb dX0_giveBowls_64 (by decide) ?_
          refine lv_iadd hx hb dX0_giveBowls_65 ?_
          refine g_iast (f := (ct_hd q17.1)) hc hw 8 rfl (vp_in_nI (show i17 < 30 by omega) (by omega)) (w' := (wt_c a cI cZ w b n (cs_ht (cs_hd q17.1 (upd (ct_hd q17.1) (nI i17).toNatClampNeg (((ct_hd q17.1) (nI i17).toNatClampNeg) + (1 : Int32)))) (upd (ct_ht q17.1) (nI i17).toNatClampNeg (1 : Int32))))) rfl dX0_giveBowls_66 (fun H locs hw => ?_)
          refine lv_goto (tgt := 73) hx hb dX0_giveBowls_67 (by decide) ?_
          refine lv_iinc (v := (nI (i17 + 1))) (lv' := [(3, .int (nI (i17 + 1))), (0, .ref (a 0)), (1, .int q17.2), (2, .int (nI i7))]) hx hb dX0_giveBowls_73 hl (k := 3) rfl (inc_n i17) (by decide) rfl (fun ls hl => ?_)
          refine lv_goto (tgt := 17) hx hb dX0_giveBowls_76 (by decide) ?_
          rw [show (f_X0_giveBowls_17 w b n T i7 q7) i17 q17 = ((cs_ht (cs_hd q17.1 (upd (ct_hd q17.1) (nI i17).toNatClampNeg (((ct_hd q17.1) (nI i17).toNatClampNeg) + (1 : Int32)))) (upd (ct_ht q17.1) (nI i17).toNatClampNeg (1 : Int32))), q17.2) from by rw [f_X0_giveBowls_17, if_neg c1, if_pos c2]] at k17
          exact k17 H locs ls hw (lv_sub hl [1, 2, 3, 0] rfl)
      · refine lv_goto (tgt := 73) hx hb dX0_giveBowls_35 (by decide) ?_
        refine lv_iinc (v := (nI (i17 + 1))) (lv' := [(3, .int (nI (i17 + 1))), (0, .ref (a 0)), (1, .int q17.2), (2, .int (nI i7))]) hx hb dX0_giveBowls_73 hl (k := 3) rfl (inc_n i17) (by decide) rfl (fun ls hl => ?_)
        refine lv_goto (tgt := 17) hx hb dX0_giveBowls_76 (by decide) ?_
        rw [show (f_X0_giveBowls_17 w b n T i7 q7) i17 q17 = (q17.1, q17.2) from by rw [f_X0_giveBowls_17, if_pos c1]] at k17
        exact k17 H locs ls hw (lv_sub hl [1, 2, 3, 0] rfl)
    · intro H locs ls hw hl
      refine lv_iload_n hx hb dX0_giveBowls_17 rfl (lv_at hl 3 rfl) ?_
      refine lv_aload_n hx hb dX0_giveBowls_18 rfl (lv_at hl 0 rfl) ?_
      refine g_get (v := .int (nI n)) hc hw hiX0 0 9 rfl rfl (by decide) (List.mem_of_getElem? (i := 3) rfl) rfl dX0_giveBowls_19 ?_
      refine lv_icmp_ge (tgt := 79) hx hb dX0_giveBowls_22 (by decide) (fun _ => ?_) (fun z => absurd (nI_le (Nat.le_refl _) (by omega)) z)
      refine lv_iinc (v := (nI (i7 + 1))) (lv' := [(2, .int (nI (i7 + 1))), (0, .ref (a 0)), (1, .int ((lpf (f_X0_giveBowls_17 w b n T i7 q7) n 0 (q7.1, q7.2)).2)), (3, .int (nI n))]) hx hb dX0_giveBowls_79 hl (k := 2) rfl (inc_n i7) (by decide) rfl (fun ls hl => ?_)
      refine lv_goto (tgt := 7) hx hb dX0_giveBowls_82 (by decide) ?_
      rw [show (f_X0_giveBowls_7 w b n T) i7 q7 = ((lpf (f_X0_giveBowls_17 w b n T i7 q7) n 0 (q7.1, q7.2)).1, (lpf (f_X0_giveBowls_17 w b n T i7 q7) n 0 (q7.1, q7.2)).2) from by rw [f_X0_giveBowls_7]] at k7
      exact k7 H locs ls hw (lv_sub hl [1, 2, 0] rfl)
  · intro H locs ls hw hl
    refine lv_iload_n hx hb dX0_giveBowls_7 rfl (lv_at hl 2 rfl) ?_
    refine lv_aload_n hx hb dX0_giveBowls_8 rfl (lv_at hl 0 rfl) ?_
    refine g_get (v := .int (nI w)) hc hw hiX0 0 3 rfl rfl (by decide) (List.mem_of_getElem? (i := 2) rfl) rfl dX0_giveBowls_9 ?_
    refine lv_icmp_ge (tgt := 85) hx hb dX0_giveBowls_12 (by decide) (fun _ => ?_) (fun z => absurd (nI_le (Nat.le_refl _) (by omega)) z)
    refine lv_aload_n hx hb dX0_giveBowls_85 rfl (lv_at hl 0 rfl) ?_
    refine lv_dup hx hb dX0_giveBowls_86 rfl ?_
    refine g_get (v := .int (ct_ea (lpf (f_X0_giveBowls_7 w b n T) w 0 (T, (ct_bo T))).1)) hc hw hiX0 0 2 rfl rfl (by decide) (List.mem_of_getElem? (i := 6) rfl) rfl dX0_giveBowls_87 ?_
    refine lv_aload_n hx hb dX0_giveBowls_90 rfl (lv_at hl 0 rfl) ?_
    refine g_get (v := .int (ct_bo (lpf (f_X0_giveBowls_7 w b n T) w 0 (T, (ct_bo T))).1)) hc hw hiX0 0 1 rfl rfl (by decide) (List.mem_of_getElem? (i := 1) rfl) rfl dX0_giveBowls_91 ?_
    refine lv_iload_n hx hb dX0_giveBowls_94 rfl (lv_at hl 1 rfl) ?_
    refine lv_isub hx hb dX0_giveBowls_95 ?_
    refine lv_iadd hx hb dX0_giveBowls_96 ?_
    refine g_put hc hw hiX0 tyX0 tyX0_ok nmX0 0 2 rfl rfl (by decide) (List.mem_of_getElem? (i := 6) rfl) (by decide) rfl rfl (Nat.le_of_ble_eq_true rfl) (w' := (wt_c a cI cZ w b n (cs_ea (lpf (f_X0_giveBowls_7 w b n T) w 0 (T, (ct_bo T))).1 ((ct_ea (lpf (f_X0_giveBowls_7 w b n T) w 0 (T, (ct_bo T))).1) + ((ct_bo (lpf (f_X0_giveBowls_7 w b n T) w 0 (T, (ct_bo T))).1) - (lpf (f_X0_giveBowls_7 w b n T) w 0 (T, (ct_bo T))).2))))) rfl dX0_giveBowls_97 (fun H locs hw => ?_)
    rw [show s_X0_giveBowls w b n T = (cs_ea (lpf (f_X0_giveBowls_7 w b n T) w 0 (T, (ct_bo T))).1 ((ct_ea (lpf (f_X0_giveBowls_7 w b n T) w 0 (T, (ct_bo T))).1) + ((ct_bo (lpf (f_X0_giveBowls_7 w b n T) w 0 (T, (ct_bo T))).1) - (lpf (f_X0_giveBowls_7 w b n T) w 0 (T, (ct_bo T))).2))) from by rw [s_X0_giveBowls]]
    exact g_vret hc hw rfl (Nat.le_of_ble_eq_true rfl) (Nat.le_of_ble_eq_true rfl) dX0_giveBowls_100

def f_X0_changeFeversInWards_28 (w : Nat) (b : Nat) (n : Nat) (T : ct_T) (i2 : Nat) (q2 : ct_T) (i28 : Nat) (q28 : ct_T) : ct_T := if (r_X0_isAt w b n q28 (nI i28) (1 : Int32) (nI i2)) = (0 : Int32) then (q28) else (if (if ((ct_st q2) (nI i2).toNatClampNeg) < (5 : Int32) then (0 : Int32) else (1 : Int32)) = (0 : Int32) then (if ((ct_ht q28) (nI i28).toNatClampNeg) = (0 : Int32) then ((cs_fe q28 (upd (ct_fe q28) (nI i28).toNatClampNeg (if (0 : Int32) < (((ct_fe q28) (nI i28).toNatClampNeg) - (1 : Int32)) then (((ct_fe q28) (nI i28).toNatClampNeg) - (1 : Int32)) else (0 : Int32))))) else ((s_X0_raiseFever w b n q28 (nI i28)))) else ((s_X0_raiseFever w b n q28 (nI i28))))
def f_X0_changeFeversInWards_2 (w : Nat) (b : Nat) (n : Nat) (T : ct_T) (i2 : Nat) (q2 : ct_T) : ct_T := ((lpf (f_X0_changeFeversInWards_28 w b n T i2 q2) n 0 (q2)))
def s_X0_changeFeversInWards (w : Nat) (b : Nat) (n : Nat) (T : ct_T) : ct_T := (lpf (f_X0_changeFeversInWards_2 w b n T) w 0 (T))
abbrev rm_X0_changeFeversInWards : Room := { frames := 2, cells := 0, slots := 0, locals := 42 }
set_option maxHeartbeats 4000000 in
set_option maxRecDepth 100000 in
theorem k_X0_changeFeversInWards (l : Launch) (D : va_G) (cI cZ cL : ClassId) (a : Nat → Nat) (w : Nat) (b : Nat) (n : Nat) (T : ct_T) (hd5 : w ≤ 5) (hd4 : b ≤ 4) (hd30 : n ≤ 30)   : MX l yX0_changeFeversInWards wsX0_changeFeversInWards rm_X0_changeFeversInWards D cI cZ cL [.ref (a 0)] (wt_c a cI cZ w b n T) none (wt_c a cI cZ w b n (s_X0_changeFeversInWards w b n T)) := by
  refine MX.of (own := RX0) (cc := cX0_changeFeversInWards) (maxL := 4) (ret := none) (lv0 := [(0, .ref (a 0))]) (by decide) rfl rfl (Nat.le_of_ble_eq_true rfl) rfl ?_
  intro p e s m args below meth c A hc hnm hw ls hl
  obtain ⟨hx, hb, hr, hml, hown, hts, hlk, hK, hA⟩ := id hc
  have hiX0 : ∀ w ∈ u_ws RX0 TX0 16, w ∈ wsX0_changeFeversInWards := fun _ h => List.mem_cons_of_mem _ (List.mem_append_right _ h)
  refine lv_iconst (v := 0) hx hb dX0_changeFeversInWards_0 (by decide) ?_
  refine lv_istore_n (lv' := [(1, .int (0 : Int32)), (0, .ref (a 0))]) hx hb dX0_changeFeversInWards_1 rfl hl (by decide) rfl (fun ls hl => ?_)
  refine lp_go (fun (i2 : Nat) (q2 : ct_T) => ∀ (H : Heap) (locs : List Loc) (ls : Array Slot), Wo D A s.heap (wt_c a cI cZ w b n q2) H locs → lv_has ls 4 [(0, .ref (a 0)), (1, .int (nI i2))] → W p l e rm_X0_changeFeversInWards s m args below meth c H locs 0 0 (QE below args s D A none (wt_c a cI cZ w b n (s_X0_changeFeversInWards w b n T)) rm_X0_changeFeversInWards) (F0 m 2 ls [])) (f_X0_changeFeversInWards_2 w b n T) w (T) ?_ ?_ s.heap [] ls hw (lv_sub hl [1, 0] rfl)
  · intro i2 q2 hi2 k2 H locs ls hw hl
    refine lv_iload_n hx hb dX0_changeFeversInWards_2 rfl (lv_at hl 1 rfl) ?_
    refine lv_aload_n hx hb dX0_changeFeversInWards_3 rfl (lv_at hl 0 rfl) ?_
    refine g_get (v := .int (nI w)) hc hw hiX0 0 3 rfl rfl (by decide) (List.mem_of_getElem? (i := 1) rfl) rfl dX0_changeFeversInWards_4 ?_
    refine lv_icmp_ge (tgt := 100) hx hb dX0_changeFeversInWards_7 (by decide) (fun z => absurd z (nI_ge hi2 (by omega))) (fun _ => ?_)
    refine lv_aload_n hx hb dX0_changeFeversInWards_10 rfl (lv_at hl 0 rfl) ?_
    refine g_get (v := .ref (a 5)) hc hw hiX0 0 5 rfl rfl (by decide) (List.mem_of_getElem? (i := 2) rfl) rfl dX0_changeFeversInWards_11 ?_
    refine lv_iload_n hx hb dX0_changeFeversInWards_14 rfl (lv_at hl 1 rfl) ?_
    refine g_iald (f := (ct_st q2)) hc hw 2 rfl (vp_in_nI (show i2 < 5 by omega) (by omega)) dX0_changeFeversInWards_15 ?_
    refine lv_iconst (v := 5) hx hb dX0_changeFeversInWards_16 (by decide) ?_
    have J2 : ∀ vJ2 : Int32, vJ2 = (if ((ct_st q2) (nI i2).toNatClampNeg) < (5 : Int32) then (0 : Int32) else (1 : Int32)) → W p l e rm_X0_changeFeversInWards s m args below meth c H locs 0 0 (QE below args s D A none (wt_c a cI cZ w b n (s_X0_changeFeversInWards w b n T)) rm_X0_changeFeversInWards) (F0 m 25 ls [.int vJ2]) := by
      intro vJ2 hvJ2
      subst hvJ2
      refine lv_istore_n (lv' := [(2, .int (if ((ct_st q2) (nI i2).toNatClampNeg) < (5 : Int32) then (0 : Int32) else (1 : Int32))), (0, .ref (a 0)), (1, .int (nI i2))]) hx hb dX0_changeFeversInWards_25 rfl hl (by decide) rfl (fun ls hl => ?_)
      refine lv_iconst (v := 0) hx hb dX0_changeFeversInWards_26 (by decide) ?_
      refine lv_istore_n (lv' := [(3, .int (0 : Int32)), (2, .int (if ((ct_st q2) (nI i2).toNatClampNeg) < (5 : Int32) then (0 : Int32) else (1 : Int32))), (0, .ref (a 0)), (1, .int (nI i2))]) hx hb dX0_changeFeversInWards_27 rfl hl (by decide) rfl (fun ls hl => ?_)
      refine lp_go (fun (i28 : Nat) (q28 : ct_T) => ∀ (H : Heap) (locs : List Loc) (ls : Array Slot), Wo D A s.heap (wt_c a cI cZ w b n q28) H locs → lv_has ls 4 [(0, .ref (a 0)), (1, .int (nI i2)), (2, .int (if ((ct_st q2) (nI i2).toNatClampNeg) < (5 : Int32) then (0 : Int32) else (1 : Int32))), (3, .int (nI i28))] → W p l e rm_X0_changeFeversInWards s m args below meth c H locs 0 0 (QE below args s D A none (wt_c a cI cZ w b n (s_X0_changeFeversInWards w b n T)) rm_X0_changeFeversInWards) (F0 m 28 ls [])) (f_X0_changeFeversInWards_28 w b n T i2 q2) n (q2) ?_ ?_ H locs ls hw (lv_sub hl [2, 3, 1, 0] rfl)
      · intro i28 q28 hi28 k28 H locs ls hw hl
        refine lv_iload_n hx hb dX0_changeFeversInWards_28 rfl (lv_at hl 3 rfl) ?_
        refine lv_aload_n hx hb dX0_changeFeversInWards_29 rfl (lv_at hl 0 rfl) ?_
        refine g_get (v := .int (nI n)) hc hw hiX0 0 9 rfl rfl (by decide) (List.mem_of_getElem? (i := 3) rfl) rfl dX0_changeFeversInWards_30 ?_
        refine lv_icmp_ge (tgt := 94) hx hb dX0_changeFeversInWards_33 (by decide) (fun z => absurd z (nI_ge hi28 (by omega))) (fun _ => ?_)
        refine lv_aload_n hx hb dX0_changeFeversInWards_36 rfl (lv_at hl 0 rfl) ?_
        refine lv_iload_n hx hb dX0_changeFeversInWards_37 rfl (lv_at hl 3 rfl) ?_
        refine lv_iconst (v := 1) hx hb dX0_changeFeversInWards_38 (by decide) ?_
        refine lv_iload_n hx hb dX0_changeFeversInWards_39 rfl (lv_at hl 1 rfl) ?_
        refine g_callV0 hc hw (k_X0_isAt l D cI cZ cL a w b n q28 hd5 hd4 hd30 (nI i28) (1 : Int32) (nI i2) (vp_in_nI (show i28 < 30 by omega) (by omega))) gX0_changeFeversInWards_X0_isAt rfl (by decide +kernel) ⟨Nat.le_of_ble_eq_true rfl, Nat.le_of_ble_eq_true rfl⟩ 0 rfl rfl rfl rfl (rest := []) rfl hl.1 (Nat.le_of_ble_eq_true rfl) (st1 := [.int (r_X0_isAt w b n q28 (nI i28) (1 : Int32) (nI i2))]) rfl dX0_changeFeversInWards_40 (k2 := 0) (s2 := 0) rfl rfl ⟨Nat.le_of_ble_eq_true rfl, Nat.le_of_ble_eq_true rfl⟩ (fun H locs hw => ?_)
        refine lv_if_ne (tgt := 49) hx hb dX0_changeFeversInWards_43 (by decide) (fun c3 => ?_) (fun c3 => ?_)
        · refine lv_iload_n hx hb dX0_changeFeversInWards_49 rfl (lv_at hl 2 rfl) ?_
          refine lv_if_ne (tgt := 62) hx hb dX0_changeFeversInWards_50 (by decide) (fun c4 => ?_) (fun c4 => ?_)
          · refine lv_aload_n hx hb dX0_changeFeversInWards_62 rfl (lv_at hl 0 rfl) ?_
            refine lv_iload_n hx hb dX0_changeFeversInWards_63 rfl (lv_at hl 3 rfl) ?_
            refine g_callV0 hc hw (k_X0_raiseFever l D cI cZ cL a w b n q28 hd5 hd4 hd30 (nI i28) (vp_in_nI (show i28 < 30 by omega) (by omega))) gX0_changeFeversInWards_X0_raiseFever rfl (by decide +kernel) ⟨Nat.le_of_ble_eq_true rfl, Nat.le_of_ble_eq_true rfl⟩ 0 rfl rfl rfl rfl (rest := []) rfl hl.1 (Nat.le_of_ble_eq_true rfl) (st1 := []) rfl dX0_changeFeversInWards_64 (k2 := 0) (s2 := 0) rfl rfl ⟨Nat.le_of_ble_eq_true rfl, Nat.le_of_ble_eq_true rfl⟩ (fun H locs hw => ?_)
            refine lv_goto (tgt := 88) hx hb dX0_changeFeversInWards_67 (by decide) ?_
            refine lv_iinc (v := (nI (i28 + 1))) (lv' := [(3, .int (nI (i28 + 1))), (0, .ref (a 0)), (1, .int (nI i2)), (2, .int (if ((ct_st q2) (nI i2).toNatClampNeg) < (5 : Int32) then (0 : Int32) else (1 : Int32)))]) hx hb dX0_changeFeversInWards_88 hl (k := 3) rfl (inc_n i28) (by decide) rfl (fun ls hl => ?_)
            refine lv_goto (tgt := 28) hx hb dX0_changeFeversInWards_91 (by decide) ?_
            rw [show (f_X0_changeFeversInWards_28 w b n T i2 q2) i28 q28 = ((s_X0_raiseFever w b n q28 (nI i28))) from by rw [f_X0_changeFeversInWards_28, if_neg c3, if_neg c4]] at k28
            exact k28 H locs ls hw (lv_sub hl [1, 2, 3, 0] rfl)
          · refine lv_aload_n hx hb dX0_changeFeversInWards_53 rfl (lv_at hl 0 rfl) ?_
            refine g_get (v := .ref (a 14)) hc hw hiX0 0 14 rfl rfl (by decide) (List.mem_of_getElem? (i := 4) rfl) rfl dX0_changeFeversInWards_54 ?_
            refine lv_iload_n hx hb dX0_changeFeversInWards_57 rfl (lv_at hl 3 rfl) ?_
            refine g_zald (f := (ct_ht q28)) hc hw 9 rfl (vp_in_nI (show i28 < 30 by omega) (by omega)) dX0_changeFeversInWards_58 ?_
            refine lv_if_eq (tgt := 70) hx hb dX0_changeFeversInWards_59 (by decide) (fun c5 => ?_) (fun c5 => ?_)
            · refine lv_aload_n hx hb dX0_changeFeversInWards_70 rfl (lv_at hl 0 rfl) ?_
              refine g_get (v := .ref (a 10)) hc hw hiX0 0 10 rfl rfl (by decide) (List.mem_of_getElem? (i := 5) rfl) rfl dX0_changeFeversInWards_71 ?_
              refine lv_iload_n hx hb dX0_changeFeversInWards_74 rfl (lv_at hl 3 rfl) ?_
              refine lv_iconst (v := 0) hx hb dX0_changeFeversInWards_75 (by decide) ?_
              refine lv_aload_n hx hb dX0_changeFeversInWards_76 rfl (lv_at hl 0 rfl) ?_
              refine g_get (v := .ref (a 10)) hc hw hiX0 0 10 rfl rfl (by decide) (List.mem_of_getElem? (i := 5) rfl) rfl dX0_changeFeversInWards_77 ?_
              refine lv_iload_n hx hb dX0_changeFeversInWards_80 rfl (lv_at hl 3 rfl) ?_
              refine g_iald (f := (ct_fe q28)) hc hw 5 rfl (vp_in_nI (show i28 < 30 by omega) (by omega)) dX0_changeFeversInWards_81 ?_
              refine lv_iconst (v := 1) hx hb dX0_changeFeversInWards_82 (by decide) ?_
              refine lv_isub hx hb dX0_changeFeversInWards_83 ?_
              refine g_mmax hc hl.1 (List.mem_of_getElem? (i := 6) rfl) (List.mem_of_getElem? (i := 7) rfl) (List.mem_of_getElem? (i := 8) rfl) (List.mem_of_getElem? (i := 9) rfl) (Nat.le_of_ble_eq_true rfl) (Nat.le_of_ble_eq_true rfl) (Nat.le_of_ble_eq_true rfl) (Nat.le_of_ble_eq_true rfl) dX0_changeFeversInWards_84 ?_
              refine g_iast (f := (ct_fe q28)) hc hw 5 rfl (vp_in_nI (show i28 < 30 by omega) (by omega)) (w' := (wt_c a cI cZ w b n (cs_fe q28 (upd (ct_fe q28) (nI i28).toNatClampNeg (if (0 : Int32) < (((ct_fe q28) (nI i28).toNatClampNeg) - (1 : Int32)) then (((ct_fe q28) (nI i28).toNatClampNeg) - (1 : Int32)) else (0 : Int32)))))) rfl dX0_changeFeversInWards_87 (fun H locs hw => ?_)
              refine lv_iinc (v := (nI (i28 + 1))) (lv' := [(3, .int (nI (i28 + 1))), (0, .ref (a 0)), (1, .int (nI i2)), (2, .int (if ((ct_st q2) (nI i2).toNatClampNeg) < (5 : Int32) then (0 : Int32) else (1 : Int32)))]) hx hb dX0_changeFeversInWards_88 hl (k := 3) rfl (inc_n i28) (by decide) rfl (fun ls hl => ?_)
              refine lv_goto (tgt := 28) hx hb dX0_changeFeversInWards_91 (by decide) ?_
              rw [show (f_X0_changeFeversInWards_28 w b n T i2 q2) i28 q28 = ((cs_fe q28 (upd (ct_fe q28) (nI i28).toNatClampNeg (if (0 : Int32) < (((ct_fe q28) (nI i28).toNatClampNeg) - (1 : Int32)) then (((ct_fe q28) (nI i28).toNatClampNeg) - (1 : Int32)) else (0 : Int32))))) from by rw [f_X0_changeFeversInWards_28, if_neg c3, if_pos c4, if_pos c5]] at k28
              exact k28 H locs ls hw (lv_sub hl [1, 2, 3, 0] rfl)
            · refine lv_aload_n hx hb dX0_changeFeversInWards_62 rfl (lv_at hl 0 rfl) ?_
              refine lv_iload_n hx hb dX0_changeFeversInWards_63 rfl (lv_at hl 3 rfl) ?_
              refine g_callV0 hc hw (k_X0_raiseFever l D cI cZ cL a w b n q28 hd5 hd4 hd30 (nI i28) (vp_in_nI (show i28 < 30 by omega) (by omega))) gX0_changeFeversInWards_X0_raiseFever rfl (by decide +kernel) ⟨Nat.le_of_ble_eq_true rfl, Nat.le_of_ble_eq_true rfl⟩ 0 rfl rfl rfl rfl (rest := []) rfl hl.1 (Nat.le_of_ble_eq_true rfl) (st1 := []) rfl dX0_changeFeversInWards_64 (k2 := 0) (s2 := 0) rfl rfl ⟨Nat.le_of_ble_eq_true rfl, Nat.le_of_ble_eq_true rfl⟩ (fun H locs hw => ?_)
              refine lv_goto (tgt := 88) hx hb dX0_changeFeversInWards_67 (by decide) ?_
              refine lv_iinc (v := (nI (i28 + 1))) (lv' := [(3, .int (nI (i28 + 1))), (0, .ref (a 0)), (1, .int (nI i2)), (2, .int (if ((ct_st q2) (nI i2).toNatClampNeg) < (5 : Int32) then (0 : Int32) else (1 : Int32)))]) hx hb dX0_changeFeversInWards_88 hl (k := 3) rfl (inc_n i28) (by decide) rfl (fun ls hl => ?_)
              refine lv_goto (tgt := 28) hx hb dX0_changeFeversInWards_91 (by decide) ?_
              rw [show (f_X0_changeFeversInWards_28 w b n T i2 q2) i28 q28 = ((s_X0_raiseFever w b n q28 (nI i28))) from by rw [f_X0_changeFeversInWards_28, if_neg c3, if_pos c4, if_neg c5]] at k28
              exact k28 H locs ls hw (lv_sub hl [1, 2, 3, 0] rfl)
        · refine lv_goto (tgt := 88) hx hb dX0_changeFeversInWards_46 (by decide) ?_
          refine lv_iinc (v := (nI (i28 + 1))) (lv' := [(3, .int (nI (i28 + 1))), (0, .ref (a 0)), (1, .int (nI i2)), (2, .int (if ((ct_st q2) (nI i2).toNatClampNeg) < (5 : Int32) then (0 : Int32) else (1 : Int32)))]) hx hb dX0_changeFeversInWards_88 hl (k := 3) rfl (inc_n i28) (by decide) rfl (fun ls hl => ?_)
          refine lv_goto (tgt := 28) hx hb dX0_changeFeversInWards_91 (by decide) ?_
          rw [show (f_X0_changeFeversInWards_28 w b n T i2 q2) i28 q28 = (q28) from by rw [f_X0_changeFeversInWards_28, if_pos c3]] at k28
          exact k28 H locs ls hw (lv_sub hl [1, 2, 3, 0] rfl)
      · intro H locs ls hw hl
        refine lv_iload_n hx hb dX0_changeFeversInWards_28 rfl (lv_at hl 3 rfl) ?_
        refine lv_aload_n hx hb dX0_changeFeversInWards_29 rfl (lv_at hl 0 rfl) ?_
        refine g_get (v := .int (nI n)) hc hw hiX0 0 9 rfl rfl (by decide) (List.mem_of_getElem? (i := 3) rfl) rfl dX0_changeFeversInWards_30 ?_
        refine lv_icmp_ge (tgt := 94) hx hb dX0_changeFeversInWards_33 (by decide) (fun _ => ?_) (fun z => absurd (nI_le (Nat.le_refl _) (by omega)) z)
        refine lv_iinc (v := (nI (i2 + 1))) (lv' := [(1, .int (nI (i2 + 1))), (0, .ref (a 0)), (2, .int (if ((ct_st q2) (nI i2).toNatClampNeg) < (5 : Int32) then (0 : Int32) else (1 : Int32))), (3, .int (nI n))]) hx hb dX0_changeFeversInWards_94 hl (k := 1) rfl (inc_n i2) (by decide) rfl (fun ls hl => ?_)
        refine lv_goto (tgt := 2) hx hb dX0_changeFeversInWards_97 (by decide) ?_
        rw [show (f_X0_changeFeversInWards_2 w b n T) i2 q2 = ((lpf (f_X0_changeFeversInWards_28 w b n T i2 q2) n 0 (q2))) from by rw [f_X0_changeFeversInWards_2]] at k2
        exact k2 H locs ls hw (lv_sub hl [1, 0] rfl)
    refine lv_icmp_lt (tgt := 24) hx hb dX0_changeFeversInWards_17 (by decide) (fun c1 => ?_) (fun c1 => ?_)
    · refine lv_iconst (v := 0) hx hb dX0_changeFeversInWards_24 (by decide) ?_
      exact J2 _ (by rw [if_pos c1])
    · refine lv_iconst (v := 1) hx hb dX0_changeFeversInWards_20 (by decide) ?_
      refine lv_goto (tgt := 25) hx hb dX0_changeFeversInWards_21 (by decide) ?_
      exact J2 _ (by rw [if_neg c1])
  · intro H locs ls hw hl
    refine lv_iload_n hx hb dX0_changeFeversInWards_2 rfl (lv_at hl 1 rfl) ?_
    refine lv_aload_n hx hb dX0_changeFeversInWards_3 rfl (lv_at hl 0 rfl) ?_
    refine g_get (v := .int (nI w)) hc hw hiX0 0 3 rfl rfl (by decide) (List.mem_of_getElem? (i := 1) rfl) rfl dX0_changeFeversInWards_4 ?_
    refine lv_icmp_ge (tgt := 100) hx hb dX0_changeFeversInWards_7 (by decide) (fun _ => ?_) (fun z => absurd (nI_le (Nat.le_refl _) (by omega)) z)
    rw [show s_X0_changeFeversInWards w b n T = (lpf (f_X0_changeFeversInWards_2 w b n T) w 0 (T)) from by rw [s_X0_changeFeversInWards]]
    exact g_vret hc hw rfl (Nat.le_of_ble_eq_true rfl) (Nat.le_of_ble_eq_true rfl) dX0_changeFeversInWards_100

def f_X0_countFeverish_4 (w : Nat) (b : Nat) (n : Nat) (T : ct_T) (x1 : Int32) (i4 : Nat) (q4 : Int32) : Int32 := if (r_X0_isAt w b n T (nI i4) (0 : Int32) x1) = (0 : Int32) then (q4) else (if ((ct_fe T) (nI i4).toNatClampNeg) ≤ (0 : Int32) then (q4) else ((q4 + 1)))
def r_X0_countFeverish (w : Nat) (b : Nat) (n : Nat) (T : ct_T) (x1 : Int32) : Int32 := (lpf (f_X0_countFeverish_4 w b n T x1) n 0 ((0 : Int32)))
abbrev rm_X0_countFeverish : Room := { frames := 1, cells := 0, slots := 0, locals := 23 }
set_option maxHeartbeats 4000000 in
set_option maxRecDepth 100000 in
theorem k_X0_countFeverish (l : Launch) (D : va_G) (cI cZ cL : ClassId) (a : Nat → Nat) (w : Nat) (b : Nat) (n : Nat) (T : ct_T) (hd5 : w ≤ 5) (hd4 : b ≤ 4) (hd30 : n ≤ 30) (x1 : Int32)  : MX l yX0_countFeverish wsX0_countFeverish rm_X0_countFeverish D cI cZ cL [.ref (a 0), .int x1] (wt_c a cI cZ w b n T) (some (.int (r_X0_countFeverish w b n T x1))) (wt_c a cI cZ w b n T) := by
  refine MX.of (own := RX0) (cc := cX0_countFeverish) (maxL := 4) (ret := (some .int)) (lv0 := [(0, .ref (a 0)), (1, .int x1)]) (by decide) rfl rfl (Nat.le_of_ble_eq_true rfl) rfl ?_
  intro p e s m args below meth c A hc hnm hw ls hl
  obtain ⟨hx, hb, hr, hml, hown, hts, hlk, hK, hA⟩ := id hc
  have hiX0 : ∀ w ∈ u_ws RX0 TX0 16, w ∈ wsX0_countFeverish := fun _ h => List.mem_cons_of_mem _ (List.mem_append_right _ h)
  refine lv_iconst (v := 0) hx hb dX0_countFeverish_0 (by decide) ?_
  refine lv_istore_n (lv' := [(2, .int (0 : Int32)), (0, .ref (a 0)), (1, .int x1)]) hx hb dX0_countFeverish_1 rfl hl (by decide) rfl (fun ls hl => ?_)
  refine lv_iconst (v := 0) hx hb dX0_countFeverish_2 (by decide) ?_
  refine lv_istore_n (lv' := [(3, .int (0 : Int32)), (2, .int (0 : Int32)), (0, .ref (a 0)), (1, .int x1)]) hx hb dX0_countFeverish_3 rfl hl (by decide) rfl (fun ls hl => ?_)
  refine lp_go (fun (i4 : Nat) (q4 : Int32) => ∀ (H : Heap) (locs : List Loc) (ls : Array Slot), Wo D A s.heap (wt_c a cI cZ w b n T) H locs → lv_has ls 4 [(0, .ref (a 0)), (1, .int x1), (2, .int q4), (3, .int (nI i4))] → W p l e rm_X0_countFeverish s m args below meth c H locs 0 0 (QE below args s D A (some (.int (r_X0_countFeverish w b n T x1))) (wt_c a cI cZ w b n T) rm_X0_countFeverish) (F0 m 4 ls [])) (f_X0_countFeverish_4 w b n T x1) n ((0 : Int32)) ?_ ?_ s.heap [] ls hw (lv_sub hl [2, 3, 1, 0] rfl)
  · intro i4 q4 hi4 k4 H locs ls hw hl
    refine lv_iload_n hx hb dX0_countFeverish_4 rfl (lv_at hl 3 rfl) ?_
    refine lv_aload_n hx hb dX0_countFeverish_5 rfl (lv_at hl 0 rfl) ?_
    refine g_get (v := .int (nI n)) hc hw hiX0 0 9 rfl rfl (by decide) (List.mem_of_getElem? (i := 1) rfl) rfl dX0_countFeverish_6 ?_
    refine lv_icmp_ge (tgt := 40) hx hb dX0_countFeverish_9 (by decide) (fun z => absurd z (nI_ge hi4 (by omega))) (fun _ => ?_)
    refine lv_aload_n hx hb dX0_countFeverish_12 rfl (lv_at hl 0 rfl) ?_
    refine lv_iload_n hx hb dX0_countFeverish_13 rfl (lv_at hl 3 rfl) ?_
    refine lv_iconst (v := 0) hx hb dX0_countFeverish_14 (by decide) ?_
    refine lv_iload_n hx hb dX0_countFeverish_15 rfl (lv_at hl 1 rfl) ?_
    refine g_callV0 hc hw (k_X0_isAt l D cI cZ cL a w b n T hd5 hd4 hd30 (nI i4) (0 : Int32) x1 (vp_in_nI (show i4 < 30 by omega) (by omega))) gX0_countFeverish_X0_isAt rfl (by decide +kernel) ⟨Nat.le_of_ble_eq_true rfl, Nat.le_of_ble_eq_true rfl⟩ 0 rfl rfl rfl rfl (rest := []) rfl hl.1 (Nat.le_of_ble_eq_true rfl) (st1 := [.int (r_X0_isAt w b n T (nI i4) (0 : Int32) x1)]) rfl dX0_countFeverish_16 (k2 := 0) (s2 := 0) rfl rfl ⟨Nat.le_of_ble_eq_true rfl, Nat.le_of_ble_eq_true rfl⟩ (fun H locs hw => ?_)
    refine lv_if_eq (tgt := 34) hx hb dX0_countFeverish_19 (by decide) (fun c1 => ?_) (fun c1 => ?_)
    · refine lv_iinc (v := (nI (i4 + 1))) (lv' := [(3, .int (nI (i4 + 1))), (0, .ref (a 0)), (1, .int x1), (2, .int q4)]) hx hb dX0_countFeverish_34 hl (k := 3) rfl (inc_n i4) (by decide) rfl (fun ls hl => ?_)
      refine lv_goto (tgt := 4) hx hb dX0_countFeverish_37 (by decide) ?_
      rw [show (f_X0_countFeverish_4 w b n T x1) i4 q4 = (q4) from by rw [f_X0_countFeverish_4, if_pos c1]] at k4
      exact k4 H locs ls hw (lv_sub hl [1, 2, 3, 0] rfl)
    · refine lv_aload_n hx hb dX0_countFeverish_22 rfl (lv_at hl 0 rfl) ?_
      refine g_get (v := .ref (a 10)) hc hw hiX0 0 10 rfl rfl (by decide) (List.mem_of_getElem? (i := 2) rfl) rfl dX0_countFeverish_23 ?_
      refine lv_iload_n hx hb dX0_countFeverish_26 rfl (lv_at hl 3 rfl) ?_
      refine g_iald (f := (ct_fe T)) hc hw 5 rfl (vp_in_nI (show i4 < 30 by omega) (by omega)) dX0_countFeverish_27 ?_
      refine lv_if_le (tgt := 34) hx hb dX0_countFeverish_28 (by decide) (fun c2 => ?_) (fun c2 => ?_)
      · refine lv_iinc (v := (nI (i4 + 1))) (lv' := [(3, .int (nI (i4 + 1))), (0, .ref (a 0)), (1, .int x1), (2, .int q4)]) hx hb dX0_countFeverish_34 hl (k := 3) rfl (inc_n i4) (by decide) rfl (fun ls hl => ?_)
        refine lv_goto (tgt := 4) hx hb dX0_countFeverish_37 (by decide) ?_
        rw [show (f_X0_countFeverish_4 w b n T x1) i4 q4 = (q4) from by rw [f_X0_countFeverish_4, if_neg c1, if_pos c2]] at k4
        exact k4 H locs ls hw (lv_sub hl [1, 2, 3, 0] rfl)
      · refine lv_iinc (v := (q4 + 1)) (lv' := [(2, .int (q4 + 1)), (0, .ref (a 0)), (1, .int x1), (3, .int (nI i4))]) hx hb dX0_countFeverish_31 hl (k := 2) rfl rfl (by decide) rfl (fun ls hl => ?_)
        refine lv_iinc (v := (nI (i4 + 1))) (lv' := [(3, .int (nI (i4 + 1))), (2, .int (q4 + 1)), (0, .ref (a 0)), (1, .int x1)]) hx hb dX0_countFeverish_34 hl (k := 3) rfl (inc_n i4) (by decide) rfl (fun ls hl => ?_)
        refine lv_goto (tgt := 4) hx hb dX0_countFeverish_37 (by decide) ?_
        rw [show (f_X0_countFeverish_4 w b n T x1) i4 q4 = ((q4 + 1)) from by rw [f_X0_countFeverish_4, if_neg c1, if_neg c2]] at k4
        exact k4 H locs ls hw (lv_sub hl [2, 3, 1, 0] rfl)
  · intro H locs ls hw hl
    refine lv_iload_n hx hb dX0_countFeverish_4 rfl (lv_at hl 3 rfl) ?_
    refine lv_aload_n hx hb dX0_countFeverish_5 rfl (lv_at hl 0 rfl) ?_
    refine g_get (v := .int (nI n)) hc hw hiX0 0 9 rfl rfl (by decide) (List.mem_of_getElem? (i := 1) rfl) rfl dX0_countFeverish_6 ?_
    refine lv_icmp_ge (tgt := 40) hx hb dX0_countFeverish_9 (by decide) (fun _ => ?_) (fun z => absurd (nI_le (Nat.le_refl _) (by omega)) z)
    refine lv_iload_n hx hb dX0_countFeverish_40 rfl (lv_at hl 2 rfl) ?_
    rw [show r_X0_countFeverish w b n T x1 = (lpf (f_X0_countFeverish_4 w b n T x1) n 0 ((0 : Int32))) from by rw [r_X0_countFeverish]]
    exact g_ret hc hw rfl (Nat.le_of_ble_eq_true rfl) (Nat.le_of_ble_eq_true rfl) dX0_countFeverish_41

def f_X0_spreadFever_8 (w : Nat) (b : Nat) (n : Nat) (T : ct_T) (x1 : Int32) (i8 : Nat) (q8 : ct_T) : ct_T := if (r_X0_isAt w b n q8 (nI i8) (0 : Int32) x1) = (0 : Int32) then (q8) else (if (if ((ct_fe q8) (nI i8).toNatClampNeg) ≤ (0 : Int32) then (r_X0_countFeverish w b n T x1) else ((r_X0_countFeverish w b n T x1) - (1 : Int32))) ≤ (0 : Int32) then (q8) else ((s_X0_raiseFever w b n q8 (nI i8))))
def s_X0_spreadFever (w : Nat) (b : Nat) (n : Nat) (T : ct_T) (x1 : Int32) : ct_T := (lpf (f_X0_spreadFever_8 w b n T x1) n 0 (T))
abbrev rm_X0_spreadFever : Room := { frames := 2, cells := 0, slots := 0, locals := 46 }
set_option maxHeartbeats 4000000 in
set_option maxRecDepth 100000 in
theorem k_X0_spreadFever (l : Launch) (D : va_G) (cI cZ cL : ClassId) (a : Nat → Nat) (w : Nat) (b : Nat) (n : Nat) (T : ct_T) (hd5 : w ≤ 5) (hd4 : b ≤ 4) (hd30 : n ≤ 30) (x1 : Int32)  : MX l yX0_spreadFever wsX0_spreadFever rm_X0_spreadFever D cI cZ cL [.ref (a 0), .int x1] (wt_c a cI cZ w b n T) none (wt_c a cI cZ w b n (s_X0_spreadFever w b n T x1)) := by
  refine MX.of (own := RX0) (cc := cX0_spreadFever) (maxL := 5) (ret := none) (lv0 := [(0, .ref (a 0)), (1, .int x1)]) (by decide) rfl rfl (Nat.le_of_ble_eq_true rfl) rfl ?_
  intro p e s m args below meth c A hc hnm hw ls hl
  obtain ⟨hx, hb, hr, hml, hown, hts, hlk, hK, hA⟩ := id hc
  have hiX0 : ∀ w ∈ u_ws RX0 TX0 16, w ∈ wsX0_spreadFever := fun _ h => List.mem_cons_of_mem _ (List.mem_append_right _ h)
  refine lv_aload_n hx hb dX0_spreadFever_0 rfl (lv_at hl 0 rfl) ?_
  refine lv_iload_n hx hb dX0_spreadFever_1 rfl (lv_at hl 1 rfl) ?_
  refine g_callV0 hc hw (k_X0_countFeverish l D cI cZ cL a w b n T hd5 hd4 hd30 x1) gX0_spreadFever_X0_countFeverish rfl (by decide +kernel) ⟨Nat.le_of_ble_eq_true rfl, Nat.le_of_ble_eq_true rfl⟩ 0 rfl rfl rfl rfl (rest := []) rfl hl.1 (Nat.le_of_ble_eq_true rfl) (st1 := [.int (r_X0_countFeverish w b n T x1)]) rfl dX0_spreadFever_2 (k2 := 0) (s2 := 0) rfl rfl ⟨Nat.le_of_ble_eq_true rfl, Nat.le_of_ble_eq_true rfl⟩ (fun H locs hw => ?_)
  refine lv_istore_n (lv' := [(2, .int (r_X0_countFeverish w b n T x1)), (0, .ref (a 0)), (1, .int x1)]) hx hb dX0_spreadFever_5 rfl hl (by decide) rfl (fun ls hl => ?_)
  refine lv_iconst (v := 0) hx hb dX0_spreadFever_6 (by decide) ?_
  refine lv_istore_n (lv' := [(3, .int (0 : Int32)), (2, .int (r_X0_countFeverish w b n T x1)), (0, .ref (a 0)), (1, .int x1)]) hx hb dX0_spreadFever_7 rfl hl (by decide) rfl (fun ls hl => ?_)
  refine lp_go (fun (i8 : Nat) (q8 : ct_T) => ∀ (H : Heap) (locs : List Loc) (ls : Array Slot), Wo D A s.heap (wt_c a cI cZ w b n q8) H locs → lv_has ls 5 [(0, .ref (a 0)), (1, .int x1), (2, .int (r_X0_countFeverish w b n T x1)), (3, .int (nI i8))] → W p l e rm_X0_spreadFever s m args below meth c H locs 0 0 (QE below args s D A none (wt_c a cI cZ w b n (s_X0_spreadFever w b n T x1)) rm_X0_spreadFever) (F0 m 8 ls [])) (f_X0_spreadFever_8 w b n T x1) n (T) ?_ ?_ H locs ls hw (lv_sub hl [2, 3, 1, 0] rfl)
  · intro i8 q8 hi8 k8 H locs ls hw hl
    refine lv_iload_n hx hb dX0_spreadFever_8 rfl (lv_at hl 3 rfl) ?_
    refine lv_aload_n hx hb dX0_spreadFever_9 rfl (lv_at hl 0 rfl) ?_
    refine g_get (v := .int (nI n)) hc hw hiX0 0 9 rfl rfl (by decide) (List.mem_of_getElem? (i := 1) rfl) rfl dX0_spreadFever_10 ?_
    refine lv_icmp_ge (tgt := 63) hx hb dX0_spreadFever_13 (by decide) (fun z => absurd z (nI_ge hi8 (by omega))) (fun _ => ?_)
    refine lv_aload_n hx hb dX0_spreadFever_16 rfl (lv_at hl 0 rfl) ?_
    refine lv_iload_n hx hb dX0_spreadFever_17 rfl (lv_at hl 3 rfl) ?_
    refine lv_iconst (v := 0) hx hb dX0_spreadFever_18 (by decide) ?_
    refine lv_iload_n hx hb dX0_spreadFever_19 rfl (lv_at hl 1 rfl) ?_
    refine g_callV0 hc hw (k_X0_isAt l D cI cZ cL a w b n q8 hd5 hd4 hd30 (nI i8) (0 : Int32) x1 (vp_in_nI (show i8 < 30 by omega) (by omega))) gX0_spreadFever_X0_isAt rfl (by decide +kernel) ⟨Nat.le_of_ble_eq_true rfl, Nat.le_of_ble_eq_true rfl⟩ 0 rfl rfl rfl rfl (rest := []) rfl hl.1 (Nat.le_of_ble_eq_true rfl) (st1 := [.int (r_X0_isAt w b n q8 (nI i8) (0 : Int32) x1)]) rfl dX0_spreadFever_20 (k2 := 0) (s2 := 0) rfl rfl ⟨Nat.le_of_ble_eq_true rfl, Nat.le_of_ble_eq_true rfl⟩ (fun H locs hw => ?_)
    refine lv_if_ne (tgt := 29) hx hb dX0_spreadFever_23 (by decide) (fun c1 => ?_) (fun c1 => ?_)
    · refine lv_aload_n hx hb dX0_spreadFever_29 rfl (lv_at hl 0 rfl) ?_
      refine g_get (v := .ref (a 10)) hc hw hiX0 0 10 rfl rfl (by decide) (List.mem_of_getElem? (i := 2) rfl) rfl dX0_spreadFever_30 ?_
      refine lv_iload_n hx hb dX0_spreadFever_33 rfl (lv_at hl 3 rfl) ?_
      refine g_iald (f := (ct_fe q8)) hc hw 5 rfl (vp_in_nI (show i8 < 30 by omega) (by omega)) dX0_spreadFever_34 ?_
      have J3 : ∀ vJ3 : Int32, vJ3 = (if ((ct_fe q8) (nI i8).toNatClampNeg) ≤ (0 : Int32) then (r_X0_countFeverish w b n T x1) else ((r_X0_countFeverish w b n T x1) - (1 : Int32))) → W p l e rm_X0_spreadFever s m args below meth c H locs 0 0 (QE below args s D A none (wt_c a cI cZ w b n (s_X0_spreadFever w b n T x1)) rm_X0_spreadFever) (F0 m 45 ls [.int vJ3]) := by
        intro vJ3 hvJ3
        subst hvJ3
        refine lv_istore (lv' := [(4, .int (if ((ct_fe q8) (nI i8).toNatClampNeg) ≤ (0 : Int32) then (r_X0_countFeverish w b n T x1) else ((r_X0_countFeverish w b n T x1) - (1 : Int32)))), (0, .ref (a 0)), (1, .int x1), (2, .int (r_X0_countFeverish w b n T x1)), (3, .int (nI i8))]) hx hb dX0_spreadFever_45 hl (by decide) rfl (fun ls hl => ?_)
        refine lv_iload hx hb dX0_spreadFever_47 (lv_at hl 0 rfl) ?_
        refine lv_if_le (tgt := 57) hx hb dX0_spreadFever_49 (by decide) (fun c4 => ?_) (fun c4 => ?_)
        · refine lv_iinc (v := (nI (i8 + 1))) (lv' := [(3, .int (nI (i8 + 1))), (4, .int (if ((ct_fe q8) (nI i8).toNatClampNeg) ≤ (0 : Int32) then (r_X0_countFeverish w b n T x1) else ((r_X0_countFeverish w b n T x1) - (1 : Int32)))), (0, .ref (a 0)), (1, .int x1), (2, .int (r_X0_countFeverish w b n T x1))]) hx hb dX0_spreadFever_57 hl (k := 4) rfl (inc_n i8) (by decide) rfl (fun ls hl => ?_)
          refine lv_goto (tgt := 8) hx hb dX0_spreadFever_60 (by decide) ?_
          rw [show (f_X0_spreadFever_8 w b n T x1) i8 q8 = (q8) from by rw [f_X0_spreadFever_8, if_neg c1, if_pos c4]] at k8
          exact k8 H locs ls hw (lv_sub hl [2, 3, 4, 0] rfl)
        · refine lv_aload_n hx hb dX0_spreadFever_52 rfl (lv_at hl 1 rfl) ?_
          refine lv_iload_n hx hb dX0_spreadFever_53 rfl (lv_at hl 4 rfl) ?_
          refine g_callV0 hc hw (k_X0_raiseFever l D cI cZ cL a w b n q8 hd5 hd4 hd30 (nI i8) (vp_in_nI (show i8 < 30 by omega) (by omega))) gX0_spreadFever_X0_raiseFever rfl (by decide +kernel) ⟨Nat.le_of_ble_eq_true rfl, Nat.le_of_ble_eq_true rfl⟩ 0 rfl rfl rfl rfl (rest := []) rfl hl.1 (Nat.le_of_ble_eq_true rfl) (st1 := []) rfl dX0_spreadFever_54 (k2 := 0) (s2 := 0) rfl rfl ⟨Nat.le_of_ble_eq_true rfl, Nat.le_of_ble_eq_true rfl⟩ (fun H locs hw => ?_)
          refine lv_iinc (v := (nI (i8 + 1))) (lv' := [(3, .int (nI (i8 + 1))), (4, .int (if ((ct_fe q8) (nI i8).toNatClampNeg) ≤ (0 : Int32) then (r_X0_countFeverish w b n T x1) else ((r_X0_countFeverish w b n T x1) - (1 : Int32)))), (0, .ref (a 0)), (1, .int x1), (2, .int (r_X0_countFeverish w b n T x1))]) hx hb dX0_spreadFever_57 hl (k := 4) rfl (inc_n i8) (by decide) rfl (fun ls hl => ?_)
          refine lv_goto (tgt := 8) hx hb dX0_spreadFever_60 (by decide) ?_
          rw [show (f_X0_spreadFever_8 w b n T x1) i8 q8 = ((s_X0_raiseFever w b n q8 (nI i8))) from by rw [f_X0_spreadFever_8, if_neg c1, if_neg c4]] at k8
          exact k8 H locs ls hw (lv_sub hl [2, 3, 4, 0] rfl)
      refine lv_if_le (tgt := 44) hx hb dX0_spreadFever_35 (by decide) (fun c2 => ?_) (fun c2 => ?_)
      · refine lv_iload_n hx hb dX0_spreadFever_44 rfl (lv_at hl 2 rfl) ?_
        exact J3 _ (by rw [if_pos c2])
      · refine lv_iload_n hx hb dX0_spreadFever_38 rfl (lv_at hl 2 rfl) ?_
        refine lv_iconst (v := 1) hx hb dX0_spreadFever_39 (by decide) ?_
        refine lv_isub hx hb dX0_spreadFever_40 ?_
        refine lv_goto (tgt := 45) hx hb dX0_spreadFever_41 (by decide) ?_
        exact J3 _ (by rw [if_neg c2])
    · refine lv_goto (tgt := 57) hx hb dX0_spreadFever_26 (by decide) ?_
      refine lv_iinc (v := (nI (i8 + 1))) (lv' := [(3, .int (nI (i8 + 1))), (0, .ref (a 0)), (1, .int x1), (2, .int (r_X0_countFeverish w b n T x1))]) hx hb dX0_spreadFever_57 hl (k := 3) rfl (inc_n i8) (by decide) rfl (fun ls hl => ?_)
      refine lv_goto (tgt := 8) hx hb dX0_spreadFever_60 (by decide) ?_
      rw [show (f_X0_spreadFever_8 w b n T x1) i8 q8 = (q8) from by rw [f_X0_spreadFever_8, if_pos c1]] at k8
      exact k8 H locs ls hw (lv_sub hl [1, 2, 3, 0] rfl)
  · intro H locs ls hw hl
    refine lv_iload_n hx hb dX0_spreadFever_8 rfl (lv_at hl 3 rfl) ?_
    refine lv_aload_n hx hb dX0_spreadFever_9 rfl (lv_at hl 0 rfl) ?_
    refine g_get (v := .int (nI n)) hc hw hiX0 0 9 rfl rfl (by decide) (List.mem_of_getElem? (i := 1) rfl) rfl dX0_spreadFever_10 ?_
    refine lv_icmp_ge (tgt := 63) hx hb dX0_spreadFever_13 (by decide) (fun _ => ?_) (fun z => absurd (nI_le (Nat.le_refl _) (by omega)) z)
    rw [show s_X0_spreadFever w b n T x1 = (lpf (f_X0_spreadFever_8 w b n T x1) n 0 (T)) from by rw [s_X0_spreadFever]]
    exact g_vret hc hw rfl (Nat.le_of_ble_eq_true rfl) (Nat.le_of_ble_eq_true rfl) dX0_spreadFever_63

def f_X0_bringBargesNearer_2 (w : Nat) (b : Nat) (n : Nat) (T : ct_T) (i2 : Nat) (q2 : ct_T) : ct_T := if ((ct_to q2) (nI i2).toNatClampNeg) ≤ (0 : Int32) then (q2) else (if ((upd (ct_to q2) (nI i2).toNatClampNeg (((ct_to q2) (nI i2).toNatClampNeg) - (1 : Int32))) (nI i2).toNatClampNeg) ≤ (0 : Int32) then ((cs_to q2 (upd (ct_to q2) (nI i2).toNatClampNeg (((ct_to q2) (nI i2).toNatClampNeg) - (1 : Int32))))) else ((s_X0_spreadFever w b n (cs_to q2 (upd (ct_to q2) (nI i2).toNatClampNeg (((ct_to q2) (nI i2).toNatClampNeg) - (1 : Int32)))) (nI i2))))
def s_X0_bringBargesNearer (w : Nat) (b : Nat) (n : Nat) (T : ct_T) : ct_T := (lpf (f_X0_bringBargesNearer_2 w b n T) b 0 (T))
abbrev rm_X0_bringBargesNearer : Room := { frames := 3, cells := 0, slots := 0, locals := 70 }
set_option maxHeartbeats 4000000 in
set_option maxRecDepth 100000 in
theorem k_X0_bringBargesNearer (l : Launch) (D : va_G) (cI cZ cL : ClassId) (a : Nat → Nat) (w : Nat) (b : Nat) (n : Nat) (T : ct_T) (hd5 : w ≤ 5) (hd4 : b ≤ 4) (hd30 : n ≤ 30)   : MX l yX0_bringBargesNearer wsX0_bringBargesNearer rm_X0_bringBargesNearer D cI cZ cL [.ref (a 0)] (wt_c a cI cZ w b n T) none (wt_c a cI cZ w b n (s_X0_bringBargesNearer w b n T)) := by
  refine MX.of (own := RX0) (cc := cX0_bringBargesNearer) (maxL := 2) (ret := none) (lv0 := [(0, .ref (a 0))]) (by decide) rfl rfl (Nat.le_of_ble_eq_true rfl) rfl ?_
  intro p e s m args below meth c A hc hnm hw ls hl
  obtain ⟨hx, hb, hr, hml, hown, hts, hlk, hK, hA⟩ := id hc
  have hiX0 : ∀ w ∈ u_ws RX0 TX0 16, w ∈ wsX0_bringBargesNearer := fun _ h => List.mem_cons_of_mem _ (List.mem_append_right _ h)
  refine lv_iconst (v := 0) hx hb dX0_bringBargesNearer_0 (by decide) ?_
  refine lv_istore_n (lv' := [(1, .int (0 : Int32)), (0, .ref (a 0))]) hx hb dX0_bringBargesNearer_1 rfl hl (by decide) rfl (fun ls hl => ?_)
  refine lp_go (fun (i2 : Nat) (q2 : ct_T) => ∀ (H : Heap) (locs : List Loc) (ls : Array Slot), Wo D A s.heap (wt_c a cI cZ w b n q2) H locs → lv_has ls 2 [(0, .ref (a 0)), (1, .int (nI i2))] → W p l e rm_X0_bringBargesNearer s m args below meth c H locs 0 0 (QE below args s D A none (wt_c a cI cZ w b n (s_X0_bringBargesNearer w b n T)) rm_X0_bringBargesNearer) (F0 m 2 ls [])) (f_X0_bringBargesNearer_2 w b n T) b (T) ?_ ?_ s.heap [] ls hw (lv_sub hl [1, 0] rfl)
  · intro i2 q2 hi2 k2 H locs ls hw hl
    refine lv_iload_n hx hb dX0_bringBargesNearer_2 rfl (lv_at hl 1 rfl) ?_
    refine lv_aload_n hx hb dX0_bringBargesNearer_3 rfl (lv_at hl 0 rfl) ?_
    refine g_get (v := .int (nI b)) hc hw hiX0 0 6 rfl rfl (by decide) (List.mem_of_getElem? (i := 1) rfl) rfl dX0_bringBargesNearer_4 ?_
    refine lv_icmp_ge (tgt := 49) hx hb dX0_bringBargesNearer_7 (by decide) (fun z => absurd z (nI_ge hi2 (by omega))) (fun _ => ?_)
    refine lv_aload_n hx hb dX0_bringBargesNearer_10 rfl (lv_at hl 0 rfl) ?_
    refine g_get (v := .ref (a 8)) hc hw hiX0 0 8 rfl rfl (by decide) (List.mem_of_getElem? (i := 2) rfl) rfl dX0_bringBargesNearer_11 ?_
    refine lv_iload_n hx hb dX0_bringBargesNearer_14 rfl (lv_at hl 1 rfl) ?_
    refine g_iald (f := (ct_to q2)) hc hw 4 rfl (vp_in_nI (show i2 < 4 by omega) (by omega)) dX0_bringBargesNearer_15 ?_
    refine lv_if_le (tgt := 43) hx hb dX0_bringBargesNearer_16 (by decide) (fun c1 => ?_) (fun c1 => ?_)
    · refine lv_iinc (v := (nI (i2 + 1))) (lv' := [(1, .int (nI (i2 + 1))), (0, .ref (a 0))]) hx hb dX0_bringBargesNearer_43 hl (k := 1) rfl (inc_n i2) (by decide) rfl (fun ls hl => ?_)
      refine lv_goto (tgt := 2) hx hb dX0_bringBargesNearer_46 (by decide) ?_
      rw [show (f_X0_bringBargesNearer_2 w b n T) i2 q2 = (q2) from by rw [f_X0_bringBargesNearer_2, if_pos c1]] at k2
      exact k2 H locs ls hw (lv_sub hl [1, 0] rfl)
    · refine lv_aload_n hx hb dX0_bringBargesNearer_19 rfl (lv_at hl 0 rfl) ?_
      refine g_get (v := .ref (a 8)) hc hw hiX0 0 8 rfl rfl (by decide) (List.mem_of_getElem? (i := 2) rfl) rfl dX0_bringBargesNearer_20 ?_
      refine lv_iload_n hx hb dX0_bringBargesNearer_23 rfl (lv_at hl 1 rfl) ?_
      refine lv_dup2_11 hx hb dX0_bringBargesNearer_24 rfl rfl ?_
      refine g_iald (f := (ct_to q2)) hc hw 4 rfl (vp_in_nI (show i2 < 4 by omega) (by omega)) dX0_bringBargesNearer_25 ?_
      refine lv_iconst (v := 1) hx hb dX0_bringBargesNearer_26 (by decide) ?_
      refine lv_isub hx hb dX0_bringBargesNearer_27 ?_
      refine g_iast (f := (ct_to q2)) hc hw 4 rfl (vp_in_nI (show i2 < 4 by omega) (by omega)) (w' := (wt_c a cI cZ w b n (cs_to q2 (upd (ct_to q2) (nI i2).toNatClampNeg (((ct_to q2) (nI i2).toNatClampNeg) - (1 : Int32)))))) rfl dX0_bringBargesNearer_28 (fun H locs hw => ?_)
      refine lv_aload_n hx hb dX0_bringBargesNearer_29 rfl (lv_at hl 0 rfl) ?_
      refine g_get (v := .ref (a 8)) hc hw hiX0 0 8 rfl rfl (by decide) (List.mem_of_getElem? (i := 2) rfl) rfl dX0_bringBargesNearer_30 ?_
      refine lv_iload_n hx hb dX0_bringBargesNearer_33 rfl (lv_at hl 1 rfl) ?_
      refine g_iald (f := (upd (ct_to q2) (nI i2).toNatClampNeg (((ct_to q2) (nI i2).toNatClampNeg) - (1 : Int32)))) hc hw 4 rfl (vp_in_nI (show i2 < 4 by omega) (by omega)) dX0_bringBargesNearer_34 ?_
      refine lv_if_le (tgt := 43) hx hb dX0_bringBargesNearer_35 (by decide) (fun c2 => ?_) (fun c2 => ?_)
      · refine lv_iinc (v := (nI (i2 + 1))) (lv' := [(1, .int (nI (i2 + 1))), (0, .ref (a 0))]) hx hb dX0_bringBargesNearer_43 hl (k := 1) rfl (inc_n i2) (by decide) rfl (fun ls hl => ?_)
        refine lv_goto (tgt := 2) hx hb dX0_bringBargesNearer_46 (by decide) ?_
        rw [show (f_X0_bringBargesNearer_2 w b n T) i2 q2 = ((cs_to q2 (upd (ct_to q2) (nI i2).toNatClampNeg (((ct_to q2) (nI i2).toNatClampNeg) - (1 : Int32))))) from by rw [f_X0_bringBargesNearer_2, if_neg c1, if_pos c2]] at k2
        exact k2 H locs ls hw (lv_sub hl [1, 0] rfl)
      · refine lv_aload_n hx hb dX0_bringBargesNearer_38 rfl (lv_at hl 0 rfl) ?_
        refine lv_iload_n hx hb dX0_bringBargesNearer_39 rfl (lv_at hl 1 rfl) ?_
        refine g_callV0 hc hw (k_X0_spreadFever l D cI cZ cL a w b n (cs_to q2 (upd (ct_to q2) (nI i2).toNatClampNeg (((ct_to q2) (nI i2).toNatClampNeg) - (1 : Int32)))) hd5 hd4 hd30 (nI i2)) gX0_bringBargesNearer_X0_spreadFever rfl (by decide +kernel) ⟨Nat.le_of_ble_eq_true rfl, Nat.le_of_ble_eq_true rfl⟩ 0 rfl rfl rfl rfl (rest := []) rfl hl.1 (Nat.le_of_ble_eq_true rfl) (st1 := []) rfl dX0_bringBargesNearer_40 (k2 := 0) (s2 := 0) rfl rfl ⟨Nat.le_of_ble_eq_true rfl, Nat.le_of_ble_eq_true rfl⟩ (fun H locs hw => ?_)
        refine lv_iinc (v := (nI (i2 + 1))) (lv' := [(1, .int (nI (i2 + 1))), (0, .ref (a 0))]) hx hb dX0_bringBargesNearer_43 hl (k := 1) rfl (inc_n i2) (by decide) rfl (fun ls hl => ?_)
        refine lv_goto (tgt := 2) hx hb dX0_bringBargesNearer_46 (by decide) ?_
        rw [show (f_X0_bringBargesNearer_2 w b n T) i2 q2 = ((s_X0_spreadFever w b n (cs_to q2 (upd (ct_to q2) (nI i2).toNatClampNeg (((ct_to q2) (nI i2).toNatClampNeg) - (1 : Int32)))) (nI i2))) from by rw [f_X0_bringBargesNearer_2, if_neg c1, if_neg c2]] at k2
        exact k2 H locs ls hw (lv_sub hl [1, 0] rfl)
  · intro H locs ls hw hl
    refine lv_iload_n hx hb dX0_bringBargesNearer_2 rfl (lv_at hl 1 rfl) ?_
    refine lv_aload_n hx hb dX0_bringBargesNearer_3 rfl (lv_at hl 0 rfl) ?_
    refine g_get (v := .int (nI b)) hc hw hiX0 0 6 rfl rfl (by decide) (List.mem_of_getElem? (i := 1) rfl) rfl dX0_bringBargesNearer_4 ?_
    refine lv_icmp_ge (tgt := 49) hx hb dX0_bringBargesNearer_7 (by decide) (fun _ => ?_) (fun z => absurd (nI_le (Nat.le_refl _) (by omega)) z)
    rw [show s_X0_bringBargesNearer w b n T = (lpf (f_X0_bringBargesNearer_2 w b n T) b 0 (T)) from by rw [s_X0_bringBargesNearer]]
    exact g_vret hc hw rfl (Nat.le_of_ble_eq_true rfl) (Nat.le_of_ble_eq_true rfl) dX0_bringBargesNearer_49

def f_X0_ageStraw_2 (w : Nat) (b : Nat) (n : Nat) (T : ct_T) (i2 : Nat) (q2 : ct_T) : ct_T := ((cs_st q2 (upd (ct_st q2) (nI i2).toNatClampNeg (((ct_st q2) (nI i2).toNatClampNeg) + (1 : Int32)))))
def s_X0_ageStraw (w : Nat) (b : Nat) (n : Nat) (T : ct_T) : ct_T := (lpf (f_X0_ageStraw_2 w b n T) w 0 (T))
abbrev rm_X0_ageStraw : Room := { frames := 0, cells := 0, slots := 0, locals := 0 }
set_option maxHeartbeats 4000000 in
set_option maxRecDepth 100000 in
theorem k_X0_ageStraw (l : Launch) (D : va_G) (cI cZ cL : ClassId) (a : Nat → Nat) (w : Nat) (b : Nat) (n : Nat) (T : ct_T) (hd5 : w ≤ 5) (hd4 : b ≤ 4) (hd30 : n ≤ 30)   : MX l yX0_ageStraw wsX0_ageStraw rm_X0_ageStraw D cI cZ cL [.ref (a 0)] (wt_c a cI cZ w b n T) none (wt_c a cI cZ w b n (s_X0_ageStraw w b n T)) := by
  refine MX.of (own := RX0) (cc := cX0_ageStraw) (maxL := 2) (ret := none) (lv0 := [(0, .ref (a 0))]) (by decide) rfl rfl (Nat.le_of_ble_eq_true rfl) rfl ?_
  intro p e s m args below meth c A hc hnm hw ls hl
  obtain ⟨hx, hb, hr, hml, hown, hts, hlk, hK, hA⟩ := id hc
  have hiX0 : ∀ w ∈ u_ws RX0 TX0 16, w ∈ wsX0_ageStraw := fun _ h => List.mem_cons_of_mem _ (List.mem_append_right _ h)
  refine lv_iconst (v := 0) hx hb dX0_ageStraw_0 (by decide) ?_
  refine lv_istore_n (lv' := [(1, .int (0 : Int32)), (0, .ref (a 0))]) hx hb dX0_ageStraw_1 rfl hl (by decide) rfl (fun ls hl => ?_)
  refine lp_go (fun (i2 : Nat) (q2 : ct_T) => ∀ (H : Heap) (locs : List Loc) (ls : Array Slot), Wo D A s.heap (wt_c a cI cZ w b n q2) H locs → lv_has ls 2 [(0, .ref (a 0)), (1, .int (nI i2))] → W p l e rm_X0_ageStraw s m args below meth c H locs 0 0 (QE below args s D A none (wt_c a cI cZ w b n (s_X0_ageStraw w b n T)) rm_X0_ageStraw) (F0 m 2 ls [])) (f_X0_ageStraw_2 w b n T) w (T) ?_ ?_ s.heap [] ls hw (lv_sub hl [1, 0] rfl)
  · intro i2 q2 hi2 k2 H locs ls hw hl
    refine lv_iload_n hx hb dX0_ageStraw_2 rfl (lv_at hl 1 rfl) ?_
    refine lv_aload_n hx hb dX0_ageStraw_3 rfl (lv_at hl 0 rfl) ?_
    refine g_get (v := .int (nI w)) hc hw hiX0 0 3 rfl rfl (by decide) (List.mem_of_getElem? (i := 1) rfl) rfl dX0_ageStraw_4 ?_
    refine lv_icmp_ge (tgt := 26) hx hb dX0_ageStraw_7 (by decide) (fun z => absurd z (nI_ge hi2 (by omega))) (fun _ => ?_)
    refine lv_aload_n hx hb dX0_ageStraw_10 rfl (lv_at hl 0 rfl) ?_
    refine g_get (v := .ref (a 5)) hc hw hiX0 0 5 rfl rfl (by decide) (List.mem_of_getElem? (i := 2) rfl) rfl dX0_ageStraw_11 ?_
    refine lv_iload_n hx hb dX0_ageStraw_14 rfl (lv_at hl 1 rfl) ?_
    refine lv_dup2_11 hx hb dX0_ageStraw_15 rfl rfl ?_
    refine g_iald (f := (ct_st q2)) hc hw 2 rfl (vp_in_nI (show i2 < 5 by omega) (by omega)) dX0_ageStraw_16 ?_
    refine lv_iconst (v := 1) hx hb dX0_ageStraw_17 (by decide) ?_
    refine lv_iadd hx hb dX0_ageStraw_18 ?_
    refine g_iast (f := (ct_st q2)) hc hw 2 rfl (vp_in_nI (show i2 < 5 by omega) (by omega)) (w' := (wt_c a cI cZ w b n (cs_st q2 (upd (ct_st q2) (nI i2).toNatClampNeg (((ct_st q2) (nI i2).toNatClampNeg) + (1 : Int32)))))) rfl dX0_ageStraw_19 (fun H locs hw => ?_)
    refine lv_iinc (v := (nI (i2 + 1))) (lv' := [(1, .int (nI (i2 + 1))), (0, .ref (a 0))]) hx hb dX0_ageStraw_20 hl (k := 1) rfl (inc_n i2) (by decide) rfl (fun ls hl => ?_)
    refine lv_goto (tgt := 2) hx hb dX0_ageStraw_23 (by decide) ?_
    rw [show (f_X0_ageStraw_2 w b n T) i2 q2 = ((cs_st q2 (upd (ct_st q2) (nI i2).toNatClampNeg (((ct_st q2) (nI i2).toNatClampNeg) + (1 : Int32))))) from by rw [f_X0_ageStraw_2]] at k2
    exact k2 H locs ls hw (lv_sub hl [1, 0] rfl)
  · intro H locs ls hw hl
    refine lv_iload_n hx hb dX0_ageStraw_2 rfl (lv_at hl 1 rfl) ?_
    refine lv_aload_n hx hb dX0_ageStraw_3 rfl (lv_at hl 0 rfl) ?_
    refine g_get (v := .int (nI w)) hc hw hiX0 0 3 rfl rfl (by decide) (List.mem_of_getElem? (i := 1) rfl) rfl dX0_ageStraw_4 ?_
    refine lv_icmp_ge (tgt := 26) hx hb dX0_ageStraw_7 (by decide) (fun _ => ?_) (fun z => absurd (nI_le (Nat.le_refl _) (by omega)) z)
    rw [show s_X0_ageStraw w b n T = (lpf (f_X0_ageStraw_2 w b n T) w 0 (T)) from by rw [s_X0_ageStraw]]
    exact g_vret hc hw rfl (Nat.le_of_ble_eq_true rfl) (Nat.le_of_ble_eq_true rfl) dX0_ageStraw_26

def f_X0_leaveWards_2 (w : Nat) (b : Nat) (n : Nat) (T : ct_T) (i2 : Nat) (q2 : ct_T) : ct_T := if ((ct_wh q2) (nI i2).toNatClampNeg) = (1 : Int32) then (if ((ct_fe q2) (nI i2).toNatClampNeg) = (0 : Int32) then ((s_X0_move w b n q2 (nI i2) (2 : Int32) (-1 : Int32))) else (if ((ct_fe q2) (nI i2).toNatClampNeg) = (10 : Int32) then ((s_X0_move w b n q2 (nI i2) (3 : Int32) (-1 : Int32))) else (q2))) else (q2)
def s_X0_leaveWards (w : Nat) (b : Nat) (n : Nat) (T : ct_T) : ct_T := (lpf (f_X0_leaveWards_2 w b n T) n 0 (T))
abbrev rm_X0_leaveWards : Room := { frames := 1, cells := 0, slots := 0, locals := 23 }
set_option maxHeartbeats 4000000 in
set_option maxRecDepth 100000 in
theorem k_X0_leaveWards (l : Launch) (D : va_G) (cI cZ cL : ClassId) (a : Nat → Nat) (w : Nat) (b : Nat) (n : Nat) (T : ct_T) (hd5 : w ≤ 5) (hd4 : b ≤ 4) (hd30 : n ≤ 30)   : MX l yX0_leaveWards wsX0_leaveWards rm_X0_leaveWards D cI cZ cL [.ref (a 0)] (wt_c a cI cZ w b n T) none (wt_c a cI cZ w b n (s_X0_leaveWards w b n T)) := by
  refine MX.of (own := RX0) (cc := cX0_leaveWards) (maxL := 2) (ret := none) (lv0 := [(0, .ref (a 0))]) (by decide) rfl rfl (Nat.le_of_ble_eq_true rfl) rfl ?_
  intro p e s m args below meth c A hc hnm hw ls hl
  obtain ⟨hx, hb, hr, hml, hown, hts, hlk, hK, hA⟩ := id hc
  have hiX0 : ∀ w ∈ u_ws RX0 TX0 16, w ∈ wsX0_leaveWards := fun _ h => List.mem_cons_of_mem _ (List.mem_append_right _ h)
  refine lv_iconst (v := 0) hx hb dX0_leaveWards_0 (by decide) ?_
  refine lv_istore_n (lv' := [(1, .int (0 : Int32)), (0, .ref (a 0))]) hx hb dX0_leaveWards_1 rfl hl (by decide) rfl (fun ls hl => ?_)
  refine lp_go (fun (i2 : Nat) (q2 : ct_T) => ∀ (H : Heap) (locs : List Loc) (ls : Array Slot), Wo D A s.heap (wt_c a cI cZ w b n q2) H locs → lv_has ls 2 [(0, .ref (a 0)), (1, .int (nI i2))] → W p l e rm_X0_leaveWards s m args below meth c H locs 0 0 (QE below args s D A none (wt_c a cI cZ w b n (s_X0_leaveWards w b n T)) rm_X0_leaveWards) (F0 m 2 ls [])) (f_X0_leaveWards_2 w b n T) n (T) ?_ ?_ s.heap [] ls hw (lv_sub hl [1, 0] rfl)
  · intro i2 q2 hi2 k2 H locs ls hw hl
    refine lv_iload_n hx hb dX0_leaveWards_2 rfl (lv_at hl 1 rfl) ?_
    refine lv_aload_n hx hb dX0_leaveWards_3 rfl (lv_at hl 0 rfl) ?_
    refine g_get (v := .int (nI n)) hc hw hiX0 0 9 rfl rfl (by decide) (List.mem_of_getElem? (i := 1) rfl) rfl dX0_leaveWards_4 ?_
    refine lv_icmp_ge (tgt := 66) hx hb dX0_leaveWards_7 (by decide) (fun z => absurd z (nI_ge hi2 (by omega))) (fun _ => ?_)
    refine lv_aload_n hx hb dX0_leaveWards_10 rfl (lv_at hl 0 rfl) ?_
    refine g_get (v := .ref (a 11)) hc hw hiX0 0 11 rfl rfl (by decide) (List.mem_of_getElem? (i := 2) rfl) rfl dX0_leaveWards_11 ?_
    refine lv_iload_n hx hb dX0_leaveWards_14 rfl (lv_at hl 1 rfl) ?_
    refine g_iald (f := (ct_wh q2)) hc hw 6 rfl (vp_in_nI (show i2 < 30 by omega) (by omega)) dX0_leaveWards_15 ?_
    refine lv_iconst (v := 1) hx hb dX0_leaveWards_16 (by decide) ?_
    refine lv_icmp_eq (tgt := 23) hx hb dX0_leaveWards_17 (by decide) (fun c1 => ?_) (fun c1 => ?_)
    · refine lv_aload_n hx hb dX0_leaveWards_23 rfl (lv_at hl 0 rfl) ?_
      refine g_get (v := .ref (a 10)) hc hw hiX0 0 10 rfl rfl (by decide) (List.mem_of_getElem? (i := 3) rfl) rfl dX0_leaveWards_24 ?_
      refine lv_iload_n hx hb dX0_leaveWards_27 rfl (lv_at hl 1 rfl) ?_
      refine g_iald (f := (ct_fe q2)) hc hw 5 rfl (vp_in_nI (show i2 < 30 by omega) (by omega)) dX0_leaveWards_28 ?_
      refine lv_if_ne (tgt := 42) hx hb dX0_leaveWards_29 (by decide) (fun c2 => ?_) (fun c2 => ?_)
      · refine lv_aload_n hx hb dX0_leaveWards_42 rfl (lv_at hl 0 rfl) ?_
        refine g_get (v := .ref (a 10)) hc hw hiX0 0 10 rfl rfl (by decide) (List.mem_of_getElem? (i := 3) rfl) rfl dX0_leaveWards_43 ?_
        refine lv_iload_n hx hb dX0_leaveWards_46 rfl (lv_at hl 1 rfl) ?_
        refine g_iald (f := (ct_fe q2)) hc hw 5 rfl (vp_in_nI (show i2 < 30 by omega) (by omega)) dX0_leaveWards_47 ?_
        refine lv_bipush (v := 10) hx hb dX0_leaveWards_48 (by decide) ?_
        refine lv_icmp_ne (tgt := 60) hx hb dX0_leaveWards_50 (by decide) (fun c3 => ?_) (fun c3 => ?_)
        · refine lv_iinc (v := (nI (i2 + 1))) (lv' := [(1, .int (nI (i2 + 1))), (0, .ref (a 0))]) hx hb dX0_leaveWards_60 hl (k := 1) rfl (inc_n i2) (by decide) rfl (fun ls hl => ?_)
          refine lv_goto (tgt := 2) hx hb dX0_leaveWards_63 (by decide) ?_
          rw [show (f_X0_leaveWards_2 w b n T) i2 q2 = (q2) from by rw [f_X0_leaveWards_2, if_pos c1, if_neg c2, if_neg c3]] at k2
          exact k2 H locs ls hw (lv_sub hl [1, 0] rfl)
        · refine lv_aload_n hx hb dX0_leaveWards_53 rfl (lv_at hl 0 rfl) ?_
          refine lv_iload_n hx hb dX0_leaveWards_54 rfl (lv_at hl 1 rfl) ?_
          refine lv_iconst (v := 3) hx hb dX0_leaveWards_55 (by decide) ?_
          refine lv_iconst (v := (-1)) hx hb dX0_leaveWards_56 (by decide) ?_
          refine g_callV0 hc hw (k_X0_move l D cI cZ cL a w b n q2 hd5 hd4 hd30 (nI i2) (3 : Int32) (-1 : Int32) (vp_in_nI (show i2 < 30 by omega) (by omega))) gX0_leaveWards_X0_move rfl (by decide +kernel) ⟨Nat.le_of_ble_eq_true rfl, Nat.le_of_ble_eq_true rfl⟩ 0 rfl rfl rfl rfl (rest := []) rfl hl.1 (Nat.le_of_ble_eq_true rfl) (st1 := []) rfl dX0_leaveWards_57 (k2 := 0) (s2 := 0) rfl rfl ⟨Nat.le_of_ble_eq_true rfl, Nat.le_of_ble_eq_true rfl⟩ (fun H locs hw => ?_)
          refine lv_iinc (v := (nI (i2 + 1))) (lv' := [(1, .int (nI (i2 + 1))), (0, .ref (a 0))]) hx hb dX0_leaveWards_60 hl (k := 1) rfl (inc_n i2) (by decide) rfl (fun ls hl => ?_)
          refine lv_goto (tgt := 2) hx hb dX0_leaveWards_63 (by decide) ?_
          rw [show (f_X0_leaveWards_2 w b n T) i2 q2 = ((s_X0_move w b n q2 (nI i2) (3 : Int32) (-1 : Int32))) from by rw [f_X0_leaveWards_2, if_pos c1, if_neg c2, if_pos c3]] at k2
          exact k2 H locs ls hw (lv_sub hl [1, 0] rfl)
      · refine lv_aload_n hx hb dX0_leaveWards_32 rfl (lv_at hl 0 rfl) ?_
        refine lv_iload_n hx hb dX0_leaveWards_33 rfl (lv_at hl 1 rfl) ?_
        refine lv_iconst (v := 2) hx hb dX0_leaveWards_34 (by decide) ?_
        refine lv_iconst (v := (-1)) hx hb dX0_leaveWards_35 (by decide) ?_
        refine g_callV0 hc hw (k_X0_move l D cI cZ cL a w b n q2 hd5 hd4 hd30 (nI i2) (2 : Int32) (-1 : Int32) (vp_in_nI (show i2 < 30 by omega) (by omega))) gX0_leaveWards_X0_move rfl (by decide +kernel) ⟨Nat.le_of_ble_eq_true rfl, Nat.le_of_ble_eq_true rfl⟩ 0 rfl rfl rfl rfl (rest := []) rfl hl.1 (Nat.le_of_ble_eq_true rfl) (st1 := []) rfl dX0_leaveWards_36 (k2 := 0) (s2 := 0) rfl rfl ⟨Nat.le_of_ble_eq_true rfl, Nat.le_of_ble_eq_true rfl⟩ (fun H locs hw => ?_)
        refine lv_goto (tgt := 60) hx hb dX0_leaveWards_39 (by decide) ?_
        refine lv_iinc (v := (nI (i2 + 1))) (lv' := [(1, .int (nI (i2 + 1))), (0, .ref (a 0))]) hx hb dX0_leaveWards_60 hl (k := 1) rfl (inc_n i2) (by decide) rfl (fun ls hl => ?_)
        refine lv_goto (tgt := 2) hx hb dX0_leaveWards_63 (by decide) ?_
        rw [show (f_X0_leaveWards_2 w b n T) i2 q2 = ((s_X0_move w b n q2 (nI i2) (2 : Int32) (-1 : Int32))) from by rw [f_X0_leaveWards_2, if_pos c1, if_pos c2]] at k2
        exact k2 H locs ls hw (lv_sub hl [1, 0] rfl)
    · refine lv_goto (tgt := 60) hx hb dX0_leaveWards_20 (by decide) ?_
      refine lv_iinc (v := (nI (i2 + 1))) (lv' := [(1, .int (nI (i2 + 1))), (0, .ref (a 0))]) hx hb dX0_leaveWards_60 hl (k := 1) rfl (inc_n i2) (by decide) rfl (fun ls hl => ?_)
      refine lv_goto (tgt := 2) hx hb dX0_leaveWards_63 (by decide) ?_
      rw [show (f_X0_leaveWards_2 w b n T) i2 q2 = (q2) from by rw [f_X0_leaveWards_2, if_neg c1]] at k2
      exact k2 H locs ls hw (lv_sub hl [1, 0] rfl)
  · intro H locs ls hw hl
    refine lv_iload_n hx hb dX0_leaveWards_2 rfl (lv_at hl 1 rfl) ?_
    refine lv_aload_n hx hb dX0_leaveWards_3 rfl (lv_at hl 0 rfl) ?_
    refine g_get (v := .int (nI n)) hc hw hiX0 0 9 rfl rfl (by decide) (List.mem_of_getElem? (i := 1) rfl) rfl dX0_leaveWards_4 ?_
    refine lv_icmp_ge (tgt := 66) hx hb dX0_leaveWards_7 (by decide) (fun _ => ?_) (fun z => absurd (nI_le (Nat.le_refl _) (by omega)) z)
    rw [show s_X0_leaveWards w b n T = (lpf (f_X0_leaveWards_2 w b n T) n 0 (T)) from by rw [s_X0_leaveWards]]
    exact g_vret hc hw rfl (Nat.le_of_ble_eq_true rfl) (Nat.le_of_ble_eq_true rfl) dX0_leaveWards_66

def f_X0_takeFirstFreePlace_2 (w : Nat) (b : Nat) (n : Nat) (T : ct_T) (i2 : Nat) (q2 : ct_T) : (Int32 × ct_T) ⊕ (ct_T) := if ((ct_fr q2) (nI i2).toNatClampNeg) ≤ (0 : Int32) then (.inr (q2)) else (.inl ((nI i2), (cs_fr q2 (upd (ct_fr q2) (nI i2).toNatClampNeg (((ct_fr q2) (nI i2).toNatClampNeg) - (1 : Int32))))))
def r_X0_takeFirstFreePlace (w : Nat) (b : Nat) (n : Nat) (T : ct_T) : Int32 := match lpx (f_X0_takeFirstFreePlace_2 w b n T) w 0 (T) with | .inl b => b.1 | .inr q2 => (-1 : Int32)
def s_X0_takeFirstFreePlace (w : Nat) (b : Nat) (n : Nat) (T : ct_T) : ct_T := match lpx (f_X0_takeFirstFreePlace_2 w b n T) w 0 (T) with | .inl b => b.2 | .inr q2 => q2
abbrev rm_X0_takeFirstFreePlace : Room := { frames := 0, cells := 0, slots := 0, locals := 0 }
set_option maxHeartbeats 4000000 in
set_option maxRecDepth 100000 in
theorem k_X0_takeFirstFreePlace (l : Launch) (D : va_G) (cI cZ cL : ClassId) (a : Nat → Nat) (w : Nat) (b : Nat) (n : Nat) (T : ct_T) (hd5 : w ≤ 5) (hd4 : b ≤ 4) (hd30 : n ≤ 30)   : MX l yX0_takeFirstFreePlace wsX0_takeFirstFreePlace rm_X0_takeFirstFreePlace D cI cZ cL [.ref (a 0)] (wt_c a cI cZ w b n T) (some (.int (r_X0_takeFirstFreePlace w b n T))) (wt_c a cI cZ w b n (s_X0_takeFirstFreePlace w b n T)) := by
  refine MX.of (own := RX0) (cc := cX0_takeFirstFreePlace) (maxL := 2) (ret := (some .int)) (lv0 := [(0, .ref (a 0))]) (by decide) rfl rfl (Nat.le_of_ble_eq_true rfl) rfl ?_
  intro p e s m args below meth c A hc hnm hw ls hl
  obtain ⟨hx, hb, hr, hml, hown, hts, hlk, hK, hA⟩ := id hc
  have hiX0 : ∀ w ∈ u_ws RX0 TX0 16, w ∈ wsX0_takeFirstFreePlace := fun _ h => List.mem_cons_of_mem _ (List.mem_append_right _ h)
  refine lv_iconst (v := 0) hx hb dX0_takeFirstFreePlace_0 (by decide) ?_
  refine lv_istore_n (lv' := [(1, .int (0 : Int32)), (0, .ref (a 0))]) hx hb dX0_takeFirstFreePlace_1 rfl hl (by decide) rfl (fun ls hl => ?_)
  refine lpx_go (fun (i2 : Nat) (q2 : ct_T) => ∀ (H : Heap) (locs : List Loc) (ls : Array Slot), Wo D A s.heap (wt_c a cI cZ w b n q2) H locs → lv_has ls 2 [(0, .ref (a 0)), (1, .int (nI i2))] → W p l e rm_X0_takeFirstFreePlace s m args below meth c H locs 0 0 (QE below args s D A (some (.int (r_X0_takeFirstFreePlace w b n T))) (wt_c a cI cZ w b n (s_X0_takeFirstFreePlace w b n T)) rm_X0_takeFirstFreePlace) (F0 m 2 ls [])) (fun b => r_X0_takeFirstFreePlace w b n T = b.1 ∧ s_X0_takeFirstFreePlace w b n T = b.2) (f_X0_takeFirstFreePlace_2 w b n T) w (T) ?_ ?_ s.heap [] ls hw (lv_sub hl [1, 0] rfl)
  · intro i2 q2 hi2 k2 H locs ls hw hl
    refine lv_iload_n hx hb dX0_takeFirstFreePlace_2 rfl (lv_at hl 1 rfl) ?_
    refine lv_aload_n hx hb dX0_takeFirstFreePlace_3 rfl (lv_at hl 0 rfl) ?_
    refine g_get (v := .int (nI w)) hc hw hiX0 0 3 rfl rfl (by decide) (List.mem_of_getElem? (i := 1) rfl) rfl dX0_takeFirstFreePlace_4 ?_
    refine lv_icmp_ge (tgt := 37) hx hb dX0_takeFirstFreePlace_7 (by decide) (fun z => absurd z (nI_ge hi2 (by omega))) (fun _ => ?_)
    refine lv_aload_n hx hb dX0_takeFirstFreePlace_10 rfl (lv_at hl 0 rfl) ?_
    refine g_get (v := .ref (a 15)) hc hw hiX0 0 15 rfl rfl (by decide) (List.mem_of_getElem? (i := 2) rfl) rfl dX0_takeFirstFreePlace_11 ?_
    refine lv_iload_n hx hb dX0_takeFirstFreePlace_14 rfl (lv_at hl 1 rfl) ?_
    refine g_iald (f := (ct_fr q2)) hc hw 10 rfl (vp_in_nI (show i2 < 5 by omega) (by omega)) dX0_takeFirstFreePlace_15 ?_
    refine lv_if_le (tgt := 31) hx hb dX0_takeFirstFreePlace_16 (by decide) (fun c1 => ?_) (fun c1 => ?_)
    · refine lv_iinc (v := (nI (i2 + 1))) (lv' := [(1, .int (nI (i2 + 1))), (0, .ref (a 0))]) hx hb dX0_takeFirstFreePlace_31 hl (k := 1) rfl (inc_n i2) (by decide) rfl (fun ls hl => ?_)
      refine lv_goto (tgt := 2) hx hb dX0_takeFirstFreePlace_34 (by decide) ?_
      rw [show (f_X0_takeFirstFreePlace_2 w b n T) i2 q2 = (.inr (q2)) from by rw [f_X0_takeFirstFreePlace_2, if_pos c1]] at k2
      exact k2 H locs ls hw (lv_sub hl [1, 0] rfl)
    · refine lv_aload_n hx hb dX0_takeFirstFreePlace_19 rfl (lv_at hl 0 rfl) ?_
      refine g_get (v := .ref (a 15)) hc hw hiX0 0 15 rfl rfl (by decide) (List.mem_of_getElem? (i := 2) rfl) rfl dX0_takeFirstFreePlace_20 ?_
      refine lv_iload_n hx hb dX0_takeFirstFreePlace_23 rfl (lv_at hl 1 rfl) ?_
      refine lv_dup2_11 hx hb dX0_takeFirstFreePlace_24 rfl rfl ?_
      refine g_iald (f := (ct_fr q2)) hc hw 10 rfl (vp_in_nI (show i2 < 5 by omega) (by omega)) dX0_takeFirstFreePlace_25 ?_
      refine lv_iconst (v := 1) hx hb dX0_takeFirstFreePlace_26 (by decide) ?_
      refine lv_isub hx hb dX0_takeFirstFreePlace_27 ?_
      refine g_iast (f := (ct_fr q2)) hc hw 10 rfl (vp_in_nI (show i2 < 5 by omega) (by omega)) (w' := (wt_c a cI cZ w b n (cs_fr q2 (upd (ct_fr q2) (nI i2).toNatClampNeg (((ct_fr q2) (nI i2).toNatClampNeg) - (1 : Int32)))))) rfl dX0_takeFirstFreePlace_28 (fun H locs hw => ?_)
      refine lv_iload_n hx hb dX0_takeFirstFreePlace_29 rfl (lv_at hl 1 rfl) ?_
      rw [show (f_X0_takeFirstFreePlace_2 w b n T) i2 q2 = (.inl ((nI i2), (cs_fr q2 (upd (ct_fr q2) (nI i2).toNatClampNeg (((ct_fr q2) (nI i2).toNatClampNeg) - (1 : Int32)))))) from by rw [f_X0_takeFirstFreePlace_2, if_neg c1]] at k2
      obtain ⟨e0, e1⟩ := k2
      rw [show r_X0_takeFirstFreePlace w b n T = _ from e0]
      rw [show s_X0_takeFirstFreePlace w b n T = _ from e1]
      exact g_ret hc hw rfl (Nat.le_of_ble_eq_true rfl) (Nat.le_of_ble_eq_true rfl) dX0_takeFirstFreePlace_30
  · cases hL2 : lpx (f_X0_takeFirstFreePlace_2 w b n T) w 0 (T) with
    | inl b =>
      exact ⟨by rw [r_X0_takeFirstFreePlace, hL2], by rw [s_X0_takeFirstFreePlace, hL2]⟩
    | inr q2 =>
      intro H locs ls hw hl
      refine lv_iload_n hx hb dX0_takeFirstFreePlace_2 rfl (lv_at hl 1 rfl) ?_
      refine lv_aload_n hx hb dX0_takeFirstFreePlace_3 rfl (lv_at hl 0 rfl) ?_
      refine g_get (v := .int (nI w)) hc hw hiX0 0 3 rfl rfl (by decide) (List.mem_of_getElem? (i := 1) rfl) rfl dX0_takeFirstFreePlace_4 ?_
      refine lv_icmp_ge (tgt := 37) hx hb dX0_takeFirstFreePlace_7 (by decide) (fun _ => ?_) (fun z => absurd (nI_le (Nat.le_refl _) (by omega)) z)
      refine lv_iconst (v := (-1)) hx hb dX0_takeFirstFreePlace_37 (by decide) ?_
      rw [show r_X0_takeFirstFreePlace w b n T = (-1 : Int32) from by rw [r_X0_takeFirstFreePlace, hL2]]
      rw [show s_X0_takeFirstFreePlace w b n T = q2 from by rw [s_X0_takeFirstFreePlace, hL2]]
      exact g_ret hc hw rfl (Nat.le_of_ble_eq_true rfl) (Nat.le_of_ble_eq_true rfl) dX0_takeFirstFreePlace_38

def f_X0_landAll_4 (w : Nat) (b : Nat) (n : Nat) (T : ct_T) (x1 : Int32) (i4 : Nat) (q4 : ct_T × Int32) : ct_T × Int32 := if (r_X0_isAt w b n q4.1 (nI i4) (0 : Int32) x1) = (0 : Int32) then (q4.1, q4.2) else (if ((ct_fe q4.1) (nI i4).toNatClampNeg) = (0 : Int32) then ((s_X0_move w b n q4.1 (nI i4) (2 : Int32) (-1 : Int32)), q4.2) else (if (r_X0_takeFirstFreePlace w b n q4.1) = (-1 : Int32) then ((s_X0_takeFirstFreePlace w b n q4.1), (0 : Int32)) else ((s_X0_move w b n (s_X0_takeFirstFreePlace w b n q4.1) (nI i4) (1 : Int32) (r_X0_takeFirstFreePlace w b n q4.1)), q4.2)))
def r_X0_landAll (w : Nat) (b : Nat) (n : Nat) (T : ct_T) (x1 : Int32) : Int32 := ((lpf (f_X0_landAll_4 w b n T x1) n 0 (T, (1 : Int32))).2)
def s_X0_landAll (w : Nat) (b : Nat) (n : Nat) (T : ct_T) (x1 : Int32) : ct_T := (lpf (f_X0_landAll_4 w b n T x1) n 0 (T, (1 : Int32))).1
abbrev rm_X0_landAll : Room := { frames := 1, cells := 0, slots := 0, locals := 23 }
set_option maxHeartbeats 4000000 in
set_option maxRecDepth 100000 in
theorem k_X0_landAll (l : Launch) (D : va_G) (cI cZ cL : ClassId) (a : Nat → Nat) (w : Nat) (b : Nat) (n : Nat) (T : ct_T) (hd5 : w ≤ 5) (hd4 : b ≤ 4) (hd30 : n ≤ 30) (x1 : Int32)  : MX l yX0_landAll wsX0_landAll rm_X0_landAll D cI cZ cL [.ref (a 0), .int x1] (wt_c a cI cZ w b n T) (some (.int (r_X0_landAll w b n T x1))) (wt_c a cI cZ w b n (s_X0_landAll w b n T x1)) := by
  refine MX.of (own := RX0) (cc := cX0_landAll) (maxL := 5) (ret := (some .boolean)) (lv0 := [(0, .ref (a 0)), (1, .int x1)]) (by decide) rfl rfl (Nat.le_of_ble_eq_true rfl) rfl ?_
  intro p e s m args below meth c A hc hnm hw ls hl
  obtain ⟨hx, hb, hr, hml, hown, hts, hlk, hK, hA⟩ := id hc
  have hiX0 : ∀ w ∈ u_ws RX0 TX0 16, w ∈ wsX0_landAll := fun _ h => List.mem_cons_of_mem _ (List.mem_append_right _ h)
  refine lv_iconst (v := 1) hx hb dX0_landAll_0 (by decide) ?_
  refine lv_istore_n (lv' := [(2, .int (1 : Int32)), (0, .ref (a 0)), (1, .int x1)]) hx hb dX0_landAll_1 rfl hl (by decide) rfl (fun ls hl => ?_)
  refine lv_iconst (v := 0) hx hb dX0_landAll_2 (by decide) ?_
  refine lv_istore_n (lv' := [(3, .int (0 : Int32)), (2, .int (1 : Int32)), (0, .ref (a 0)), (1, .int x1)]) hx hb dX0_landAll_3 rfl hl (by decide) rfl (fun ls hl => ?_)
  refine lp_go (fun (i4 : Nat) (q4 : ct_T × Int32) => ∀ (H : Heap) (locs : List Loc) (ls : Array Slot), Wo D A s.heap (wt_c a cI cZ w b n q4.1) H locs → lv_has ls 5 [(0, .ref (a 0)), (1, .int x1), (2, .int q4.2), (3, .int (nI i4))] → W p l e rm_X0_landAll s m args below meth c H locs 0 0 (QE below args s D A (some (.int (r_X0_landAll w b n T x1))) (wt_c a cI cZ w b n (s_X0_landAll w b n T x1)) rm_X0_landAll) (F0 m 4 ls [])) (f_X0_landAll_4 w b n T x1) n (T, (1 : Int32)) ?_ ?_ s.heap [] ls hw (lv_sub hl [2, 3, 1, 0] rfl)
  · intro i4 q4 hi4 k4 H locs ls hw hl
    refine lv_iload_n hx hb dX0_landAll_4 rfl (lv_at hl 3 rfl) ?_
    refine lv_aload_n hx hb dX0_landAll_5 rfl (lv_at hl 0 rfl) ?_
    refine g_get (v := .int (nI n)) hc hw hiX0 0 9 rfl rfl (by decide) (List.mem_of_getElem? (i := 1) rfl) rfl dX0_landAll_6 ?_
    refine lv_icmp_ge (tgt := 75) hx hb dX0_landAll_9 (by decide) (fun z => absurd z (nI_ge hi4 (by omega))) (fun _ => ?_)
    refine lv_aload_n hx hb dX0_landAll_12 rfl (lv_at hl 0 rfl) ?_
    refine lv_iload_n hx hb dX0_landAll_13 rfl (lv_at hl 3 rfl) ?_
    refine lv_iconst (v := 0) hx hb dX0_landAll_14 (by decide) ?_
    refine lv_iload_n hx hb dX0_landAll_15 rfl (lv_at hl 1 rfl) ?_
    refine g_callV0 hc hw (k_X0_isAt l D cI cZ cL a w b n q4.1 hd5 hd4 hd30 (nI i4) (0 : Int32) x1 (vp_in_nI (show i4 < 30 by omega) (by omega))) gX0_landAll_X0_isAt rfl (by decide +kernel) ⟨Nat.le_of_ble_eq_true rfl, Nat.le_of_ble_eq_true rfl⟩ 0 rfl rfl rfl rfl (rest := []) rfl hl.1 (Nat.le_of_ble_eq_true rfl) (st1 := [.int (r_X0_isAt w b n q4.1 (nI i4) (0 : Int32) x1)]) rfl dX0_landAll_16 (k2 := 0) (s2 := 0) rfl rfl ⟨Nat.le_of_ble_eq_true rfl, Nat.le_of_ble_eq_true rfl⟩ (fun H locs hw => ?_)
    refine lv_if_ne (tgt := 25) hx hb dX0_landAll_19 (by decide) (fun c1 => ?_) (fun c1 => ?_)
    · refine lv_aload_n hx hb dX0_landAll_25 rfl (lv_at hl 0 rfl) ?_
      refine g_get (v := .ref (a 10)) hc hw hiX0 0 10 rfl rfl (by decide) (List.mem_of_getElem? (i := 2) rfl) rfl dX0_landAll_26 ?_
      refine lv_iload_n hx hb dX0_landAll_29 rfl (lv_at hl 3 rfl) ?_
      refine g_iald (f := (ct_fe q4.1)) hc hw 5 rfl (vp_in_nI (show i4 < 30 by omega) (by omega)) dX0_landAll_30 ?_
      refine lv_if_ne (tgt := 44) hx hb dX0_landAll_31 (by decide) (fun c2 => ?_) (fun c2 => ?_)
      · refine lv_aload_n hx hb dX0_landAll_44 rfl (lv_at hl 0 rfl) ?_
        refine g_callV0 hc hw (k_X0_takeFirstFreePlace l D cI cZ cL a w b n q4.1 hd5 hd4 hd30) gX0_landAll_X0_takeFirstFreePlace rfl (by decide +kernel) ⟨Nat.le_of_ble_eq_true rfl, Nat.le_of_ble_eq_true rfl⟩ 0 rfl rfl rfl rfl (rest := []) rfl hl.1 (Nat.le_of_ble_eq_true rfl) (st1 := [.int (r_X0_takeFirstFreePlace w b n q4.1)]) rfl dX0_landAll_45 (k2 := 0) (s2 := 0) rfl rfl ⟨Nat.le_of_ble_eq_true rfl, Nat.le_of_ble_eq_true rfl⟩ (fun H locs hw => ?_)
        refine lv_istore (lv' := [(4, .int (r_X0_takeFirstFreePlace w b n q4.1)), (0, .ref (a 0)), (1, .int x1), (2, .int q4.2), (3, .int (nI i4))]) hx hb dX0_landAll_48 hl (by decide) rfl (fun ls hl => ?_)
        refine lv_iload hx hb dX0_landAll_50 (lv_at hl 0 rfl) ?_
        refine lv_iconst (v := (-1)) hx hb dX0_landAll_52 (by decide) ?_
        refine lv_icmp_ne (tgt := 61) hx hb dX0_landAll_53 (by decide) (fun c3 => ?_) (fun c3 => ?_)
        · refine lv_aload_n hx hb dX0_landAll_61 rfl (lv_at hl 1 rfl) ?_
          refine lv_iload_n hx hb dX0_landAll_62 rfl (lv_at hl 4 rfl) ?_
          refine lv_iconst (v := 1) hx hb dX0_landAll_63 (by decide) ?_
          refine lv_iload hx hb dX0_landAll_64 (lv_at hl 0 rfl) ?_
          refine g_callV0 hc hw (k_X0_move l D cI cZ cL a w b n (s_X0_takeFirstFreePlace w b n q4.1) hd5 hd4 hd30 (nI i4) (1 : Int32) (r_X0_takeFirstFreePlace w b n q4.1) (vp_in_nI (show i4 < 30 by omega) (by omega))) gX0_landAll_X0_move rfl (by decide +kernel) ⟨Nat.le_of_ble_eq_true rfl, Nat.le_of_ble_eq_true rfl⟩ 0 rfl rfl rfl rfl (rest := []) rfl hl.1 (Nat.le_of_ble_eq_true rfl) (st1 := []) rfl dX0_landAll_66 (k2 := 0) (s2 := 0) rfl rfl ⟨Nat.le_of_ble_eq_true rfl, Nat.le_of_ble_eq_true rfl⟩ (fun H locs hw => ?_)
          refine lv_iinc (v := (nI (i4 + 1))) (lv' := [(3, .int (nI (i4 + 1))), (4, .int (r_X0_takeFirstFreePlace w b n q4.1)), (0, .ref (a 0)), (1, .int x1), (2, .int q4.2)]) hx hb dX0_landAll_69 hl (k := 4) rfl (inc_n i4) (by decide) rfl (fun ls hl => ?_)
          refine lv_goto (tgt := 4) hx hb dX0_landAll_72 (by decide) ?_
          rw [show (f_X0_landAll_4 w b n T x1) i4 q4 = ((s_X0_move w b n (s_X0_takeFirstFreePlace w b n q4.1) (nI i4) (1 : Int32) (r_X0_takeFirstFreePlace w b n q4.1)), q4.2) from by rw [f_X0_landAll_4, if_neg c1, if_neg c2, if_neg c3]] at k4
          exact k4 H locs ls hw (lv_sub hl [2, 3, 4, 0] rfl)
        · refine lv_iconst (v := 0) hx hb dX0_landAll_56 (by decide) ?_
          refine lv_istore_n (lv' := [(2, .int (0 : Int32)), (4, .int (r_X0_takeFirstFreePlace w b n q4.1)), (0, .ref (a 0)), (1, .int x1), (3, .int (nI i4))]) hx hb dX0_landAll_57 rfl hl (by decide) rfl (fun ls hl => ?_)
          refine lv_goto (tgt := 69) hx hb dX0_landAll_58 (by decide) ?_
          refine lv_iinc (v := (nI (i4 + 1))) (lv' := [(3, .int (nI (i4 + 1))), (2, .int (0 : Int32)), (4, .int (r_X0_takeFirstFreePlace w b n q4.1)), (0, .ref (a 0)), (1, .int x1)]) hx hb dX0_landAll_69 hl (k := 4) rfl (inc_n i4) (by decide) rfl (fun ls hl => ?_)
          refine lv_goto (tgt := 4) hx hb dX0_landAll_72 (by decide) ?_
          rw [show (f_X0_landAll_4 w b n T x1) i4 q4 = ((s_X0_takeFirstFreePlace w b n q4.1), (0 : Int32)) from by rw [f_X0_landAll_4, if_neg c1, if_neg c2, if_pos c3]] at k4
          exact k4 H locs ls hw (lv_sub hl [3, 4, 1, 0] rfl)
      · refine lv_aload_n hx hb dX0_landAll_34 rfl (lv_at hl 0 rfl) ?_
        refine lv_iload_n hx hb dX0_landAll_35 rfl (lv_at hl 3 rfl) ?_
        refine lv_iconst (v := 2) hx hb dX0_landAll_36 (by decide) ?_
        refine lv_iconst (v := (-1)) hx hb dX0_landAll_37 (by decide) ?_
        refine g_callV0 hc hw (k_X0_move l D cI cZ cL a w b n q4.1 hd5 hd4 hd30 (nI i4) (2 : Int32) (-1 : Int32) (vp_in_nI (show i4 < 30 by omega) (by omega))) gX0_landAll_X0_move rfl (by decide +kernel) ⟨Nat.le_of_ble_eq_true rfl, Nat.le_of_ble_eq_true rfl⟩ 0 rfl rfl rfl rfl (rest := []) rfl hl.1 (Nat.le_of_ble_eq_true rfl) (st1 := []) rfl dX0_landAll_38 (k2 := 0) (s2 := 0) rfl rfl ⟨Nat.le_of_ble_eq_true rfl, Nat.le_of_ble_eq_true rfl⟩ (fun H locs hw => ?_)
        refine lv_goto (tgt := 69) hx hb dX0_landAll_41 (by decide) ?_
        refine lv_iinc (v := (nI (i4 + 1))) (lv' := [(3, .int (nI (i4 + 1))), (0, .ref (a 0)), (1, .int x1), (2, .int q4.2)]) hx hb dX0_landAll_69 hl (k := 3) rfl (inc_n i4) (by decide) rfl (fun ls hl => ?_)
        refine lv_goto (tgt := 4) hx hb dX0_landAll_72 (by decide) ?_
        rw [show (f_X0_landAll_4 w b n T x1) i4 q4 = ((s_X0_move w b n q4.1 (nI i4) (2 : Int32) (-1 : Int32)), q4.2) from by rw [f_X0_landAll_4, if_neg c1, if_pos c2]] at k4
        exact k4 H locs ls hw (lv_sub hl [1, 2, 3, 0] rfl)
    · refine lv_goto (tgt := 69) hx hb dX0_landAll_22 (by decide) ?_
      refine lv_iinc (v := (nI (i4 + 1))) (lv' := [(3, .int (nI (i4 + 1))), (0, .ref (a 0)), (1, .int x1), (2, .int q4.2)]) hx hb dX0_landAll_69 hl (k := 3) rfl (inc_n i4) (by decide) rfl (fun ls hl => ?_)
      refine lv_goto (tgt := 4) hx hb dX0_landAll_72 (by decide) ?_
      rw [show (f_X0_landAll_4 w b n T x1) i4 q4 = (q4.1, q4.2) from by rw [f_X0_landAll_4, if_pos c1]] at k4
      exact k4 H locs ls hw (lv_sub hl [1, 2, 3, 0] rfl)
  · intro H locs ls hw hl
    refine lv_iload_n hx hb dX0_landAll_4 rfl (lv_at hl 3 rfl) ?_
    refine lv_aload_n hx hb dX0_landAll_5 rfl (lv_at hl 0 rfl) ?_
    refine g_get (v := .int (nI n)) hc hw hiX0 0 9 rfl rfl (by decide) (List.mem_of_getElem? (i := 1) rfl) rfl dX0_landAll_6 ?_
    refine lv_icmp_ge (tgt := 75) hx hb dX0_landAll_9 (by decide) (fun _ => ?_) (fun z => absurd (nI_le (Nat.le_refl _) (by omega)) z)
    refine lv_iload_n hx hb dX0_landAll_75 rfl (lv_at hl 2 rfl) ?_
    rw [show r_X0_landAll w b n T x1 = ((lpf (f_X0_landAll_4 w b n T x1) n 0 (T, (1 : Int32))).2) from by rw [r_X0_landAll]]
    rw [show s_X0_landAll w b n T x1 = (lpf (f_X0_landAll_4 w b n T x1) n 0 (T, (1 : Int32))).1 from by rw [s_X0_landAll]]
    exact g_zret hc hw rfl (nz_01 (lpf_P (fun q : ct_T × Int32 => q.2 = 0 ∨ q.2 = 1) _ (fun i q h => by unfold f_X0_landAll_4; (repeat' split) <;> first | exact h | exact Or.inl rfl) n 0 _ (Or.inr rfl))) (Nat.le_of_ble_eq_true rfl) (Nat.le_of_ble_eq_true rfl) dX0_landAll_76

def f_X0_landBarges_2 (w : Nat) (b : Nat) (n : Nat) (T : ct_T) (i2 : Nat) (q2 : ct_T) : ct_T := ((cs_fr q2 (upd (ct_fr q2) (nI i2).toNatClampNeg (r_X0_freeIn w b n q2 (nI i2)))))
def f_X0_landBarges_29 (w : Nat) (b : Nat) (n : Nat) (T : ct_T) (i29 : Nat) (q29 : ct_T) : ct_T := if ((ct_to q29) (nI i29).toNatClampNeg) = (0 : Int32) then (if (r_X0_landAll w b n q29 (nI i29)) = (0 : Int32) then ((cs_to (s_X0_landAll w b n q29 (nI i29)) (upd (ct_to (s_X0_landAll w b n q29 (nI i29))) (nI i29).toNatClampNeg ((ct_ke (s_X0_landAll w b n q29 (nI i29))) (nI i29).toNatClampNeg)))) else ((s_X0_landAll w b n q29 (nI i29)))) else (q29)
def s_X0_landBarges (w : Nat) (b : Nat) (n : Nat) (T : ct_T) : ct_T := (lpf (f_X0_landBarges_29 w b n T) b 0 ((lpf (f_X0_landBarges_2 w b n T) w 0 (T))))
abbrev rm_X0_landBarges : Room := { frames := 3, cells := 0, slots := 0, locals := 68 }
set_option maxHeartbeats 4000000 in
set_option maxRecDepth 100000 in
theorem k_X0_landBarges (l : Launch) (D : va_G) (cI cZ cL : ClassId) (a : Nat → Nat) (w : Nat) (b : Nat) (n : Nat) (T : ct_T) (hd5 : w ≤ 5) (hd4 : b ≤ 4) (hd30 : n ≤ 30)   : MX l yX0_landBarges wsX0_landBarges rm_X0_landBarges D cI cZ cL [.ref (a 0)] (wt_c a cI cZ w b n T) none (wt_c a cI cZ w b n (s_X0_landBarges w b n T)) := by
  refine MX.of (own := RX0) (cc := cX0_landBarges) (maxL := 2) (ret := none) (lv0 := [(0, .ref (a 0))]) (by decide) rfl rfl (Nat.le_of_ble_eq_true rfl) rfl ?_
  intro p e s m args below meth c A hc hnm hw ls hl
  obtain ⟨hx, hb, hr, hml, hown, hts, hlk, hK, hA⟩ := id hc
  have hiX0 : ∀ w ∈ u_ws RX0 TX0 16, w ∈ wsX0_landBarges := fun _ h => List.mem_cons_of_mem _ (List.mem_append_right _ h)
  refine lv_iconst (v := 0) hx hb dX0_landBarges_0 (by decide) ?_
  refine lv_istore_n (lv' := [(1, .int (0 : Int32)), (0, .ref (a 0))]) hx hb dX0_landBarges_1 rfl hl (by decide) rfl (fun ls hl => ?_)
  refine lp_go (fun (i2 : Nat) (q2 : ct_T) => ∀ (H : Heap) (locs : List Loc) (ls : Array Slot), Wo D A s.heap (wt_c a cI cZ w b n q2) H locs → lv_has ls 2 [(0, .ref (a 0)), (1, .int (nI i2))] → W p l e rm_X0_landBarges s m args below meth c H locs 0 0 (QE below args s D A none (wt_c a cI cZ w b n (s_X0_landBarges w b n T)) rm_X0_landBarges) (F0 m 2 ls [])) (f_X0_landBarges_2 w b n T) w (T) ?_ ?_ s.heap [] ls hw (lv_sub hl [1, 0] rfl)
  · intro i2 q2 hi2 k2 H locs ls hw hl
    refine lv_iload_n hx hb dX0_landBarges_2 rfl (lv_at hl 1 rfl) ?_
    refine lv_aload_n hx hb dX0_landBarges_3 rfl (lv_at hl 0 rfl) ?_
    refine g_get (v := .int (nI w)) hc hw hiX0 0 3 rfl rfl (by decide) (List.mem_of_getElem? (i := 1) rfl) rfl dX0_landBarges_4 ?_
    refine lv_icmp_ge (tgt := 27) hx hb dX0_landBarges_7 (by decide) (fun z => absurd z (nI_ge hi2 (by omega))) (fun _ => ?_)
    refine lv_aload_n hx hb dX0_landBarges_10 rfl (lv_at hl 0 rfl) ?_
    refine g_get (v := .ref (a 15)) hc hw hiX0 0 15 rfl rfl (by decide) (List.mem_of_getElem? (i := 2) rfl) rfl dX0_landBarges_11 ?_
    refine lv_iload_n hx hb dX0_landBarges_14 rfl (lv_at hl 1 rfl) ?_
    refine lv_aload_n hx hb dX0_landBarges_15 rfl (lv_at hl 0 rfl) ?_
    refine lv_iload_n hx hb dX0_landBarges_16 rfl (lv_at hl 1 rfl) ?_
    refine g_callV0 hc hw (k_X0_freeIn l D cI cZ cL a w b n q2 hd5 hd4 hd30 (nI i2) (vp_in_nI (show i2 < 5 by omega) (by omega))) gX0_landBarges_X0_freeIn rfl (by decide +kernel) ⟨Nat.le_of_ble_eq_true rfl, Nat.le_of_ble_eq_true rfl⟩ 0 rfl rfl rfl rfl (rest := [.int (nI i2), .ref (a 15)]) rfl hl.1 (Nat.le_of_ble_eq_true rfl) (st1 := [.int (r_X0_freeIn w b n q2 (nI i2)), .int (nI i2), .ref (a 15)]) rfl dX0_landBarges_17 (k2 := 0) (s2 := 0) rfl rfl ⟨Nat.le_of_ble_eq_true rfl, Nat.le_of_ble_eq_true rfl⟩ (fun H locs hw => ?_)
    refine g_iast (f := (ct_fr q2)) hc hw 10 rfl (vp_in_nI (show i2 < 5 by omega) (by omega)) (w' := (wt_c a cI cZ w b n (cs_fr q2 (upd (ct_fr q2) (nI i2).toNatClampNeg (r_X0_freeIn w b n q2 (nI i2)))))) rfl dX0_landBarges_20 (fun H locs hw => ?_)
    refine lv_iinc (v := (nI (i2 + 1))) (lv' := [(1, .int (nI (i2 + 1))), (0, .ref (a 0))]) hx hb dX0_landBarges_21 hl (k := 1) rfl (inc_n i2) (by decide) rfl (fun ls hl => ?_)
    refine lv_goto (tgt := 2) hx hb dX0_landBarges_24 (by decide) ?_
    rw [show (f_X0_landBarges_2 w b n T) i2 q2 = ((cs_fr q2 (upd (ct_fr q2) (nI i2).toNatClampNeg (r_X0_freeIn w b n q2 (nI i2))))) from by rw [f_X0_landBarges_2]] at k2
    exact k2 H locs ls hw (lv_sub hl [1, 0] rfl)
  · intro H locs ls hw hl
    refine lv_iload_n hx hb dX0_landBarges_2 rfl (lv_at hl 1 rfl) ?_
    refine lv_aload_n hx hb dX0_landBarges_3 rfl (lv_at hl 0 rfl) ?_
    refine g_get (v := .int (nI w)) hc hw hiX0 0 3 rfl rfl (by decide) (List.mem_of_getElem? (i := 1) rfl) rfl dX0_landBarges_4 ?_
    refine lv_icmp_ge (tgt := 27) hx hb dX0_landBarges_7 (by decide) (fun _ => ?_) (fun z => absurd (nI_le (Nat.le_refl _) (by omega)) z)
    refine lv_iconst (v := 0) hx hb dX0_landBarges_27 (by decide) ?_
    refine lv_istore_n (lv' := [(1, .int (0 : Int32)), (0, .ref (a 0))]) hx hb dX0_landBarges_28 rfl hl (by decide) rfl (fun ls hl => ?_)
    refine lp_go (fun (i29 : Nat) (q29 : ct_T) => ∀ (H : Heap) (locs : List Loc) (ls : Array Slot), Wo D A s.heap (wt_c a cI cZ w b n q29) H locs → lv_has ls 2 [(0, .ref (a 0)), (1, .int (nI i29))] → W p l e rm_X0_landBarges s m args below meth c H locs 0 0 (QE below args s D A none (wt_c a cI cZ w b n (s_X0_landBarges w b n T)) rm_X0_landBarges) (F0 m 29 ls [])) (f_X0_landBarges_29 w b n T) b ((lpf (f_X0_landBarges_2 w b n T) w 0 (T))) ?_ ?_ H locs ls hw (lv_sub hl [1, 0] rfl)
    · intro i29 q29 hi29 k29 H locs ls hw hl
      refine lv_iload_n hx hb dX0_landBarges_29 rfl (lv_at hl 1 rfl) ?_
      refine lv_aload_n hx hb dX0_landBarges_30 rfl (lv_at hl 0 rfl) ?_
      refine g_get (v := .int (nI b)) hc hw hiX0 0 6 rfl rfl (by decide) (List.mem_of_getElem? (i := 3) rfl) rfl dX0_landBarges_31 ?_
      refine lv_icmp_ge (tgt := 72) hx hb dX0_landBarges_34 (by decide) (fun z => absurd z (nI_ge hi29 (by omega))) (fun _ => ?_)
      refine lv_aload_n hx hb dX0_landBarges_37 rfl (lv_at hl 0 rfl) ?_
      refine g_get (v := .ref (a 8)) hc hw hiX0 0 8 rfl rfl (by decide) (List.mem_of_getElem? (i := 4) rfl) rfl dX0_landBarges_38 ?_
      refine lv_iload_n hx hb dX0_landBarges_41 rfl (lv_at hl 1 rfl) ?_
      refine g_iald (f := (ct_to q29)) hc hw 4 rfl (vp_in_nI (show i29 < 4 by omega) (by omega)) dX0_landBarges_42 ?_
      refine lv_if_ne (tgt := 66) hx hb dX0_landBarges_43 (by decide) (fun c1 => ?_) (fun c1 => ?_)
      · refine lv_iinc (v := (nI (i29 + 1))) (lv' := [(1, .int (nI (i29 + 1))), (0, .ref (a 0))]) hx hb dX0_landBarges_66 hl (k := 1) rfl (inc_n i29) (by decide) rfl (fun ls hl => ?_)
        refine lv_goto (tgt := 29) hx hb dX0_landBarges_69 (by decide) ?_
        rw [show (f_X0_landBarges_29 w b n T) i29 q29 = (q29) from by rw [f_X0_landBarges_29, if_neg c1]] at k29
        exact k29 H locs ls hw (lv_sub hl [1, 0] rfl)
      · refine lv_aload_n hx hb dX0_landBarges_46 rfl (lv_at hl 0 rfl) ?_
        refine lv_iload_n hx hb dX0_landBarges_47 rfl (lv_at hl 1 rfl) ?_
        refine g_callV0 hc hw (k_X0_landAll l D cI cZ cL a w b n q29 hd5 hd4 hd30 (nI i29)) gX0_landBarges_X0_landAll rfl (by decide +kernel) ⟨Nat.le_of_ble_eq_true rfl, Nat.le_of_ble_eq_true rfl⟩ 0 rfl rfl rfl rfl (rest := []) rfl hl.1 (Nat.le_of_ble_eq_true rfl) (st1 := [.int (r_X0_landAll w b n q29 (nI i29))]) rfl dX0_landBarges_48 (k2 := 0) (s2 := 0) rfl rfl ⟨Nat.le_of_ble_eq_true rfl, Nat.le_of_ble_eq_true rfl⟩ (fun H locs hw => ?_)
        refine lv_if_ne (tgt := 66) hx hb dX0_landBarges_51 (by decide) (fun c2 => ?_) (fun c2 => ?_)
        · refine lv_iinc (v := (nI (i29 + 1))) (lv' := [(1, .int (nI (i29 + 1))), (0, .ref (a 0))]) hx hb dX0_landBarges_66 hl (k := 1) rfl (inc_n i29) (by decide) rfl (fun ls hl => ?_)
          refine lv_goto (tgt := 29) hx hb dX0_landBarges_69 (by decide) ?_
          rw [show (f_X0_landBarges_29 w b n T) i29 q29 = ((s_X0_landAll w b n q29 (nI i29))) from by rw [f_X0_landBarges_29, if_pos c1, if_neg c2]] at k29
          exact k29 H locs ls hw (lv_sub hl [1, 0] rfl)
        · refine lv_aload_n hx hb dX0_landBarges_54 rfl (lv_at hl 0 rfl) ?_
          refine g_get (v := .ref (a 8)) hc hw hiX0 0 8 rfl rfl (by decide) (List.mem_of_getElem? (i := 4) rfl) rfl dX0_landBarges_55 ?_
          refine lv_iload_n hx hb dX0_landBarges_58 rfl (lv_at hl 1 rfl) ?_
          refine lv_aload_n hx hb dX0_landBarges_59 rfl (lv_at hl 0 rfl) ?_
          refine g_get (v := .ref (a 7)) hc hw hiX0 0 7 rfl rfl (by decide) (List.mem_of_getElem? (i := 5) rfl) rfl dX0_landBarges_60 ?_
          refine lv_iload_n hx hb dX0_landBarges_63 rfl (lv_at hl 1 rfl) ?_
          refine g_iald (f := (ct_ke (s_X0_landAll w b n q29 (nI i29)))) hc hw 3 rfl (vp_in_nI (show i29 < 4 by omega) (by omega)) dX0_landBarges_64 ?_
          refine g_iast (f := (ct_to (s_X0_landAll w b n q29 (nI i29)))) hc hw 4 rfl (vp_in_nI (show i29 < 4 by omega) (by omega)) (w' := (wt_c a cI cZ w b n (cs_to (s_X0_landAll w b n q29 (nI i29)) (upd (ct_to (s_X0_landAll w b n q29 (nI i29))) (nI i29).toNatClampNeg ((ct_ke (s_X0_landAll w b n q29 (nI i29))) (nI i29).toNatClampNeg))))) rfl dX0_landBarges_65 (fun H locs hw => ?_)
          refine lv_iinc (v := (nI (i29 + 1))) (lv' := [(1, .int (nI (i29 + 1))), (0, .ref (a 0))]) hx hb dX0_landBarges_66 hl (k := 1) rfl (inc_n i29) (by decide) rfl (fun ls hl => ?_)
          refine lv_goto (tgt := 29) hx hb dX0_landBarges_69 (by decide) ?_
          rw [show (f_X0_landBarges_29 w b n T) i29 q29 = ((cs_to (s_X0_landAll w b n q29 (nI i29)) (upd (ct_to (s_X0_landAll w b n q29 (nI i29))) (nI i29).toNatClampNeg ((ct_ke (s_X0_landAll w b n q29 (nI i29))) (nI i29).toNatClampNeg)))) from by rw [f_X0_landBarges_29, if_pos c1, if_pos c2]] at k29
          exact k29 H locs ls hw (lv_sub hl [1, 0] rfl)
    · intro H locs ls hw hl
      refine lv_iload_n hx hb dX0_landBarges_29 rfl (lv_at hl 1 rfl) ?_
      refine lv_aload_n hx hb dX0_landBarges_30 rfl (lv_at hl 0 rfl) ?_
      refine g_get (v := .int (nI b)) hc hw hiX0 0 6 rfl rfl (by decide) (List.mem_of_getElem? (i := 3) rfl) rfl dX0_landBarges_31 ?_
      refine lv_icmp_ge (tgt := 72) hx hb dX0_landBarges_34 (by decide) (fun _ => ?_) (fun z => absurd (nI_le (Nat.le_refl _) (by omega)) z)
      rw [show s_X0_landBarges w b n T = (lpf (f_X0_landBarges_29 w b n T) b 0 ((lpf (f_X0_landBarges_2 w b n T) w 0 (T)))) from by rw [s_X0_landBarges]]
      exact g_vret hc hw rfl (Nat.le_of_ble_eq_true rfl) (Nat.le_of_ble_eq_true rfl) dX0_landBarges_72

def f_X0_liveDays_2 (w : Nat) (b : Nat) (n : Nat) (T : ct_T) (x1 : Nat) (i2 : Nat) (q2 : ct_T) : ct_T := ((cs_day (s_X0_landBarges w b n (s_X0_leaveWards w b n (s_X0_ageStraw w b n (s_X0_bringBargesNearer w b n (s_X0_changeFeversInWards w b n (s_X0_giveBowls w b n q2)))))) ((ct_day (s_X0_landBarges w b n (s_X0_leaveWards w b n (s_X0_ageStraw w b n (s_X0_bringBargesNearer w b n (s_X0_changeFeversInWards w b n (s_X0_giveBowls w b n q2))))))) + (1 : Int32))))
def s_X0_liveDays (w : Nat) (b : Nat) (n : Nat) (T : ct_T) (x1 : Nat) : ct_T := (lpf (f_X0_liveDays_2 w b n T x1) x1 0 (T))
abbrev rm_X0_liveDays : Room := { frames := 4, cells := 0, slots := 0, locals := 91 }
set_option maxHeartbeats 4000000 in
set_option maxRecDepth 100000 in
theorem k_X0_liveDays (l : Launch) (D : va_G) (cI cZ cL : ClassId) (a : Nat → Nat) (w : Nat) (b : Nat) (n : Nat) (T : ct_T) (hd5 : w ≤ 5) (hd4 : b ≤ 4) (hd30 : n ≤ 30) (x1 : Nat) (hp1 : x1 < 2 ^ 31) : MX l yX0_liveDays wsX0_liveDays rm_X0_liveDays D cI cZ cL [.ref (a 0), .int (nI x1)] (wt_c a cI cZ w b n T) none (wt_c a cI cZ w b n (s_X0_liveDays w b n T x1)) := by
  refine MX.of (own := RX0) (cc := cX0_liveDays) (maxL := 3) (ret := none) (lv0 := [(0, .ref (a 0)), (1, .int (nI x1))]) (by decide) rfl rfl (Nat.le_of_ble_eq_true rfl) rfl ?_
  intro p e s m args below meth c A hc hnm hw ls hl
  obtain ⟨hx, hb, hr, hml, hown, hts, hlk, hK, hA⟩ := id hc
  have hiX0 : ∀ w ∈ u_ws RX0 TX0 16, w ∈ wsX0_liveDays := fun _ h => List.mem_cons_of_mem _ (List.mem_append_right _ h)
  refine lv_iconst (v := 0) hx hb dX0_liveDays_0 (by decide) ?_
  refine lv_istore_n (lv' := [(2, .int (0 : Int32)), (0, .ref (a 0)), (1, .int (nI x1))]) hx hb dX0_liveDays_1 rfl hl (by decide) rfl (fun ls hl => ?_)
  refine lp_go (fun (i2 : Nat) (q2 : ct_T) => ∀ (H : Heap) (locs : List Loc) (ls : Array Slot), Wo D A s.heap (wt_c a cI cZ w b n q2) H locs → lv_has ls 3 [(0, .ref (a 0)), (1, .int (nI x1)), (2, .int (nI i2))] → W p l e rm_X0_liveDays s m args below meth c H locs 0 0 (QE below args s D A none (wt_c a cI cZ w b n (s_X0_liveDays w b n T x1)) rm_X0_liveDays) (F0 m 2 ls [])) (f_X0_liveDays_2 w b n T x1) x1 (T) ?_ ?_ s.heap [] ls hw (lv_sub hl [1, 2, 0] rfl)
  · intro i2 q2 hi2 k2 H locs ls hw hl
    refine lv_iload_n hx hb dX0_liveDays_2 rfl (lv_at hl 2 rfl) ?_
    refine lv_iload_n hx hb dX0_liveDays_3 rfl (lv_at hl 1 rfl) ?_
    refine lv_icmp_ge (tgt := 47) hx hb dX0_liveDays_4 (by decide) (fun z => absurd z (nI_ge hi2 (by omega))) (fun _ => ?_)
    refine lv_aload_n hx hb dX0_liveDays_7 rfl (lv_at hl 0 rfl) ?_
    refine g_callV0 hc hw (k_X0_giveBowls l D cI cZ cL a w b n q2 hd5 hd4 hd30) gX0_liveDays_X0_giveBowls rfl (by decide +kernel) ⟨Nat.le_of_ble_eq_true rfl, Nat.le_of_ble_eq_true rfl⟩ 0 rfl rfl rfl rfl (rest := []) rfl hl.1 (Nat.le_of_ble_eq_true rfl) (st1 := []) rfl dX0_liveDays_8 (k2 := 0) (s2 := 0) rfl rfl ⟨Nat.le_of_ble_eq_true rfl, Nat.le_of_ble_eq_true rfl⟩ (fun H locs hw => ?_)
    refine lv_aload_n hx hb dX0_liveDays_11 rfl (lv_at hl 0 rfl) ?_
    refine g_callV0 hc hw (k_X0_changeFeversInWards l D cI cZ cL a w b n (s_X0_giveBowls w b n q2) hd5 hd4 hd30) gX0_liveDays_X0_changeFeversInWards rfl (by decide +kernel) ⟨Nat.le_of_ble_eq_true rfl, Nat.le_of_ble_eq_true rfl⟩ 0 rfl rfl rfl rfl (rest := []) rfl hl.1 (Nat.le_of_ble_eq_true rfl) (st1 := []) rfl dX0_liveDays_12 (k2 := 0) (s2 := 0) rfl rfl ⟨Nat.le_of_ble_eq_true rfl, Nat.le_of_ble_eq_true rfl⟩ (fun H locs hw => ?_)
    refine lv_aload_n hx hb dX0_liveDays_15 rfl (lv_at hl 0 rfl) ?_
    refine g_callV0 hc hw (k_X0_bringBargesNearer l D cI cZ cL a w b n (s_X0_changeFeversInWards w b n (s_X0_giveBowls w b n q2)) hd5 hd4 hd30) gX0_liveDays_X0_bringBargesNearer rfl (by decide +kernel) ⟨Nat.le_of_ble_eq_true rfl, Nat.le_of_ble_eq_true rfl⟩ 0 rfl rfl rfl rfl (rest := []) rfl hl.1 (Nat.le_of_ble_eq_true rfl) (st1 := []) rfl dX0_liveDays_16 (k2 := 0) (s2 := 0) rfl rfl ⟨Nat.le_of_ble_eq_true rfl, Nat.le_of_ble_eq_true rfl⟩ (fun H locs hw => ?_)
    refine lv_aload_n hx hb dX0_liveDays_19 rfl (lv_at hl 0 rfl) ?_
    refine g_callV0 hc hw (k_X0_ageStraw l D cI cZ cL a w b n (s_X0_bringBargesNearer w b n (s_X0_changeFeversInWards w b n (s_X0_giveBowls w b n q2))) hd5 hd4 hd30) gX0_liveDays_X0_ageStraw rfl (by decide +kernel) ⟨Nat.le_of_ble_eq_true rfl, Nat.le_of_ble_eq_true rfl⟩ 0 rfl rfl rfl rfl (rest := []) rfl hl.1 (Nat.le_of_ble_eq_true rfl) (st1 := []) rfl dX0_liveDays_20 (k2 := 0) (s2 := 0) rfl rfl ⟨Nat.le_of_ble_eq_true rfl, Nat.le_of_ble_eq_true rfl⟩ (fun H locs hw => ?_)
    refine lv_aload_n hx hb dX0_liveDays_23 rfl (lv_at hl 0 rfl) ?_
    refine g_callV0 hc hw (k_X0_leaveWards l D cI cZ cL a w b n (s_X0_ageStraw w b n (s_X0_bringBargesNearer w b n (s_X0_changeFeversInWards w b n (s_X0_giveBowls w b n q2)))) hd5 hd4 hd30) gX0_liveDays_X0_leaveWards rfl (by decide +kernel) ⟨Nat.le_of_ble_eq_true rfl, Nat.le_of_ble_eq_true rfl⟩ 0 rfl rfl rfl rfl (rest := []) rfl hl.1 (Nat.le_of_ble_eq_true rfl) (st1 := []) rfl dX0_liveDays_24 (k2 := 0) (s2 := 0) rfl rfl ⟨Nat.le_of_ble_eq_true rfl, Nat.le_of_ble_eq_true rfl⟩ (fun H locs hw => ?_)
    refine lv_aload_n hx hb dX0_liveDays_27 rfl (lv_at hl 0 rfl) ?_
    refine g_callV0 hc hw (k_X0_landBarges l D cI cZ cL a w b n (s_X0_leaveWards w b n (s_X0_ageStraw w b n (s_X0_bringBargesNearer w b n (s_X0_changeFeversInWards w b n (s_X0_giveBowls w b n q2))))) hd5 hd4 hd30) gX0_liveDays_X0_landBarges rfl (by decide +kernel) ⟨Nat.le_of_ble_eq_true rfl, Nat.le_of_ble_eq_true rfl⟩ 0 rfl rfl rfl rfl (rest := []) rfl hl.1 (Nat.le_of_ble_eq_true rfl) (st1 := []) rfl dX0_liveDays_28 (k2 := 0) (s2 := 0) rfl rfl ⟨Nat.le_of_ble_eq_true rfl, Nat.le_of_ble_eq_true rfl⟩ (fun H locs hw => ?_)
    refine lv_aload_n hx hb dX0_liveDays_31 rfl (lv_at hl 0 rfl) ?_
    refine lv_dup hx hb dX0_liveDays_32 rfl ?_
    refine g_get (v := .int (ct_day (s_X0_landBarges w b n (s_X0_leaveWards w b n (s_X0_ageStraw w b n (s_X0_bringBargesNearer w b n (s_X0_changeFeversInWards w b n (s_X0_giveBowls w b n q2)))))))) hc hw hiX0 0 0 rfl rfl (by decide) (List.mem_of_getElem? (i := 1) rfl) rfl dX0_liveDays_33 ?_
    refine lv_iconst (v := 1) hx hb dX0_liveDays_36 (by decide) ?_
    refine lv_iadd hx hb dX0_liveDays_37 ?_
    refine g_put hc hw hiX0 tyX0 tyX0_ok nmX0 0 0 rfl rfl (by decide) (List.mem_of_getElem? (i := 1) rfl) (by decide) rfl rfl (Nat.le_of_ble_eq_true rfl) (w' := (wt_c a cI cZ w b n (cs_day (s_X0_landBarges w b n (s_X0_leaveWards w b n (s_X0_ageStraw w b n (s_X0_bringBargesNearer w b n (s_X0_changeFeversInWards w b n (s_X0_giveBowls w b n q2)))))) ((ct_day (s_X0_landBarges w b n (s_X0_leaveWards w b n (s_X0_ageStraw w b n (s_X0_bringBargesNearer w b n (s_X0_changeFeversInWards w b n (s_X0_giveBowls w b n q2))))))) + (1 : Int32))))) rfl dX0_liveDays_38 (fun H locs hw => ?_)
    refine lv_iinc (v := (nI (i2 + 1))) (lv' := [(2, .int (nI (i2 + 1))), (0, .ref (a 0)), (1, .int (nI x1))]) hx hb dX0_liveDays_41 hl (k := 2) rfl (inc_n i2) (by decide) rfl (fun ls hl => ?_)
    refine lv_goto (tgt := 2) hx hb dX0_liveDays_44 (by decide) ?_
    rw [show (f_X0_liveDays_2 w b n T x1) i2 q2 = ((cs_day (s_X0_landBarges w b n (s_X0_leaveWards w b n (s_X0_ageStraw w b n (s_X0_bringBargesNearer w b n (s_X0_changeFeversInWards w b n (s_X0_giveBowls w b n q2)))))) ((ct_day (s_X0_landBarges w b n (s_X0_leaveWards w b n (s_X0_ageStraw w b n (s_X0_bringBargesNearer w b n (s_X0_changeFeversInWards w b n (s_X0_giveBowls w b n q2))))))) + (1 : Int32)))) from by rw [f_X0_liveDays_2]] at k2
    exact k2 H locs ls hw (lv_sub hl [1, 2, 0] rfl)
  · intro H locs ls hw hl
    refine lv_iload_n hx hb dX0_liveDays_2 rfl (lv_at hl 2 rfl) ?_
    refine lv_iload_n hx hb dX0_liveDays_3 rfl (lv_at hl 1 rfl) ?_
    refine lv_icmp_ge (tgt := 47) hx hb dX0_liveDays_4 (by decide) (fun _ => ?_) (fun z => absurd (nI_le (Nat.le_refl _) (by omega)) z)
    rw [show s_X0_liveDays w b n T x1 = (lpf (f_X0_liveDays_2 w b n T x1) x1 0 (T)) from by rw [s_X0_liveDays]]
    exact g_vret hc hw rfl (Nat.le_of_ble_eq_true rfl) (Nat.le_of_ble_eq_true rfl) dX0_liveDays_47

def r_X0_openWard (w : Nat) (b : Nat) (n : Nat) (T : ct_T) (x1 : Int32) : Int32 := (nI w)
def s_X0_openWard (w : Nat) (b : Nat) (n : Nat) (T : ct_T) (x1 : Int32) : ct_T := (cs_pl T (upd (ct_pl T) (nI w).toNatClampNeg x1))
abbrev rm_X0_openWard : Room := { frames := 0, cells := 0, slots := 0, locals := 0 }
set_option maxHeartbeats 4000000 in
set_option maxRecDepth 100000 in
theorem k_X0_openWard (l : Launch) (D : va_G) (cI cZ cL : ClassId) (a : Nat → Nat) (w : Nat) (b : Nat) (n : Nat) (T : ct_T) (hd5 : w ≤ 5) (hd4 : b ≤ 4) (hd30 : n ≤ 30) (x1 : Int32) (hlt : w < 5) : MX l yX0_openWard wsX0_openWard rm_X0_openWard D cI cZ cL [.ref (a 0), .int x1] (wt_c a cI cZ w b n T) (some (.int (r_X0_openWard w b n T x1))) (wt_c a cI cZ (w + 1) b n (s_X0_openWard w b n T x1)) := by
  refine MX.of (own := RX0) (cc := cX0_openWard) (maxL := 3) (ret := (some .int)) (lv0 := [(0, .ref (a 0)), (1, .int x1)]) (by decide) rfl rfl (Nat.le_of_ble_eq_true rfl) rfl ?_
  intro p e s m args below meth c A hc hnm hw ls hl
  obtain ⟨hx, hb, hr, hml, hown, hts, hlk, hK, hA⟩ := id hc
  have hiX0 : ∀ w ∈ u_ws RX0 TX0 16, w ∈ wsX0_openWard := fun _ h => List.mem_cons_of_mem _ (List.mem_append_right _ h)
  refine lv_aload_n hx hb dX0_openWard_0 rfl (lv_at hl 0 rfl) ?_
  refine g_get (v := .int (nI w)) hc hw hiX0 0 3 rfl rfl (by decide) (List.mem_of_getElem? (i := 1) rfl) rfl dX0_openWard_1 ?_
  refine lv_istore_n (lv' := [(2, .int (nI w)), (0, .ref (a 0)), (1, .int x1)]) hx hb dX0_openWard_4 rfl hl (by decide) rfl (fun ls hl => ?_)
  refine lv_aload_n hx hb dX0_openWard_5 rfl (lv_at hl 1 rfl) ?_
  refine g_get (v := .ref (a 4)) hc hw hiX0 0 4 rfl rfl (by decide) (List.mem_of_getElem? (i := 2) rfl) rfl dX0_openWard_6 ?_
  refine lv_iload_n hx hb dX0_openWard_9 rfl (lv_at hl 0 rfl) ?_
  refine lv_iload_n hx hb dX0_openWard_10 rfl (lv_at hl 2 rfl) ?_
  refine g_iast (f := (ct_pl T)) hc hw 1 rfl (vp_in_nI (show w < 5 by omega) (by omega)) (w' := (wt_c a cI cZ w b n (cs_pl T (upd (ct_pl T) (nI w).toNatClampNeg x1)))) rfl dX0_openWard_11 (fun H locs hw => ?_)
  refine lv_aload_n hx hb dX0_openWard_12 rfl (lv_at hl 1 rfl) ?_
  refine lv_dup hx hb dX0_openWard_13 rfl ?_
  refine g_get (v := .int (nI w)) hc hw hiX0 0 3 rfl rfl (by decide) (List.mem_of_getElem? (i := 1) rfl) rfl dX0_openWard_14 ?_
  refine lv_iconst (v := 1) hx hb dX0_openWard_17 (by decide) ?_
  refine lv_iadd hx hb dX0_openWard_18 ?_
  rw [nI_1 w]
  refine g_put hc hw hiX0 tyX0 tyX0_ok nmX0 0 3 rfl rfl (by decide) (List.mem_of_getElem? (i := 1) rfl) (by decide) rfl rfl (Nat.le_of_ble_eq_true rfl) (w' := (wt_c a cI cZ (w + 1) b n (cs_pl T (upd (ct_pl T) (nI w).toNatClampNeg x1)))) rfl dX0_openWard_19 (fun H locs hw => ?_)
  refine lv_iload_n hx hb dX0_openWard_22 rfl (lv_at hl 0 rfl) ?_
  rw [show r_X0_openWard w b n T x1 = (nI w) from by rw [r_X0_openWard]]
  rw [show s_X0_openWard w b n T x1 = (cs_pl T (upd (ct_pl T) (nI w).toNatClampNeg x1)) from by rw [s_X0_openWard]]
  exact g_ret hc hw rfl (Nat.le_of_ble_eq_true rfl) (Nat.le_of_ble_eq_true rfl) dX0_openWard_23

def r_X0_openBarge (w : Nat) (b : Nat) (n : Nat) (T : ct_T) (x1 : Int32) : Int32 := (nI b)
def s_X0_openBarge (w : Nat) (b : Nat) (n : Nat) (T : ct_T) (x1 : Int32) : ct_T := (cs_to (cs_ke T (upd (ct_ke T) (nI b).toNatClampNeg x1)) (upd (ct_to T) (nI b).toNatClampNeg x1))
abbrev rm_X0_openBarge : Room := { frames := 0, cells := 0, slots := 0, locals := 0 }
set_option maxHeartbeats 4000000 in
set_option maxRecDepth 100000 in
theorem k_X0_openBarge (l : Launch) (D : va_G) (cI cZ cL : ClassId) (a : Nat → Nat) (w : Nat) (b : Nat) (n : Nat) (T : ct_T) (hd5 : w ≤ 5) (hd4 : b ≤ 4) (hd30 : n ≤ 30) (x1 : Int32) (hlt : b < 4) : MX l yX0_openBarge wsX0_openBarge rm_X0_openBarge D cI cZ cL [.ref (a 0), .int x1] (wt_c a cI cZ w b n T) (some (.int (r_X0_openBarge w b n T x1))) (wt_c a cI cZ w (b + 1) n (s_X0_openBarge w b n T x1)) := by
  refine MX.of (own := RX0) (cc := cX0_openBarge) (maxL := 3) (ret := (some .int)) (lv0 := [(0, .ref (a 0)), (1, .int x1)]) (by decide) rfl rfl (Nat.le_of_ble_eq_true rfl) rfl ?_
  intro p e s m args below meth c A hc hnm hw ls hl
  obtain ⟨hx, hb, hr, hml, hown, hts, hlk, hK, hA⟩ := id hc
  have hiX0 : ∀ w ∈ u_ws RX0 TX0 16, w ∈ wsX0_openBarge := fun _ h => List.mem_cons_of_mem _ (List.mem_append_right _ h)
  refine lv_aload_n hx hb dX0_openBarge_0 rfl (lv_at hl 0 rfl) ?_
  refine g_get (v := .int (nI b)) hc hw hiX0 0 6 rfl rfl (by decide) (List.mem_of_getElem? (i := 1) rfl) rfl dX0_openBarge_1 ?_
  refine lv_istore_n (lv' := [(2, .int (nI b)), (0, .ref (a 0)), (1, .int x1)]) hx hb dX0_openBarge_4 rfl hl (by decide) rfl (fun ls hl => ?_)
  refine lv_aload_n hx hb dX0_openBarge_5 rfl (lv_at hl 1 rfl) ?_
  refine g_get (v := .ref (a 7)) hc hw hiX0 0 7 rfl rfl (by decide) (List.mem_of_getElem? (i := 2) rfl) rfl dX0_openBarge_6 ?_
  refine lv_iload_n hx hb dX0_openBarge_9 rfl (lv_at hl 0 rfl) ?_
  refine lv_iload_n hx hb dX0_openBarge_10 rfl (lv_at hl 2 rfl) ?_
  refine g_iast (f := (ct_ke T)) hc hw 3 rfl (vp_in_nI (show b < 4 by omega) (by omega)) (w' := (wt_c a cI cZ w b n (cs_ke T (upd (ct_ke T) (nI b).toNatClampNeg x1)))) rfl dX0_openBarge_11 (fun H locs hw => ?_)
  refine lv_aload_n hx hb dX0_openBarge_12 rfl (lv_at hl 1 rfl) ?_
  refine g_get (v := .ref (a 8)) hc hw hiX0 0 8 rfl rfl (by decide) (List.mem_of_getElem? (i := 3) rfl) rfl dX0_openBarge_13 ?_
  refine lv_iload_n hx hb dX0_openBarge_16 rfl (lv_at hl 0 rfl) ?_
  refine lv_iload_n hx hb dX0_openBarge_17 rfl (lv_at hl 2 rfl) ?_
  refine g_iast (f := (ct_to T)) hc hw 4 rfl (vp_in_nI (show b < 4 by omega) (by omega)) (w' := (wt_c a cI cZ w b n (cs_to (cs_ke T (upd (ct_ke T) (nI b).toNatClampNeg x1)) (upd (ct_to T) (nI b).toNatClampNeg x1)))) rfl dX0_openBarge_18 (fun H locs hw => ?_)
  refine lv_aload_n hx hb dX0_openBarge_19 rfl (lv_at hl 1 rfl) ?_
  refine lv_dup hx hb dX0_openBarge_20 rfl ?_
  refine g_get (v := .int (nI b)) hc hw hiX0 0 6 rfl rfl (by decide) (List.mem_of_getElem? (i := 1) rfl) rfl dX0_openBarge_21 ?_
  refine lv_iconst (v := 1) hx hb dX0_openBarge_24 (by decide) ?_
  refine lv_iadd hx hb dX0_openBarge_25 ?_
  rw [nI_1 b]
  refine g_put hc hw hiX0 tyX0 tyX0_ok nmX0 0 6 rfl rfl (by decide) (List.mem_of_getElem? (i := 1) rfl) (by decide) rfl rfl (Nat.le_of_ble_eq_true rfl) (w' := (wt_c a cI cZ w (b + 1) n (cs_to (cs_ke T (upd (ct_ke T) (nI b).toNatClampNeg x1)) (upd (ct_to T) (nI b).toNatClampNeg x1)))) rfl dX0_openBarge_26 (fun H locs hw => ?_)
  refine lv_iload_n hx hb dX0_openBarge_29 rfl (lv_at hl 0 rfl) ?_
  rw [show r_X0_openBarge w b n T x1 = (nI b) from by rw [r_X0_openBarge]]
  rw [show s_X0_openBarge w b n T x1 = (cs_to (cs_ke T (upd (ct_ke T) (nI b).toNatClampNeg x1)) (upd (ct_to T) (nI b).toNatClampNeg x1)) from by rw [s_X0_openBarge]]
  exact g_ret hc hw rfl (Nat.le_of_ble_eq_true rfl) (Nat.le_of_ble_eq_true rfl) dX0_openBarge_30

def r_X0_takeAboard (w : Nat) (b : Nat) (n : Nat) (T : ct_T) (x1 : Int32) (x2 : Int32) : Int32 := if ((ct_to (s_X0_move w b n (cs_fe T (upd (ct_fe T) (nI n).toNatClampNeg x2)) (nI n) (0 : Int32) x1)) x1.toNatClampNeg) = (0 : Int32) then ((nI n)) else ((nI n))
def s_X0_takeAboard (w : Nat) (b : Nat) (n : Nat) (T : ct_T) (x1 : Int32) (x2 : Int32) : ct_T := if ((ct_to (s_X0_move w b n (cs_fe T (upd (ct_fe T) (nI n).toNatClampNeg x2)) (nI n) (0 : Int32) x1)) x1.toNatClampNeg) = (0 : Int32) then ((cs_to (s_X0_move w b n (cs_fe T (upd (ct_fe T) (nI n).toNatClampNeg x2)) (nI n) (0 : Int32) x1) (upd (ct_to (s_X0_move w b n (cs_fe T (upd (ct_fe T) (nI n).toNatClampNeg x2)) (nI n) (0 : Int32) x1)) x1.toNatClampNeg ((ct_ke (s_X0_move w b n (cs_fe T (upd (ct_fe T) (nI n).toNatClampNeg x2)) (nI n) (0 : Int32) x1)) x1.toNatClampNeg)))) else ((s_X0_move w b n (cs_fe T (upd (ct_fe T) (nI n).toNatClampNeg x2)) (nI n) (0 : Int32) x1))
abbrev rm_X0_takeAboard : Room := { frames := 1, cells := 0, slots := 0, locals := 23 }
set_option maxHeartbeats 4000000 in
set_option maxRecDepth 100000 in
theorem k_X0_takeAboard (l : Launch) (D : va_G) (cI cZ cL : ClassId) (a : Nat → Nat) (w : Nat) (b : Nat) (n : Nat) (T : ct_T) (hd5 : w ≤ 5) (hd4 : b ≤ 4) (hd30 : n ≤ 30) (x1 : Int32) (x2 : Int32) (hp1 : vp_in x1 4) (hlt : n < 30) : MX l yX0_takeAboard wsX0_takeAboard rm_X0_takeAboard D cI cZ cL [.ref (a 0), .int x1, .int x2] (wt_c a cI cZ w b n T) (some (.int (r_X0_takeAboard w b n T x1 x2))) (wt_c a cI cZ w b (n + 1) (s_X0_takeAboard w b n T x1 x2)) := by
  refine MX.of (own := RX0) (cc := cX0_takeAboard) (maxL := 4) (ret := (some .int)) (lv0 := [(0, .ref (a 0)), (1, .int x1), (2, .int x2)]) (by decide) rfl rfl (Nat.le_of_ble_eq_true rfl) rfl ?_
  intro p e s m args below meth c A hc hnm hw ls hl
  obtain ⟨hx, hb, hr, hml, hown, hts, hlk, hK, hA⟩ := id hc
  have hiX0 : ∀ w ∈ u_ws RX0 TX0 16, w ∈ wsX0_takeAboard := fun _ h => List.mem_cons_of_mem _ (List.mem_append_right _ h)
  refine lv_aload_n hx hb dX0_takeAboard_0 rfl (lv_at hl 0 rfl) ?_
  refine g_get (v := .int (nI n)) hc hw hiX0 0 9 rfl rfl (by decide) (List.mem_of_getElem? (i := 1) rfl) rfl dX0_takeAboard_1 ?_
  refine lv_istore_n (lv' := [(3, .int (nI n)), (0, .ref (a 0)), (1, .int x1), (2, .int x2)]) hx hb dX0_takeAboard_4 rfl hl (by decide) rfl (fun ls hl => ?_)
  refine lv_aload_n hx hb dX0_takeAboard_5 rfl (lv_at hl 1 rfl) ?_
  refine g_get (v := .ref (a 10)) hc hw hiX0 0 10 rfl rfl (by decide) (List.mem_of_getElem? (i := 2) rfl) rfl dX0_takeAboard_6 ?_
  refine lv_iload_n hx hb dX0_takeAboard_9 rfl (lv_at hl 0 rfl) ?_
  refine lv_iload_n hx hb dX0_takeAboard_10 rfl (lv_at hl 3 rfl) ?_
  refine g_iast (f := (ct_fe T)) hc hw 5 rfl (vp_in_nI (show n < 30 by omega) (by omega)) (w' := (wt_c a cI cZ w b n (cs_fe T (upd (ct_fe T) (nI n).toNatClampNeg x2)))) rfl dX0_takeAboard_11 (fun H locs hw => ?_)
  refine lv_aload_n hx hb dX0_takeAboard_12 rfl (lv_at hl 1 rfl) ?_
  refine lv_iload_n hx hb dX0_takeAboard_13 rfl (lv_at hl 0 rfl) ?_
  refine lv_iconst (v := 0) hx hb dX0_takeAboard_14 (by decide) ?_
  refine lv_iload_n hx hb dX0_takeAboard_15 rfl (lv_at hl 2 rfl) ?_
  refine g_callV0 hc hw (k_X0_move l D cI cZ cL a w b n (cs_fe T (upd (ct_fe T) (nI n).toNatClampNeg x2)) hd5 hd4 hd30 (nI n) (0 : Int32) x1 (vp_in_nI (show n < 30 by omega) (by omega))) gX0_takeAboard_X0_move rfl (by decide +kernel) ⟨Nat.le_of_ble_eq_true rfl, Nat.le_of_ble_eq_true rfl⟩ 0 rfl rfl rfl rfl (rest := []) rfl hl.1 (Nat.le_of_ble_eq_true rfl) (st1 := []) rfl dX0_takeAboard_16 (k2 := 0) (s2 := 0) rfl rfl ⟨Nat.le_of_ble_eq_true rfl, Nat.le_of_ble_eq_true rfl⟩ (fun H locs hw => ?_)
  refine lv_aload_n hx hb dX0_takeAboard_19 rfl (lv_at hl 1 rfl) ?_
  refine lv_dup hx hb dX0_takeAboard_20 rfl ?_
  refine g_get (v := .int (nI n)) hc hw hiX0 0 9 rfl rfl (by decide) (List.mem_of_getElem? (i := 1) rfl) rfl dX0_takeAboard_21 ?_
  refine lv_iconst (v := 1) hx hb dX0_takeAboard_24 (by decide) ?_
  refine lv_iadd hx hb dX0_takeAboard_25 ?_
  rw [nI_1 n]
  refine g_put hc hw hiX0 tyX0 tyX0_ok nmX0 0 9 rfl rfl (by decide) (List.mem_of_getElem? (i := 1) rfl) (by decide) rfl rfl (Nat.le_of_ble_eq_true rfl) (w' := (wt_c a cI cZ w b (n + 1) (s_X0_move w b n (cs_fe T (upd (ct_fe T) (nI n).toNatClampNeg x2)) (nI n) (0 : Int32) x1))) rfl dX0_takeAboard_26 (fun H locs hw => ?_)
  refine lv_aload_n hx hb dX0_takeAboard_29 rfl (lv_at hl 1 rfl) ?_
  refine g_get (v := .ref (a 8)) hc hw hiX0 0 8 rfl rfl (by decide) (List.mem_of_getElem? (i := 3) rfl) rfl dX0_takeAboard_30 ?_
  refine lv_iload_n hx hb dX0_takeAboard_33 rfl (lv_at hl 2 rfl) ?_
  refine g_iald (f := (ct_to (s_X0_move w b n (cs_fe T (upd (ct_fe T) (nI n).toNatClampNeg x2)) (nI n) (0 : Int32) x1))) hc hw 4 rfl hp1 dX0_takeAboard_34 ?_
  refine lv_if_ne (tgt := 50) hx hb dX0_takeAboard_35 (by decide) (fun c1 => ?_) (fun c1 => ?_)
  · refine lv_iload_n hx hb dX0_takeAboard_50 rfl (lv_at hl 0 rfl) ?_
    rw [show r_X0_takeAboard w b n T x1 x2 = (nI n) from by rw [r_X0_takeAboard, if_neg c1]]
    rw [show s_X0_takeAboard w b n T x1 x2 = (s_X0_move w b n (cs_fe T (upd (ct_fe T) (nI n).toNatClampNeg x2)) (nI n) (0 : Int32) x1) from by rw [s_X0_takeAboard, if_neg c1]]
    exact g_ret hc hw rfl (Nat.le_of_ble_eq_true rfl) (Nat.le_of_ble_eq_true rfl) dX0_takeAboard_51
  · refine lv_aload_n hx hb dX0_takeAboard_38 rfl (lv_at hl 1 rfl) ?_
    refine g_get (v := .ref (a 8)) hc hw hiX0 0 8 rfl rfl (by decide) (List.mem_of_getElem? (i := 3) rfl) rfl dX0_takeAboard_39 ?_
    refine lv_iload_n hx hb dX0_takeAboard_42 rfl (lv_at hl 2 rfl) ?_
    refine lv_aload_n hx hb dX0_takeAboard_43 rfl (lv_at hl 1 rfl) ?_
    refine g_get (v := .ref (a 7)) hc hw hiX0 0 7 rfl rfl (by decide) (List.mem_of_getElem? (i := 4) rfl) rfl dX0_takeAboard_44 ?_
    refine lv_iload_n hx hb dX0_takeAboard_47 rfl (lv_at hl 2 rfl) ?_
    refine g_iald (f := (ct_ke (s_X0_move w b n (cs_fe T (upd (ct_fe T) (nI n).toNatClampNeg x2)) (nI n) (0 : Int32) x1))) hc hw 3 rfl hp1 dX0_takeAboard_48 ?_
    refine g_iast (f := (ct_to (s_X0_move w b n (cs_fe T (upd (ct_fe T) (nI n).toNatClampNeg x2)) (nI n) (0 : Int32) x1))) hc hw 4 rfl hp1 (w' := (wt_c a cI cZ w b (n + 1) (cs_to (s_X0_move w b n (cs_fe T (upd (ct_fe T) (nI n).toNatClampNeg x2)) (nI n) (0 : Int32) x1) (upd (ct_to (s_X0_move w b n (cs_fe T (upd (ct_fe T) (nI n).toNatClampNeg x2)) (nI n) (0 : Int32) x1)) x1.toNatClampNeg ((ct_ke (s_X0_move w b n (cs_fe T (upd (ct_fe T) (nI n).toNatClampNeg x2)) (nI n) (0 : Int32) x1)) x1.toNatClampNeg))))) rfl dX0_takeAboard_49 (fun H locs hw => ?_)
    refine lv_iload_n hx hb dX0_takeAboard_50 rfl (lv_at hl 0 rfl) ?_
    rw [show r_X0_takeAboard w b n T x1 x2 = (nI n) from by rw [r_X0_takeAboard, if_pos c1]]
    rw [show s_X0_takeAboard w b n T x1 x2 = (cs_to (s_X0_move w b n (cs_fe T (upd (ct_fe T) (nI n).toNatClampNeg x2)) (nI n) (0 : Int32) x1) (upd (ct_to (s_X0_move w b n (cs_fe T (upd (ct_fe T) (nI n).toNatClampNeg x2)) (nI n) (0 : Int32) x1)) x1.toNatClampNeg ((ct_ke (s_X0_move w b n (cs_fe T (upd (ct_fe T) (nI n).toNatClampNeg x2)) (nI n) (0 : Int32) x1)) x1.toNatClampNeg))) from by rw [s_X0_takeAboard, if_pos c1]]
    exact g_ret hc hw rfl (Nat.le_of_ble_eq_true rfl) (Nat.le_of_ble_eq_true rfl) dX0_takeAboard_51
