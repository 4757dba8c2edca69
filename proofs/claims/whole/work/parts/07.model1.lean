def f_X2_at_4 (w : Nat) (b : Nat) (n : Nat) (T : mt_T) (x1 : Int32) (i4 : Nat) (q4 : Int32) : Int32 := if ((mt_wh T) (nI i4).toNatClampNeg) = x1 then ((q4 + (1 : Int32))) else ((q4 + (0 : Int32)))
def r_X2_at (w : Nat) (b : Nat) (n : Nat) (T : mt_T) (x1 : Int32) : Int32 := (lpf (f_X2_at_4 w b n T x1) n 0 ((0 : Int32)))
abbrev rm_X2_at : Room := { frames := 0, cells := 0, slots := 0, locals := 0 }
set_option maxHeartbeats 4000000 in
set_option maxRecDepth 100000 in
theorem k_X2_at (l : Launch) (D : va_G) (cI cZ cL : ClassId) (a : Nat → Nat) (w : Nat) (b : Nat) (n : Nat) (T : mt_T) (hd5 : w ≤ 5) (hd4 : b ≤ 4) (hd30 : n ≤ 30) (x1 : Int32)  : MX l yX2_at wsX2_at rm_X2_at D cI cZ cL [.ref (a 0), .int x1] (wt_m a cI w b n T) (some (.int (r_X2_at w b n T x1))) (wt_m a cI w b n T) := by
  refine MX.of (own := RX2) (cc := cX2_at) (maxL := 4) (ret := (some .int)) (lv0 := [(0, .ref (a 0)), (1, .int x1)]) (by decide) rfl rfl (Nat.le_of_ble_eq_true rfl) rfl ?_
  intro p e s m args below meth c A hc hnm hw ls hl
  obtain ⟨hx, hb, hr, hml, hown, hts, hlk, hK, hA⟩ := id hc
  have hiX2 : ∀ w ∈ u_ws RX2 TX2 13, w ∈ wsX2_at := fun _ h => List.mem_cons_of_mem _ (List.mem_append_right _ h)
  refine lv_iconst (v := 0) hx hb dX2_at_0 (by decide) ?_
  refine lv_istore_n (lv' := [(2, .int (0 : Int32)), (0, .ref (a 0)), (1, .int x1)]) hx hb dX2_at_1 rfl hl (by decide) rfl (fun ls hl => ?_)
  refine lv_iconst (v := 0) hx hb dX2_at_2 (by decide) ?_
  refine lv_istore_n (lv' := [(3, .int (0 : Int32)), (2, .int (0 : Int32)), (0, .ref (a 0)), (1, .int x1)]) hx hb dX2_at_3 rfl hl (by decide) rfl (fun ls hl => ?_)
  refine lp_go (fun (i4 : Nat) (q4 : Int32) => ∀ (H : Heap) (locs : List Loc) (ls : Array Slot), Wo D A s.heap (wt_m a cI w b n T) H locs → lv_has ls 4 [(0, .ref (a 0)), (1, .int x1), (2, .int q4), (3, .int (nI i4))] → W p l e rm_X2_at s m args below meth c H locs 0 0 (QE below args s D A (some (.int (r_X2_at w b n T x1))) (wt_m a cI w b n T) rm_X2_at) (F0 m 4 ls [])) (f_X2_at_4 w b n T x1) n ((0 : Int32)) ?_ ?_ s.heap [] ls hw (lv_sub hl [2, 3, 1, 0] rfl)
  · intro i4 q4 hi4 k4 H locs ls hw hl
    refine lv_iload_n hx hb dX2_at_4 rfl (lv_at hl 3 rfl) ?_
    refine lv_aload_n hx hb dX2_at_5 rfl (lv_at hl 0 rfl) ?_
    refine g_get (v := .int (nI n)) hc hw hiX2 0 3 (wo_X2_T ..) rfl (by decide) (List.mem_of_getElem? (i := 1) rfl) (wv_X2_T_3 ..) dX2_at_6 ?_
    refine lv_icmp_ge (tgt := 36) hx hb dX2_at_9 (by decide) (fun z => absurd z (nI_ge hi4 (by omega))) (fun _ => ?_)
    refine lv_iload_n hx hb dX2_at_12 rfl (lv_at hl 2 rfl) ?_
    refine lv_aload_n hx hb dX2_at_13 rfl (lv_at hl 0 rfl) ?_
    refine g_get (v := .ref (a 11)) hc hw hiX2 0 11 (wo_X2_T ..) rfl (by decide) (List.mem_of_getElem? (i := 2) rfl) (wv_X2_T_11 ..) dX2_at_14 ?_
    refine lv_iload_n hx hb dX2_at_17 rfl (lv_at hl 3 rfl) ?_
    refine g_iald (f := (mt_wh T)) hc hw 6 (wr_X2_T_11 ..) (vp_in_nI (show i4 < 30 by omega) (by omega)) dX2_at_18 ?_
    refine lv_iload_n hx hb dX2_at_19 rfl (lv_at hl 1 rfl) ?_
    refine lv_icmp_ne (tgt := 27) hx hb dX2_at_20 (by decide) (fun c1 => ?_) (fun c1 => ?_)
    · refine lv_iconst (v := 0) hx hb dX2_at_27 (by decide) ?_
      refine lv_iadd hx hb dX2_at_28 ?_
      refine lv_istore_n (lv' := [(2, .int (q4 + (0 : Int32))), (0, .ref (a 0)), (1, .int x1), (3, .int (nI i4))]) hx hb dX2_at_29 rfl hl (by decide) rfl (fun ls hl => ?_)
      refine lv_iinc (v := (nI (i4 + 1))) (lv' := [(3, .int (nI (i4 + 1))), (2, .int (q4 + (0 : Int32))), (0, .ref (a 0)), (1, .int x1)]) hx hb dX2_at_30 hl (k := 3) rfl (inc_n i4) (by decide) rfl (fun ls hl => ?_)
      refine lv_goto (tgt := 4) hx hb dX2_at_33 (by decide) ?_
      rw [show (f_X2_at_4 w b n T x1) i4 q4 = ((q4 + (0 : Int32))) from by rw [f_X2_at_4, if_neg c1]] at k4
      exact k4 H locs ls hw (lv_sub hl [2, 3, 1, 0] rfl)
    · refine lv_iconst (v := 1) hx hb dX2_at_23 (by decide) ?_
      refine lv_goto (tgt := 28) hx hb dX2_at_24 (by decide) ?_
      refine lv_iadd hx hb dX2_at_28 ?_
      refine lv_istore_n (lv' := [(2, .int (q4 + (1 : Int32))), (0, .ref (a 0)), (1, .int x1), (3, .int (nI i4))]) hx hb dX2_at_29 rfl hl (by decide) rfl (fun ls hl => ?_)
      refine lv_iinc (v := (nI (i4 + 1))) (lv' := [(3, .int (nI (i4 + 1))), (2, .int (q4 + (1 : Int32))), (0, .ref (a 0)), (1, .int x1)]) hx hb dX2_at_30 hl (k := 3) rfl (inc_n i4) (by decide) rfl (fun ls hl => ?_)
      refine lv_goto (tgt := 4) hx hb dX2_at_33 (by decide) ?_
      rw [show (f_X2_at_4 w b n T x1) i4 q4 = ((q4 + (1 : Int32))) from by rw [f_X2_at_4, if_pos c1]] at k4
      exact k4 H locs ls hw (lv_sub hl [2, 3, 1, 0] rfl)
  · intro H locs ls hw hl
    refine lv_iload_n hx hb dX2_at_4 rfl (lv_at hl 3 rfl) ?_
    refine lv_aload_n hx hb dX2_at_5 rfl (lv_at hl 0 rfl) ?_
    refine g_get (v := .int (nI n)) hc hw hiX2 0 3 (wo_X2_T ..) rfl (by decide) (List.mem_of_getElem? (i := 1) rfl) (wv_X2_T_3 ..) dX2_at_6 ?_
    refine lv_icmp_ge (tgt := 36) hx hb dX2_at_9 (by decide) (fun _ => ?_) (fun z => absurd (nI_le (Nat.le_refl _) (by omega)) z)
    refine lv_iload_n hx hb dX2_at_36 rfl (lv_at hl 2 rfl) ?_
    rw [show r_X2_at w b n T x1 = (lpf (f_X2_at_4 w b n T x1) n 0 ((0 : Int32))) from by rw [r_X2_at]]
    exact g_ret hc hw rfl (Nat.le_of_ble_eq_true rfl) (Nat.le_of_ble_eq_true rfl) dX2_at_37

def f_X2_inWards_4 (w : Nat) (b : Nat) (n : Nat) (T : mt_T) (i4 : Nat) (q4 : Int32) : Int32 := if (nI w) ≤ ((mt_wh T) (nI i4).toNatClampNeg) then ((q4 + (0 : Int32))) else ((q4 + (1 : Int32)))
def r_X2_inWards (w : Nat) (b : Nat) (n : Nat) (T : mt_T) : Int32 := (lpf (f_X2_inWards_4 w b n T) n 0 ((0 : Int32)))
abbrev rm_X2_inWards : Room := { frames := 0, cells := 0, slots := 0, locals := 0 }
set_option maxHeartbeats 4000000 in
set_option maxRecDepth 100000 in
theorem k_X2_inWards (l : Launch) (D : va_G) (cI cZ cL : ClassId) (a : Nat → Nat) (w : Nat) (b : Nat) (n : Nat) (T : mt_T) (hd5 : w ≤ 5) (hd4 : b ≤ 4) (hd30 : n ≤ 30)   : MX l yX2_inWards wsX2_inWards rm_X2_inWards D cI cZ cL [.ref (a 0)] (wt_m a cI w b n T) (some (.int (r_X2_inWards w b n T))) (wt_m a cI w b n T) := by
  refine MX.of (own := RX2) (cc := cX2_inWards) (maxL := 3) (ret := (some .int)) (lv0 := [(0, .ref (a 0))]) (by decide) rfl rfl (Nat.le_of_ble_eq_true rfl) rfl ?_
  intro p e s m args below meth c A hc hnm hw ls hl
  obtain ⟨hx, hb, hr, hml, hown, hts, hlk, hK, hA⟩ := id hc
  have hiX2 : ∀ w ∈ u_ws RX2 TX2 13, w ∈ wsX2_inWards := fun _ h => List.mem_cons_of_mem _ (List.mem_append_right _ h)
  refine lv_iconst (v := 0) hx hb dX2_inWards_0 (by decide) ?_
  refine lv_istore_n (lv' := [(1, .int (0 : Int32)), (0, .ref (a 0))]) hx hb dX2_inWards_1 rfl hl (by decide) rfl (fun ls hl => ?_)
  refine lv_iconst (v := 0) hx hb dX2_inWards_2 (by decide) ?_
  refine lv_istore_n (lv' := [(2, .int (0 : Int32)), (1, .int (0 : Int32)), (0, .ref (a 0))]) hx hb dX2_inWards_3 rfl hl (by decide) rfl (fun ls hl => ?_)
  refine lp_go (fun (i4 : Nat) (q4 : Int32) => ∀ (H : Heap) (locs : List Loc) (ls : Array Slot), Wo D A s.heap (wt_m a cI w b n T) H locs → lv_has ls 3 [(0, .ref (a 0)), (1, .int q4), (2, .int (nI i4))] → W p l e rm_X2_inWards s m args below meth c H locs 0 0 (QE below args s D A (some (.int (r_X2_inWards w b n T))) (wt_m a cI w b n T) rm_X2_inWards) (F0 m 4 ls [])) (f_X2_inWards_4 w b n T) n ((0 : Int32)) ?_ ?_ s.heap [] ls hw (lv_sub hl [2, 1, 0] rfl)
  · intro i4 q4 hi4 k4 H locs ls hw hl
    refine lv_iload_n hx hb dX2_inWards_4 rfl (lv_at hl 2 rfl) ?_
    refine lv_aload_n hx hb dX2_inWards_5 rfl (lv_at hl 0 rfl) ?_
    refine g_get (v := .int (nI n)) hc hw hiX2 0 3 (wo_X2_T ..) rfl (by decide) (List.mem_of_getElem? (i := 1) rfl) (wv_X2_T_3 ..) dX2_inWards_6 ?_
    refine lv_icmp_ge (tgt := 39) hx hb dX2_inWards_9 (by decide) (fun z => absurd z (nI_ge hi4 (by omega))) (fun _ => ?_)
    refine lv_iload_n hx hb dX2_inWards_12 rfl (lv_at hl 1 rfl) ?_
    refine lv_aload_n hx hb dX2_inWards_13 rfl (lv_at hl 0 rfl) ?_
    refine g_get (v := .ref (a 11)) hc hw hiX2 0 11 (wo_X2_T ..) rfl (by decide) (List.mem_of_getElem? (i := 2) rfl) (wv_X2_T_11 ..) dX2_inWards_14 ?_
    refine lv_iload_n hx hb dX2_inWards_17 rfl (lv_at hl 2 rfl) ?_
    refine g_iald (f := (mt_wh T)) hc hw 6 (wr_X2_T_11 ..) (vp_in_nI (show i4 < 30 by omega) (by omega)) dX2_inWards_18 ?_
    refine lv_aload_n hx hb dX2_inWards_19 rfl (lv_at hl 0 rfl) ?_
    refine g_get (v := .int (nI w)) hc hw hiX2 0 1 (wo_X2_T ..) rfl (by decide) (List.mem_of_getElem? (i := 3) rfl) (wv_X2_T_1 ..) dX2_inWards_20 ?_
    refine lv_icmp_ge (tgt := 30) hx hb dX2_inWards_23 (by decide) (fun c1 => ?_) (fun c1 => ?_)
    · refine lv_iconst (v := 0) hx hb dX2_inWards_30 (by decide) ?_
      refine lv_iadd hx hb dX2_inWards_31 ?_
      refine lv_istore_n (lv' := [(1, .int (q4 + (0 : Int32))), (0, .ref (a 0)), (2, .int (nI i4))]) hx hb dX2_inWards_32 rfl hl (by decide) rfl (fun ls hl => ?_)
      refine lv_iinc (v := (nI (i4 + 1))) (lv' := [(2, .int (nI (i4 + 1))), (1, .int (q4 + (0 : Int32))), (0, .ref (a 0))]) hx hb dX2_inWards_33 hl (k := 2) rfl (inc_n i4) (by decide) rfl (fun ls hl => ?_)
      refine lv_goto (tgt := 4) hx hb dX2_inWards_36 (by decide) ?_
      rw [show (f_X2_inWards_4 w b n T) i4 q4 = ((q4 + (0 : Int32))) from by rw [f_X2_inWards_4, if_pos c1]] at k4
      exact k4 H locs ls hw (lv_sub hl [2, 1, 0] rfl)
    · refine lv_iconst (v := 1) hx hb dX2_inWards_26 (by decide) ?_
      refine lv_goto (tgt := 31) hx hb dX2_inWards_27 (by decide) ?_
      refine lv_iadd hx hb dX2_inWards_31 ?_
      refine lv_istore_n (lv' := [(1, .int (q4 + (1 : Int32))), (0, .ref (a 0)), (2, .int (nI i4))]) hx hb dX2_inWards_32 rfl hl (by decide) rfl (fun ls hl => ?_)
      refine lv_iinc (v := (nI (i4 + 1))) (lv' := [(2, .int (nI (i4 + 1))), (1, .int (q4 + (1 : Int32))), (0, .ref (a 0))]) hx hb dX2_inWards_33 hl (k := 2) rfl (inc_n i4) (by decide) rfl (fun ls hl => ?_)
      refine lv_goto (tgt := 4) hx hb dX2_inWards_36 (by decide) ?_
      rw [show (f_X2_inWards_4 w b n T) i4 q4 = ((q4 + (1 : Int32))) from by rw [f_X2_inWards_4, if_neg c1]] at k4
      exact k4 H locs ls hw (lv_sub hl [2, 1, 0] rfl)
  · intro H locs ls hw hl
    refine lv_iload_n hx hb dX2_inWards_4 rfl (lv_at hl 2 rfl) ?_
    refine lv_aload_n hx hb dX2_inWards_5 rfl (lv_at hl 0 rfl) ?_
    refine g_get (v := .int (nI n)) hc hw hiX2 0 3 (wo_X2_T ..) rfl (by decide) (List.mem_of_getElem? (i := 1) rfl) (wv_X2_T_3 ..) dX2_inWards_6 ?_
    refine lv_icmp_ge (tgt := 39) hx hb dX2_inWards_9 (by decide) (fun _ => ?_) (fun z => absurd (nI_le (Nat.le_refl _) (by omega)) z)
    refine lv_iload_n hx hb dX2_inWards_39 rfl (lv_at hl 1 rfl) ?_
    rw [show r_X2_inWards w b n T = (lpf (f_X2_inWards_4 w b n T) n 0 ((0 : Int32))) from by rw [r_X2_inWards]]
    exact g_ret hc hw rfl (Nat.le_of_ble_eq_true rfl) (Nat.le_of_ble_eq_true rfl) dX2_inWards_40
