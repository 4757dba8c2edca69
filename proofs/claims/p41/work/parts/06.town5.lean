def f_X0_takeFirstFreePlace_2 (w : Nat) (b : Nat) (n : Nat) (T : ct_T) (i2 : Nat) (q2 : ct_T) : (Int32 × ct_T) ⊕ (ct_T) := if ((ct_fr q2) (nI i2).toNatClampNeg) ≤ (0 : Int32) then (.inr (q2)) else (.inl ((nI i2), (cs_fr q2 (upd (ct_fr q2) (nI i2).toNatClampNeg (((ct_fr q2) (nI i2).toNatClampNeg) - (1 : Int32))))))
def r_X0_takeFirstFreePlace (w : Nat) (b : Nat) (n : Nat) (T : ct_T) : Int32 := match lpx (f_X0_takeFirstFreePlace_2 w b n T) w 0 (T) with | .inl bb => bb.1 | .inr q2 => (-1 : Int32)
def s_X0_takeFirstFreePlace (w : Nat) (b : Nat) (n : Nat) (T : ct_T) : ct_T := match lpx (f_X0_takeFirstFreePlace_2 w b n T) w 0 (T) with | .inl bb => bb.2 | .inr q2 => q2
abbrev rm_X0_takeFirstFreePlace : Room := { frames := 0, cells := 0, slots := 0, locals := 0 }
set_option maxHeartbeats 4000000 in
set_option maxRecDepth 100000 in
theorem k_X0_takeFirstFreePlace (l : Launch) (D : va_G) (cI cZ cL : ClassId) (a : Nat → Nat) (w : Nat) (b : Nat) (n : Nat) (T : ct_T) (hd5 : w ≤ 5) (hd4 : b ≤ 4) (hd30 : n ≤ 30)   : MX l yX0_takeFirstFreePlace wsX0_takeFirstFreePlace rm_X0_takeFirstFreePlace D cI cZ cL [.ref (a 0)] (wt_c a cI cZ w b n T) (some (.int (r_X0_takeFirstFreePlace w b n T))) (wt_c a cI cZ w b n (s_X0_takeFirstFreePlace w b n T)) := by
  refine MX.of (own := RX0) (cc := cX0_takeFirstFreePlace) (maxL := 2) (ret := (some .int)) (lv0 := [(0, .ref (a 0))]) (by decide) rfl rfl (Nat.le_of_ble_eq_true rfl) rfl ?_
  intro p e s m args below meth c A hc hnm hw ls hl
  obtain ⟨hx, hb, hr, hml, hown, hts, hlk, hK, hA⟩ := id hc
  have hiX0 : ∀ w ∈ u_ws RX0 TX0 16, w ∈ wsX0_takeFirstFreePlace := fun _ h => List.mem_cons_of_mem _ (List.mem_append_right _ h)
  refine lv_iconst (v := 0) hx hb dX0_takeFirstFreePlace_0 (by decide) ?_
  refine lv_istore_n (lv' := [(1, .int (0 : Int32)), (0, .ref (a 0))]) hx hb dX0_takeFirstFreePlace_1 rfl hl (by decide) rfl (fun ls hl => ?_)
  refine lpx_go (fun (i2 : Nat) (q2 : ct_T) => ∀ (H : Heap) (locs : List Loc) (ls : Array Slot), Wo D A s.heap (wt_c a cI cZ w b n q2) H locs → lv_has ls 2 [(0, .ref (a 0)), (1, .int (nI i2))] → W p l e rm_X0_takeFirstFreePlace s m args below meth c H locs 0 0 (QE below args s D A (some (.int (r_X0_takeFirstFreePlace w b n T))) (wt_c a cI cZ w b n (s_X0_takeFirstFreePlace w b n T)) rm_X0_takeFirstFreePlace) (F0 m 2 ls [])) (fun (bb : Int32 × ct_T) => r_X0_takeFirstFreePlace w b n T = bb.1 ∧ s_X0_takeFirstFreePlace w b n T = bb.2) (f_X0_takeFirstFreePlace_2 w b n T) w (T) ?_ ?_ ?_ s.heap [] ls hw (lv_sub hl [1, 0] rfl)
  · intro i2 q2 hi2 x2_x k2 H locs ls hw hl
    refine lv_iload_n hx hb dX0_takeFirstFreePlace_2 rfl (lv_at hl 1 rfl) ?_
    refine lv_aload_n hx hb dX0_takeFirstFreePlace_3 rfl (lv_at hl 0 rfl) ?_
    refine g_get (v := .int (nI w)) hc hw hiX0 0 3 (wo_X0_T ..) rfl (by decide) (List.mem_of_getElem? (i := 1) rfl) (wv_X0_T_3 ..) dX0_takeFirstFreePlace_4 ?_
    refine lv_icmp_ge (tgt := 37) hx hb dX0_takeFirstFreePlace_7 (by decide) (fun z => absurd z (nI_ge hi2 (by omega))) (fun _ => ?_)
    refine lv_aload_n hx hb dX0_takeFirstFreePlace_10 rfl (lv_at hl 0 rfl) ?_
    refine g_get (v := .ref (a 15)) hc hw hiX0 0 15 (wo_X0_T ..) rfl (by decide) (List.mem_of_getElem? (i := 2) rfl) (wv_X0_T_15 ..) dX0_takeFirstFreePlace_11 ?_
    refine lv_iload_n hx hb dX0_takeFirstFreePlace_14 rfl (lv_at hl 1 rfl) ?_
    refine g_iald (f := (ct_fr q2)) hc hw 10 (wr_X0_T_15 ..) (vp_in_nI (show i2 < 5 by omega) (by omega)) dX0_takeFirstFreePlace_15 ?_
    refine lv_if_le (tgt := 31) hx hb dX0_takeFirstFreePlace_16 (by decide) (fun c1 => ?_) (fun c1 => ?_)
    · refine lv_iinc (v := (nI (i2 + 1))) (lv' := [(1, .int (nI (i2 + 1))), (0, .ref (a 0))]) hx hb dX0_takeFirstFreePlace_31 hl (k := 1) rfl (inc_n i2) (by decide) rfl (fun ls hl => ?_)
      refine lv_goto (tgt := 2) hx hb dX0_takeFirstFreePlace_34 (by decide) ?_
      exact k2 (q2) (by rw [f_X0_takeFirstFreePlace_2, if_pos c1]) H locs ls hw (lv_sub hl [1, 0] rfl)
    · refine lv_aload_n hx hb dX0_takeFirstFreePlace_19 rfl (lv_at hl 0 rfl) ?_
      refine g_get (v := .ref (a 15)) hc hw hiX0 0 15 (wo_X0_T ..) rfl (by decide) (List.mem_of_getElem? (i := 2) rfl) (wv_X0_T_15 ..) dX0_takeFirstFreePlace_20 ?_
      refine lv_iload_n hx hb dX0_takeFirstFreePlace_23 rfl (lv_at hl 1 rfl) ?_
      refine lv_dup2_11 hx hb dX0_takeFirstFreePlace_24 rfl rfl ?_
      refine g_iald (f := (ct_fr q2)) hc hw 10 (wr_X0_T_15 ..) (vp_in_nI (show i2 < 5 by omega) (by omega)) dX0_takeFirstFreePlace_25 ?_
      refine lv_iconst (v := 1) hx hb dX0_takeFirstFreePlace_26 (by decide) ?_
      refine lv_isub hx hb dX0_takeFirstFreePlace_27 ?_
      refine g_iast (f := (ct_fr q2)) hc hw 10 (wr_X0_T_15 ..) (vp_in_nI (show i2 < 5 by omega) (by omega)) (w' := (wt_c a cI cZ w b n (cs_fr q2 (upd (ct_fr q2) (nI i2).toNatClampNeg (((ct_fr q2) (nI i2).toNatClampNeg) - (1 : Int32)))))) (wu_X0_T_15 ..) dX0_takeFirstFreePlace_28 (fun H locs hw => ?_)
      refine lv_iload_n hx hb dX0_takeFirstFreePlace_29 rfl (lv_at hl 1 rfl) ?_
      obtain ⟨e0, e1⟩ := x2_x ((nI i2), (cs_fr q2 (upd (ct_fr q2) (nI i2).toNatClampNeg (((ct_fr q2) (nI i2).toNatClampNeg) - (1 : Int32))))) (by rw [f_X0_takeFirstFreePlace_2, if_neg c1])
      rw [show r_X0_takeFirstFreePlace w b n T = _ from e0]
      rw [show s_X0_takeFirstFreePlace w b n T = _ from e1]
      exact g_ret hc hw rfl (Nat.le_of_ble_eq_true rfl) (Nat.le_of_ble_eq_true rfl) dX0_takeFirstFreePlace_30
  · intro bb hL2
    exact ⟨by rw [r_X0_takeFirstFreePlace, hL2], by rw [s_X0_takeFirstFreePlace, hL2]⟩
  · intro q2 hL2 H locs ls hw hl
    refine lv_iload_n hx hb dX0_takeFirstFreePlace_2 rfl (lv_at hl 1 rfl) ?_
    refine lv_aload_n hx hb dX0_takeFirstFreePlace_3 rfl (lv_at hl 0 rfl) ?_
    refine g_get (v := .int (nI w)) hc hw hiX0 0 3 (wo_X0_T ..) rfl (by decide) (List.mem_of_getElem? (i := 1) rfl) (wv_X0_T_3 ..) dX0_takeFirstFreePlace_4 ?_
    refine lv_icmp_ge (tgt := 37) hx hb dX0_takeFirstFreePlace_7 (by decide) (fun _ => ?_) (fun z => absurd (nI_le (Nat.le_refl _) (by omega)) z)
    refine lv_iconst (v := (-1)) hx hb dX0_takeFirstFreePlace_37 (by decide) ?_
    rw [show r_X0_takeFirstFreePlace w b n T = (-1 : Int32) from by rw [r_X0_takeFirstFreePlace, hL2]]
    rw [show s_X0_takeFirstFreePlace w b n T = q2 from by rw [s_X0_takeFirstFreePlace, hL2]]
    exact g_ret hc hw rfl (Nat.le_of_ble_eq_true rfl) (Nat.le_of_ble_eq_true rfl) dX0_takeFirstFreePlace_38

def f_X0_landAll_4 (w : Nat) (b : Nat) (n : Nat) (T : ct_T) (x1 : Int32) (i4 : Nat) (q4 : ct_T × Int32) : ct_T × Int32 := if (r_X0_isAt w b n q4.1 (nI i4) (0 : Int32) x1) = (0 : Int32) then (q4.1, q4.2) else (if ((ct_fe q4.1) (nI i4).toNatClampNeg) = (0 : Int32) then ((s_X0_move w b n q4.1 (nI i4) (2 : Int32) (-1 : Int32)), q4.2) else (if (r_X0_takeFirstFreePlace w b n q4.1) = (-1 : Int32) then ((s_X0_takeFirstFreePlace w b n q4.1), (0 : Int32)) else ((s_X0_move w b n (s_X0_takeFirstFreePlace w b n q4.1) (nI i4) (1 : Int32) (r_X0_takeFirstFreePlace w b n q4.1)), q4.2)))
def r_X0_landAll (w : Nat) (b : Nat) (n : Nat) (T : ct_T) (x1 : Int32) : Int32 := ((lpf (f_X0_landAll_4 w b n T x1) n 0 (T, (1 : Int32))).2)
def s_X0_landAll (w : Nat) (b : Nat) (n : Nat) (T : ct_T) (x1 : Int32) : ct_T := (lpf (f_X0_landAll_4 w b n T x1) n 0 (T, (1 : Int32))).1
abbrev rm_X0_landAll : Room := { frames := 1, cells := 0, slots := 0, locals := 23 }
set_option maxHeartbeats 4000000 in
set_option maxRecDepth 100000 in
theorem k_X0_landAll (l : Launch) (D : va_G) (cI cZ cL : ClassId) (a : Nat → Nat) (w : Nat) (b : Nat) (n : Nat) (T : ct_T) (hd5 : w ≤ 5) (hd4 : b ≤ 4) (hd30 : n ≤ 30) (x1 : Int32)  : MX l yX0_landAll wsX0_landAll rm_X0_landAll D cI cZ cL [.ref (a 0), .int x1] (wt_c a cI cZ w b n T) (some (.int (r_X0_landAll w b n T x1))) (wt_c a cI cZ w b n (s_X0_landAll w b n T x1)) := by
  refine MX.of (own := RX0) (cc := cX0_landAll) (maxL := 5) (ret := (some .boolean)) (lv0 := [(0, .ref (a 0)), (1, .int x1)]) (by decide) rfl rfl (Nat.le_of_ble_eq_true rfl) rfl ?_
  intro p e s m args below meth c A hc hnm hw ls hl
  obtain ⟨hx, hb, hr, hml, hown, hts, hlk, hK, hA⟩ := id hc
  have hiX0 : ∀ w ∈ u_ws RX0 TX0 16, w ∈ wsX0_landAll := fun _ h => List.mem_cons_of_mem _ (List.mem_append_right _ h)
  refine lv_iconst (v := 1) hx hb dX0_landAll_0 (by decide) ?_
  refine lv_istore_n (lv' := [(2, .int (1 : Int32)), (0, .ref (a 0)), (1, .int x1)]) hx hb dX0_landAll_1 rfl hl (by decide) rfl (fun ls hl => ?_)
  refine lv_iconst (v := 0) hx hb dX0_landAll_2 (by decide) ?_
  refine lv_istore_n (lv' := [(3, .int (0 : Int32)), (2, .int (1 : Int32)), (0, .ref (a 0)), (1, .int x1)]) hx hb dX0_landAll_3 rfl hl (by decide) rfl (fun ls hl => ?_)
  refine lp_go (fun (i4 : Nat) (q4 : ct_T × Int32) => ∀ (H : Heap) (locs : List Loc) (ls : Array Slot), Wo D A s.heap (wt_c a cI cZ w b n q4.1) H locs → lv_has ls 5 [(0, .ref (a 0)), (1, .int x1), (2, .int q4.2), (3, .int (nI i4))] → W p l e rm_X0_landAll s m args below meth c H locs 0 0 (QE below args s D A (some (.int (r_X0_landAll w b n T x1))) (wt_c a cI cZ w b n (s_X0_landAll w b n T x1)) rm_X0_landAll) (F0 m 4 ls [])) (f_X0_landAll_4 w b n T x1) n (T, (1 : Int32)) ?_ ?_ s.heap [] ls hw (lv_sub hl [2, 3, 1, 0] rfl)
  · intro i4 q4 hi4 k4 H locs ls hw hl
    refine lv_iload_n hx hb dX0_landAll_4 rfl (lv_at hl 3 rfl) ?_
    refine lv_aload_n hx hb dX0_landAll_5 rfl (lv_at hl 0 rfl) ?_
    refine g_get (v := .int (nI n)) hc hw hiX0 0 9 (wo_X0_T ..) rfl (by decide) (List.mem_of_getElem? (i := 1) rfl) (wv_X0_T_9 ..) dX0_landAll_6 ?_
    refine lv_icmp_ge (tgt := 75) hx hb dX0_landAll_9 (by decide) (fun z => absurd z (nI_ge hi4 (by omega))) (fun _ => ?_)
    refine lv_aload_n hx hb dX0_landAll_12 rfl (lv_at hl 0 rfl) ?_
    refine lv_iload_n hx hb dX0_landAll_13 rfl (lv_at hl 3 rfl) ?_
    refine lv_iconst (v := 0) hx hb dX0_landAll_14 (by decide) ?_
    refine lv_iload_n hx hb dX0_landAll_15 rfl (lv_at hl 1 rfl) ?_
    refine g_callV0 (n := 3) hc hw (k_X0_isAt l D cI cZ cL a w b n q4.1 hd5 hd4 hd30 (nI i4) (0 : Int32) x1 (vp_in_nI (show i4 < 30 by omega) (by omega))) gX0_landAll_X0_isAt rfl (by decide +kernel) ⟨Nat.le_of_ble_eq_true rfl, Nat.le_of_ble_eq_true rfl⟩ 0 (wo_X0_T ..) rfl rfl rfl (rest := []) rfl hl.1 (Nat.le_of_ble_eq_true rfl) (st1 := [.int (r_X0_isAt w b n q4.1 (nI i4) (0 : Int32) x1)]) rfl dX0_landAll_16 (k2 := 0) (s2 := 0) rfl rfl ⟨Nat.le_of_ble_eq_true rfl, Nat.le_of_ble_eq_true rfl⟩ (fun H locs hw => ?_)
    refine lv_if_ne (tgt := 25) hx hb dX0_landAll_19 (by decide) (fun c1 => ?_) (fun c1 => ?_)
    · refine lv_aload_n hx hb dX0_landAll_25 rfl (lv_at hl 0 rfl) ?_
      refine g_get (v := .ref (a 10)) hc hw hiX0 0 10 (wo_X0_T ..) rfl (by decide) (List.mem_of_getElem? (i := 2) rfl) (wv_X0_T_10 ..) dX0_landAll_26 ?_
      refine lv_iload_n hx hb dX0_landAll_29 rfl (lv_at hl 3 rfl) ?_
      refine g_iald (f := (ct_fe q4.1)) hc hw 5 (wr_X0_T_10 ..) (vp_in_nI (show i4 < 30 by omega) (by omega)) dX0_landAll_30 ?_
      refine lv_if_ne (tgt := 44) hx hb dX0_landAll_31 (by decide) (fun c2 => ?_) (fun c2 => ?_)
      · refine lv_aload_n hx hb dX0_landAll_44 rfl (lv_at hl 0 rfl) ?_
        refine g_callV0 (n := 0) hc hw (k_X0_takeFirstFreePlace l D cI cZ cL a w b n q4.1 hd5 hd4 hd30) gX0_landAll_X0_takeFirstFreePlace rfl (by decide +kernel) ⟨Nat.le_of_ble_eq_true rfl, Nat.le_of_ble_eq_true rfl⟩ 0 (wo_X0_T ..) rfl rfl rfl (rest := []) rfl hl.1 (Nat.le_of_ble_eq_true rfl) (st1 := [.int (r_X0_takeFirstFreePlace w b n q4.1)]) rfl dX0_landAll_45 (k2 := 0) (s2 := 0) rfl rfl ⟨Nat.le_of_ble_eq_true rfl, Nat.le_of_ble_eq_true rfl⟩ (fun H locs hw => ?_)
        refine lv_istore (lv' := [(4, .int (r_X0_takeFirstFreePlace w b n q4.1)), (0, .ref (a 0)), (1, .int x1), (2, .int q4.2), (3, .int (nI i4))]) hx hb dX0_landAll_48 hl (by decide) rfl (fun ls hl => ?_)
        refine lv_iload hx hb dX0_landAll_50 (lv_at hl 0 rfl) ?_
        refine lv_iconst (v := (-1)) hx hb dX0_landAll_52 (by decide) ?_
        refine lv_icmp_ne (tgt := 61) hx hb dX0_landAll_53 (by decide) (fun c3 => ?_) (fun c3 => ?_)
        · refine lv_aload_n hx hb dX0_landAll_61 rfl (lv_at hl 1 rfl) ?_
          refine lv_iload_n hx hb dX0_landAll_62 rfl (lv_at hl 4 rfl) ?_
          refine lv_iconst (v := 1) hx hb dX0_landAll_63 (by decide) ?_
          refine lv_iload hx hb dX0_landAll_64 (lv_at hl 0 rfl) ?_
          refine g_callV0 (n := 3) hc hw (k_X0_move l D cI cZ cL a w b n (s_X0_takeFirstFreePlace w b n q4.1) hd5 hd4 hd30 (nI i4) (1 : Int32) (r_X0_takeFirstFreePlace w b n q4.1) (vp_in_nI (show i4 < 30 by omega) (by omega))) gX0_landAll_X0_move rfl (by decide +kernel) ⟨Nat.le_of_ble_eq_true rfl, Nat.le_of_ble_eq_true rfl⟩ 0 (wo_X0_T ..) rfl rfl rfl (rest := []) rfl hl.1 (Nat.le_of_ble_eq_true rfl) (st1 := []) rfl dX0_landAll_66 (k2 := 0) (s2 := 0) rfl rfl ⟨Nat.le_of_ble_eq_true rfl, Nat.le_of_ble_eq_true rfl⟩ (fun H locs hw => ?_)
          refine lv_iinc (v := (nI (i4 + 1))) (lv' := [(3, .int (nI (i4 + 1))), (4, .int (r_X0_takeFirstFreePlace w b n q4.1)), (0, .ref (a 0)), (1, .int x1), (2, .int q4.2)]) hx hb dX0_landAll_69 hl (k := 4) rfl (inc_n i4) (by decide) rfl (fun ls hl => ?_)
          refine lv_goto (tgt := 4) hx hb dX0_landAll_72 (by decide) ?_
          rw [show (f_X0_landAll_4 w b n T x1) i4 q4 = ((s_X0_move w b n (s_X0_takeFirstFreePlace w b n q4.1) (nI i4) (1 : Int32) (r_X0_takeFirstFreePlace w b n q4.1)), q4.2) from by rw [f_X0_landAll_4, if_neg c1, if_neg c2, if_neg c3]] at k4
          exact k4 H locs ls hw (lv_sub hl [2, 3, 4, 0] rfl)
        · refine lv_iconst (v := 0) hx hb dX0_landAll_56 (by decide) ?_
          refine lv_istore_n (lv' := [(2, .int (0 : Int32)), (4, .int (r_X0_takeFirstFreePlace w b n q4.1)), (0, .ref (a 0)), (1, .int x1), (3, .int (nI i4))]) hx hb dX0_landAll_57 rfl hl (by decide) rfl (fun ls hl => ?_)
          refine lv_goto (tgt := 69) hx hb dX0_landAll_58 (by decide) ?_
          refine lv_iinc (v := (nI (i4 + 1))) (lv' := [(3, .int (nI (i4 + 1))), (2, .int (0 : Int32)), (4, .int (r_X0_takeFirstFreePlace w b n q4.1)), (0, .ref (a 0)), (1, .int x1)]) hx hb dX0_landAll_69 hl (k := 4) rfl (inc_n i4) (by decide) rfl (fun ls hl => ?_)
          refine lv_goto (tgt := 4) hx hb dX0_landAll_72 (by decide) ?_
          rw [show (f_X0_landAll_4 w b n T x1) i4 q4 = ((s_X0_takeFirstFreePlace w b n q4.1), (0 : Int32)) from by rw [f_X0_landAll_4, if_neg c1, if_neg c2, if_pos c3]] at k4
          exact k4 H locs ls hw (lv_sub hl [3, 4, 1, 0] rfl)
      · refine lv_aload_n hx hb dX0_landAll_34 rfl (lv_at hl 0 rfl) ?_
        refine lv_iload_n hx hb dX0_landAll_35 rfl (lv_at hl 3 rfl) ?_
        refine lv_iconst (v := 2) hx hb dX0_landAll_36 (by decide) ?_
        refine lv_iconst (v := (-1)) hx hb dX0_landAll_37 (by decide) ?_
        refine g_callV0 (n := 3) hc hw (k_X0_move l D cI cZ cL a w b n q4.1 hd5 hd4 hd30 (nI i4) (2 : Int32) (-1 : Int32) (vp_in_nI (show i4 < 30 by omega) (by omega))) gX0_landAll_X0_move rfl (by decide +kernel) ⟨Nat.le_of_ble_eq_true rfl, Nat.le_of_ble_eq_true rfl⟩ 0 (wo_X0_T ..) rfl rfl rfl (rest := []) rfl hl.1 (Nat.le_of_ble_eq_true rfl) (st1 := []) rfl dX0_landAll_38 (k2 := 0) (s2 := 0) rfl rfl ⟨Nat.le_of_ble_eq_true rfl, Nat.le_of_ble_eq_true rfl⟩ (fun H locs hw => ?_)
        refine lv_goto (tgt := 69) hx hb dX0_landAll_41 (by decide) ?_
        refine lv_iinc (v := (nI (i4 + 1))) (lv' := [(3, .int (nI (i4 + 1))), (0, .ref (a 0)), (1, .int x1), (2, .int q4.2)]) hx hb dX0_landAll_69 hl (k := 3) rfl (inc_n i4) (by decide) rfl (fun ls hl => ?_)
        refine lv_goto (tgt := 4) hx hb dX0_landAll_72 (by decide) ?_
        rw [show (f_X0_landAll_4 w b n T x1) i4 q4 = ((s_X0_move w b n q4.1 (nI i4) (2 : Int32) (-1 : Int32)), q4.2) from by rw [f_X0_landAll_4, if_neg c1, if_pos c2]] at k4
        exact k4 H locs ls hw (lv_sub hl [1, 2, 3, 0] rfl)
    · refine lv_goto (tgt := 69) hx hb dX0_landAll_22 (by decide) ?_
      refine lv_iinc (v := (nI (i4 + 1))) (lv' := [(3, .int (nI (i4 + 1))), (0, .ref (a 0)), (1, .int x1), (2, .int q4.2)]) hx hb dX0_landAll_69 hl (k := 3) rfl (inc_n i4) (by decide) rfl (fun ls hl => ?_)
      refine lv_goto (tgt := 4) hx hb dX0_landAll_72 (by decide) ?_
      rw [show (f_X0_landAll_4 w b n T x1) i4 q4 = (q4.1, q4.2) from by rw [f_X0_landAll_4, if_pos c1]] at k4
      exact k4 H locs ls hw (lv_sub hl [1, 2, 3, 0] rfl)
  · intro H locs ls hw hl
    refine lv_iload_n hx hb dX0_landAll_4 rfl (lv_at hl 3 rfl) ?_
    refine lv_aload_n hx hb dX0_landAll_5 rfl (lv_at hl 0 rfl) ?_
    refine g_get (v := .int (nI n)) hc hw hiX0 0 9 (wo_X0_T ..) rfl (by decide) (List.mem_of_getElem? (i := 1) rfl) (wv_X0_T_9 ..) dX0_landAll_6 ?_
    refine lv_icmp_ge (tgt := 75) hx hb dX0_landAll_9 (by decide) (fun _ => ?_) (fun z => absurd (nI_le (Nat.le_refl _) (by omega)) z)
    refine lv_iload_n hx hb dX0_landAll_75 rfl (lv_at hl 2 rfl) ?_
    rw [show r_X0_landAll w b n T x1 = ((lpf (f_X0_landAll_4 w b n T x1) n 0 (T, (1 : Int32))).2) from by rw [r_X0_landAll]]
    rw [show s_X0_landAll w b n T x1 = (lpf (f_X0_landAll_4 w b n T x1) n 0 (T, (1 : Int32))).1 from by rw [s_X0_landAll]]
    exact g_zret hc hw rfl (nz_01 (lpf_P (fun q : ct_T × Int32 => q.2 = 0 ∨ q.2 = 1) _ (fun i q h => by unfold f_X0_landAll_4; (repeat' split) <;> first | exact h | exact Or.inl rfl) n 0 _ (Or.inr rfl))) (Nat.le_of_ble_eq_true rfl) (Nat.le_of_ble_eq_true rfl) dX0_landAll_76
