def f_X2_leaveWards_2 (w : Nat) (b : Nat) (n : Nat) (T : mt_T) (i2 : Nat) (q2 : mt_T) : mt_T := if ((mt_wh q2) (nI i2).toNatClampNeg) < (nI w) then (if ((mt_fe q2) (nI i2).toNatClampNeg) = (0 : Int32) then (if ((mt_fe (ms_wh q2 (upd (mt_wh q2) (nI i2).toNatClampNeg (20 : Int32)))) (nI i2).toNatClampNeg) = (10 : Int32) then ((ms_wh (ms_wh q2 (upd (mt_wh q2) (nI i2).toNatClampNeg (20 : Int32))) (upd (mt_wh (ms_wh q2 (upd (mt_wh q2) (nI i2).toNatClampNeg (20 : Int32)))) (nI i2).toNatClampNeg (21 : Int32)))) else ((ms_wh q2 (upd (mt_wh q2) (nI i2).toNatClampNeg (20 : Int32))))) else (if ((mt_fe q2) (nI i2).toNatClampNeg) = (10 : Int32) then ((ms_wh q2 (upd (mt_wh q2) (nI i2).toNatClampNeg (21 : Int32)))) else (q2))) else (q2)
def s_X2_leaveWards (w : Nat) (b : Nat) (n : Nat) (T : mt_T) : mt_T := (lpf (f_X2_leaveWards_2 w b n T) n 0 (T))
abbrev rm_X2_leaveWards : Room := { frames := 0, cells := 0, slots := 0, locals := 0 }
set_option maxHeartbeats 4000000 in
set_option maxRecDepth 100000 in
theorem k_X2_leaveWards (l : Launch) (D : va_G) (cI cZ cL : ClassId) (a : Nat → Nat) (w : Nat) (b : Nat) (n : Nat) (T : mt_T) (hd5 : w ≤ 5) (hd4 : b ≤ 4) (hd30 : n ≤ 30)   : MX l yX2_leaveWards wsX2_leaveWards rm_X2_leaveWards D cI cZ cL [.ref (a 0)] (wt_m a cI w b n T) none (wt_m a cI w b n (s_X2_leaveWards w b n T)) := by
  refine MX.of (own := RX2) (cc := cX2_leaveWards) (maxL := 2) (ret := none) (lv0 := [(0, .ref (a 0))]) (by decide) rfl rfl (Nat.le_of_ble_eq_true rfl) rfl ?_
  intro p e s m args below meth c A hc hnm hw ls hl
  obtain ⟨hx, hb, hr, hml, hown, hts, hlk, hK, hA⟩ := id hc
  have hiX2 : ∀ w ∈ u_ws RX2 TX2 13, w ∈ wsX2_leaveWards := fun _ h => List.mem_cons_of_mem _ (List.mem_append_right _ h)
  refine lv_iconst (v := 0) hx hb dX2_leaveWards_0 (by decide) ?_
  refine lv_istore_n (lv' := [(1, .int (0 : Int32)), (0, .ref (a 0))]) hx hb dX2_leaveWards_1 rfl hl (by decide) rfl (fun ls hl => ?_)
  refine lp_go (fun (i2 : Nat) (q2 : mt_T) => ∀ (H : Heap) (locs : List Loc) (ls : Array Slot), Wo D A s.heap (wt_m a cI w b n q2) H locs → lv_has ls 2 [(0, .ref (a 0)), (1, .int (nI i2))] → W p l e rm_X2_leaveWards s m args below meth c H locs 0 0 (QE below args s D A none (wt_m a cI w b n (s_X2_leaveWards w b n T)) rm_X2_leaveWards) (F0 m 2 ls [])) (f_X2_leaveWards_2 w b n T) n (T) ?_ ?_ s.heap [] ls hw (lv_sub hl [1, 0] rfl)
  · intro i2 q2 hi2 k2 H locs ls hw hl
    refine lv_iload_n hx hb dX2_leaveWards_2 rfl (lv_at hl 1 rfl) ?_
    refine lv_aload_n hx hb dX2_leaveWards_3 rfl (lv_at hl 0 rfl) ?_
    refine g_get (v := .int (nI n)) hc hw hiX2 0 3 (wo_X2_T ..) rfl (by decide) (List.mem_of_getElem? (i := 1) rfl) (wv_X2_T_3 ..) dX2_leaveWards_4 ?_
    refine lv_icmp_ge (tgt := 68) hx hb dX2_leaveWards_7 (by decide) (fun z => absurd z (nI_ge hi2 (by omega))) (fun _ => ?_)
    refine lv_aload_n hx hb dX2_leaveWards_10 rfl (lv_at hl 0 rfl) ?_
    refine g_get (v := .ref (a 11)) hc hw hiX2 0 11 (wo_X2_T ..) rfl (by decide) (List.mem_of_getElem? (i := 2) rfl) (wv_X2_T_11 ..) dX2_leaveWards_11 ?_
    refine lv_iload_n hx hb dX2_leaveWards_14 rfl (lv_at hl 1 rfl) ?_
    refine g_iald (f := (mt_wh q2)) hc hw 6 (wr_X2_T_11 ..) (vp_in_nI (show i2 < 30 by omega) (by omega)) dX2_leaveWards_15 ?_
    refine lv_aload_n hx hb dX2_leaveWards_16 rfl (lv_at hl 0 rfl) ?_
    refine g_get (v := .int (nI w)) hc hw hiX2 0 1 (wo_X2_T ..) rfl (by decide) (List.mem_of_getElem? (i := 3) rfl) (wv_X2_T_1 ..) dX2_leaveWards_17 ?_
    refine lv_icmp_lt (tgt := 26) hx hb dX2_leaveWards_20 (by decide) (fun c1 => ?_) (fun c1 => ?_)
    · refine lv_aload_n hx hb dX2_leaveWards_26 rfl (lv_at hl 0 rfl) ?_
      refine g_get (v := .ref (a 10)) hc hw hiX2 0 10 (wo_X2_T ..) rfl (by decide) (List.mem_of_getElem? (i := 4) rfl) (wv_X2_T_10 ..) dX2_leaveWards_27 ?_
      refine lv_iload_n hx hb dX2_leaveWards_30 rfl (lv_at hl 1 rfl) ?_
      refine g_iald (f := (mt_fe q2)) hc hw 5 (wr_X2_T_10 ..) (vp_in_nI (show i2 < 30 by omega) (by omega)) dX2_leaveWards_31 ?_
      refine lv_if_ne (tgt := 43) hx hb dX2_leaveWards_32 (by decide) (fun c2 => ?_) (fun c2 => ?_)
      · refine lv_aload_n hx hb dX2_leaveWards_43 rfl (lv_at hl 0 rfl) ?_
        refine g_get (v := .ref (a 10)) hc hw hiX2 0 10 (wo_X2_T ..) rfl (by decide) (List.mem_of_getElem? (i := 4) rfl) (wv_X2_T_10 ..) dX2_leaveWards_44 ?_
        refine lv_iload_n hx hb dX2_leaveWards_47 rfl (lv_at hl 1 rfl) ?_
        refine g_iald (f := (mt_fe q2)) hc hw 5 (wr_X2_T_10 ..) (vp_in_nI (show i2 < 30 by omega) (by omega)) dX2_leaveWards_48 ?_
        refine lv_bipush (v := 10) hx hb dX2_leaveWards_49 (by decide) ?_
        refine lv_icmp_ne (tgt := 62) hx hb dX2_leaveWards_51 (by decide) (fun c3 => ?_) (fun c3 => ?_)
        · refine lv_iinc (v := (nI (i2 + 1))) (lv' := [(1, .int (nI (i2 + 1))), (0, .ref (a 0))]) hx hb dX2_leaveWards_62 hl (k := 1) rfl (inc_n i2) (by decide) rfl (fun ls hl => ?_)
          refine lv_goto (tgt := 2) hx hb dX2_leaveWards_65 (by decide) ?_
          rw [show (f_X2_leaveWards_2 w b n T) i2 q2 = (q2) from by rw [f_X2_leaveWards_2, if_pos c1, if_neg c2, if_neg c3]] at k2
          exact k2 H locs ls hw (lv_sub hl [1, 0] rfl)
        · refine lv_aload_n hx hb dX2_leaveWards_54 rfl (lv_at hl 0 rfl) ?_
          refine g_get (v := .ref (a 11)) hc hw hiX2 0 11 (wo_X2_T ..) rfl (by decide) (List.mem_of_getElem? (i := 2) rfl) (wv_X2_T_11 ..) dX2_leaveWards_55 ?_
          refine lv_iload_n hx hb dX2_leaveWards_58 rfl (lv_at hl 1 rfl) ?_
          refine lv_bipush (v := 21) hx hb dX2_leaveWards_59 (by decide) ?_
          refine g_iast (f := (mt_wh q2)) hc hw 6 (wr_X2_T_11 ..) (vp_in_nI (show i2 < 30 by omega) (by omega)) (w' := (wt_m a cI w b n (ms_wh q2 (upd (mt_wh q2) (nI i2).toNatClampNeg (21 : Int32))))) (wu_X2_T_11 ..) dX2_leaveWards_61 (fun H locs hw => ?_)
          refine lv_iinc (v := (nI (i2 + 1))) (lv' := [(1, .int (nI (i2 + 1))), (0, .ref (a 0))]) hx hb dX2_leaveWards_62 hl (k := 1) rfl (inc_n i2) (by decide) rfl (fun ls hl => ?_)
          refine lv_goto (tgt := 2) hx hb dX2_leaveWards_65 (by decide) ?_
          rw [show (f_X2_leaveWards_2 w b n T) i2 q2 = ((ms_wh q2 (upd (mt_wh q2) (nI i2).toNatClampNeg (21 : Int32)))) from by rw [f_X2_leaveWards_2, if_pos c1, if_neg c2, if_pos c3]] at k2
          exact k2 H locs ls hw (lv_sub hl [1, 0] rfl)
      · refine lv_aload_n hx hb dX2_leaveWards_35 rfl (lv_at hl 0 rfl) ?_
        refine g_get (v := .ref (a 11)) hc hw hiX2 0 11 (wo_X2_T ..) rfl (by decide) (List.mem_of_getElem? (i := 2) rfl) (wv_X2_T_11 ..) dX2_leaveWards_36 ?_
        refine lv_iload_n hx hb dX2_leaveWards_39 rfl (lv_at hl 1 rfl) ?_
        refine lv_bipush (v := 20) hx hb dX2_leaveWards_40 (by decide) ?_
        refine g_iast (f := (mt_wh q2)) hc hw 6 (wr_X2_T_11 ..) (vp_in_nI (show i2 < 30 by omega) (by omega)) (w' := (wt_m a cI w b n (ms_wh q2 (upd (mt_wh q2) (nI i2).toNatClampNeg (20 : Int32))))) (wu_X2_T_11 ..) dX2_leaveWards_42 (fun H locs hw => ?_)
        refine lv_aload_n hx hb dX2_leaveWards_43 rfl (lv_at hl 0 rfl) ?_
        refine g_get (v := .ref (a 10)) hc hw hiX2 0 10 (wo_X2_T ..) rfl (by decide) (List.mem_of_getElem? (i := 4) rfl) (wv_X2_T_10 ..) dX2_leaveWards_44 ?_
        refine lv_iload_n hx hb dX2_leaveWards_47 rfl (lv_at hl 1 rfl) ?_
        refine g_iald (f := (mt_fe (ms_wh q2 (upd (mt_wh q2) (nI i2).toNatClampNeg (20 : Int32))))) hc hw 5 (wr_X2_T_10 ..) (vp_in_nI (show i2 < 30 by omega) (by omega)) dX2_leaveWards_48 ?_
        refine lv_bipush (v := 10) hx hb dX2_leaveWards_49 (by decide) ?_
        refine lv_icmp_ne (tgt := 62) hx hb dX2_leaveWards_51 (by decide) (fun c4 => ?_) (fun c4 => ?_)
        · refine lv_iinc (v := (nI (i2 + 1))) (lv' := [(1, .int (nI (i2 + 1))), (0, .ref (a 0))]) hx hb dX2_leaveWards_62 hl (k := 1) rfl (inc_n i2) (by decide) rfl (fun ls hl => ?_)
          refine lv_goto (tgt := 2) hx hb dX2_leaveWards_65 (by decide) ?_
          rw [show (f_X2_leaveWards_2 w b n T) i2 q2 = ((ms_wh q2 (upd (mt_wh q2) (nI i2).toNatClampNeg (20 : Int32)))) from by rw [f_X2_leaveWards_2, if_pos c1, if_pos c2, if_neg c4]] at k2
          exact k2 H locs ls hw (lv_sub hl [1, 0] rfl)
        · refine lv_aload_n hx hb dX2_leaveWards_54 rfl (lv_at hl 0 rfl) ?_
          refine g_get (v := .ref (a 11)) hc hw hiX2 0 11 (wo_X2_T ..) rfl (by decide) (List.mem_of_getElem? (i := 2) rfl) (wv_X2_T_11 ..) dX2_leaveWards_55 ?_
          refine lv_iload_n hx hb dX2_leaveWards_58 rfl (lv_at hl 1 rfl) ?_
          refine lv_bipush (v := 21) hx hb dX2_leaveWards_59 (by decide) ?_
          refine g_iast (f := (mt_wh (ms_wh q2 (upd (mt_wh q2) (nI i2).toNatClampNeg (20 : Int32))))) hc hw 6 (wr_X2_T_11 ..) (vp_in_nI (show i2 < 30 by omega) (by omega)) (w' := (wt_m a cI w b n (ms_wh (ms_wh q2 (upd (mt_wh q2) (nI i2).toNatClampNeg (20 : Int32))) (upd (mt_wh (ms_wh q2 (upd (mt_wh q2) (nI i2).toNatClampNeg (20 : Int32)))) (nI i2).toNatClampNeg (21 : Int32))))) (wu_X2_T_11 ..) dX2_leaveWards_61 (fun H locs hw => ?_)
          refine lv_iinc (v := (nI (i2 + 1))) (lv' := [(1, .int (nI (i2 + 1))), (0, .ref (a 0))]) hx hb dX2_leaveWards_62 hl (k := 1) rfl (inc_n i2) (by decide) rfl (fun ls hl => ?_)
          refine lv_goto (tgt := 2) hx hb dX2_leaveWards_65 (by decide) ?_
          rw [show (f_X2_leaveWards_2 w b n T) i2 q2 = ((ms_wh (ms_wh q2 (upd (mt_wh q2) (nI i2).toNatClampNeg (20 : Int32))) (upd (mt_wh (ms_wh q2 (upd (mt_wh q2) (nI i2).toNatClampNeg (20 : Int32)))) (nI i2).toNatClampNeg (21 : Int32)))) from by rw [f_X2_leaveWards_2, if_pos c1, if_pos c2, if_pos c4]] at k2
          exact k2 H locs ls hw (lv_sub hl [1, 0] rfl)
    · refine lv_goto (tgt := 62) hx hb dX2_leaveWards_23 (by decide) ?_
      refine lv_iinc (v := (nI (i2 + 1))) (lv' := [(1, .int (nI (i2 + 1))), (0, .ref (a 0))]) hx hb dX2_leaveWards_62 hl (k := 1) rfl (inc_n i2) (by decide) rfl (fun ls hl => ?_)
      refine lv_goto (tgt := 2) hx hb dX2_leaveWards_65 (by decide) ?_
      rw [show (f_X2_leaveWards_2 w b n T) i2 q2 = (q2) from by rw [f_X2_leaveWards_2, if_neg c1]] at k2
      exact k2 H locs ls hw (lv_sub hl [1, 0] rfl)
  · intro H locs ls hw hl
    refine lv_iload_n hx hb dX2_leaveWards_2 rfl (lv_at hl 1 rfl) ?_
    refine lv_aload_n hx hb dX2_leaveWards_3 rfl (lv_at hl 0 rfl) ?_
    refine g_get (v := .int (nI n)) hc hw hiX2 0 3 (wo_X2_T ..) rfl (by decide) (List.mem_of_getElem? (i := 1) rfl) (wv_X2_T_3 ..) dX2_leaveWards_4 ?_
    refine lv_icmp_ge (tgt := 68) hx hb dX2_leaveWards_7 (by decide) (fun _ => ?_) (fun z => absurd (nI_le (Nat.le_refl _) (by omega)) z)
    rw [show s_X2_leaveWards w b n T = (lpf (f_X2_leaveWards_2 w b n T) n 0 (T)) from by rw [s_X2_leaveWards]]
    exact g_vret hc hw rfl (Nat.le_of_ble_eq_true rfl) (Nat.le_of_ble_eq_true rfl) dX2_leaveWards_68

def f_X2_firstFree_2 (w : Nat) (b : Nat) (n : Nat) (T : mt_T) (i2 : Nat) (q2 : Unit) : (Int32) ⊕ (Unit) := if ((mt_pl T) (nI i2).toNatClampNeg) ≤ (r_X2_at w b n T (nI i2)) then (.inr ()) else (.inl ((nI i2)))
def r_X2_firstFree (w : Nat) (b : Nat) (n : Nat) (T : mt_T) : Int32 := match lpx (f_X2_firstFree_2 w b n T) w 0 () with | .inl bb => bb | .inr q2 => (-1 : Int32)
abbrev rm_X2_firstFree : Room := { frames := 1, cells := 0, slots := 0, locals := 23 }
set_option maxHeartbeats 4000000 in
set_option maxRecDepth 100000 in
theorem k_X2_firstFree (l : Launch) (D : va_G) (cI cZ cL : ClassId) (a : Nat → Nat) (w : Nat) (b : Nat) (n : Nat) (T : mt_T) (hd5 : w ≤ 5) (hd4 : b ≤ 4) (hd30 : n ≤ 30)   : MX l yX2_firstFree wsX2_firstFree rm_X2_firstFree D cI cZ cL [.ref (a 0)] (wt_m a cI w b n T) (some (.int (r_X2_firstFree w b n T))) (wt_m a cI w b n T) := by
  refine MX.of (own := RX2) (cc := cX2_firstFree) (maxL := 2) (ret := (some .int)) (lv0 := [(0, .ref (a 0))]) (by decide) rfl rfl (Nat.le_of_ble_eq_true rfl) rfl ?_
  intro p e s m args below meth c A hc hnm hw ls hl
  obtain ⟨hx, hb, hr, hml, hown, hts, hlk, hK, hA⟩ := id hc
  have hiX2 : ∀ w ∈ u_ws RX2 TX2 13, w ∈ wsX2_firstFree := fun _ h => List.mem_cons_of_mem _ (List.mem_append_right _ h)
  refine lv_iconst (v := 0) hx hb dX2_firstFree_0 (by decide) ?_
  refine lv_istore_n (lv' := [(1, .int (0 : Int32)), (0, .ref (a 0))]) hx hb dX2_firstFree_1 rfl hl (by decide) rfl (fun ls hl => ?_)
  refine lpx_go (fun (i2 : Nat) (q2 : Unit) => ∀ (H : Heap) (locs : List Loc) (ls : Array Slot), Wo D A s.heap (wt_m a cI w b n T) H locs → lv_has ls 2 [(0, .ref (a 0)), (1, .int (nI i2))] → W p l e rm_X2_firstFree s m args below meth c H locs 0 0 (QE below args s D A (some (.int (r_X2_firstFree w b n T))) (wt_m a cI w b n T) rm_X2_firstFree) (F0 m 2 ls [])) (fun (bb : Int32) => r_X2_firstFree w b n T = bb) (f_X2_firstFree_2 w b n T) w () ?_ ?_ ?_ s.heap [] ls hw (lv_sub hl [1, 0] rfl)
  · intro i2 q2 hi2 x2_x k2 H locs ls hw hl
    refine lv_iload_n hx hb dX2_firstFree_2 rfl (lv_at hl 1 rfl) ?_
    refine lv_aload_n hx hb dX2_firstFree_3 rfl (lv_at hl 0 rfl) ?_
    refine g_get (v := .int (nI w)) hc hw hiX2 0 1 (wo_X2_T ..) rfl (by decide) (List.mem_of_getElem? (i := 1) rfl) (wv_X2_T_1 ..) dX2_firstFree_4 ?_
    refine lv_icmp_ge (tgt := 32) hx hb dX2_firstFree_7 (by decide) (fun z => absurd z (nI_ge hi2 (by omega))) (fun _ => ?_)
    refine lv_aload_n hx hb dX2_firstFree_10 rfl (lv_at hl 0 rfl) ?_
    refine lv_iload_n hx hb dX2_firstFree_11 rfl (lv_at hl 1 rfl) ?_
    refine g_callV0 (n := 1) hc hw (k_X2_at l D cI cZ cL a w b n T hd5 hd4 hd30 (nI i2)) gX2_firstFree_X2_at rfl (by decide +kernel) ⟨Nat.le_of_ble_eq_true rfl, Nat.le_of_ble_eq_true rfl⟩ 0 (wo_X2_T ..) rfl rfl rfl (rest := []) rfl hl.1 (Nat.le_of_ble_eq_true rfl) (st1 := [.int (r_X2_at w b n T (nI i2))]) rfl dX2_firstFree_12 (k2 := 0) (s2 := 0) rfl rfl ⟨Nat.le_of_ble_eq_true rfl, Nat.le_of_ble_eq_true rfl⟩ (fun H locs hw => ?_)
    refine lv_aload_n hx hb dX2_firstFree_15 rfl (lv_at hl 0 rfl) ?_
    refine g_get (v := .ref (a 6)) hc hw hiX2 0 6 (wo_X2_T ..) rfl (by decide) (List.mem_of_getElem? (i := 2) rfl) (wv_X2_T_6 ..) dX2_firstFree_16 ?_
    refine lv_iload_n hx hb dX2_firstFree_19 rfl (lv_at hl 1 rfl) ?_
    refine g_iald (f := (mt_pl T)) hc hw 1 (wr_X2_T_6 ..) (vp_in_nI (show i2 < 5 by omega) (by omega)) dX2_firstFree_20 ?_
    refine lv_icmp_ge (tgt := 26) hx hb dX2_firstFree_21 (by decide) (fun c1 => ?_) (fun c1 => ?_)
    · refine lv_iinc (v := (nI (i2 + 1))) (lv' := [(1, .int (nI (i2 + 1))), (0, .ref (a 0))]) hx hb dX2_firstFree_26 hl (k := 1) rfl (inc_n i2) (by decide) rfl (fun ls hl => ?_)
      refine lv_goto (tgt := 2) hx hb dX2_firstFree_29 (by decide) ?_
      exact k2 () (by rw [f_X2_firstFree_2, if_pos c1]) H locs ls hw (lv_sub hl [1, 0] rfl)
    · refine lv_iload_n hx hb dX2_firstFree_24 rfl (lv_at hl 1 rfl) ?_
      have e0 := x2_x ((nI i2)) (by rw [f_X2_firstFree_2, if_neg c1])
      rw [show r_X2_firstFree w b n T = _ from e0]
      exact g_ret hc hw rfl (Nat.le_of_ble_eq_true rfl) (Nat.le_of_ble_eq_true rfl) dX2_firstFree_25
  · intro bb hL2
    exact (by rw [r_X2_firstFree, hL2])
  · intro q2 hL2 H locs ls hw hl
    refine lv_iload_n hx hb dX2_firstFree_2 rfl (lv_at hl 1 rfl) ?_
    refine lv_aload_n hx hb dX2_firstFree_3 rfl (lv_at hl 0 rfl) ?_
    refine g_get (v := .int (nI w)) hc hw hiX2 0 1 (wo_X2_T ..) rfl (by decide) (List.mem_of_getElem? (i := 1) rfl) (wv_X2_T_1 ..) dX2_firstFree_4 ?_
    refine lv_icmp_ge (tgt := 32) hx hb dX2_firstFree_7 (by decide) (fun _ => ?_) (fun z => absurd (nI_le (Nat.le_refl _) (by omega)) z)
    refine lv_iconst (v := (-1)) hx hb dX2_firstFree_32 (by decide) ?_
    rw [show r_X2_firstFree w b n T = (-1 : Int32) from by rw [r_X2_firstFree, hL2]]
    exact g_ret hc hw rfl (Nat.le_of_ble_eq_true rfl) (Nat.le_of_ble_eq_true rfl) dX2_firstFree_33

def f_X2_land_12 (w : Nat) (b : Nat) (n : Nat) (T : mt_T) (x1 : Int32) (i12 : Nat) (q12 : mt_T) : mt_T := if ((mt_wh q12) (nI i12).toNatClampNeg) = ((10 : Int32) + x1) then (if ((mt_fe q12) (nI i12).toNatClampNeg) = (0 : Int32) then ((ms_wh q12 (upd (mt_wh q12) (nI i12).toNatClampNeg (20 : Int32)))) else (if (r_X2_firstFree w b n q12) = (-1 : Int32) then ((ms_to q12 (upd (mt_to q12) x1.toNatClampNeg ((mt_ke q12) x1.toNatClampNeg)))) else ((ms_wh q12 (upd (mt_wh q12) (nI i12).toNatClampNeg (r_X2_firstFree w b n q12)))))) else (q12)
def s_X2_land (w : Nat) (b : Nat) (n : Nat) (T : mt_T) (x1 : Int32) : mt_T := if ((mt_to T) x1.toNatClampNeg) ≤ (0 : Int32) then ((lpf (f_X2_land_12 w b n T x1) n 0 (T))) else (T)
abbrev rm_X2_land : Room := { frames := 2, cells := 0, slots := 0, locals := 44 }
set_option maxHeartbeats 4000000 in
set_option maxRecDepth 100000 in
theorem k_X2_land (l : Launch) (D : va_G) (cI cZ cL : ClassId) (a : Nat → Nat) (w : Nat) (b : Nat) (n : Nat) (T : mt_T) (hd5 : w ≤ 5) (hd4 : b ≤ 4) (hd30 : n ≤ 30) (x1 : Int32) (hp1 : vp_in x1 4) : MX l yX2_land wsX2_land rm_X2_land D cI cZ cL [.ref (a 0), .int x1] (wt_m a cI w b n T) none (wt_m a cI w b n (s_X2_land w b n T x1)) := by
  refine MX.of (own := RX2) (cc := cX2_land) (maxL := 4) (ret := none) (lv0 := [(0, .ref (a 0)), (1, .int x1)]) (by decide) rfl rfl (Nat.le_of_ble_eq_true rfl) rfl ?_
  intro p e s m args below meth c A hc hnm hw ls hl
  obtain ⟨hx, hb, hr, hml, hown, hts, hlk, hK, hA⟩ := id hc
  have hiX2 : ∀ w ∈ u_ws RX2 TX2 13, w ∈ wsX2_land := fun _ h => List.mem_cons_of_mem _ (List.mem_append_right _ h)
  refine lv_aload_n hx hb dX2_land_0 rfl (lv_at hl 0 rfl) ?_
  refine g_get (v := .ref (a 9)) hc hw hiX2 0 9 (wo_X2_T ..) rfl (by decide) (List.mem_of_getElem? (i := 1) rfl) (wv_X2_T_9 ..) dX2_land_1 ?_
  refine lv_iload_n hx hb dX2_land_4 rfl (lv_at hl 1 rfl) ?_
  refine g_iald (f := (mt_to T)) hc hw 4 (wr_X2_T_9 ..) hp1 dX2_land_5 ?_
  refine lv_if_le (tgt := 10) hx hb dX2_land_6 (by decide) (fun c1 => ?_) (fun c1 => ?_)
  · refine lv_iconst (v := 0) hx hb dX2_land_10 (by decide) ?_
    refine lv_istore_n (lv' := [(2, .int (0 : Int32)), (0, .ref (a 0)), (1, .int x1)]) hx hb dX2_land_11 rfl hl (by decide) rfl (fun ls hl => ?_)
    refine lp_go (fun (i12 : Nat) (q12 : mt_T) => ∀ (H : Heap) (locs : List Loc) (ls : Array Slot), Wo D A s.heap (wt_m a cI w b n q12) H locs → lv_has ls 4 [(0, .ref (a 0)), (1, .int x1), (2, .int (nI i12))] → W p l e rm_X2_land s m args below meth c H locs 0 0 (QE below args s D A none (wt_m a cI w b n (s_X2_land w b n T x1)) rm_X2_land) (F0 m 12 ls [])) (f_X2_land_12 w b n T x1) n (T) ?_ ?_ s.heap [] ls hw (lv_sub hl [1, 2, 0] rfl)
    · intro i12 q12 hi12 k12 H locs ls hw hl
      refine lv_iload_n hx hb dX2_land_12 rfl (lv_at hl 2 rfl) ?_
      refine lv_aload_n hx hb dX2_land_13 rfl (lv_at hl 0 rfl) ?_
      refine g_get (v := .int (nI n)) hc hw hiX2 0 3 (wo_X2_T ..) rfl (by decide) (List.mem_of_getElem? (i := 2) rfl) (wv_X2_T_3 ..) dX2_land_14 ?_
      refine lv_icmp_ge (tgt := 88) hx hb dX2_land_17 (by decide) (fun z => absurd z (nI_ge hi12 (by omega))) (fun _ => ?_)
      refine lv_aload_n hx hb dX2_land_20 rfl (lv_at hl 0 rfl) ?_
      refine g_get (v := .ref (a 11)) hc hw hiX2 0 11 (wo_X2_T ..) rfl (by decide) (List.mem_of_getElem? (i := 3) rfl) (wv_X2_T_11 ..) dX2_land_21 ?_
      refine lv_iload_n hx hb dX2_land_24 rfl (lv_at hl 2 rfl) ?_
      refine g_iald (f := (mt_wh q12)) hc hw 6 (wr_X2_T_11 ..) (vp_in_nI (show i12 < 30 by omega) (by omega)) dX2_land_25 ?_
      refine lv_bipush (v := 10) hx hb dX2_land_26 (by decide) ?_
      refine lv_iload_n hx hb dX2_land_28 rfl (lv_at hl 1 rfl) ?_
      refine lv_iadd hx hb dX2_land_29 ?_
      refine lv_icmp_eq (tgt := 36) hx hb dX2_land_30 (by decide) (fun c2 => ?_) (fun c2 => ?_)
      · refine lv_aload_n hx hb dX2_land_36 rfl (lv_at hl 0 rfl) ?_
        refine g_get (v := .ref (a 10)) hc hw hiX2 0 10 (wo_X2_T ..) rfl (by decide) (List.mem_of_getElem? (i := 4) rfl) (wv_X2_T_10 ..) dX2_land_37 ?_
        refine lv_iload_n hx hb dX2_land_40 rfl (lv_at hl 2 rfl) ?_
        refine g_iald (f := (mt_fe q12)) hc hw 5 (wr_X2_T_10 ..) (vp_in_nI (show i12 < 30 by omega) (by omega)) dX2_land_41 ?_
        refine lv_if_ne (tgt := 50) hx hb dX2_land_42 (by decide) (fun c3 => ?_) (fun c3 => ?_)
        · refine lv_aload_n hx hb dX2_land_50 rfl (lv_at hl 0 rfl) ?_
          refine g_callV0 (n := 0) hc hw (k_X2_firstFree l D cI cZ cL a w b n q12 hd5 hd4 hd30) gX2_land_X2_firstFree rfl (by decide +kernel) ⟨Nat.le_of_ble_eq_true rfl, Nat.le_of_ble_eq_true rfl⟩ 0 (wo_X2_T ..) rfl rfl rfl (rest := []) rfl hl.1 (Nat.le_of_ble_eq_true rfl) (st1 := [.int (r_X2_firstFree w b n q12)]) rfl dX2_land_51 (k2 := 0) (s2 := 0) rfl rfl ⟨Nat.le_of_ble_eq_true rfl, Nat.le_of_ble_eq_true rfl⟩ (fun H locs hw => ?_)
          refine lv_istore_n (lv' := [(3, .int (r_X2_firstFree w b n q12)), (0, .ref (a 0)), (1, .int x1), (2, .int (nI i12))]) hx hb dX2_land_54 rfl hl (by decide) rfl (fun ls hl => ?_)
          refine lv_iload_n hx hb dX2_land_55 rfl (lv_at hl 0 rfl) ?_
          refine lv_iconst (v := (-1)) hx hb dX2_land_56 (by decide) ?_
          refine lv_icmp_ne (tgt := 75) hx hb dX2_land_57 (by decide) (fun c4 => ?_) (fun c4 => ?_)
          · refine lv_aload_n hx hb dX2_land_75 rfl (lv_at hl 1 rfl) ?_
            refine g_get (v := .ref (a 11)) hc hw hiX2 0 11 (wo_X2_T ..) rfl (by decide) (List.mem_of_getElem? (i := 3) rfl) (wv_X2_T_11 ..) dX2_land_76 ?_
            refine lv_iload_n hx hb dX2_land_79 rfl (lv_at hl 3 rfl) ?_
            refine lv_iload_n hx hb dX2_land_80 rfl (lv_at hl 0 rfl) ?_
            refine g_iast (f := (mt_wh q12)) hc hw 6 (wr_X2_T_11 ..) (vp_in_nI (show i12 < 30 by omega) (by omega)) (w' := (wt_m a cI w b n (ms_wh q12 (upd (mt_wh q12) (nI i12).toNatClampNeg (r_X2_firstFree w b n q12))))) (wu_X2_T_11 ..) dX2_land_81 (fun H locs hw => ?_)
            refine lv_iinc (v := (nI (i12 + 1))) (lv' := [(2, .int (nI (i12 + 1))), (3, .int (r_X2_firstFree w b n q12)), (0, .ref (a 0)), (1, .int x1)]) hx hb dX2_land_82 hl (k := 3) rfl (inc_n i12) (by decide) rfl (fun ls hl => ?_)
            refine lv_goto (tgt := 12) hx hb dX2_land_85 (by decide) ?_
            rw [show (f_X2_land_12 w b n T x1) i12 q12 = ((ms_wh q12 (upd (mt_wh q12) (nI i12).toNatClampNeg (r_X2_firstFree w b n q12)))) from by rw [f_X2_land_12, if_pos c2, if_neg c3, if_neg c4]] at k12
            exact k12 H locs ls hw (lv_sub hl [2, 3, 0] rfl)
          · refine lv_aload_n hx hb dX2_land_60 rfl (lv_at hl 1 rfl) ?_
            refine g_get (v := .ref (a 9)) hc hw hiX2 0 9 (wo_X2_T ..) rfl (by decide) (List.mem_of_getElem? (i := 1) rfl) (wv_X2_T_9 ..) dX2_land_61 ?_
            refine lv_iload_n hx hb dX2_land_64 rfl (lv_at hl 2 rfl) ?_
            refine lv_aload_n hx hb dX2_land_65 rfl (lv_at hl 1 rfl) ?_
            refine g_get (v := .ref (a 8)) hc hw hiX2 0 8 (wo_X2_T ..) rfl (by decide) (List.mem_of_getElem? (i := 5) rfl) (wv_X2_T_8 ..) dX2_land_66 ?_
            refine lv_iload_n hx hb dX2_land_69 rfl (lv_at hl 2 rfl) ?_
            refine g_iald (f := (mt_ke q12)) hc hw 3 (wr_X2_T_8 ..) hp1 dX2_land_70 ?_
            refine g_iast (f := (mt_to q12)) hc hw 4 (wr_X2_T_9 ..) hp1 (w' := (wt_m a cI w b n (ms_to q12 (upd (mt_to q12) x1.toNatClampNeg ((mt_ke q12) x1.toNatClampNeg))))) (wu_X2_T_9 ..) dX2_land_71 (fun H locs hw => ?_)
            refine lv_goto (tgt := 82) hx hb dX2_land_72 (by decide) ?_
            refine lv_iinc (v := (nI (i12 + 1))) (lv' := [(2, .int (nI (i12 + 1))), (3, .int (r_X2_firstFree w b n q12)), (0, .ref (a 0)), (1, .int x1)]) hx hb dX2_land_82 hl (k := 3) rfl (inc_n i12) (by decide) rfl (fun ls hl => ?_)
            refine lv_goto (tgt := 12) hx hb dX2_land_85 (by decide) ?_
            rw [show (f_X2_land_12 w b n T x1) i12 q12 = ((ms_to q12 (upd (mt_to q12) x1.toNatClampNeg ((mt_ke q12) x1.toNatClampNeg)))) from by rw [f_X2_land_12, if_pos c2, if_neg c3, if_pos c4]] at k12
            exact k12 H locs ls hw (lv_sub hl [2, 3, 0] rfl)
        · refine lv_bipush (v := 20) hx hb dX2_land_45 (by decide) ?_
          refine lv_goto (tgt := 54) hx hb dX2_land_47 (by decide) ?_
          refine lv_istore_n (lv' := [(3, .int (20 : Int32)), (0, .ref (a 0)), (1, .int x1), (2, .int (nI i12))]) hx hb dX2_land_54 rfl hl (by decide) rfl (fun ls hl => ?_)
          refine lv_iload_n hx hb dX2_land_55 rfl (lv_at hl 0 rfl) ?_
          refine lv_iconst (v := (-1)) hx hb dX2_land_56 (by decide) ?_
          refine lv_icmp_ne (tgt := 75) hx hb dX2_land_57 (by decide) (fun _ => ?_) (fun z => absurd z (by decide))
          refine lv_aload_n hx hb dX2_land_75 rfl (lv_at hl 1 rfl) ?_
          refine g_get (v := .ref (a 11)) hc hw hiX2 0 11 (wo_X2_T ..) rfl (by decide) (List.mem_of_getElem? (i := 3) rfl) (wv_X2_T_11 ..) dX2_land_76 ?_
          refine lv_iload_n hx hb dX2_land_79 rfl (lv_at hl 3 rfl) ?_
          refine lv_iload_n hx hb dX2_land_80 rfl (lv_at hl 0 rfl) ?_
          refine g_iast (f := (mt_wh q12)) hc hw 6 (wr_X2_T_11 ..) (vp_in_nI (show i12 < 30 by omega) (by omega)) (w' := (wt_m a cI w b n (ms_wh q12 (upd (mt_wh q12) (nI i12).toNatClampNeg (20 : Int32))))) (wu_X2_T_11 ..) dX2_land_81 (fun H locs hw => ?_)
          refine lv_iinc (v := (nI (i12 + 1))) (lv' := [(2, .int (nI (i12 + 1))), (3, .int (20 : Int32)), (0, .ref (a 0)), (1, .int x1)]) hx hb dX2_land_82 hl (k := 3) rfl (inc_n i12) (by decide) rfl (fun ls hl => ?_)
          refine lv_goto (tgt := 12) hx hb dX2_land_85 (by decide) ?_
          rw [show (f_X2_land_12 w b n T x1) i12 q12 = ((ms_wh q12 (upd (mt_wh q12) (nI i12).toNatClampNeg (20 : Int32)))) from by rw [f_X2_land_12, if_pos c2, if_pos c3]] at k12
          exact k12 H locs ls hw (lv_sub hl [2, 3, 0] rfl)
      · refine lv_goto (tgt := 82) hx hb dX2_land_33 (by decide) ?_
        refine lv_iinc (v := (nI (i12 + 1))) (lv' := [(2, .int (nI (i12 + 1))), (0, .ref (a 0)), (1, .int x1)]) hx hb dX2_land_82 hl (k := 2) rfl (inc_n i12) (by decide) rfl (fun ls hl => ?_)
        refine lv_goto (tgt := 12) hx hb dX2_land_85 (by decide) ?_
        rw [show (f_X2_land_12 w b n T x1) i12 q12 = (q12) from by rw [f_X2_land_12, if_neg c2]] at k12
        exact k12 H locs ls hw (lv_sub hl [1, 2, 0] rfl)
    · intro H locs ls hw hl
      refine lv_iload_n hx hb dX2_land_12 rfl (lv_at hl 2 rfl) ?_
      refine lv_aload_n hx hb dX2_land_13 rfl (lv_at hl 0 rfl) ?_
      refine g_get (v := .int (nI n)) hc hw hiX2 0 3 (wo_X2_T ..) rfl (by decide) (List.mem_of_getElem? (i := 2) rfl) (wv_X2_T_3 ..) dX2_land_14 ?_
      refine lv_icmp_ge (tgt := 88) hx hb dX2_land_17 (by decide) (fun _ => ?_) (fun z => absurd (nI_le (Nat.le_refl _) (by omega)) z)
      rw [show s_X2_land w b n T x1 = (lpf (f_X2_land_12 w b n T x1) n 0 (T)) from by rw [s_X2_land, if_pos c1]]
      exact g_vret hc hw rfl (Nat.le_of_ble_eq_true rfl) (Nat.le_of_ble_eq_true rfl) dX2_land_88
  · rw [show s_X2_land w b n T x1 = T from by rw [s_X2_land, if_neg c1]]
    exact g_vret hc hw rfl (Nat.le_of_ble_eq_true rfl) (Nat.le_of_ble_eq_true rfl) dX2_land_9
