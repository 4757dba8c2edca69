def f_X0_landBarges_2 (w : Nat) (b : Nat) (n : Nat) (T : ct_T) (i2 : Nat) (q2 : ct_T) : ct_T := ((cs_fr q2 (upd (ct_fr q2) (nI i2).toNatClampNeg (r_X0_freeIn w b n q2 (nI i2)))))
def f_X0_landBarges_29 (w : Nat) (b : Nat) (n : Nat) (T : ct_T) (i29 : Nat) (q29 : ct_T) : ct_T := if ((ct_to q29) (nI i29).toNatClampNeg) = (0 : Int32) then (if (r_X0_landAll w b n q29 (nI i29)) = (0 : Int32) then ((cs_to (s_X0_landAll w b n q29 (nI i29)) (upd (ct_to (s_X0_landAll w b n q29 (nI i29))) (nI i29).toNatClampNeg ((ct_ke (s_X0_landAll w b n q29 (nI i29))) (nI i29).toNatClampNeg)))) else ((s_X0_landAll w b n q29 (nI i29)))) else (q29)
def s_X0_landBarges (w : Nat) (b : Nat) (n : Nat) (T : ct_T) : ct_T := (lpf (f_X0_landBarges_29 w b n T) b 0 ((lpf (f_X0_landBarges_2 w b n T) w 0 (T))))
abbrev rm_X0_landBarges : Room := { frames := 3, cells := 0, slots := 0, locals := 68 }
set_option maxHeartbeats 4000000 in
set_option maxRecDepth 100000 in
theorem k_X0_landBarges (l : Launch) (D : va_G) (cI cZ cL : ClassId) (a : Nat → Nat) (w : Nat) (b : Nat) (n : Nat) (T : ct_T) (hd5 : w ≤ 5) (hd4 : b ≤ 4) (hd30 : n ≤ 30)   : MX l yX0_landBarges wsX0_landBarges rm_X0_landBarges D cI cZ cL [.ref (a 0)] (wt_c a cI cZ w b n T) none (wt_c a cI cZ w b n (s_X0_landBarges w b n T)) := by
  refine MX.of (own := RX0) (cc := cX0_landBarges) (maxL := 2) (ret := none) (lv0 := [(0, .ref (a 0))]) (by decide) rfl rfl (Nat.le_of_ble_eq_true rfl) rfl ?_
  intro p e s m args below meth c A hc hnm hw ls hl
  obtain ⟨hx, hb, hr, hml, hown, hts, hlk, hK, hA⟩ := id hc
  have hiX0 : ∀ w ∈ u_ws RX0 TX0 16, w ∈ wsX0_landBarges := fun _ h => List.mem_cons_of_mem _ (List.mem_append_right _ h)
  refine lv_iconst (v := 0) hx hb dX0_landBarges_0 (by decide) ?_
  refine lv_istore_n (lv' := [(1, .int (0 : Int32)), (0, .ref (a 0))]) hx hb dX0_landBarges_1 rfl hl (by decide) rfl (fun ls hl => ?_)
  refine lp_go (fun (i2 : Nat) (q2 : ct_T) => ∀ (H : Heap) (locs : List Loc) (ls : Array Slot), Wo D A s.heap (wt_c a cI cZ w b n q2) H locs → lv_has ls 2 [(0, .ref (a 0)), (1, .int (nI i2))] → W p l e rm_X0_landBarges s m args below meth c H locs 0 0 (QE below args s D A none (wt_c a cI cZ w b n (s_X0_landBarges w b n T)) rm_X0_landBarges) (F0 m 2 ls [])) (f_X0_landBarges_2 w b n T) w (T) ?_ ?_ s.heap [] ls hw (lv_sub hl [1, 0] rfl)
  · intro i2 q2 hi2 k2 H locs ls hw hl
    refine lv_iload_n hx hb dX0_landBarges_2 rfl (lv_at hl 1 rfl) ?_
    refine lv_aload_n hx hb dX0_landBarges_3 rfl (lv_at hl 0 rfl) ?_
    refine g_get (v := .int (nI w)) hc hw hiX0 0 3 (wo_X0_T ..) rfl (by decide) (List.mem_of_getElem? (i := 1) rfl) (wv_X0_T_3 ..) dX0_landBarges_4 ?_
    refine lv_icmp_ge (tgt := 27) hx hb dX0_landBarges_7 (by decide) (fun z => absurd z (nI_ge hi2 (by omega))) (fun _ => ?_)
    refine lv_aload_n hx hb dX0_landBarges_10 rfl (lv_at hl 0 rfl) ?_
    refine g_get (v := .ref (a 15)) hc hw hiX0 0 15 (wo_X0_T ..) rfl (by decide) (List.mem_of_getElem? (i := 2) rfl) (wv_X0_T_15 ..) dX0_landBarges_11 ?_
    refine lv_iload_n hx hb dX0_landBarges_14 rfl (lv_at hl 1 rfl) ?_
    refine lv_aload_n hx hb dX0_landBarges_15 rfl (lv_at hl 0 rfl) ?_
    refine lv_iload_n hx hb dX0_landBarges_16 rfl (lv_at hl 1 rfl) ?_
    refine g_callV0 (n := 1) hc hw (k_X0_freeIn l D cI cZ cL a w b n q2 hd5 hd4 hd30 (nI i2) (vp_in_nI (show i2 < 5 by omega) (by omega))) gX0_landBarges_X0_freeIn rfl (by decide +kernel) ⟨Nat.le_of_ble_eq_true rfl, Nat.le_of_ble_eq_true rfl⟩ 0 (wo_X0_T ..) rfl rfl rfl (rest := [.int (nI i2), .ref (a 15)]) rfl hl.1 (Nat.le_of_ble_eq_true rfl) (st1 := [.int (r_X0_freeIn w b n q2 (nI i2)), .int (nI i2), .ref (a 15)]) rfl dX0_landBarges_17 (k2 := 0) (s2 := 0) rfl rfl ⟨Nat.le_of_ble_eq_true rfl, Nat.le_of_ble_eq_true rfl⟩ (fun H locs hw => ?_)
    refine g_iast (f := (ct_fr q2)) hc hw 10 (wr_X0_T_15 ..) (vp_in_nI (show i2 < 5 by omega) (by omega)) (w' := (wt_c a cI cZ w b n (cs_fr q2 (upd (ct_fr q2) (nI i2).toNatClampNeg (r_X0_freeIn w b n q2 (nI i2)))))) (wu_X0_T_15 ..) dX0_landBarges_20 (fun H locs hw => ?_)
    refine lv_iinc (v := (nI (i2 + 1))) (lv' := [(1, .int (nI (i2 + 1))), (0, .ref (a 0))]) hx hb dX0_landBarges_21 hl (k := 1) rfl (inc_n i2) (by decide) rfl (fun ls hl => ?_)
    refine lv_goto (tgt := 2) hx hb dX0_landBarges_24 (by decide) ?_
    rw [show (f_X0_landBarges_2 w b n T) i2 q2 = ((cs_fr q2 (upd (ct_fr q2) (nI i2).toNatClampNeg (r_X0_freeIn w b n q2 (nI i2))))) from by rw [f_X0_landBarges_2]] at k2
    exact k2 H locs ls hw (lv_sub hl [1, 0] rfl)
  · intro H locs ls hw hl
    refine lv_iload_n hx hb dX0_landBarges_2 rfl (lv_at hl 1 rfl) ?_
    refine lv_aload_n hx hb dX0_landBarges_3 rfl (lv_at hl 0 rfl) ?_
    refine g_get (v := .int (nI w)) hc hw hiX0 0 3 (wo_X0_T ..) rfl (by decide) (List.mem_of_getElem? (i := 1) rfl) (wv_X0_T_3 ..) dX0_landBarges_4 ?_
    refine lv_icmp_ge (tgt := 27) hx hb dX0_landBarges_7 (by decide) (fun _ => ?_) (fun z => absurd (nI_le (Nat.le_refl _) (by omega)) z)
    refine lv_iconst (v := 0) hx hb dX0_landBarges_27 (by decide) ?_
    refine lv_istore_n (lv' := [(1, .int (0 : Int32)), (0, .ref (a 0))]) hx hb dX0_landBarges_28 rfl hl (by decide) rfl (fun ls hl => ?_)
    refine lp_go (fun (i29 : Nat) (q29 : ct_T) => ∀ (H : Heap) (locs : List Loc) (ls : Array Slot), Wo D A s.heap (wt_c a cI cZ w b n q29) H locs → lv_has ls 2 [(0, .ref (a 0)), (1, .int (nI i29))] → W p l e rm_X0_landBarges s m args below meth c H locs 0 0 (QE below args s D A none (wt_c a cI cZ w b n (s_X0_landBarges w b n T)) rm_X0_landBarges) (F0 m 29 ls [])) (f_X0_landBarges_29 w b n T) b ((lpf (f_X0_landBarges_2 w b n T) w 0 (T))) ?_ ?_ H locs ls hw (lv_sub hl [1, 0] rfl)
    · intro i29 q29 hi29 k29 H locs ls hw hl
      refine lv_iload_n hx hb dX0_landBarges_29 rfl (lv_at hl 1 rfl) ?_
      refine lv_aload_n hx hb dX0_landBarges_30 rfl (lv_at hl 0 rfl) ?_
      refine g_get (v := .int (nI b)) hc hw hiX0 0 6 (wo_X0_T ..) rfl (by decide) (List.mem_of_getElem? (i := 3) rfl) (wv_X0_T_6 ..) dX0_landBarges_31 ?_
      refine lv_icmp_ge (tgt := 72) hx hb dX0_landBarges_34 (by decide) (fun z => absurd z (nI_ge hi29 (by omega))) (fun _ => ?_)
      refine lv_aload_n hx hb dX0_landBarges_37 rfl (lv_at hl 0 rfl) ?_
      refine g_get (v := .ref (a 8)) hc hw hiX0 0 8 (wo_X0_T ..) rfl (by decide) (List.mem_of_getElem? (i := 4) rfl) (wv_X0_T_8 ..) dX0_landBarges_38 ?_
      refine lv_iload_n hx hb dX0_landBarges_41 rfl (lv_at hl 1 rfl) ?_
      refine g_iald (f := (ct_to q29)) hc hw 4 (wr_X0_T_8 ..) (vp_in_nI (show i29 < 4 by omega) (by omega)) dX0_landBarges_42 ?_
      refine lv_if_ne (tgt := 66) hx hb dX0_landBarges_43 (by decide) (fun c1 => ?_) (fun c1 => ?_)
      · refine lv_iinc (v := (nI (i29 + 1))) (lv' := [(1, .int (nI (i29 + 1))), (0, .ref (a 0))]) hx hb dX0_landBarges_66 hl (k := 1) rfl (inc_n i29) (by decide) rfl (fun ls hl => ?_)
        refine lv_goto (tgt := 29) hx hb dX0_landBarges_69 (by decide) ?_
        rw [show (f_X0_landBarges_29 w b n T) i29 q29 = (q29) from by rw [f_X0_landBarges_29, if_neg c1]] at k29
        exact k29 H locs ls hw (lv_sub hl [1, 0] rfl)
      · refine lv_aload_n hx hb dX0_landBarges_46 rfl (lv_at hl 0 rfl) ?_
        refine lv_iload_n hx hb dX0_landBarges_47 rfl (lv_at hl 1 rfl) ?_
        refine g_callV0 (n := 1) hc hw (k_X0_landAll l D cI cZ cL a w b n q29 hd5 hd4 hd30 (nI i29)) gX0_landBarges_X0_landAll rfl (by decide +kernel) ⟨Nat.le_of_ble_eq_true rfl, Nat.le_of_ble_eq_true rfl⟩ 0 (wo_X0_T ..) rfl rfl rfl (rest := []) rfl hl.1 (Nat.le_of_ble_eq_true rfl) (st1 := [.int (r_X0_landAll w b n q29 (nI i29))]) rfl dX0_landBarges_48 (k2 := 0) (s2 := 0) rfl rfl ⟨Nat.le_of_ble_eq_true rfl, Nat.le_of_ble_eq_true rfl⟩ (fun H locs hw => ?_)
        refine lv_if_ne (tgt := 66) hx hb dX0_landBarges_51 (by decide) (fun c2 => ?_) (fun c2 => ?_)
        · refine lv_iinc (v := (nI (i29 + 1))) (lv' := [(1, .int (nI (i29 + 1))), (0, .ref (a 0))]) hx hb dX0_landBarges_66 hl (k := 1) rfl (inc_n i29) (by decide) rfl (fun ls hl => ?_)
          refine lv_goto (tgt := 29) hx hb dX0_landBarges_69 (by decide) ?_
          rw [show (f_X0_landBarges_29 w b n T) i29 q29 = ((s_X0_landAll w b n q29 (nI i29))) from by rw [f_X0_landBarges_29, if_pos c1, if_neg c2]] at k29
          exact k29 H locs ls hw (lv_sub hl [1, 0] rfl)
        · refine lv_aload_n hx hb dX0_landBarges_54 rfl (lv_at hl 0 rfl) ?_
          refine g_get (v := .ref (a 8)) hc hw hiX0 0 8 (wo_X0_T ..) rfl (by decide) (List.mem_of_getElem? (i := 4) rfl) (wv_X0_T_8 ..) dX0_landBarges_55 ?_
          refine lv_iload_n hx hb dX0_landBarges_58 rfl (lv_at hl 1 rfl) ?_
          refine lv_aload_n hx hb dX0_landBarges_59 rfl (lv_at hl 0 rfl) ?_
          refine g_get (v := .ref (a 7)) hc hw hiX0 0 7 (wo_X0_T ..) rfl (by decide) (List.mem_of_getElem? (i := 5) rfl) (wv_X0_T_7 ..) dX0_landBarges_60 ?_
          refine lv_iload_n hx hb dX0_landBarges_63 rfl (lv_at hl 1 rfl) ?_
          refine g_iald (f := (ct_ke (s_X0_landAll w b n q29 (nI i29)))) hc hw 3 (wr_X0_T_7 ..) (vp_in_nI (show i29 < 4 by omega) (by omega)) dX0_landBarges_64 ?_
          refine g_iast (f := (ct_to (s_X0_landAll w b n q29 (nI i29)))) hc hw 4 (wr_X0_T_8 ..) (vp_in_nI (show i29 < 4 by omega) (by omega)) (w' := (wt_c a cI cZ w b n (cs_to (s_X0_landAll w b n q29 (nI i29)) (upd (ct_to (s_X0_landAll w b n q29 (nI i29))) (nI i29).toNatClampNeg ((ct_ke (s_X0_landAll w b n q29 (nI i29))) (nI i29).toNatClampNeg))))) (wu_X0_T_8 ..) dX0_landBarges_65 (fun H locs hw => ?_)
          refine lv_iinc (v := (nI (i29 + 1))) (lv' := [(1, .int (nI (i29 + 1))), (0, .ref (a 0))]) hx hb dX0_landBarges_66 hl (k := 1) rfl (inc_n i29) (by decide) rfl (fun ls hl => ?_)
          refine lv_goto (tgt := 29) hx hb dX0_landBarges_69 (by decide) ?_
          rw [show (f_X0_landBarges_29 w b n T) i29 q29 = ((cs_to (s_X0_landAll w b n q29 (nI i29)) (upd (ct_to (s_X0_landAll w b n q29 (nI i29))) (nI i29).toNatClampNeg ((ct_ke (s_X0_landAll w b n q29 (nI i29))) (nI i29).toNatClampNeg)))) from by rw [f_X0_landBarges_29, if_pos c1, if_pos c2]] at k29
          exact k29 H locs ls hw (lv_sub hl [1, 0] rfl)
    · intro H locs ls hw hl
      refine lv_iload_n hx hb dX0_landBarges_29 rfl (lv_at hl 1 rfl) ?_
      refine lv_aload_n hx hb dX0_landBarges_30 rfl (lv_at hl 0 rfl) ?_
      refine g_get (v := .int (nI b)) hc hw hiX0 0 6 (wo_X0_T ..) rfl (by decide) (List.mem_of_getElem? (i := 3) rfl) (wv_X0_T_6 ..) dX0_landBarges_31 ?_
      refine lv_icmp_ge (tgt := 72) hx hb dX0_landBarges_34 (by decide) (fun _ => ?_) (fun z => absurd (nI_le (Nat.le_refl _) (by omega)) z)
      rw [show s_X0_landBarges w b n T = (lpf (f_X0_landBarges_29 w b n T) b 0 ((lpf (f_X0_landBarges_2 w b n T) w 0 (T)))) from by rw [s_X0_landBarges]]
      exact g_vret hc hw rfl (Nat.le_of_ble_eq_true rfl) (Nat.le_of_ble_eq_true rfl) dX0_landBarges_72

def f_X0_liveDays_2 (w : Nat) (b : Nat) (n : Nat) (T : ct_T) (x1 : Nat) (i2 : Nat) (q2 : ct_T) : ct_T := ((cs_day (s_X0_landBarges w b n (s_X0_leaveWards w b n (s_X0_ageStraw w b n (s_X0_bringBargesNearer w b n (s_X0_changeFeversInWards w b n (s_X0_giveBowls w b n q2)))))) ((ct_day (s_X0_landBarges w b n (s_X0_leaveWards w b n (s_X0_ageStraw w b n (s_X0_bringBargesNearer w b n (s_X0_changeFeversInWards w b n (s_X0_giveBowls w b n q2))))))) + (1 : Int32))))
def s_X0_liveDays (w : Nat) (b : Nat) (n : Nat) (T : ct_T) (x1 : Nat) : ct_T := (lpf (f_X0_liveDays_2 w b n T x1) x1 0 (T))
abbrev rm_X0_liveDays : Room := { frames := 4, cells := 0, slots := 0, locals := 91 }
set_option maxHeartbeats 4000000 in
set_option maxRecDepth 100000 in
theorem k_X0_liveDays (l : Launch) (D : va_G) (cI cZ cL : ClassId) (a : Nat → Nat) (w : Nat) (b : Nat) (n : Nat) (T : ct_T) (hd5 : w ≤ 5) (hd4 : b ≤ 4) (hd30 : n ≤ 30) (x1 : Nat) (hp1 : x1 < 2 ^ 31) : MX l yX0_liveDays wsX0_liveDays rm_X0_liveDays D cI cZ cL [.ref (a 0), .int (nI x1)] (wt_c a cI cZ w b n T) none (wt_c a cI cZ w b n (s_X0_liveDays w b n T x1)) := by
  refine MX.of (own := RX0) (cc := cX0_liveDays) (maxL := 3) (ret := none) (lv0 := [(0, .ref (a 0)), (1, .int (nI x1))]) (by decide) rfl rfl (Nat.le_of_ble_eq_true rfl) rfl ?_
  intro p e s m args below meth c A hc hnm hw ls hl
  obtain ⟨hx, hb, hr, hml, hown, hts, hlk, hK, hA⟩ := id hc
  have hiX0 : ∀ w ∈ u_ws RX0 TX0 16, w ∈ wsX0_liveDays := fun _ h => List.mem_cons_of_mem _ (List.mem_append_right _ h)
  refine lv_iconst (v := 0) hx hb dX0_liveDays_0 (by decide) ?_
  refine lv_istore_n (lv' := [(2, .int (0 : Int32)), (0, .ref (a 0)), (1, .int (nI x1))]) hx hb dX0_liveDays_1 rfl hl (by decide) rfl (fun ls hl => ?_)
  refine lp_go (fun (i2 : Nat) (q2 : ct_T) => ∀ (H : Heap) (locs : List Loc) (ls : Array Slot), Wo D A s.heap (wt_c a cI cZ w b n q2) H locs → lv_has ls 3 [(0, .ref (a 0)), (1, .int (nI x1)), (2, .int (nI i2))] → W p l e rm_X0_liveDays s m args below meth c H locs 0 0 (QE below args s D A none (wt_c a cI cZ w b n (s_X0_liveDays w b n T x1)) rm_X0_liveDays) (F0 m 2 ls [])) (f_X0_liveDays_2 w b n T x1) x1 (T) ?_ ?_ s.heap [] ls hw (lv_sub hl [1, 2, 0] rfl)
  · intro i2 q2 hi2 k2 H locs ls hw hl
    refine lv_iload_n hx hb dX0_liveDays_2 rfl (lv_at hl 2 rfl) ?_
    refine lv_iload_n hx hb dX0_liveDays_3 rfl (lv_at hl 1 rfl) ?_
    refine lv_icmp_ge (tgt := 47) hx hb dX0_liveDays_4 (by decide) (fun z => absurd z (nI_ge hi2 (by omega))) (fun _ => ?_)
    refine lv_aload_n hx hb dX0_liveDays_7 rfl (lv_at hl 0 rfl) ?_
    refine g_callV0 (n := 0) hc hw (k_X0_giveBowls l D cI cZ cL a w b n q2 hd5 hd4 hd30) gX0_liveDays_X0_giveBowls rfl (by decide +kernel) ⟨Nat.le_of_ble_eq_true rfl, Nat.le_of_ble_eq_true rfl⟩ 0 (wo_X0_T ..) rfl rfl rfl (rest := []) rfl hl.1 (Nat.le_of_ble_eq_true rfl) (st1 := []) rfl dX0_liveDays_8 (k2 := 0) (s2 := 0) rfl rfl ⟨Nat.le_of_ble_eq_true rfl, Nat.le_of_ble_eq_true rfl⟩ (fun H locs hw => ?_)
    refine lv_aload_n hx hb dX0_liveDays_11 rfl (lv_at hl 0 rfl) ?_
    refine g_callV0 (n := 0) hc hw (k_X0_changeFeversInWards l D cI cZ cL a w b n (s_X0_giveBowls w b n q2) hd5 hd4 hd30) gX0_liveDays_X0_changeFeversInWards rfl (by decide +kernel) ⟨Nat.le_of_ble_eq_true rfl, Nat.le_of_ble_eq_true rfl⟩ 0 (wo_X0_T ..) rfl rfl rfl (rest := []) rfl hl.1 (Nat.le_of_ble_eq_true rfl) (st1 := []) rfl dX0_liveDays_12 (k2 := 0) (s2 := 0) rfl rfl ⟨Nat.le_of_ble_eq_true rfl, Nat.le_of_ble_eq_true rfl⟩ (fun H locs hw => ?_)
    refine lv_aload_n hx hb dX0_liveDays_15 rfl (lv_at hl 0 rfl) ?_
    refine g_callV0 (n := 0) hc hw (k_X0_bringBargesNearer l D cI cZ cL a w b n (s_X0_changeFeversInWards w b n (s_X0_giveBowls w b n q2)) hd5 hd4 hd30) gX0_liveDays_X0_bringBargesNearer rfl (by decide +kernel) ⟨Nat.le_of_ble_eq_true rfl, Nat.le_of_ble_eq_true rfl⟩ 0 (wo_X0_T ..) rfl rfl rfl (rest := []) rfl hl.1 (Nat.le_of_ble_eq_true rfl) (st1 := []) rfl dX0_liveDays_16 (k2 := 0) (s2 := 0) rfl rfl ⟨Nat.le_of_ble_eq_true rfl, Nat.le_of_ble_eq_true rfl⟩ (fun H locs hw => ?_)
    refine lv_aload_n hx hb dX0_liveDays_19 rfl (lv_at hl 0 rfl) ?_
    refine g_callV0 (n := 0) hc hw (k_X0_ageStraw l D cI cZ cL a w b n (s_X0_bringBargesNearer w b n (s_X0_changeFeversInWards w b n (s_X0_giveBowls w b n q2))) hd5 hd4 hd30) gX0_liveDays_X0_ageStraw rfl (by decide +kernel) ⟨Nat.le_of_ble_eq_true rfl, Nat.le_of_ble_eq_true rfl⟩ 0 (wo_X0_T ..) rfl rfl rfl (rest := []) rfl hl.1 (Nat.le_of_ble_eq_true rfl) (st1 := []) rfl dX0_liveDays_20 (k2 := 0) (s2 := 0) rfl rfl ⟨Nat.le_of_ble_eq_true rfl, Nat.le_of_ble_eq_true rfl⟩ (fun H locs hw => ?_)
    refine lv_aload_n hx hb dX0_liveDays_23 rfl (lv_at hl 0 rfl) ?_
    refine g_callV0 (n := 0) hc hw (k_X0_leaveWards l D cI cZ cL a w b n (s_X0_ageStraw w b n (s_X0_bringBargesNearer w b n (s_X0_changeFeversInWards w b n (s_X0_giveBowls w b n q2)))) hd5 hd4 hd30) gX0_liveDays_X0_leaveWards rfl (by decide +kernel) ⟨Nat.le_of_ble_eq_true rfl, Nat.le_of_ble_eq_true rfl⟩ 0 (wo_X0_T ..) rfl rfl rfl (rest := []) rfl hl.1 (Nat.le_of_ble_eq_true rfl) (st1 := []) rfl dX0_liveDays_24 (k2 := 0) (s2 := 0) rfl rfl ⟨Nat.le_of_ble_eq_true rfl, Nat.le_of_ble_eq_true rfl⟩ (fun H locs hw => ?_)
    refine lv_aload_n hx hb dX0_liveDays_27 rfl (lv_at hl 0 rfl) ?_
    refine g_callV0 (n := 0) hc hw (k_X0_landBarges l D cI cZ cL a w b n (s_X0_leaveWards w b n (s_X0_ageStraw w b n (s_X0_bringBargesNearer w b n (s_X0_changeFeversInWards w b n (s_X0_giveBowls w b n q2))))) hd5 hd4 hd30) gX0_liveDays_X0_landBarges rfl (by decide +kernel) ⟨Nat.le_of_ble_eq_true rfl, Nat.le_of_ble_eq_true rfl⟩ 0 (wo_X0_T ..) rfl rfl rfl (rest := []) rfl hl.1 (Nat.le_of_ble_eq_true rfl) (st1 := []) rfl dX0_liveDays_28 (k2 := 0) (s2 := 0) rfl rfl ⟨Nat.le_of_ble_eq_true rfl, Nat.le_of_ble_eq_true rfl⟩ (fun H locs hw => ?_)
    refine lv_aload_n hx hb dX0_liveDays_31 rfl (lv_at hl 0 rfl) ?_
    refine lv_dup hx hb dX0_liveDays_32 rfl ?_
    refine g_get (v := .int (ct_day (s_X0_landBarges w b n (s_X0_leaveWards w b n (s_X0_ageStraw w b n (s_X0_bringBargesNearer w b n (s_X0_changeFeversInWards w b n (s_X0_giveBowls w b n q2)))))))) hc hw hiX0 0 0 (wo_X0_T ..) rfl (by decide) (List.mem_of_getElem? (i := 1) rfl) (wv_X0_T_0 ..) dX0_liveDays_33 ?_
    refine lv_iconst (v := 1) hx hb dX0_liveDays_36 (by decide) ?_
    refine lv_iadd hx hb dX0_liveDays_37 ?_
    refine g_put hc hw hiX0 tyX0 tyX0_ok nmX0 0 0 (wo_X0_T ..) rfl (by decide) (List.mem_of_getElem? (i := 1) rfl) (by decide) rfl rfl (Nat.le_of_ble_eq_true rfl) (w' := (wt_c a cI cZ w b n (cs_day (s_X0_landBarges w b n (s_X0_leaveWards w b n (s_X0_ageStraw w b n (s_X0_bringBargesNearer w b n (s_X0_changeFeversInWards w b n (s_X0_giveBowls w b n q2)))))) ((ct_day (s_X0_landBarges w b n (s_X0_leaveWards w b n (s_X0_ageStraw w b n (s_X0_bringBargesNearer w b n (s_X0_changeFeversInWards w b n (s_X0_giveBowls w b n q2))))))) + (1 : Int32))))) (wp_X0_T_0 ..) dX0_liveDays_38 (fun H locs hw => ?_)
    refine lv_iinc (v := (nI (i2 + 1))) (lv' := [(2, .int (nI (i2 + 1))), (0, .ref (a 0)), (1, .int (nI x1))]) hx hb dX0_liveDays_41 hl (k := 2) rfl (inc_n i2) (by decide) rfl (fun ls hl => ?_)
    refine lv_goto (tgt := 2) hx hb dX0_liveDays_44 (by decide) ?_
    rw [show (f_X0_liveDays_2 w b n T x1) i2 q2 = ((cs_day (s_X0_landBarges w b n (s_X0_leaveWards w b n (s_X0_ageStraw w b n (s_X0_bringBargesNearer w b n (s_X0_changeFeversInWards w b n (s_X0_giveBowls w b n q2)))))) ((ct_day (s_X0_landBarges w b n (s_X0_leaveWards w b n (s_X0_ageStraw w b n (s_X0_bringBargesNearer w b n (s_X0_changeFeversInWards w b n (s_X0_giveBowls w b n q2))))))) + (1 : Int32)))) from by rw [f_X0_liveDays_2]] at k2
    exact k2 H locs ls hw (lv_sub hl [1, 2, 0] rfl)
  · intro H locs ls hw hl
    refine lv_iload_n hx hb dX0_liveDays_2 rfl (lv_at hl 2 rfl) ?_
    refine lv_iload_n hx hb dX0_liveDays_3 rfl (lv_at hl 1 rfl) ?_
    refine lv_icmp_ge (tgt := 47) hx hb dX0_liveDays_4 (by decide) (fun _ => ?_) (fun z => absurd (nI_le (Nat.le_refl _) (by omega)) z)
    rw [show s_X0_liveDays w b n T x1 = (lpf (f_X0_liveDays_2 w b n T x1) x1 0 (T)) from by rw [s_X0_liveDays]]
    exact g_vret hc hw rfl (Nat.le_of_ble_eq_true rfl) (Nat.le_of_ble_eq_true rfl) dX0_liveDays_47

def r_X0_openWard (w : Nat) (b : Nat) (n : Nat) (T : ct_T) (x1 : Int32) : Int32 := (nI w)
def s_X0_openWard (w : Nat) (b : Nat) (n : Nat) (T : ct_T) (x1 : Int32) : ct_T := (cs_pl T (upd (ct_pl T) (nI w).toNatClampNeg x1))
abbrev rm_X0_openWard : Room := { frames := 0, cells := 0, slots := 0, locals := 0 }
set_option maxHeartbeats 4000000 in
set_option maxRecDepth 100000 in
theorem k_X0_openWard (l : Launch) (D : va_G) (cI cZ cL : ClassId) (a : Nat → Nat) (w : Nat) (b : Nat) (n : Nat) (T : ct_T) (hd5 : w ≤ 5) (hd4 : b ≤ 4) (hd30 : n ≤ 30) (x1 : Int32) (hlt : w < 5) : MX l yX0_openWard wsX0_openWard rm_X0_openWard D cI cZ cL [.ref (a 0), .int x1] (wt_c a cI cZ w b n T) (some (.int (r_X0_openWard w b n T x1))) (wt_c a cI cZ (w + 1) b n (s_X0_openWard w b n T x1)) := by
  refine MX.of (own := RX0) (cc := cX0_openWard) (maxL := 3) (ret := (some .int)) (lv0 := [(0, .ref (a 0)), (1, .int x1)]) (by decide) rfl rfl (Nat.le_of_ble_eq_true rfl) rfl ?_
  intro p e s m args below meth c A hc hnm hw ls hl
  obtain ⟨hx, hb, hr, hml, hown, hts, hlk, hK, hA⟩ := id hc
  have hiX0 : ∀ w ∈ u_ws RX0 TX0 16, w ∈ wsX0_openWard := fun _ h => List.mem_cons_of_mem _ (List.mem_append_right _ h)
  refine lv_aload_n hx hb dX0_openWard_0 rfl (lv_at hl 0 rfl) ?_
  refine g_get (v := .int (nI w)) hc hw hiX0 0 3 (wo_X0_T ..) rfl (by decide) (List.mem_of_getElem? (i := 1) rfl) (wv_X0_T_3 ..) dX0_openWard_1 ?_
  refine lv_istore_n (lv' := [(2, .int (nI w)), (0, .ref (a 0)), (1, .int x1)]) hx hb dX0_openWard_4 rfl hl (by decide) rfl (fun ls hl => ?_)
  refine lv_aload_n hx hb dX0_openWard_5 rfl (lv_at hl 1 rfl) ?_
  refine g_get (v := .ref (a 4)) hc hw hiX0 0 4 (wo_X0_T ..) rfl (by decide) (List.mem_of_getElem? (i := 2) rfl) (wv_X0_T_4 ..) dX0_openWard_6 ?_
  refine lv_iload_n hx hb dX0_openWard_9 rfl (lv_at hl 0 rfl) ?_
  refine lv_iload_n hx hb dX0_openWard_10 rfl (lv_at hl 2 rfl) ?_
  refine g_iast (f := (ct_pl T)) hc hw 1 (wr_X0_T_4 ..) (vp_in_nI (show w < 5 by omega) (by omega)) (w' := (wt_c a cI cZ w b n (cs_pl T (upd (ct_pl T) (nI w).toNatClampNeg x1)))) (wu_X0_T_4 ..) dX0_openWard_11 (fun H locs hw => ?_)
  refine lv_aload_n hx hb dX0_openWard_12 rfl (lv_at hl 1 rfl) ?_
  refine lv_dup hx hb dX0_openWard_13 rfl ?_
  refine g_get (v := .int (nI w)) hc hw hiX0 0 3 (wo_X0_T ..) rfl (by decide) (List.mem_of_getElem? (i := 1) rfl) (wv_X0_T_3 ..) dX0_openWard_14 ?_
  refine lv_iconst (v := 1) hx hb dX0_openWard_17 (by decide) ?_
  refine lv_iadd hx hb dX0_openWard_18 ?_
  rw [nI_1 w]
  refine g_put hc hw hiX0 tyX0 tyX0_ok nmX0 0 3 (wo_X0_T ..) rfl (by decide) (List.mem_of_getElem? (i := 1) rfl) (by decide) rfl rfl (Nat.le_of_ble_eq_true rfl) (w' := (wt_c a cI cZ (w + 1) b n (cs_pl T (upd (ct_pl T) (nI w).toNatClampNeg x1)))) (wp_X0_T_3 ..) dX0_openWard_19 (fun H locs hw => ?_)
  refine lv_iload_n hx hb dX0_openWard_22 rfl (lv_at hl 0 rfl) ?_
  rw [show r_X0_openWard w b n T x1 = (nI w) from by rw [r_X0_openWard]]
  rw [show s_X0_openWard w b n T x1 = (cs_pl T (upd (ct_pl T) (nI w).toNatClampNeg x1)) from by rw [s_X0_openWard]]
  exact g_ret hc hw rfl (Nat.le_of_ble_eq_true rfl) (Nat.le_of_ble_eq_true rfl) dX0_openWard_23

def r_X0_openBarge (w : Nat) (b : Nat) (n : Nat) (T : ct_T) (x1 : Int32) : Int32 := (nI b)
def s_X0_openBarge (w : Nat) (b : Nat) (n : Nat) (T : ct_T) (x1 : Int32) : ct_T := (cs_to (cs_ke T (upd (ct_ke T) (nI b).toNatClampNeg x1)) (upd (ct_to (cs_ke T (upd (ct_ke T) (nI b).toNatClampNeg x1))) (nI b).toNatClampNeg x1))
abbrev rm_X0_openBarge : Room := { frames := 0, cells := 0, slots := 0, locals := 0 }
set_option maxHeartbeats 4000000 in
set_option maxRecDepth 100000 in
theorem k_X0_openBarge (l : Launch) (D : va_G) (cI cZ cL : ClassId) (a : Nat → Nat) (w : Nat) (b : Nat) (n : Nat) (T : ct_T) (hd5 : w ≤ 5) (hd4 : b ≤ 4) (hd30 : n ≤ 30) (x1 : Int32) (hlt : b < 4) : MX l yX0_openBarge wsX0_openBarge rm_X0_openBarge D cI cZ cL [.ref (a 0), .int x1] (wt_c a cI cZ w b n T) (some (.int (r_X0_openBarge w b n T x1))) (wt_c a cI cZ w (b + 1) n (s_X0_openBarge w b n T x1)) := by
  refine MX.of (own := RX0) (cc := cX0_openBarge) (maxL := 3) (ret := (some .int)) (lv0 := [(0, .ref (a 0)), (1, .int x1)]) (by decide) rfl rfl (Nat.le_of_ble_eq_true rfl) rfl ?_
  intro p e s m args below meth c A hc hnm hw ls hl
  obtain ⟨hx, hb, hr, hml, hown, hts, hlk, hK, hA⟩ := id hc
  have hiX0 : ∀ w ∈ u_ws RX0 TX0 16, w ∈ wsX0_openBarge := fun _ h => List.mem_cons_of_mem _ (List.mem_append_right _ h)
  refine lv_aload_n hx hb dX0_openBarge_0 rfl (lv_at hl 0 rfl) ?_
  refine g_get (v := .int (nI b)) hc hw hiX0 0 6 (wo_X0_T ..) rfl (by decide) (List.mem_of_getElem? (i := 1) rfl) (wv_X0_T_6 ..) dX0_openBarge_1 ?_
  refine lv_istore_n (lv' := [(2, .int (nI b)), (0, .ref (a 0)), (1, .int x1)]) hx hb dX0_openBarge_4 rfl hl (by decide) rfl (fun ls hl => ?_)
  refine lv_aload_n hx hb dX0_openBarge_5 rfl (lv_at hl 1 rfl) ?_
  refine g_get (v := .ref (a 7)) hc hw hiX0 0 7 (wo_X0_T ..) rfl (by decide) (List.mem_of_getElem? (i := 2) rfl) (wv_X0_T_7 ..) dX0_openBarge_6 ?_
  refine lv_iload_n hx hb dX0_openBarge_9 rfl (lv_at hl 0 rfl) ?_
  refine lv_iload_n hx hb dX0_openBarge_10 rfl (lv_at hl 2 rfl) ?_
  refine g_iast (f := (ct_ke T)) hc hw 3 (wr_X0_T_7 ..) (vp_in_nI (show b < 4 by omega) (by omega)) (w' := (wt_c a cI cZ w b n (cs_ke T (upd (ct_ke T) (nI b).toNatClampNeg x1)))) (wu_X0_T_7 ..) dX0_openBarge_11 (fun H locs hw => ?_)
  refine lv_aload_n hx hb dX0_openBarge_12 rfl (lv_at hl 1 rfl) ?_
  refine g_get (v := .ref (a 8)) hc hw hiX0 0 8 (wo_X0_T ..) rfl (by decide) (List.mem_of_getElem? (i := 3) rfl) (wv_X0_T_8 ..) dX0_openBarge_13 ?_
  refine lv_iload_n hx hb dX0_openBarge_16 rfl (lv_at hl 0 rfl) ?_
  refine lv_iload_n hx hb dX0_openBarge_17 rfl (lv_at hl 2 rfl) ?_
  refine g_iast (f := (ct_to (cs_ke T (upd (ct_ke T) (nI b).toNatClampNeg x1)))) hc hw 4 (wr_X0_T_8 ..) (vp_in_nI (show b < 4 by omega) (by omega)) (w' := (wt_c a cI cZ w b n (cs_to (cs_ke T (upd (ct_ke T) (nI b).toNatClampNeg x1)) (upd (ct_to (cs_ke T (upd (ct_ke T) (nI b).toNatClampNeg x1))) (nI b).toNatClampNeg x1)))) (wu_X0_T_8 ..) dX0_openBarge_18 (fun H locs hw => ?_)
  refine lv_aload_n hx hb dX0_openBarge_19 rfl (lv_at hl 1 rfl) ?_
  refine lv_dup hx hb dX0_openBarge_20 rfl ?_
  refine g_get (v := .int (nI b)) hc hw hiX0 0 6 (wo_X0_T ..) rfl (by decide) (List.mem_of_getElem? (i := 1) rfl) (wv_X0_T_6 ..) dX0_openBarge_21 ?_
  refine lv_iconst (v := 1) hx hb dX0_openBarge_24 (by decide) ?_
  refine lv_iadd hx hb dX0_openBarge_25 ?_
  rw [nI_1 b]
  refine g_put hc hw hiX0 tyX0 tyX0_ok nmX0 0 6 (wo_X0_T ..) rfl (by decide) (List.mem_of_getElem? (i := 1) rfl) (by decide) rfl rfl (Nat.le_of_ble_eq_true rfl) (w' := (wt_c a cI cZ w (b + 1) n (cs_to (cs_ke T (upd (ct_ke T) (nI b).toNatClampNeg x1)) (upd (ct_to (cs_ke T (upd (ct_ke T) (nI b).toNatClampNeg x1))) (nI b).toNatClampNeg x1)))) (wp_X0_T_6 ..) dX0_openBarge_26 (fun H locs hw => ?_)
  refine lv_iload_n hx hb dX0_openBarge_29 rfl (lv_at hl 0 rfl) ?_
  rw [show r_X0_openBarge w b n T x1 = (nI b) from by rw [r_X0_openBarge]]
  rw [show s_X0_openBarge w b n T x1 = (cs_to (cs_ke T (upd (ct_ke T) (nI b).toNatClampNeg x1)) (upd (ct_to (cs_ke T (upd (ct_ke T) (nI b).toNatClampNeg x1))) (nI b).toNatClampNeg x1)) from by rw [s_X0_openBarge]]
  exact g_ret hc hw rfl (Nat.le_of_ble_eq_true rfl) (Nat.le_of_ble_eq_true rfl) dX0_openBarge_30

def r_X0_takeAboard (w : Nat) (b : Nat) (n : Nat) (T : ct_T) (x1 : Int32) (x2 : Int32) : Int32 := if ((ct_to (s_X0_move w b n (cs_fe T (upd (ct_fe T) (nI n).toNatClampNeg x2)) (nI n) (0 : Int32) x1)) x1.toNatClampNeg) = (0 : Int32) then ((nI n)) else ((nI n))
def s_X0_takeAboard (w : Nat) (b : Nat) (n : Nat) (T : ct_T) (x1 : Int32) (x2 : Int32) : ct_T := if ((ct_to (s_X0_move w b n (cs_fe T (upd (ct_fe T) (nI n).toNatClampNeg x2)) (nI n) (0 : Int32) x1)) x1.toNatClampNeg) = (0 : Int32) then ((cs_to (s_X0_move w b n (cs_fe T (upd (ct_fe T) (nI n).toNatClampNeg x2)) (nI n) (0 : Int32) x1) (upd (ct_to (s_X0_move w b n (cs_fe T (upd (ct_fe T) (nI n).toNatClampNeg x2)) (nI n) (0 : Int32) x1)) x1.toNatClampNeg ((ct_ke (s_X0_move w b n (cs_fe T (upd (ct_fe T) (nI n).toNatClampNeg x2)) (nI n) (0 : Int32) x1)) x1.toNatClampNeg)))) else ((s_X0_move w b n (cs_fe T (upd (ct_fe T) (nI n).toNatClampNeg x2)) (nI n) (0 : Int32) x1))
abbrev rm_X0_takeAboard : Room := { frames := 1, cells := 0, slots := 0, locals := 23 }
set_option maxHeartbeats 4000000 in
set_option maxRecDepth 100000 in
theorem k_X0_takeAboard (l : Launch) (D : va_G) (cI cZ cL : ClassId) (a : Nat → Nat) (w : Nat) (b : Nat) (n : Nat) (T : ct_T) (hd5 : w ≤ 5) (hd4 : b ≤ 4) (hd30 : n ≤ 30) (x1 : Int32) (x2 : Int32) (hp1 : vp_in x1 4) (hlt : n < 30) : MX l yX0_takeAboard wsX0_takeAboard rm_X0_takeAboard D cI cZ cL [.ref (a 0), .int x1, .int x2] (wt_c a cI cZ w b n T) (some (.int (r_X0_takeAboard w b n T x1 x2))) (wt_c a cI cZ w b (n + 1) (s_X0_takeAboard w b n T x1 x2)) := by
  refine MX.of (own := RX0) (cc := cX0_takeAboard) (maxL := 4) (ret := (some .int)) (lv0 := [(0, .ref (a 0)), (1, .int x1), (2, .int x2)]) (by decide) rfl rfl (Nat.le_of_ble_eq_true rfl) rfl ?_
  intro p e s m args below meth c A hc hnm hw ls hl
  obtain ⟨hx, hb, hr, hml, hown, hts, hlk, hK, hA⟩ := id hc
  have hiX0 : ∀ w ∈ u_ws RX0 TX0 16, w ∈ wsX0_takeAboard := fun _ h => List.mem_cons_of_mem _ (List.mem_append_right _ h)
  refine lv_aload_n hx hb dX0_takeAboard_0 rfl (lv_at hl 0 rfl) ?_
  refine g_get (v := .int (nI n)) hc hw hiX0 0 9 (wo_X0_T ..) rfl (by decide) (List.mem_of_getElem? (i := 1) rfl) (wv_X0_T_9 ..) dX0_takeAboard_1 ?_
  refine lv_istore_n (lv' := [(3, .int (nI n)), (0, .ref (a 0)), (1, .int x1), (2, .int x2)]) hx hb dX0_takeAboard_4 rfl hl (by decide) rfl (fun ls hl => ?_)
  refine lv_aload_n hx hb dX0_takeAboard_5 rfl (lv_at hl 1 rfl) ?_
  refine g_get (v := .ref (a 10)) hc hw hiX0 0 10 (wo_X0_T ..) rfl (by decide) (List.mem_of_getElem? (i := 2) rfl) (wv_X0_T_10 ..) dX0_takeAboard_6 ?_
  refine lv_iload_n hx hb dX0_takeAboard_9 rfl (lv_at hl 0 rfl) ?_
  refine lv_iload_n hx hb dX0_takeAboard_10 rfl (lv_at hl 3 rfl) ?_
  refine g_iast (f := (ct_fe T)) hc hw 5 (wr_X0_T_10 ..) (vp_in_nI (show n < 30 by omega) (by omega)) (w' := (wt_c a cI cZ w b n (cs_fe T (upd (ct_fe T) (nI n).toNatClampNeg x2)))) (wu_X0_T_10 ..) dX0_takeAboard_11 (fun H locs hw => ?_)
  refine lv_aload_n hx hb dX0_takeAboard_12 rfl (lv_at hl 1 rfl) ?_
  refine lv_iload_n hx hb dX0_takeAboard_13 rfl (lv_at hl 0 rfl) ?_
  refine lv_iconst (v := 0) hx hb dX0_takeAboard_14 (by decide) ?_
  refine lv_iload_n hx hb dX0_takeAboard_15 rfl (lv_at hl 2 rfl) ?_
  refine g_callV0 (n := 3) hc hw (k_X0_move l D cI cZ cL a w b n (cs_fe T (upd (ct_fe T) (nI n).toNatClampNeg x2)) hd5 hd4 hd30 (nI n) (0 : Int32) x1 (vp_in_nI (show n < 30 by omega) (by omega))) gX0_takeAboard_X0_move rfl (by decide +kernel) ⟨Nat.le_of_ble_eq_true rfl, Nat.le_of_ble_eq_true rfl⟩ 0 (wo_X0_T ..) rfl rfl rfl (rest := []) rfl hl.1 (Nat.le_of_ble_eq_true rfl) (st1 := []) rfl dX0_takeAboard_16 (k2 := 0) (s2 := 0) rfl rfl ⟨Nat.le_of_ble_eq_true rfl, Nat.le_of_ble_eq_true rfl⟩ (fun H locs hw => ?_)
  refine lv_aload_n hx hb dX0_takeAboard_19 rfl (lv_at hl 1 rfl) ?_
  refine lv_dup hx hb dX0_takeAboard_20 rfl ?_
  refine g_get (v := .int (nI n)) hc hw hiX0 0 9 (wo_X0_T ..) rfl (by decide) (List.mem_of_getElem? (i := 1) rfl) (wv_X0_T_9 ..) dX0_takeAboard_21 ?_
  refine lv_iconst (v := 1) hx hb dX0_takeAboard_24 (by decide) ?_
  refine lv_iadd hx hb dX0_takeAboard_25 ?_
  rw [nI_1 n]
  refine g_put hc hw hiX0 tyX0 tyX0_ok nmX0 0 9 (wo_X0_T ..) rfl (by decide) (List.mem_of_getElem? (i := 1) rfl) (by decide) rfl rfl (Nat.le_of_ble_eq_true rfl) (w' := (wt_c a cI cZ w b (n + 1) (s_X0_move w b n (cs_fe T (upd (ct_fe T) (nI n).toNatClampNeg x2)) (nI n) (0 : Int32) x1))) (wp_X0_T_9 ..) dX0_takeAboard_26 (fun H locs hw => ?_)
  refine lv_aload_n hx hb dX0_takeAboard_29 rfl (lv_at hl 1 rfl) ?_
  refine g_get (v := .ref (a 8)) hc hw hiX0 0 8 (wo_X0_T ..) rfl (by decide) (List.mem_of_getElem? (i := 3) rfl) (wv_X0_T_8 ..) dX0_takeAboard_30 ?_
  refine lv_iload_n hx hb dX0_takeAboard_33 rfl (lv_at hl 2 rfl) ?_
  refine g_iald (f := (ct_to (s_X0_move w b n (cs_fe T (upd (ct_fe T) (nI n).toNatClampNeg x2)) (nI n) (0 : Int32) x1))) hc hw 4 (wr_X0_T_8 ..) hp1 dX0_takeAboard_34 ?_
  refine lv_if_ne (tgt := 50) hx hb dX0_takeAboard_35 (by decide) (fun c1 => ?_) (fun c1 => ?_)
  · refine lv_iload_n hx hb dX0_takeAboard_50 rfl (lv_at hl 0 rfl) ?_
    rw [show r_X0_takeAboard w b n T x1 x2 = (nI n) from by rw [r_X0_takeAboard, if_neg c1]]
    rw [show s_X0_takeAboard w b n T x1 x2 = (s_X0_move w b n (cs_fe T (upd (ct_fe T) (nI n).toNatClampNeg x2)) (nI n) (0 : Int32) x1) from by rw [s_X0_takeAboard, if_neg c1]]
    exact g_ret hc hw rfl (Nat.le_of_ble_eq_true rfl) (Nat.le_of_ble_eq_true rfl) dX0_takeAboard_51
  · refine lv_aload_n hx hb dX0_takeAboard_38 rfl (lv_at hl 1 rfl) ?_
    refine g_get (v := .ref (a 8)) hc hw hiX0 0 8 (wo_X0_T ..) rfl (by decide) (List.mem_of_getElem? (i := 3) rfl) (wv_X0_T_8 ..) dX0_takeAboard_39 ?_
    refine lv_iload_n hx hb dX0_takeAboard_42 rfl (lv_at hl 2 rfl) ?_
    refine lv_aload_n hx hb dX0_takeAboard_43 rfl (lv_at hl 1 rfl) ?_
    refine g_get (v := .ref (a 7)) hc hw hiX0 0 7 (wo_X0_T ..) rfl (by decide) (List.mem_of_getElem? (i := 4) rfl) (wv_X0_T_7 ..) dX0_takeAboard_44 ?_
    refine lv_iload_n hx hb dX0_takeAboard_47 rfl (lv_at hl 2 rfl) ?_
    refine g_iald (f := (ct_ke (s_X0_move w b n (cs_fe T (upd (ct_fe T) (nI n).toNatClampNeg x2)) (nI n) (0 : Int32) x1))) hc hw 3 (wr_X0_T_7 ..) hp1 dX0_takeAboard_48 ?_
    refine g_iast (f := (ct_to (s_X0_move w b n (cs_fe T (upd (ct_fe T) (nI n).toNatClampNeg x2)) (nI n) (0 : Int32) x1))) hc hw 4 (wr_X0_T_8 ..) hp1 (w' := (wt_c a cI cZ w b (n + 1) (cs_to (s_X0_move w b n (cs_fe T (upd (ct_fe T) (nI n).toNatClampNeg x2)) (nI n) (0 : Int32) x1) (upd (ct_to (s_X0_move w b n (cs_fe T (upd (ct_fe T) (nI n).toNatClampNeg x2)) (nI n) (0 : Int32) x1)) x1.toNatClampNeg ((ct_ke (s_X0_move w b n (cs_fe T (upd (ct_fe T) (nI n).toNatClampNeg x2)) (nI n) (0 : Int32) x1)) x1.toNatClampNeg))))) (wu_X0_T_8 ..) dX0_takeAboard_49 (fun H locs hw => ?_)
    refine lv_iload_n hx hb dX0_takeAboard_50 rfl (lv_at hl 0 rfl) ?_
    rw [show r_X0_takeAboard w b n T x1 x2 = (nI n) from by rw [r_X0_takeAboard, if_pos c1]]
    rw [show s_X0_takeAboard w b n T x1 x2 = (cs_to (s_X0_move w b n (cs_fe T (upd (ct_fe T) (nI n).toNatClampNeg x2)) (nI n) (0 : Int32) x1) (upd (ct_to (s_X0_move w b n (cs_fe T (upd (ct_fe T) (nI n).toNatClampNeg x2)) (nI n) (0 : Int32) x1)) x1.toNatClampNeg ((ct_ke (s_X0_move w b n (cs_fe T (upd (ct_fe T) (nI n).toNatClampNeg x2)) (nI n) (0 : Int32) x1)) x1.toNatClampNeg))) from by rw [s_X0_takeAboard, if_pos c1]]
    exact g_ret hc hw rfl (Nat.le_of_ble_eq_true rfl) (Nat.le_of_ble_eq_true rfl) dX0_takeAboard_51
