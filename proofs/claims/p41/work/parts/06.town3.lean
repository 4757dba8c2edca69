def f_X0_changeFeversInWards_28 (w : Nat) (b : Nat) (n : Nat) (T : ct_T) (i2 : Nat) (q2 : ct_T) (i28 : Nat) (q28 : ct_T) : ct_T := if (r_X0_isAt w b n q28 (nI i28) (1 : Int32) (nI i2)) = (0 : Int32) then (q28) else (if (if ((ct_st q2) (nI i2).toNatClampNeg) < (5 : Int32) then (0 : Int32) else (1 : Int32)) = (0 : Int32) then (if ((ct_ht q28) (nI i28).toNatClampNeg) = (0 : Int32) then ((cs_fe q28 (upd (ct_fe q28) (nI i28).toNatClampNeg (if (0 : Int32) < (((ct_fe q28) (nI i28).toNatClampNeg) - (1 : Int32)) then (((ct_fe q28) (nI i28).toNatClampNeg) - (1 : Int32)) else (0 : Int32))))) else ((s_X0_raiseFever w b n q28 (nI i28)))) else ((s_X0_raiseFever w b n q28 (nI i28))))
def f_X0_changeFeversInWards_2 (w : Nat) (b : Nat) (n : Nat) (T : ct_T) (i2 : Nat) (q2 : ct_T) : ct_T := ((lpf (f_X0_changeFeversInWards_28 w b n T i2 q2) n 0 (q2)))
def s_X0_changeFeversInWards (w : Nat) (b : Nat) (n : Nat) (T : ct_T) : ct_T := (lpf (f_X0_changeFeversInWards_2 w b n T) w 0 (T))
abbrev rm_X0_changeFeversInWards : Room := { frames := 2, cells := 0, slots := 0, locals := 42 }
set_option maxHeartbeats 4000000 in
set_option maxRecDepth 100000 in
theorem k_X0_changeFeversInWards (l : Launch) (D : va_G) (cI cZ cL : ClassId) (a : Nat → Nat) (w : Nat) (b : Nat) (n : Nat) (T : ct_T) (hd5 : w ≤ 5) (hd4 : b ≤ 4) (hd30 : n ≤ 30)   : MX l yX0_changeFeversInWards wsX0_changeFeversInWards rm_X0_changeFeversInWards D cI cZ cL [.ref (a 0)] (wt_c a cI cZ w b n T) none (wt_c a cI cZ w b n (s_X0_changeFeversInWards w b n T)) := by
  refine MX.of (own := RX0) (cc := cX0_changeFeversInWards) (maxL := 4) (ret := none) (lv0 := [(0, .ref (a 0))]) (by decide) rfl rfl (Nat.le_of_ble_eq_true rfl) rfl ?_
  intro p e s m args below meth c A hc hnm hw ls hl
  obtain ⟨hx, hb, hr, hml, hown, hts, hlk, hK, hA⟩ := id hc
  have hiX0 : ∀ w ∈ u_ws RX0 TX0 16, w ∈ wsX0_changeFeversInWards := fun _ h => List.mem_cons_of_mem _ (List.mem_append_right _ h)
  refine lv_iconst (v := 0) hx hb dX0_changeFeversInWards_0 (by decide) ?_
  refine lv_istore_n (lv' := [(1, .int (0 : Int32)), (0, .ref (a 0))]) hx hb dX0_changeFeversInWards_1 rfl hl (by decide) rfl (fun ls hl => ?_)
  refine lp_go (fun (i2 : Nat) (q2 : ct_T) => ∀ (H : Heap) (locs : List Loc) (ls : Array Slot), Wo D A s.heap (wt_c a cI cZ w b n q2) H locs → lv_has ls 4 [(0, .ref (a 0)), (1, .int (nI i2))] → W p l e rm_X0_changeFeversInWards s m args below meth c H locs 0 0 (QE below args s D A none (wt_c a cI cZ w b n (s_X0_changeFeversInWards w b n T)) rm_X0_changeFeversInWards) (F0 m 2 ls [])) (f_X0_changeFeversInWards_2 w b n T) w (T) ?_ ?_ s.heap [] ls hw (lv_sub hl [1, 0] rfl)
  · intro i2 q2 hi2 k2 H locs ls hw hl
    refine lv_iload_n hx hb dX0_changeFeversInWards_2 rfl (lv_at hl 1 rfl) ?_
    refine lv_aload_n hx hb dX0_changeFeversInWards_3 rfl (lv_at hl 0 rfl) ?_
    refine g_get (v := .int (nI w)) hc hw hiX0 0 3 (wo_X0_T ..) rfl (by decide) (List.mem_of_getElem? (i := 1) rfl) (wv_X0_T_3 ..) dX0_changeFeversInWards_4 ?_
    refine lv_icmp_ge (tgt := 100) hx hb dX0_changeFeversInWards_7 (by decide) (fun z => absurd z (nI_ge hi2 (by omega))) (fun _ => ?_)
    refine lv_aload_n hx hb dX0_changeFeversInWards_10 rfl (lv_at hl 0 rfl) ?_
    refine g_get (v := .ref (a 5)) hc hw hiX0 0 5 (wo_X0_T ..) rfl (by decide) (List.mem_of_getElem? (i := 2) rfl) (wv_X0_T_5 ..) dX0_changeFeversInWards_11 ?_
    refine lv_iload_n hx hb dX0_changeFeversInWards_14 rfl (lv_at hl 1 rfl) ?_
    refine g_iald (f := (ct_st q2)) hc hw 2 (wr_X0_T_5 ..) (vp_in_nI (show i2 < 5 by omega) (by omega)) dX0_changeFeversInWards_15 ?_
    refine lv_iconst (v := 5) hx hb dX0_changeFeversInWards_16 (by decide) ?_
    have J2 : ∀ vJ2 : Int32, vJ2 = (if ((ct_st q2) (nI i2).toNatClampNeg) < (5 : Int32) then (0 : Int32) else (1 : Int32)) → W p l e rm_X0_changeFeversInWards s m args below meth c H locs 0 0 (QE below args s D A none (wt_c a cI cZ w b n (s_X0_changeFeversInWards w b n T)) rm_X0_changeFeversInWards) (F0 m 25 ls [.int vJ2]) := by
      intro vJ2 hvJ2
      subst hvJ2
      refine lv_istore_n (lv' := [(2, .int (if ((ct_st q2) (nI i2).toNatClampNeg) < (5 : Int32) then (0 : Int32) else (1 : Int32))), (0, .ref (a 0)), (1, .int (nI i2))]) hx hb dX0_changeFeversInWards_25 rfl hl (by decide) rfl (fun ls hl => ?_)
      refine lv_iconst (v := 0) hx hb dX0_changeFeversInWards_26 (by decide) ?_
      refine lv_istore_n (lv' := [(3, .int (0 : Int32)), (2, .int (if ((ct_st q2) (nI i2).toNatClampNeg) < (5 : Int32) then (0 : Int32) else (1 : Int32))), (0, .ref (a 0)), (1, .int (nI i2))]) hx hb dX0_changeFeversInWards_27 rfl hl (by decide) rfl (fun ls hl => ?_)
      refine lp_go (fun (i28 : Nat) (q28 : ct_T) => ∀ (H : Heap) (locs : List Loc) (ls : Array Slot), Wo D A s.heap (wt_c a cI cZ w b n q28) H locs → lv_has ls 4 [(0, .ref (a 0)), (1, .int (nI i2)), (2, .int (if ((ct_st q2) (nI i2).toNatClampNeg) < (5 : Int32) then (0 : Int32) else (1 : Int32))), (3, .int (nI i28))] → W p l e rm_X0_changeFeversInWards s m args below meth c H locs 0 0 (QE below args s D A none (wt_c a cI cZ w b n (s_X0_changeFeversInWards w b n T)) rm_X0_changeFeversInWards) (F0 m 28 ls [])) (f_X0_changeFeversInWards_28 w b n T i2 q2) n (q2) ?_ ?_ H locs ls hw (lv_sub hl [2, 3, 1, 0] rfl)
      · intro i28 q28 hi28 k28 H locs ls hw hl
        refine lv_iload_n hx hb dX0_changeFeversInWards_28 rfl (lv_at hl 3 rfl) ?_
        refine lv_aload_n hx hb dX0_changeFeversInWards_29 rfl (lv_at hl 0 rfl) ?_
        refine g_get (v := .int (nI n)) hc hw hiX0 0 9 (wo_X0_T ..) rfl (by decide) (List.mem_of_getElem? (i := 3) rfl) (wv_X0_T_9 ..) dX0_changeFeversInWards_30 ?_
        refine lv_icmp_ge (tgt := 94) hx hb dX0_changeFeversInWards_33 (by decide) (fun z => absurd z (nI_ge hi28 (by omega))) (fun _ => ?_)
        refine lv_aload_n hx hb dX0_changeFeversInWards_36 rfl (lv_at hl 0 rfl) ?_
        refine lv_iload_n hx hb dX0_changeFeversInWards_37 rfl (lv_at hl 3 rfl) ?_
        refine lv_iconst (v := 1) hx hb dX0_changeFeversInWards_38 (by decide) ?_
        refine lv_iload_n hx hb dX0_changeFeversInWards_39 rfl (lv_at hl 1 rfl) ?_
        refine g_callV0 (n := 3) hc hw (k_X0_isAt l D cI cZ cL a w b n q28 hd5 hd4 hd30 (nI i28) (1 : Int32) (nI i2) (vp_in_nI (show i28 < 30 by omega) (by omega))) gX0_changeFeversInWards_X0_isAt rfl (by decide +kernel) ⟨Nat.le_of_ble_eq_true rfl, Nat.le_of_ble_eq_true rfl⟩ 0 (wo_X0_T ..) rfl rfl rfl (rest := []) rfl hl.1 (Nat.le_of_ble_eq_true rfl) (st1 := [.int (r_X0_isAt w b n q28 (nI i28) (1 : Int32) (nI i2))]) rfl dX0_changeFeversInWards_40 (k2 := 0) (s2 := 0) rfl rfl ⟨Nat.le_of_ble_eq_true rfl, Nat.le_of_ble_eq_true rfl⟩ (fun H locs hw => ?_)
        refine lv_if_ne (tgt := 49) hx hb dX0_changeFeversInWards_43 (by decide) (fun c3 => ?_) (fun c3 => ?_)
        · refine lv_iload_n hx hb dX0_changeFeversInWards_49 rfl (lv_at hl 2 rfl) ?_
          refine lv_if_ne (tgt := 62) hx hb dX0_changeFeversInWards_50 (by decide) (fun c4 => ?_) (fun c4 => ?_)
          · refine lv_aload_n hx hb dX0_changeFeversInWards_62 rfl (lv_at hl 0 rfl) ?_
            refine lv_iload_n hx hb dX0_changeFeversInWards_63 rfl (lv_at hl 3 rfl) ?_
            refine g_callV0 (n := 1) hc hw (k_X0_raiseFever l D cI cZ cL a w b n q28 hd5 hd4 hd30 (nI i28) (vp_in_nI (show i28 < 30 by omega) (by omega))) gX0_changeFeversInWards_X0_raiseFever rfl (by decide +kernel) ⟨Nat.le_of_ble_eq_true rfl, Nat.le_of_ble_eq_true rfl⟩ 0 (wo_X0_T ..) rfl rfl rfl (rest := []) rfl hl.1 (Nat.le_of_ble_eq_true rfl) (st1 := []) rfl dX0_changeFeversInWards_64 (k2 := 0) (s2 := 0) rfl rfl ⟨Nat.le_of_ble_eq_true rfl, Nat.le_of_ble_eq_true rfl⟩ (fun H locs hw => ?_)
            refine lv_goto (tgt := 88) hx hb dX0_changeFeversInWards_67 (by decide) ?_
            refine lv_iinc (v := (nI (i28 + 1))) (lv' := [(3, .int (nI (i28 + 1))), (0, .ref (a 0)), (1, .int (nI i2)), (2, .int (if ((ct_st q2) (nI i2).toNatClampNeg) < (5 : Int32) then (0 : Int32) else (1 : Int32)))]) hx hb dX0_changeFeversInWards_88 hl (k := 3) rfl (inc_n i28) (by decide) rfl (fun ls hl => ?_)
            refine lv_goto (tgt := 28) hx hb dX0_changeFeversInWards_91 (by decide) ?_
            rw [show (f_X0_changeFeversInWards_28 w b n T i2 q2) i28 q28 = ((s_X0_raiseFever w b n q28 (nI i28))) from by rw [f_X0_changeFeversInWards_28, if_neg c3, if_neg c4]] at k28
            exact k28 H locs ls hw (lv_sub hl [1, 2, 3, 0] rfl)
          · refine lv_aload_n hx hb dX0_changeFeversInWards_53 rfl (lv_at hl 0 rfl) ?_
            refine g_get (v := .ref (a 14)) hc hw hiX0 0 14 (wo_X0_T ..) rfl (by decide) (List.mem_of_getElem? (i := 4) rfl) (wv_X0_T_14 ..) dX0_changeFeversInWards_54 ?_
            refine lv_iload_n hx hb dX0_changeFeversInWards_57 rfl (lv_at hl 3 rfl) ?_
            refine g_zald (f := (ct_ht q28)) hc hw 9 (wr_X0_T_14 ..) (vp_in_nI (show i28 < 30 by omega) (by omega)) dX0_changeFeversInWards_58 ?_
            refine lv_if_eq (tgt := 70) hx hb dX0_changeFeversInWards_59 (by decide) (fun c5 => ?_) (fun c5 => ?_)
            · refine lv_aload_n hx hb dX0_changeFeversInWards_70 rfl (lv_at hl 0 rfl) ?_
              refine g_get (v := .ref (a 10)) hc hw hiX0 0 10 (wo_X0_T ..) rfl (by decide) (List.mem_of_getElem? (i := 5) rfl) (wv_X0_T_10 ..) dX0_changeFeversInWards_71 ?_
              refine lv_iload_n hx hb dX0_changeFeversInWards_74 rfl (lv_at hl 3 rfl) ?_
              refine lv_iconst (v := 0) hx hb dX0_changeFeversInWards_75 (by decide) ?_
              refine lv_aload_n hx hb dX0_changeFeversInWards_76 rfl (lv_at hl 0 rfl) ?_
              refine g_get (v := .ref (a 10)) hc hw hiX0 0 10 (wo_X0_T ..) rfl (by decide) (List.mem_of_getElem? (i := 5) rfl) (wv_X0_T_10 ..) dX0_changeFeversInWards_77 ?_
              refine lv_iload_n hx hb dX0_changeFeversInWards_80 rfl (lv_at hl 3 rfl) ?_
              refine g_iald (f := (ct_fe q28)) hc hw 5 (wr_X0_T_10 ..) (vp_in_nI (show i28 < 30 by omega) (by omega)) dX0_changeFeversInWards_81 ?_
              refine lv_iconst (v := 1) hx hb dX0_changeFeversInWards_82 (by decide) ?_
              refine lv_isub hx hb dX0_changeFeversInWards_83 ?_
              refine g_mmax hc hl.1 (List.mem_of_getElem? (i := 6) rfl) (List.mem_of_getElem? (i := 7) rfl) (List.mem_of_getElem? (i := 8) rfl) (List.mem_of_getElem? (i := 9) rfl) (Nat.le_of_ble_eq_true rfl) (Nat.le_of_ble_eq_true rfl) (Nat.le_of_ble_eq_true rfl) (Nat.le_of_ble_eq_true rfl) dX0_changeFeversInWards_84 ?_
              refine g_iast (f := (ct_fe q28)) hc hw 5 (wr_X0_T_10 ..) (vp_in_nI (show i28 < 30 by omega) (by omega)) (w' := (wt_c a cI cZ w b n (cs_fe q28 (upd (ct_fe q28) (nI i28).toNatClampNeg (if (0 : Int32) < (((ct_fe q28) (nI i28).toNatClampNeg) - (1 : Int32)) then (((ct_fe q28) (nI i28).toNatClampNeg) - (1 : Int32)) else (0 : Int32)))))) (wu_X0_T_10 ..) dX0_changeFeversInWards_87 (fun H locs hw => ?_)
              refine lv_iinc (v := (nI (i28 + 1))) (lv' := [(3, .int (nI (i28 + 1))), (0, .ref (a 0)), (1, .int (nI i2)), (2, .int (if ((ct_st q2) (nI i2).toNatClampNeg) < (5 : Int32) then (0 : Int32) else (1 : Int32)))]) hx hb dX0_changeFeversInWards_88 hl (k := 3) rfl (inc_n i28) (by decide) rfl (fun ls hl => ?_)
              refine lv_goto (tgt := 28) hx hb dX0_changeFeversInWards_91 (by decide) ?_
              rw [show (f_X0_changeFeversInWards_28 w b n T i2 q2) i28 q28 = ((cs_fe q28 (upd (ct_fe q28) (nI i28).toNatClampNeg (if (0 : Int32) < (((ct_fe q28) (nI i28).toNatClampNeg) - (1 : Int32)) then (((ct_fe q28) (nI i28).toNatClampNeg) - (1 : Int32)) else (0 : Int32))))) from by rw [f_X0_changeFeversInWards_28, if_neg c3, if_pos c4, if_pos c5]] at k28
              exact k28 H locs ls hw (lv_sub hl [1, 2, 3, 0] rfl)
            · refine lv_aload_n hx hb dX0_changeFeversInWards_62 rfl (lv_at hl 0 rfl) ?_
              refine lv_iload_n hx hb dX0_changeFeversInWards_63 rfl (lv_at hl 3 rfl) ?_
              refine g_callV0 (n := 1) hc hw (k_X0_raiseFever l D cI cZ cL a w b n q28 hd5 hd4 hd30 (nI i28) (vp_in_nI (show i28 < 30 by omega) (by omega))) gX0_changeFeversInWards_X0_raiseFever rfl (by decide +kernel) ⟨Nat.le_of_ble_eq_true rfl, Nat.le_of_ble_eq_true rfl⟩ 0 (wo_X0_T ..) rfl rfl rfl (rest := []) rfl hl.1 (Nat.le_of_ble_eq_true rfl) (st1 := []) rfl dX0_changeFeversInWards_64 (k2 := 0) (s2 := 0) rfl rfl ⟨Nat.le_of_ble_eq_true rfl, Nat.le_of_ble_eq_true rfl⟩ (fun H locs hw => ?_)
              refine lv_goto (tgt := 88) hx hb dX0_changeFeversInWards_67 (by decide) ?_
              refine lv_iinc (v := (nI (i28 + 1))) (lv' := [(3, .int (nI (i28 + 1))), (0, .ref (a 0)), (1, .int (nI i2)), (2, .int (if ((ct_st q2) (nI i2).toNatClampNeg) < (5 : Int32) then (0 : Int32) else (1 : Int32)))]) hx hb dX0_changeFeversInWards_88 hl (k := 3) rfl (inc_n i28) (by decide) rfl (fun ls hl => ?_)
              refine lv_goto (tgt := 28) hx hb dX0_changeFeversInWards_91 (by decide) ?_
              rw [show (f_X0_changeFeversInWards_28 w b n T i2 q2) i28 q28 = ((s_X0_raiseFever w b n q28 (nI i28))) from by rw [f_X0_changeFeversInWards_28, if_neg c3, if_pos c4, if_neg c5]] at k28
              exact k28 H locs ls hw (lv_sub hl [1, 2, 3, 0] rfl)
        · refine lv_goto (tgt := 88) hx hb dX0_changeFeversInWards_46 (by decide) ?_
          refine lv_iinc (v := (nI (i28 + 1))) (lv' := [(3, .int (nI (i28 + 1))), (0, .ref (a 0)), (1, .int (nI i2)), (2, .int (if ((ct_st q2) (nI i2).toNatClampNeg) < (5 : Int32) then (0 : Int32) else (1 : Int32)))]) hx hb dX0_changeFeversInWards_88 hl (k := 3) rfl (inc_n i28) (by decide) rfl (fun ls hl => ?_)
          refine lv_goto (tgt := 28) hx hb dX0_changeFeversInWards_91 (by decide) ?_
          rw [show (f_X0_changeFeversInWards_28 w b n T i2 q2) i28 q28 = (q28) from by rw [f_X0_changeFeversInWards_28, if_pos c3]] at k28
          exact k28 H locs ls hw (lv_sub hl [1, 2, 3, 0] rfl)
      · intro H locs ls hw hl
        refine lv_iload_n hx hb dX0_changeFeversInWards_28 rfl (lv_at hl 3 rfl) ?_
        refine lv_aload_n hx hb dX0_changeFeversInWards_29 rfl (lv_at hl 0 rfl) ?_
        refine g_get (v := .int (nI n)) hc hw hiX0 0 9 (wo_X0_T ..) rfl (by decide) (List.mem_of_getElem? (i := 3) rfl) (wv_X0_T_9 ..) dX0_changeFeversInWards_30 ?_
        refine lv_icmp_ge (tgt := 94) hx hb dX0_changeFeversInWards_33 (by decide) (fun _ => ?_) (fun z => absurd (nI_le (Nat.le_refl _) (by omega)) z)
        refine lv_iinc (v := (nI (i2 + 1))) (lv' := [(1, .int (nI (i2 + 1))), (0, .ref (a 0)), (2, .int (if ((ct_st q2) (nI i2).toNatClampNeg) < (5 : Int32) then (0 : Int32) else (1 : Int32))), (3, .int (nI n))]) hx hb dX0_changeFeversInWards_94 hl (k := 1) rfl (inc_n i2) (by decide) rfl (fun ls hl => ?_)
        refine lv_goto (tgt := 2) hx hb dX0_changeFeversInWards_97 (by decide) ?_
        rw [show (f_X0_changeFeversInWards_2 w b n T) i2 q2 = ((lpf (f_X0_changeFeversInWards_28 w b n T i2 q2) n 0 (q2))) from by rw [f_X0_changeFeversInWards_2]] at k2
        exact k2 H locs ls hw (lv_sub hl [1, 0] rfl)
    refine lv_icmp_lt (tgt := 24) hx hb dX0_changeFeversInWards_17 (by decide) (fun c1 => ?_) (fun c1 => ?_)
    · refine lv_iconst (v := 0) hx hb dX0_changeFeversInWards_24 (by decide) ?_
      exact J2 _ (by rw [if_pos c1])
    · refine lv_iconst (v := 1) hx hb dX0_changeFeversInWards_20 (by decide) ?_
      refine lv_goto (tgt := 25) hx hb dX0_changeFeversInWards_21 (by decide) ?_
      exact J2 _ (by rw [if_neg c1])
  · intro H locs ls hw hl
    refine lv_iload_n hx hb dX0_changeFeversInWards_2 rfl (lv_at hl 1 rfl) ?_
    refine lv_aload_n hx hb dX0_changeFeversInWards_3 rfl (lv_at hl 0 rfl) ?_
    refine g_get (v := .int (nI w)) hc hw hiX0 0 3 (wo_X0_T ..) rfl (by decide) (List.mem_of_getElem? (i := 1) rfl) (wv_X0_T_3 ..) dX0_changeFeversInWards_4 ?_
    refine lv_icmp_ge (tgt := 100) hx hb dX0_changeFeversInWards_7 (by decide) (fun _ => ?_) (fun z => absurd (nI_le (Nat.le_refl _) (by omega)) z)
    rw [show s_X0_changeFeversInWards w b n T = (lpf (f_X0_changeFeversInWards_2 w b n T) w 0 (T)) from by rw [s_X0_changeFeversInWards]]
    exact g_vret hc hw rfl (Nat.le_of_ble_eq_true rfl) (Nat.le_of_ble_eq_true rfl) dX0_changeFeversInWards_100
