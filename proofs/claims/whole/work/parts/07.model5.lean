def f_X2_pass_6 (w : Nat) (b : Nat) (n : Nat) (T : mt_T) (i6 : Nat) (q6 : mt_T) : mt_T := ((s_X2_keep w b n q6 (nI i6)))
def f_X2_pass_27 (w : Nat) (b : Nat) (n : Nat) (T : mt_T) (i27 : Nat) (q27 : mt_T) : mt_T := ((ms_st q27 (upd (mt_st q27) (nI i27).toNatClampNeg (((mt_st q27) (nI i27).toNatClampNeg) + (1 : Int32)))))
def f_X2_pass_57 (w : Nat) (b : Nat) (n : Nat) (T : mt_T) (i57 : Nat) (q57 : mt_T) : mt_T := ((s_X2_land w b n q57 (nI i57)))
def s_X2_pass (w : Nat) (b : Nat) (n : Nat) (T : mt_T) : mt_T := (ms_day (lpf (f_X2_pass_57 w b n T) b 0 ((s_X2_leaveWards w b n (lpf (f_X2_pass_27 w b n T) w 0 ((lpf (f_X2_pass_6 w b n T) b 0 ((s_X2_feed w b n T)))))))) ((mt_day (lpf (f_X2_pass_57 w b n T) b 0 ((s_X2_leaveWards w b n (lpf (f_X2_pass_27 w b n T) w 0 ((lpf (f_X2_pass_6 w b n T) b 0 ((s_X2_feed w b n T))))))))) + (1 : Int32)))
abbrev rm_X2_pass : Room := { frames := 3, cells := 0, slots := 0, locals := 67 }
set_option maxHeartbeats 4000000 in
set_option maxRecDepth 100000 in
theorem k_X2_pass (l : Launch) (D : va_G) (cI cZ cL : ClassId) (a : Nat → Nat) (w : Nat) (b : Nat) (n : Nat) (T : mt_T) (hd5 : w ≤ 5) (hd4 : b ≤ 4) (hd30 : n ≤ 30)   : MX l yX2_pass wsX2_pass rm_X2_pass D cI cZ cL [.ref (a 0)] (wt_m a cI w b n T) none (wt_m a cI w b n (s_X2_pass w b n T)) := by
  refine MX.of (own := RX2) (cc := cX2_pass) (maxL := 2) (ret := none) (lv0 := [(0, .ref (a 0))]) (by decide) rfl rfl (Nat.le_of_ble_eq_true rfl) rfl ?_
  intro p e s m args below meth c A hc hnm hw ls hl
  obtain ⟨hx, hb, hr, hml, hown, hts, hlk, hK, hA⟩ := id hc
  have hiX2 : ∀ w ∈ u_ws RX2 TX2 13, w ∈ wsX2_pass := fun _ h => List.mem_cons_of_mem _ (List.mem_append_right _ h)
  refine lv_aload_n hx hb dX2_pass_0 rfl (lv_at hl 0 rfl) ?_
  refine g_callV0 (n := 0) hc hw (k_X2_feed l D cI cZ cL a w b n T hd5 hd4 hd30) gX2_pass_X2_feed rfl (by decide +kernel) ⟨Nat.le_of_ble_eq_true rfl, Nat.le_of_ble_eq_true rfl⟩ 0 (wo_X2_T ..) rfl rfl rfl (rest := []) rfl hl.1 (Nat.le_of_ble_eq_true rfl) (st1 := []) rfl dX2_pass_1 (k2 := 0) (s2 := 0) rfl rfl ⟨Nat.le_of_ble_eq_true rfl, Nat.le_of_ble_eq_true rfl⟩ (fun H locs hw => ?_)
  refine lv_iconst (v := 0) hx hb dX2_pass_4 (by decide) ?_
  refine lv_istore_n (lv' := [(1, .int (0 : Int32)), (0, .ref (a 0))]) hx hb dX2_pass_5 rfl hl (by decide) rfl (fun ls hl => ?_)
  refine lp_go (fun (i6 : Nat) (q6 : mt_T) => ∀ (H : Heap) (locs : List Loc) (ls : Array Slot), Wo D A s.heap (wt_m a cI w b n q6) H locs → lv_has ls 2 [(0, .ref (a 0)), (1, .int (nI i6))] → W p l e rm_X2_pass s m args below meth c H locs 0 0 (QE below args s D A none (wt_m a cI w b n (s_X2_pass w b n T)) rm_X2_pass) (F0 m 6 ls [])) (f_X2_pass_6 w b n T) b ((s_X2_feed w b n T)) ?_ ?_ H locs ls hw (lv_sub hl [1, 0] rfl)
  · intro i6 q6 hi6 k6 H locs ls hw hl
    refine lv_iload_n hx hb dX2_pass_6 rfl (lv_at hl 1 rfl) ?_
    refine lv_aload_n hx hb dX2_pass_7 rfl (lv_at hl 0 rfl) ?_
    refine g_get (v := .int (nI b)) hc hw hiX2 0 2 (wo_X2_T ..) rfl (by decide) (List.mem_of_getElem? (i := 1) rfl) (wv_X2_T_2 ..) dX2_pass_8 ?_
    refine lv_icmp_ge (tgt := 25) hx hb dX2_pass_11 (by decide) (fun z => absurd z (nI_ge hi6 (by omega))) (fun _ => ?_)
    refine lv_aload_n hx hb dX2_pass_14 rfl (lv_at hl 0 rfl) ?_
    refine lv_iload_n hx hb dX2_pass_15 rfl (lv_at hl 1 rfl) ?_
    refine g_callV0 (n := 1) hc hw (k_X2_keep l D cI cZ cL a w b n q6 hd5 hd4 hd30 (nI i6) (vp_in_nI (show i6 < 4 by omega) (by omega))) gX2_pass_X2_keep rfl (by decide +kernel) ⟨Nat.le_of_ble_eq_true rfl, Nat.le_of_ble_eq_true rfl⟩ 0 (wo_X2_T ..) rfl rfl rfl (rest := []) rfl hl.1 (Nat.le_of_ble_eq_true rfl) (st1 := []) rfl dX2_pass_16 (k2 := 0) (s2 := 0) rfl rfl ⟨Nat.le_of_ble_eq_true rfl, Nat.le_of_ble_eq_true rfl⟩ (fun H locs hw => ?_)
    refine lv_iinc (v := (nI (i6 + 1))) (lv' := [(1, .int (nI (i6 + 1))), (0, .ref (a 0))]) hx hb dX2_pass_19 hl (k := 1) rfl (inc_n i6) (by decide) rfl (fun ls hl => ?_)
    refine lv_goto (tgt := 6) hx hb dX2_pass_22 (by decide) ?_
    rw [show (f_X2_pass_6 w b n T) i6 q6 = ((s_X2_keep w b n q6 (nI i6))) from by rw [f_X2_pass_6]] at k6
    exact k6 H locs ls hw (lv_sub hl [1, 0] rfl)
  · intro H locs ls hw hl
    refine lv_iload_n hx hb dX2_pass_6 rfl (lv_at hl 1 rfl) ?_
    refine lv_aload_n hx hb dX2_pass_7 rfl (lv_at hl 0 rfl) ?_
    refine g_get (v := .int (nI b)) hc hw hiX2 0 2 (wo_X2_T ..) rfl (by decide) (List.mem_of_getElem? (i := 1) rfl) (wv_X2_T_2 ..) dX2_pass_8 ?_
    refine lv_icmp_ge (tgt := 25) hx hb dX2_pass_11 (by decide) (fun _ => ?_) (fun z => absurd (nI_le (Nat.le_refl _) (by omega)) z)
    refine lv_iconst (v := 0) hx hb dX2_pass_25 (by decide) ?_
    refine lv_istore_n (lv' := [(1, .int (0 : Int32)), (0, .ref (a 0))]) hx hb dX2_pass_26 rfl hl (by decide) rfl (fun ls hl => ?_)
    refine lp_go (fun (i27 : Nat) (q27 : mt_T) => ∀ (H : Heap) (locs : List Loc) (ls : Array Slot), Wo D A s.heap (wt_m a cI w b n q27) H locs → lv_has ls 2 [(0, .ref (a 0)), (1, .int (nI i27))] → W p l e rm_X2_pass s m args below meth c H locs 0 0 (QE below args s D A none (wt_m a cI w b n (s_X2_pass w b n T)) rm_X2_pass) (F0 m 27 ls [])) (f_X2_pass_27 w b n T) w ((lpf (f_X2_pass_6 w b n T) b 0 ((s_X2_feed w b n T)))) ?_ ?_ H locs ls hw (lv_sub hl [1, 0] rfl)
    · intro i27 q27 hi27 k27 H locs ls hw hl
      refine lv_iload_n hx hb dX2_pass_27 rfl (lv_at hl 1 rfl) ?_
      refine lv_aload_n hx hb dX2_pass_28 rfl (lv_at hl 0 rfl) ?_
      refine g_get (v := .int (nI w)) hc hw hiX2 0 1 (wo_X2_T ..) rfl (by decide) (List.mem_of_getElem? (i := 2) rfl) (wv_X2_T_1 ..) dX2_pass_29 ?_
      refine lv_icmp_ge (tgt := 51) hx hb dX2_pass_32 (by decide) (fun z => absurd z (nI_ge hi27 (by omega))) (fun _ => ?_)
      refine lv_aload_n hx hb dX2_pass_35 rfl (lv_at hl 0 rfl) ?_
      refine g_get (v := .ref (a 7)) hc hw hiX2 0 7 (wo_X2_T ..) rfl (by decide) (List.mem_of_getElem? (i := 3) rfl) (wv_X2_T_7 ..) dX2_pass_36 ?_
      refine lv_iload_n hx hb dX2_pass_39 rfl (lv_at hl 1 rfl) ?_
      refine lv_dup2_11 hx hb dX2_pass_40 rfl rfl ?_
      refine g_iald (f := (mt_st q27)) hc hw 2 (wr_X2_T_7 ..) (vp_in_nI (show i27 < 5 by omega) (by omega)) dX2_pass_41 ?_
      refine lv_iconst (v := 1) hx hb dX2_pass_42 (by decide) ?_
      refine lv_iadd hx hb dX2_pass_43 ?_
      refine g_iast (f := (mt_st q27)) hc hw 2 (wr_X2_T_7 ..) (vp_in_nI (show i27 < 5 by omega) (by omega)) (w' := (wt_m a cI w b n (ms_st q27 (upd (mt_st q27) (nI i27).toNatClampNeg (((mt_st q27) (nI i27).toNatClampNeg) + (1 : Int32)))))) (wu_X2_T_7 ..) dX2_pass_44 (fun H locs hw => ?_)
      refine lv_iinc (v := (nI (i27 + 1))) (lv' := [(1, .int (nI (i27 + 1))), (0, .ref (a 0))]) hx hb dX2_pass_45 hl (k := 1) rfl (inc_n i27) (by decide) rfl (fun ls hl => ?_)
      refine lv_goto (tgt := 27) hx hb dX2_pass_48 (by decide) ?_
      rw [show (f_X2_pass_27 w b n T) i27 q27 = ((ms_st q27 (upd (mt_st q27) (nI i27).toNatClampNeg (((mt_st q27) (nI i27).toNatClampNeg) + (1 : Int32))))) from by rw [f_X2_pass_27]] at k27
      exact k27 H locs ls hw (lv_sub hl [1, 0] rfl)
    · intro H locs ls hw hl
      refine lv_iload_n hx hb dX2_pass_27 rfl (lv_at hl 1 rfl) ?_
      refine lv_aload_n hx hb dX2_pass_28 rfl (lv_at hl 0 rfl) ?_
      refine g_get (v := .int (nI w)) hc hw hiX2 0 1 (wo_X2_T ..) rfl (by decide) (List.mem_of_getElem? (i := 2) rfl) (wv_X2_T_1 ..) dX2_pass_29 ?_
      refine lv_icmp_ge (tgt := 51) hx hb dX2_pass_32 (by decide) (fun _ => ?_) (fun z => absurd (nI_le (Nat.le_refl _) (by omega)) z)
      refine lv_aload_n hx hb dX2_pass_51 rfl (lv_at hl 0 rfl) ?_
      refine g_callV0 (n := 0) hc hw (k_X2_leaveWards l D cI cZ cL a w b n (lpf (f_X2_pass_27 w b n T) w 0 ((lpf (f_X2_pass_6 w b n T) b 0 ((s_X2_feed w b n T))))) hd5 hd4 hd30) gX2_pass_X2_leaveWards rfl (by decide +kernel) ⟨Nat.le_of_ble_eq_true rfl, Nat.le_of_ble_eq_true rfl⟩ 0 (wo_X2_T ..) rfl rfl rfl (rest := []) rfl hl.1 (Nat.le_of_ble_eq_true rfl) (st1 := []) rfl dX2_pass_52 (k2 := 0) (s2 := 0) rfl rfl ⟨Nat.le_of_ble_eq_true rfl, Nat.le_of_ble_eq_true rfl⟩ (fun H locs hw => ?_)
      refine lv_iconst (v := 0) hx hb dX2_pass_55 (by decide) ?_
      refine lv_istore_n (lv' := [(1, .int (0 : Int32)), (0, .ref (a 0))]) hx hb dX2_pass_56 rfl hl (by decide) rfl (fun ls hl => ?_)
      refine lp_go (fun (i57 : Nat) (q57 : mt_T) => ∀ (H : Heap) (locs : List Loc) (ls : Array Slot), Wo D A s.heap (wt_m a cI w b n q57) H locs → lv_has ls 2 [(0, .ref (a 0)), (1, .int (nI i57))] → W p l e rm_X2_pass s m args below meth c H locs 0 0 (QE below args s D A none (wt_m a cI w b n (s_X2_pass w b n T)) rm_X2_pass) (F0 m 57 ls [])) (f_X2_pass_57 w b n T) b ((s_X2_leaveWards w b n (lpf (f_X2_pass_27 w b n T) w 0 ((lpf (f_X2_pass_6 w b n T) b 0 ((s_X2_feed w b n T))))))) ?_ ?_ H locs ls hw (lv_sub hl [1, 0] rfl)
      · intro i57 q57 hi57 k57 H locs ls hw hl
        refine lv_iload_n hx hb dX2_pass_57 rfl (lv_at hl 1 rfl) ?_
        refine lv_aload_n hx hb dX2_pass_58 rfl (lv_at hl 0 rfl) ?_
        refine g_get (v := .int (nI b)) hc hw hiX2 0 2 (wo_X2_T ..) rfl (by decide) (List.mem_of_getElem? (i := 1) rfl) (wv_X2_T_2 ..) dX2_pass_59 ?_
        refine lv_icmp_ge (tgt := 76) hx hb dX2_pass_62 (by decide) (fun z => absurd z (nI_ge hi57 (by omega))) (fun _ => ?_)
        refine lv_aload_n hx hb dX2_pass_65 rfl (lv_at hl 0 rfl) ?_
        refine lv_iload_n hx hb dX2_pass_66 rfl (lv_at hl 1 rfl) ?_
        refine g_callV0 (n := 1) hc hw (k_X2_land l D cI cZ cL a w b n q57 hd5 hd4 hd30 (nI i57) (vp_in_nI (show i57 < 4 by omega) (by omega))) gX2_pass_X2_land rfl (by decide +kernel) ⟨Nat.le_of_ble_eq_true rfl, Nat.le_of_ble_eq_true rfl⟩ 0 (wo_X2_T ..) rfl rfl rfl (rest := []) rfl hl.1 (Nat.le_of_ble_eq_true rfl) (st1 := []) rfl dX2_pass_67 (k2 := 0) (s2 := 0) rfl rfl ⟨Nat.le_of_ble_eq_true rfl, Nat.le_of_ble_eq_true rfl⟩ (fun H locs hw => ?_)
        refine lv_iinc (v := (nI (i57 + 1))) (lv' := [(1, .int (nI (i57 + 1))), (0, .ref (a 0))]) hx hb dX2_pass_70 hl (k := 1) rfl (inc_n i57) (by decide) rfl (fun ls hl => ?_)
        refine lv_goto (tgt := 57) hx hb dX2_pass_73 (by decide) ?_
        rw [show (f_X2_pass_57 w b n T) i57 q57 = ((s_X2_land w b n q57 (nI i57))) from by rw [f_X2_pass_57]] at k57
        exact k57 H locs ls hw (lv_sub hl [1, 0] rfl)
      · intro H locs ls hw hl
        refine lv_iload_n hx hb dX2_pass_57 rfl (lv_at hl 1 rfl) ?_
        refine lv_aload_n hx hb dX2_pass_58 rfl (lv_at hl 0 rfl) ?_
        refine g_get (v := .int (nI b)) hc hw hiX2 0 2 (wo_X2_T ..) rfl (by decide) (List.mem_of_getElem? (i := 1) rfl) (wv_X2_T_2 ..) dX2_pass_59 ?_
        refine lv_icmp_ge (tgt := 76) hx hb dX2_pass_62 (by decide) (fun _ => ?_) (fun z => absurd (nI_le (Nat.le_refl _) (by omega)) z)
        refine lv_aload_n hx hb dX2_pass_76 rfl (lv_at hl 0 rfl) ?_
        refine lv_dup hx hb dX2_pass_77 rfl ?_
        refine g_get (v := .int (mt_day (lpf (f_X2_pass_57 w b n T) b 0 ((s_X2_leaveWards w b n (lpf (f_X2_pass_27 w b n T) w 0 ((lpf (f_X2_pass_6 w b n T) b 0 ((s_X2_feed w b n T)))))))))) hc hw hiX2 0 0 (wo_X2_T ..) rfl (by decide) (List.mem_of_getElem? (i := 4) rfl) (wv_X2_T_0 ..) dX2_pass_78 ?_
        refine lv_iconst (v := 1) hx hb dX2_pass_81 (by decide) ?_
        refine lv_iadd hx hb dX2_pass_82 ?_
        refine g_put hc hw hiX2 tyX2 tyX2_ok nmX2 0 0 (wo_X2_T ..) rfl (by decide) (List.mem_of_getElem? (i := 4) rfl) (by decide) rfl rfl (Nat.le_of_ble_eq_true rfl) (w' := (wt_m a cI w b n (ms_day (lpf (f_X2_pass_57 w b n T) b 0 ((s_X2_leaveWards w b n (lpf (f_X2_pass_27 w b n T) w 0 ((lpf (f_X2_pass_6 w b n T) b 0 ((s_X2_feed w b n T)))))))) ((mt_day (lpf (f_X2_pass_57 w b n T) b 0 ((s_X2_leaveWards w b n (lpf (f_X2_pass_27 w b n T) w 0 ((lpf (f_X2_pass_6 w b n T) b 0 ((s_X2_feed w b n T))))))))) + (1 : Int32))))) (wp_X2_T_0 ..) dX2_pass_83 (fun H locs hw => ?_)
        rw [show s_X2_pass w b n T = (ms_day (lpf (f_X2_pass_57 w b n T) b 0 ((s_X2_leaveWards w b n (lpf (f_X2_pass_27 w b n T) w 0 ((lpf (f_X2_pass_6 w b n T) b 0 ((s_X2_feed w b n T)))))))) ((mt_day (lpf (f_X2_pass_57 w b n T) b 0 ((s_X2_leaveWards w b n (lpf (f_X2_pass_27 w b n T) w 0 ((lpf (f_X2_pass_6 w b n T) b 0 ((s_X2_feed w b n T))))))))) + (1 : Int32))) from by rw [s_X2_pass]]
        exact g_vret hc hw rfl (Nat.le_of_ble_eq_true rfl) (Nat.le_of_ble_eq_true rfl) dX2_pass_86

def f_X2_passOn_2 (w : Nat) (b : Nat) (n : Nat) (T : mt_T) (x1 : Nat) (i2 : Nat) (q2 : mt_T) : mt_T := ((s_X2_pass w b n q2))
def s_X2_passOn (w : Nat) (b : Nat) (n : Nat) (T : mt_T) (x1 : Nat) : mt_T := (lpf (f_X2_passOn_2 w b n T x1) x1 0 (T))
abbrev rm_X2_passOn : Room := { frames := 4, cells := 0, slots := 0, locals := 88 }
set_option maxHeartbeats 4000000 in
set_option maxRecDepth 100000 in
theorem k_X2_passOn (l : Launch) (D : va_G) (cI cZ cL : ClassId) (a : Nat → Nat) (w : Nat) (b : Nat) (n : Nat) (T : mt_T) (hd5 : w ≤ 5) (hd4 : b ≤ 4) (hd30 : n ≤ 30) (x1 : Nat) (hp1 : x1 < 2 ^ 31) : MX l yX2_passOn wsX2_passOn rm_X2_passOn D cI cZ cL [.ref (a 0), .int (nI x1)] (wt_m a cI w b n T) none (wt_m a cI w b n (s_X2_passOn w b n T x1)) := by
  refine MX.of (own := RX2) (cc := cX2_passOn) (maxL := 3) (ret := none) (lv0 := [(0, .ref (a 0)), (1, .int (nI x1))]) (by decide) rfl rfl (Nat.le_of_ble_eq_true rfl) rfl ?_
  intro p e s m args below meth c A hc hnm hw ls hl
  obtain ⟨hx, hb, hr, hml, hown, hts, hlk, hK, hA⟩ := id hc
  refine lv_iconst (v := 0) hx hb dX2_passOn_0 (by decide) ?_
  refine lv_istore_n (lv' := [(2, .int (0 : Int32)), (0, .ref (a 0)), (1, .int (nI x1))]) hx hb dX2_passOn_1 rfl hl (by decide) rfl (fun ls hl => ?_)
  refine lp_go (fun (i2 : Nat) (q2 : mt_T) => ∀ (H : Heap) (locs : List Loc) (ls : Array Slot), Wo D A s.heap (wt_m a cI w b n q2) H locs → lv_has ls 3 [(0, .ref (a 0)), (1, .int (nI x1)), (2, .int (nI i2))] → W p l e rm_X2_passOn s m args below meth c H locs 0 0 (QE below args s D A none (wt_m a cI w b n (s_X2_passOn w b n T x1)) rm_X2_passOn) (F0 m 2 ls [])) (f_X2_passOn_2 w b n T x1) x1 (T) ?_ ?_ s.heap [] ls hw (lv_sub hl [1, 2, 0] rfl)
  · intro i2 q2 hi2 k2 H locs ls hw hl
    refine lv_iload_n hx hb dX2_passOn_2 rfl (lv_at hl 2 rfl) ?_
    refine lv_iload_n hx hb dX2_passOn_3 rfl (lv_at hl 1 rfl) ?_
    refine lv_icmp_ge (tgt := 17) hx hb dX2_passOn_4 (by decide) (fun z => absurd z (nI_ge hi2 (by omega))) (fun _ => ?_)
    refine lv_aload_n hx hb dX2_passOn_7 rfl (lv_at hl 0 rfl) ?_
    refine g_callV0 (n := 0) hc hw (k_X2_pass l D cI cZ cL a w b n q2 hd5 hd4 hd30) gX2_passOn_X2_pass rfl (by decide +kernel) ⟨Nat.le_of_ble_eq_true rfl, Nat.le_of_ble_eq_true rfl⟩ 0 (wo_X2_T ..) rfl rfl rfl (rest := []) rfl hl.1 (Nat.le_of_ble_eq_true rfl) (st1 := []) rfl dX2_passOn_8 (k2 := 0) (s2 := 0) rfl rfl ⟨Nat.le_of_ble_eq_true rfl, Nat.le_of_ble_eq_true rfl⟩ (fun H locs hw => ?_)
    refine lv_iinc (v := (nI (i2 + 1))) (lv' := [(2, .int (nI (i2 + 1))), (0, .ref (a 0)), (1, .int (nI x1))]) hx hb dX2_passOn_11 hl (k := 2) rfl (inc_n i2) (by decide) rfl (fun ls hl => ?_)
    refine lv_goto (tgt := 2) hx hb dX2_passOn_14 (by decide) ?_
    rw [show (f_X2_passOn_2 w b n T x1) i2 q2 = ((s_X2_pass w b n q2)) from by rw [f_X2_passOn_2]] at k2
    exact k2 H locs ls hw (lv_sub hl [1, 2, 0] rfl)
  · intro H locs ls hw hl
    refine lv_iload_n hx hb dX2_passOn_2 rfl (lv_at hl 2 rfl) ?_
    refine lv_iload_n hx hb dX2_passOn_3 rfl (lv_at hl 1 rfl) ?_
    refine lv_icmp_ge (tgt := 17) hx hb dX2_passOn_4 (by decide) (fun _ => ?_) (fun z => absurd (nI_le (Nat.le_refl _) (by omega)) z)
    rw [show s_X2_passOn w b n T x1 = (lpf (f_X2_passOn_2 w b n T x1) x1 0 (T)) from by rw [s_X2_passOn]]
    exact g_vret hc hw rfl (Nat.le_of_ble_eq_true rfl) (Nat.le_of_ble_eq_true rfl) dX2_passOn_17
