def f_X2_feed_17 (w : Nat) (b : Nat) (n : Nat) (T : mt_T) (i7 : Nat) (q7 : mt_T × Int32) (i17 : Nat) (q17 : mt_T × Int32) : mt_T × Int32 := if ((mt_wh q17.1) (nI i17).toNatClampNeg) = (nI i7) then (if q17.2 = (0 : Int32) then ((ms_fe (ms_hu q17.1 (upd (mt_hu q17.1) (nI i17).toNatClampNeg (((mt_hu q17.1) (nI i17).toNatClampNeg) + (1 : Int32)))) (upd (mt_fe (ms_hu q17.1 (upd (mt_hu q17.1) (nI i17).toNatClampNeg (((mt_hu q17.1) (nI i17).toNatClampNeg) + (1 : Int32))))) (nI i17).toNatClampNeg (if (((mt_fe (ms_hu q17.1 (upd (mt_hu q17.1) (nI i17).toNatClampNeg (((mt_hu q17.1) (nI i17).toNatClampNeg) + (1 : Int32))))) (nI i17).toNatClampNeg) + (1 : Int32)) < (10 : Int32) then (((mt_fe (ms_hu q17.1 (upd (mt_hu q17.1) (nI i17).toNatClampNeg (((mt_hu q17.1) (nI i17).toNatClampNeg) + (1 : Int32))))) (nI i17).toNatClampNeg) + (1 : Int32)) else (10 : Int32)))), q17.2) else (if ((mt_st (ms_ea q17.1 ((mt_ea q17.1) + (1 : Int32)))) (nI i7).toNatClampNeg) < (5 : Int32) then ((ms_fe (ms_ea q17.1 ((mt_ea q17.1) + (1 : Int32))) (upd (mt_fe (ms_ea q17.1 ((mt_ea q17.1) + (1 : Int32)))) (nI i17).toNatClampNeg (if (0 : Int32) < (((mt_fe (ms_ea q17.1 ((mt_ea q17.1) + (1 : Int32)))) (nI i17).toNatClampNeg) - (1 : Int32)) then (((mt_fe (ms_ea q17.1 ((mt_ea q17.1) + (1 : Int32)))) (nI i17).toNatClampNeg) - (1 : Int32)) else (0 : Int32)))), (q17.2 + (-1))) else ((ms_fe (ms_ea q17.1 ((mt_ea q17.1) + (1 : Int32))) (upd (mt_fe (ms_ea q17.1 ((mt_ea q17.1) + (1 : Int32)))) (nI i17).toNatClampNeg (if (((mt_fe (ms_ea q17.1 ((mt_ea q17.1) + (1 : Int32)))) (nI i17).toNatClampNeg) + (1 : Int32)) < (10 : Int32) then (((mt_fe (ms_ea q17.1 ((mt_ea q17.1) + (1 : Int32)))) (nI i17).toNatClampNeg) + (1 : Int32)) else (10 : Int32)))), (q17.2 + (-1))))) else (q17.1, q17.2)
def f_X2_feed_7 (w : Nat) (b : Nat) (n : Nat) (T : mt_T) (i7 : Nat) (q7 : mt_T × Int32) : mt_T × Int32 := ((lpf (f_X2_feed_17 w b n T i7 q7) n 0 (q7.1, q7.2)).1, (lpf (f_X2_feed_17 w b n T i7 q7) n 0 (q7.1, q7.2)).2)
def s_X2_feed (w : Nat) (b : Nat) (n : Nat) (T : mt_T) : mt_T := (lpf (f_X2_feed_7 w b n T) w 0 (T, (mt_bo T))).1
abbrev rm_X2_feed : Room := { frames := 1, cells := 0, slots := 0, locals := 21 }
set_option maxHeartbeats 4000000 in
set_option maxRecDepth 100000 in
theorem k_X2_feed (l : Launch) (D : va_G) (cI cZ cL : ClassId) (a : Nat → Nat) (w : Nat) (b : Nat) (n : Nat) (T : mt_T) (hd5 : w ≤ 5) (hd4 : b ≤ 4) (hd30 : n ≤ 30)   : MX l yX2_feed wsX2_feed rm_X2_feed D cI cZ cL [.ref (a 0)] (wt_m a cI w b n T) none (wt_m a cI w b n (s_X2_feed w b n T)) := by
  refine MX.of (own := RX2) (cc := cX2_feed) (maxL := 5) (ret := none) (lv0 := [(0, .ref (a 0))]) (by decide) rfl rfl (Nat.le_of_ble_eq_true rfl) rfl ?_
  intro p e s m args below meth c A hc hnm hw ls hl
  obtain ⟨hx, hb, hr, hml, hown, hts, hlk, hK, hA⟩ := id hc
  have hiX2 : ∀ w ∈ u_ws RX2 TX2 13, w ∈ wsX2_feed := fun _ h => List.mem_cons_of_mem _ (List.mem_append_right _ h)
  refine lv_aload_n hx hb dX2_feed_0 rfl (lv_at hl 0 rfl) ?_
  refine g_get (v := .int (mt_bo T)) hc hw hiX2 0 4 (wo_X2_T ..) rfl (by decide) (List.mem_of_getElem? (i := 1) rfl) (wv_X2_T_4 ..) dX2_feed_1 ?_
  refine lv_istore_n (lv' := [(1, .int (mt_bo T)), (0, .ref (a 0))]) hx hb dX2_feed_4 rfl hl (by decide) rfl (fun ls hl => ?_)
  refine lv_iconst (v := 0) hx hb dX2_feed_5 (by decide) ?_
  refine lv_istore_n (lv' := [(2, .int (0 : Int32)), (1, .int (mt_bo T)), (0, .ref (a 0))]) hx hb dX2_feed_6 rfl hl (by decide) rfl (fun ls hl => ?_)
  refine lp_go (fun (i7 : Nat) (q7 : mt_T × Int32) => ∀ (H : Heap) (locs : List Loc) (ls : Array Slot), Wo D A s.heap (wt_m a cI w b n q7.1) H locs → lv_has ls 5 [(0, .ref (a 0)), (1, .int q7.2), (2, .int (nI i7))] → W p l e rm_X2_feed s m args below meth c H locs 0 0 (QE below args s D A none (wt_m a cI w b n (s_X2_feed w b n T)) rm_X2_feed) (F0 m 7 ls [])) (f_X2_feed_7 w b n T) w (T, (mt_bo T)) ?_ ?_ s.heap [] ls hw (lv_sub hl [2, 1, 0] rfl)
  · intro i7 q7 hi7 k7 H locs ls hw hl
    refine lv_iload_n hx hb dX2_feed_7 rfl (lv_at hl 2 rfl) ?_
    refine lv_aload_n hx hb dX2_feed_8 rfl (lv_at hl 0 rfl) ?_
    refine g_get (v := .int (nI w)) hc hw hiX2 0 1 (wo_X2_T ..) rfl (by decide) (List.mem_of_getElem? (i := 2) rfl) (wv_X2_T_1 ..) dX2_feed_9 ?_
    refine lv_icmp_ge (tgt := 141) hx hb dX2_feed_12 (by decide) (fun z => absurd z (nI_ge hi7 (by omega))) (fun _ => ?_)
    refine lv_iconst (v := 0) hx hb dX2_feed_15 (by decide) ?_
    refine lv_istore_n (lv' := [(3, .int (0 : Int32)), (0, .ref (a 0)), (1, .int q7.2), (2, .int (nI i7))]) hx hb dX2_feed_16 rfl hl (by decide) rfl (fun ls hl => ?_)
    refine lp_go (fun (i17 : Nat) (q17 : mt_T × Int32) => ∀ (H : Heap) (locs : List Loc) (ls : Array Slot), Wo D A s.heap (wt_m a cI w b n q17.1) H locs → lv_has ls 5 [(0, .ref (a 0)), (1, .int q17.2), (2, .int (nI i7)), (3, .int (nI i17))] → W p l e rm_X2_feed s m args below meth c H locs 0 0 (QE below args s D A none (wt_m a cI w b n (s_X2_feed w b n T)) rm_X2_feed) (F0 m 17 ls [])) (f_X2_feed_17 w b n T i7 q7) n (q7.1, q7.2) ?_ ?_ H locs ls hw (lv_sub hl [1, 2, 3, 0] rfl)
    · intro i17 q17 hi17 k17 H locs ls hw hl
      refine lv_iload_n hx hb dX2_feed_17 rfl (lv_at hl 3 rfl) ?_
      refine lv_aload_n hx hb dX2_feed_18 rfl (lv_at hl 0 rfl) ?_
      refine g_get (v := .int (nI n)) hc hw hiX2 0 3 (wo_X2_T ..) rfl (by decide) (List.mem_of_getElem? (i := 3) rfl) (wv_X2_T_3 ..) dX2_feed_19 ?_
      refine lv_icmp_ge (tgt := 135) hx hb dX2_feed_22 (by decide) (fun z => absurd z (nI_ge hi17 (by omega))) (fun _ => ?_)
      refine lv_aload_n hx hb dX2_feed_25 rfl (lv_at hl 0 rfl) ?_
      refine g_get (v := .ref (a 11)) hc hw hiX2 0 11 (wo_X2_T ..) rfl (by decide) (List.mem_of_getElem? (i := 4) rfl) (wv_X2_T_11 ..) dX2_feed_26 ?_
      refine lv_iload_n hx hb dX2_feed_29 rfl (lv_at hl 3 rfl) ?_
      refine g_iald (f := (mt_wh q17.1)) hc hw 6 (wr_X2_T_11 ..) (vp_in_nI (show i17 < 30 by omega) (by omega)) dX2_feed_30 ?_
      refine lv_iload_n hx hb dX2_feed_31 rfl (lv_at hl 2 rfl) ?_
      refine lv_icmp_eq (tgt := 38) hx hb dX2_feed_32 (by decide) (fun c1 => ?_) (fun c1 => ?_)
      · refine lv_iload_n hx hb dX2_feed_38 rfl (lv_at hl 1 rfl) ?_
        refine lv_if_ne (tgt := 46) hx hb dX2_feed_39 (by decide) (fun c2 => ?_) (fun c2 => ?_)
        · refine lv_iconst (v := 0) hx hb dX2_feed_46 (by decide) ?_
          refine lv_istore (lv' := [(4, .int (0 : Int32)), (0, .ref (a 0)), (1, .int q17.2), (2, .int (nI i7)), (3, .int (nI i17))]) hx hb dX2_feed_47 hl (by decide) rfl (fun ls hl => ?_)
          refine lv_iload hx hb dX2_feed_49 (lv_at hl 0 rfl) ?_
          refine lv_if_eq (tgt := 67) hx hb dX2_feed_51 (by decide) (fun _ => ?_) (fun z => absurd (by decide) z)
          refine lv_iinc (v := (q17.2 + (-1))) (lv' := [(1, .int (q17.2 + (-1))), (4, .int (0 : Int32)), (0, .ref (a 0)), (2, .int (nI i7)), (3, .int (nI i17))]) hx hb dX2_feed_67 hl (k := 2) rfl (dec_1 _) (by decide) rfl (fun ls hl => ?_)
          refine lv_aload_n hx hb dX2_feed_70 rfl (lv_at hl 2 rfl) ?_
          refine lv_dup hx hb dX2_feed_71 rfl ?_
          refine g_get (v := .int (mt_ea q17.1)) hc hw hiX2 0 5 (wo_X2_T ..) rfl (by decide) (List.mem_of_getElem? (i := 6) rfl) (wv_X2_T_5 ..) dX2_feed_72 ?_
          refine lv_iconst (v := 1) hx hb dX2_feed_75 (by decide) ?_
          refine lv_iadd hx hb dX2_feed_76 ?_
          refine g_put hc hw hiX2 tyX2 tyX2_ok nmX2 0 5 (wo_X2_T ..) rfl (by decide) (List.mem_of_getElem? (i := 6) rfl) (by decide) rfl rfl (Nat.le_of_ble_eq_true rfl) (w' := (wt_m a cI w b n (ms_ea q17.1 ((mt_ea q17.1) + (1 : Int32))))) (wp_X2_T_5 ..) dX2_feed_77 (fun H locs hw => ?_)
          refine lv_aload_n hx hb dX2_feed_80 rfl (lv_at hl 2 rfl) ?_
          refine g_get (v := .ref (a 10)) hc hw hiX2 0 10 (wo_X2_T ..) rfl (by decide) (List.mem_of_getElem? (i := 7) rfl) (wv_X2_T_10 ..) dX2_feed_81 ?_
          refine lv_iload_n hx hb dX2_feed_84 rfl (lv_at hl 4 rfl) ?_
          refine lv_iload hx hb dX2_feed_85 (lv_at hl 1 rfl) ?_
          refine lv_if_ne (tgt := 100) hx hb dX2_feed_87 (by decide) (fun z => absurd (by decide) z) (fun _ => ?_)
          refine lv_aload_n hx hb dX2_feed_90 rfl (lv_at hl 2 rfl) ?_
          refine g_get (v := .ref (a 7)) hc hw hiX2 0 7 (wo_X2_T ..) rfl (by decide) (List.mem_of_getElem? (i := 8) rfl) (wv_X2_T_7 ..) dX2_feed_91 ?_
          refine lv_iload_n hx hb dX2_feed_94 rfl (lv_at hl 3 rfl) ?_
          refine g_iald (f := (mt_st (ms_ea q17.1 ((mt_ea q17.1) + (1 : Int32))))) hc hw 2 (wr_X2_T_7 ..) (vp_in_nI (show i7 < 5 by omega) (by omega)) dX2_feed_95 ?_
          refine lv_iconst (v := 5) hx hb dX2_feed_96 (by decide) ?_
          refine lv_icmp_lt (tgt := 116) hx hb dX2_feed_97 (by decide) (fun c3 => ?_) (fun c3 => ?_)
          · refine lv_iconst (v := 0) hx hb dX2_feed_116 (by decide) ?_
            refine lv_aload_n hx hb dX2_feed_117 rfl (lv_at hl 2 rfl) ?_
            refine g_get (v := .ref (a 10)) hc hw hiX2 0 10 (wo_X2_T ..) rfl (by decide) (List.mem_of_getElem? (i := 7) rfl) (wv_X2_T_10 ..) dX2_feed_118 ?_
            refine lv_iload_n hx hb dX2_feed_121 rfl (lv_at hl 4 rfl) ?_
            refine g_iald (f := (mt_fe (ms_ea q17.1 ((mt_ea q17.1) + (1 : Int32))))) hc hw 5 (wr_X2_T_10 ..) (vp_in_nI (show i17 < 30 by omega) (by omega)) dX2_feed_122 ?_
            refine lv_iconst (v := 1) hx hb dX2_feed_123 (by decide) ?_
            refine lv_isub hx hb dX2_feed_124 ?_
            refine g_mmax hc hl.1 (List.mem_of_getElem? (i := 13) rfl) (List.mem_of_getElem? (i := 14) rfl) (List.mem_of_getElem? (i := 11) rfl) (List.mem_of_getElem? (i := 15) rfl) (Nat.le_of_ble_eq_true rfl) (Nat.le_of_ble_eq_true rfl) (Nat.le_of_ble_eq_true rfl) (Nat.le_of_ble_eq_true rfl) dX2_feed_125 ?_
            refine g_iast (f := (mt_fe (ms_ea q17.1 ((mt_ea q17.1) + (1 : Int32))))) hc hw 5 (wr_X2_T_10 ..) (vp_in_nI (show i17 < 30 by omega) (by omega)) (w' := (wt_m a cI w b n (ms_fe (ms_ea q17.1 ((mt_ea q17.1) + (1 : Int32))) (upd (mt_fe (ms_ea q17.1 ((mt_ea q17.1) + (1 : Int32)))) (nI i17).toNatClampNeg (if (0 : Int32) < (((mt_fe (ms_ea q17.1 ((mt_ea q17.1) + (1 : Int32)))) (nI i17).toNatClampNeg) - (1 : Int32)) then (((mt_fe (ms_ea q17.1 ((mt_ea q17.1) + (1 : Int32)))) (nI i17).toNatClampNeg) - (1 : Int32)) else (0 : Int32)))))) (wu_X2_T_10 ..) dX2_feed_128 (fun H locs hw => ?_)
            refine lv_iinc (v := (nI (i17 + 1))) (lv' := [(3, .int (nI (i17 + 1))), (1, .int (q17.2 + (-1))), (4, .int (0 : Int32)), (0, .ref (a 0)), (2, .int (nI i7))]) hx hb dX2_feed_129 hl (k := 4) rfl (inc_n i17) (by decide) rfl (fun ls hl => ?_)
            refine lv_goto (tgt := 17) hx hb dX2_feed_132 (by decide) ?_
            rw [show (f_X2_feed_17 w b n T i7 q7) i17 q17 = ((ms_fe (ms_ea q17.1 ((mt_ea q17.1) + (1 : Int32))) (upd (mt_fe (ms_ea q17.1 ((mt_ea q17.1) + (1 : Int32)))) (nI i17).toNatClampNeg (if (0 : Int32) < (((mt_fe (ms_ea q17.1 ((mt_ea q17.1) + (1 : Int32)))) (nI i17).toNatClampNeg) - (1 : Int32)) then (((mt_fe (ms_ea q17.1 ((mt_ea q17.1) + (1 : Int32)))) (nI i17).toNatClampNeg) - (1 : Int32)) else (0 : Int32)))), (q17.2 + (-1))) from by rw [f_X2_feed_17, if_pos c1, if_neg c2, if_pos c3]] at k17
            exact k17 H locs ls hw (lv_sub hl [3, 1, 4, 0] rfl)
          · refine lv_bipush (v := 10) hx hb dX2_feed_100 (by decide) ?_
            refine lv_aload_n hx hb dX2_feed_102 rfl (lv_at hl 2 rfl) ?_
            refine g_get (v := .ref (a 10)) hc hw hiX2 0 10 (wo_X2_T ..) rfl (by decide) (List.mem_of_getElem? (i := 7) rfl) (wv_X2_T_10 ..) dX2_feed_103 ?_
            refine lv_iload_n hx hb dX2_feed_106 rfl (lv_at hl 4 rfl) ?_
            refine g_iald (f := (mt_fe (ms_ea q17.1 ((mt_ea q17.1) + (1 : Int32))))) hc hw 5 (wr_X2_T_10 ..) (vp_in_nI (show i17 < 30 by omega) (by omega)) dX2_feed_107 ?_
            refine lv_iconst (v := 1) hx hb dX2_feed_108 (by decide) ?_
            refine lv_iadd hx hb dX2_feed_109 ?_
            refine g_mmin hc hl.1 (List.mem_of_getElem? (i := 9) rfl) (List.mem_of_getElem? (i := 10) rfl) (List.mem_of_getElem? (i := 11) rfl) (List.mem_of_getElem? (i := 12) rfl) (Nat.le_of_ble_eq_true rfl) (Nat.le_of_ble_eq_true rfl) (Nat.le_of_ble_eq_true rfl) (Nat.le_of_ble_eq_true rfl) dX2_feed_110 ?_
            refine lv_goto (tgt := 128) hx hb dX2_feed_113 (by decide) ?_
            refine g_iast (f := (mt_fe (ms_ea q17.1 ((mt_ea q17.1) + (1 : Int32))))) hc hw 5 (wr_X2_T_10 ..) (vp_in_nI (show i17 < 30 by omega) (by omega)) (w' := (wt_m a cI w b n (ms_fe (ms_ea q17.1 ((mt_ea q17.1) + (1 : Int32))) (upd (mt_fe (ms_ea q17.1 ((mt_ea q17.1) + (1 : Int32)))) (nI i17).toNatClampNeg (if (((mt_fe (ms_ea q17.1 ((mt_ea q17.1) + (1 : Int32)))) (nI i17).toNatClampNeg) + (1 : Int32)) < (10 : Int32) then (((mt_fe (ms_ea q17.1 ((mt_ea q17.1) + (1 : Int32)))) (nI i17).toNatClampNeg) + (1 : Int32)) else (10 : Int32)))))) (wu_X2_T_10 ..) dX2_feed_128 (fun H locs hw => ?_)
            refine lv_iinc (v := (nI (i17 + 1))) (lv' := [(3, .int (nI (i17 + 1))), (1, .int (q17.2 + (-1))), (4, .int (0 : Int32)), (0, .ref (a 0)), (2, .int (nI i7))]) hx hb dX2_feed_129 hl (k := 4) rfl (inc_n i17) (by decide) rfl (fun ls hl => ?_)
            refine lv_goto (tgt := 17) hx hb dX2_feed_132 (by decide) ?_
            rw [show (f_X2_feed_17 w b n T i7 q7) i17 q17 = ((ms_fe (ms_ea q17.1 ((mt_ea q17.1) + (1 : Int32))) (upd (mt_fe (ms_ea q17.1 ((mt_ea q17.1) + (1 : Int32)))) (nI i17).toNatClampNeg (if (((mt_fe (ms_ea q17.1 ((mt_ea q17.1) + (1 : Int32)))) (nI i17).toNatClampNeg) + (1 : Int32)) < (10 : Int32) then (((mt_fe (ms_ea q17.1 ((mt_ea q17.1) + (1 : Int32)))) (nI i17).toNatClampNeg) + (1 : Int32)) else (10 : Int32)))), (q17.2 + (-1))) from by rw [f_X2_feed_17, if_pos c1, if_neg c2, if_neg c3]] at k17
            exact k17 H locs ls hw (lv_sub hl [3, 1, 4, 0] rfl)
        · refine lv_iconst (v := 1) hx hb dX2_feed_42 (by decide) ?_
          refine lv_goto (tgt := 47) hx hb dX2_feed_43 (by decide) ?_
          refine lv_istore (lv' := [(4, .int (1 : Int32)), (0, .ref (a 0)), (1, .int q17.2), (2, .int (nI i7)), (3, .int (nI i17))]) hx hb dX2_feed_47 hl (by decide) rfl (fun ls hl => ?_)
          refine lv_iload hx hb dX2_feed_49 (lv_at hl 0 rfl) ?_
          refine lv_if_eq (tgt := 67) hx hb dX2_feed_51 (by decide) (fun z => absurd z (by decide)) (fun _ => ?_)
          refine lv_aload_n hx hb dX2_feed_54 rfl (lv_at hl 1 rfl) ?_
          refine g_get (v := .ref (a 12)) hc hw hiX2 0 12 (wo_X2_T ..) rfl (by decide) (List.mem_of_getElem? (i := 5) rfl) (wv_X2_T_12 ..) dX2_feed_55 ?_
          refine lv_iload_n hx hb dX2_feed_58 rfl (lv_at hl 4 rfl) ?_
          refine lv_dup2_11 hx hb dX2_feed_59 rfl rfl ?_
          refine g_iald (f := (mt_hu q17.1)) hc hw 7 (wr_X2_T_12 ..) (vp_in_nI (show i17 < 30 by omega) (by omega)) dX2_feed_60 ?_
          refine lv_iconst (v := 1) hx hb dX2_feed_61 (by decide) ?_
          refine lv_iadd hx hb dX2_feed_62 ?_
          refine g_iast (f := (mt_hu q17.1)) hc hw 7 (wr_X2_T_12 ..) (vp_in_nI (show i17 < 30 by omega) (by omega)) (w' := (wt_m a cI w b n (ms_hu q17.1 (upd (mt_hu q17.1) (nI i17).toNatClampNeg (((mt_hu q17.1) (nI i17).toNatClampNeg) + (1 : Int32)))))) (wu_X2_T_12 ..) dX2_feed_63 (fun H locs hw => ?_)
          refine lv_goto (tgt := 80) hx hb dX2_feed_64 (by decide) ?_
          refine lv_aload_n hx hb dX2_feed_80 rfl (lv_at hl 1 rfl) ?_
          refine g_get (v := .ref (a 10)) hc hw hiX2 0 10 (wo_X2_T ..) rfl (by decide) (List.mem_of_getElem? (i := 7) rfl) (wv_X2_T_10 ..) dX2_feed_81 ?_
          refine lv_iload_n hx hb dX2_feed_84 rfl (lv_at hl 4 rfl) ?_
          refine lv_iload hx hb dX2_feed_85 (lv_at hl 0 rfl) ?_
          refine lv_if_ne (tgt := 100) hx hb dX2_feed_87 (by decide) (fun _ => ?_) (fun z => absurd z (by decide))
          refine lv_bipush (v := 10) hx hb dX2_feed_100 (by decide) ?_
          refine lv_aload_n hx hb dX2_feed_102 rfl (lv_at hl 1 rfl) ?_
          refine g_get (v := .ref (a 10)) hc hw hiX2 0 10 (wo_X2_T ..) rfl (by decide) (List.mem_of_getElem? (i := 7) rfl) (wv_X2_T_10 ..) dX2_feed_103 ?_
          refine lv_iload_n hx hb dX2_feed_106 rfl (lv_at hl 4 rfl) ?_
          refine g_iald (f := (mt_fe (ms_hu q17.1 (upd (mt_hu q17.1) (nI i17).toNatClampNeg (((mt_hu q17.1) (nI i17).toNatClampNeg) + (1 : Int32)))))) hc hw 5 (wr_X2_T_10 ..) (vp_in_nI (show i17 < 30 by omega) (by omega)) dX2_feed_107 ?_
          refine lv_iconst (v := 1) hx hb dX2_feed_108 (by decide) ?_
          refine lv_iadd hx hb dX2_feed_109 ?_
          refine g_mmin hc hl.1 (List.mem_of_getElem? (i := 9) rfl) (List.mem_of_getElem? (i := 10) rfl) (List.mem_of_getElem? (i := 11) rfl) (List.mem_of_getElem? (i := 12) rfl) (Nat.le_of_ble_eq_true rfl) (Nat.le_of_ble_eq_true rfl) (Nat.le_of_ble_eq_true rfl) (Nat.le_of_ble_eq_true rfl) dX2_feed_110 ?_
          refine lv_goto (tgt := 128) hx hb dX2_feed_113 (by decide) ?_
          refine g_iast (f := (mt_fe (ms_hu q17.1 (upd (mt_hu q17.1) (nI i17).toNatClampNeg (((mt_hu q17.1) (nI i17).toNatClampNeg) + (1 : Int32)))))) hc hw 5 (wr_X2_T_10 ..) (vp_in_nI (show i17 < 30 by omega) (by omega)) (w' := (wt_m a cI w b n (ms_fe (ms_hu q17.1 (upd (mt_hu q17.1) (nI i17).toNatClampNeg (((mt_hu q17.1) (nI i17).toNatClampNeg) + (1 : Int32)))) (upd (mt_fe (ms_hu q17.1 (upd (mt_hu q17.1) (nI i17).toNatClampNeg (((mt_hu q17.1) (nI i17).toNatClampNeg) + (1 : Int32))))) (nI i17).toNatClampNeg (if (((mt_fe (ms_hu q17.1 (upd (mt_hu q17.1) (nI i17).toNatClampNeg (((mt_hu q17.1) (nI i17).toNatClampNeg) + (1 : Int32))))) (nI i17).toNatClampNeg) + (1 : Int32)) < (10 : Int32) then (((mt_fe (ms_hu q17.1 (upd (mt_hu q17.1) (nI i17).toNatClampNeg (((mt_hu q17.1) (nI i17).toNatClampNeg) + (1 : Int32))))) (nI i17).toNatClampNeg) + (1 : Int32)) else (10 : Int32)))))) (wu_X2_T_10 ..) dX2_feed_128 (fun H locs hw => ?_)
          refine lv_iinc (v := (nI (i17 + 1))) (lv' := [(3, .int (nI (i17 + 1))), (4, .int (1 : Int32)), (0, .ref (a 0)), (1, .int q17.2), (2, .int (nI i7))]) hx hb dX2_feed_129 hl (k := 4) rfl (inc_n i17) (by decide) rfl (fun ls hl => ?_)
          refine lv_goto (tgt := 17) hx hb dX2_feed_132 (by decide) ?_
          rw [show (f_X2_feed_17 w b n T i7 q7) i17 q17 = ((ms_fe (ms_hu q17.1 (upd (mt_hu q17.1) (nI i17).toNatClampNeg (((mt_hu q17.1) (nI i17).toNatClampNeg) + (1 : Int32)))) (upd (mt_fe (ms_hu q17.1 (upd (mt_hu q17.1) (nI i17).toNatClampNeg (((mt_hu q17.1) (nI i17).toNatClampNeg) + (1 : Int32))))) (nI i17).toNatClampNeg (if (((mt_fe (ms_hu q17.1 (upd (mt_hu q17.1) (nI i17).toNatClampNeg (((mt_hu q17.1) (nI i17).toNatClampNeg) + (1 : Int32))))) (nI i17).toNatClampNeg) + (1 : Int32)) < (10 : Int32) then (((mt_fe (ms_hu q17.1 (upd (mt_hu q17.1) (nI i17).toNatClampNeg (((mt_hu q17.1) (nI i17).toNatClampNeg) + (1 : Int32))))) (nI i17).toNatClampNeg) + (1 : Int32)) else (10 : Int32)))), q17.2) from by rw [f_X2_feed_17, if_pos c1, if_pos c2]] at k17
          exact k17 H locs ls hw (lv_sub hl [2, 3, 4, 0] rfl)
      · refine lv_goto (tgt := 129) hx hb dX2_feed_35 (by decide) ?_
        refine lv_iinc (v := (nI (i17 + 1))) (lv' := [(3, .int (nI (i17 + 1))), (0, .ref (a 0)), (1, .int q17.2), (2, .int (nI i7))]) hx hb dX2_feed_129 hl (k := 3) rfl (inc_n i17) (by decide) rfl (fun ls hl => ?_)
        refine lv_goto (tgt := 17) hx hb dX2_feed_132 (by decide) ?_
        rw [show (f_X2_feed_17 w b n T i7 q7) i17 q17 = (q17.1, q17.2) from by rw [f_X2_feed_17, if_neg c1]] at k17
        exact k17 H locs ls hw (lv_sub hl [1, 2, 3, 0] rfl)
    · intro H locs ls hw hl
      refine lv_iload_n hx hb dX2_feed_17 rfl (lv_at hl 3 rfl) ?_
      refine lv_aload_n hx hb dX2_feed_18 rfl (lv_at hl 0 rfl) ?_
      refine g_get (v := .int (nI n)) hc hw hiX2 0 3 (wo_X2_T ..) rfl (by decide) (List.mem_of_getElem? (i := 3) rfl) (wv_X2_T_3 ..) dX2_feed_19 ?_
      refine lv_icmp_ge (tgt := 135) hx hb dX2_feed_22 (by decide) (fun _ => ?_) (fun z => absurd (nI_le (Nat.le_refl _) (by omega)) z)
      refine lv_iinc (v := (nI (i7 + 1))) (lv' := [(2, .int (nI (i7 + 1))), (0, .ref (a 0)), (1, .int ((lpf (f_X2_feed_17 w b n T i7 q7) n 0 (q7.1, q7.2)).2)), (3, .int (nI n))]) hx hb dX2_feed_135 hl (k := 2) rfl (inc_n i7) (by decide) rfl (fun ls hl => ?_)
      refine lv_goto (tgt := 7) hx hb dX2_feed_138 (by decide) ?_
      rw [show (f_X2_feed_7 w b n T) i7 q7 = ((lpf (f_X2_feed_17 w b n T i7 q7) n 0 (q7.1, q7.2)).1, (lpf (f_X2_feed_17 w b n T i7 q7) n 0 (q7.1, q7.2)).2) from by rw [f_X2_feed_7]] at k7
      exact k7 H locs ls hw (lv_sub hl [1, 2, 0] rfl)
  · intro H locs ls hw hl
    refine lv_iload_n hx hb dX2_feed_7 rfl (lv_at hl 2 rfl) ?_
    refine lv_aload_n hx hb dX2_feed_8 rfl (lv_at hl 0 rfl) ?_
    refine g_get (v := .int (nI w)) hc hw hiX2 0 1 (wo_X2_T ..) rfl (by decide) (List.mem_of_getElem? (i := 2) rfl) (wv_X2_T_1 ..) dX2_feed_9 ?_
    refine lv_icmp_ge (tgt := 141) hx hb dX2_feed_12 (by decide) (fun _ => ?_) (fun z => absurd (nI_le (Nat.le_refl _) (by omega)) z)
    rw [show s_X2_feed w b n T = (lpf (f_X2_feed_7 w b n T) w 0 (T, (mt_bo T))).1 from by rw [s_X2_feed]]
    exact g_vret hc hw rfl (Nat.le_of_ble_eq_true rfl) (Nat.le_of_ble_eq_true rfl) dX2_feed_141
