def f_X2_keep_34 (w : Nat) (b : Nat) (n : Nat) (T : mt_T) (x1 : Int32) (i34 : Nat) (q34 : Int32) : Int32 := if ((mt_wh (ms_to T (upd (mt_to T) x1.toNatClampNeg (((mt_to T) x1.toNatClampNeg) - (1 : Int32))))) (nI i34).toNatClampNeg) = ((10 : Int32) + x1) then (if ((mt_fe (ms_to T (upd (mt_to T) x1.toNatClampNeg (((mt_to T) x1.toNatClampNeg) - (1 : Int32))))) (nI i34).toNatClampNeg) ≤ (0 : Int32) then ((q34 + (0 : Int32))) else ((q34 + (1 : Int32)))) else ((q34 + (0 : Int32)))
def f_X2_keep_80 (w : Nat) (b : Nat) (n : Nat) (T : mt_T) (x1 : Int32) (i80 : Nat) (q80 : mt_T) : mt_T := if ((mt_wh q80) (nI i80).toNatClampNeg) = ((10 : Int32) + x1) then (if ((mt_fe q80) (nI i80).toNatClampNeg) ≤ (0 : Int32) then (if ((lpf (f_X2_keep_34 w b n T x1) n 0 ((0 : Int32))) - (0 : Int32)) ≤ (0 : Int32) then (q80) else ((ms_fe q80 (upd (mt_fe q80) (nI i80).toNatClampNeg (if (((mt_fe q80) (nI i80).toNatClampNeg) + (1 : Int32)) < (10 : Int32) then (((mt_fe q80) (nI i80).toNatClampNeg) + (1 : Int32)) else (10 : Int32)))))) else (if ((lpf (f_X2_keep_34 w b n T x1) n 0 ((0 : Int32))) - (1 : Int32)) ≤ (0 : Int32) then (q80) else ((ms_fe q80 (upd (mt_fe q80) (nI i80).toNatClampNeg (if (((mt_fe q80) (nI i80).toNatClampNeg) + (1 : Int32)) < (10 : Int32) then (((mt_fe q80) (nI i80).toNatClampNeg) + (1 : Int32)) else (10 : Int32))))))) else (q80)
def s_X2_keep (w : Nat) (b : Nat) (n : Nat) (T : mt_T) (x1 : Int32) : mt_T := if ((mt_to T) x1.toNatClampNeg) = (0 : Int32) then (T) else (if ((mt_to (ms_to T (upd (mt_to T) x1.toNatClampNeg (((mt_to T) x1.toNatClampNeg) - (1 : Int32))))) x1.toNatClampNeg) = (0 : Int32) then ((ms_to T (upd (mt_to T) x1.toNatClampNeg (((mt_to T) x1.toNatClampNeg) - (1 : Int32))))) else ((lpf (f_X2_keep_80 w b n T x1) n 0 ((ms_to T (upd (mt_to T) x1.toNatClampNeg (((mt_to T) x1.toNatClampNeg) - (1 : Int32))))))))
abbrev rm_X2_keep : Room := { frames := 1, cells := 0, slots := 0, locals := 21 }
set_option maxHeartbeats 4000000 in
set_option maxRecDepth 100000 in
theorem k_X2_keep (l : Launch) (D : va_G) (cI cZ cL : ClassId) (a : Nat → Nat) (w : Nat) (b : Nat) (n : Nat) (T : mt_T) (hd5 : w ≤ 5) (hd4 : b ≤ 4) (hd30 : n ≤ 30) (x1 : Int32) (hp1 : vp_in x1 4) : MX l yX2_keep wsX2_keep rm_X2_keep D cI cZ cL [.ref (a 0), .int x1] (wt_m a cI w b n T) none (wt_m a cI w b n (s_X2_keep w b n T x1)) := by
  refine MX.of (own := RX2) (cc := cX2_keep) (maxL := 5) (ret := none) (lv0 := [(0, .ref (a 0)), (1, .int x1)]) (by decide) rfl rfl (Nat.le_of_ble_eq_true rfl) rfl ?_
  intro p e s m args below meth c A hc hnm hw ls hl
  obtain ⟨hx, hb, hr, hml, hown, hts, hlk, hK, hA⟩ := id hc
  have hiX2 : ∀ w ∈ u_ws RX2 TX2 13, w ∈ wsX2_keep := fun _ h => List.mem_cons_of_mem _ (List.mem_append_right _ h)
  refine lv_aload_n hx hb dX2_keep_0 rfl (lv_at hl 0 rfl) ?_
  refine g_get (v := .ref (a 9)) hc hw hiX2 0 9 (wo_X2_T ..) rfl (by decide) (List.mem_of_getElem? (i := 1) rfl) (wv_X2_T_9 ..) dX2_keep_1 ?_
  refine lv_iload_n hx hb dX2_keep_4 rfl (lv_at hl 1 rfl) ?_
  refine g_iald (f := (mt_to T)) hc hw 4 (wr_X2_T_9 ..) hp1 dX2_keep_5 ?_
  refine lv_if_ne (tgt := 10) hx hb dX2_keep_6 (by decide) (fun c1 => ?_) (fun c1 => ?_)
  · refine lv_aload_n hx hb dX2_keep_10 rfl (lv_at hl 0 rfl) ?_
    refine g_get (v := .ref (a 9)) hc hw hiX2 0 9 (wo_X2_T ..) rfl (by decide) (List.mem_of_getElem? (i := 1) rfl) (wv_X2_T_9 ..) dX2_keep_11 ?_
    refine lv_iload_n hx hb dX2_keep_14 rfl (lv_at hl 1 rfl) ?_
    refine lv_dup2_11 hx hb dX2_keep_15 rfl rfl ?_
    refine g_iald (f := (mt_to T)) hc hw 4 (wr_X2_T_9 ..) hp1 dX2_keep_16 ?_
    refine lv_iconst (v := 1) hx hb dX2_keep_17 (by decide) ?_
    refine lv_isub hx hb dX2_keep_18 ?_
    refine g_iast (f := (mt_to T)) hc hw 4 (wr_X2_T_9 ..) hp1 (w' := (wt_m a cI w b n (ms_to T (upd (mt_to T) x1.toNatClampNeg (((mt_to T) x1.toNatClampNeg) - (1 : Int32)))))) (wu_X2_T_9 ..) dX2_keep_19 (fun H locs hw => ?_)
    refine lv_aload_n hx hb dX2_keep_20 rfl (lv_at hl 0 rfl) ?_
    refine g_get (v := .ref (a 9)) hc hw hiX2 0 9 (wo_X2_T ..) rfl (by decide) (List.mem_of_getElem? (i := 1) rfl) (wv_X2_T_9 ..) dX2_keep_21 ?_
    refine lv_iload_n hx hb dX2_keep_24 rfl (lv_at hl 1 rfl) ?_
    refine g_iald (f := (mt_to (ms_to T (upd (mt_to T) x1.toNatClampNeg (((mt_to T) x1.toNatClampNeg) - (1 : Int32)))))) hc hw 4 (wr_X2_T_9 ..) hp1 dX2_keep_25 ?_
    refine lv_if_ne (tgt := 30) hx hb dX2_keep_26 (by decide) (fun c2 => ?_) (fun c2 => ?_)
    · refine lv_iconst (v := 0) hx hb dX2_keep_30 (by decide) ?_
      refine lv_istore_n (lv' := [(2, .int (0 : Int32)), (0, .ref (a 0)), (1, .int x1)]) hx hb dX2_keep_31 rfl hl (by decide) rfl (fun ls hl => ?_)
      refine lv_iconst (v := 0) hx hb dX2_keep_32 (by decide) ?_
      refine lv_istore_n (lv' := [(3, .int (0 : Int32)), (2, .int (0 : Int32)), (0, .ref (a 0)), (1, .int x1)]) hx hb dX2_keep_33 rfl hl (by decide) rfl (fun ls hl => ?_)
      refine lp_go (fun (i34 : Nat) (q34 : Int32) => ∀ (H : Heap) (locs : List Loc) (ls : Array Slot), Wo D A s.heap (wt_m a cI w b n (ms_to T (upd (mt_to T) x1.toNatClampNeg (((mt_to T) x1.toNatClampNeg) - (1 : Int32))))) H locs → lv_has ls 5 [(0, .ref (a 0)), (1, .int x1), (2, .int q34), (3, .int (nI i34))] → W p l e rm_X2_keep s m args below meth c H locs 0 0 (QE below args s D A none (wt_m a cI w b n (s_X2_keep w b n T x1)) rm_X2_keep) (F0 m 34 ls [])) (f_X2_keep_34 w b n T x1) n ((0 : Int32)) ?_ ?_ H locs ls hw (lv_sub hl [2, 3, 1, 0] rfl)
      · intro i34 q34 hi34 k34 H locs ls hw hl
        refine lv_iload_n hx hb dX2_keep_34 rfl (lv_at hl 3 rfl) ?_
        refine lv_aload_n hx hb dX2_keep_35 rfl (lv_at hl 0 rfl) ?_
        refine g_get (v := .int (nI n)) hc hw hiX2 0 3 (wo_X2_T ..) rfl (by decide) (List.mem_of_getElem? (i := 2) rfl) (wv_X2_T_3 ..) dX2_keep_36 ?_
        refine lv_icmp_ge (tgt := 78) hx hb dX2_keep_39 (by decide) (fun z => absurd z (nI_ge hi34 (by omega))) (fun _ => ?_)
        refine lv_iload_n hx hb dX2_keep_42 rfl (lv_at hl 2 rfl) ?_
        refine lv_aload_n hx hb dX2_keep_43 rfl (lv_at hl 0 rfl) ?_
        refine g_get (v := .ref (a 11)) hc hw hiX2 0 11 (wo_X2_T ..) rfl (by decide) (List.mem_of_getElem? (i := 3) rfl) (wv_X2_T_11 ..) dX2_keep_44 ?_
        refine lv_iload_n hx hb dX2_keep_47 rfl (lv_at hl 3 rfl) ?_
        refine g_iald (f := (mt_wh (ms_to T (upd (mt_to T) x1.toNatClampNeg (((mt_to T) x1.toNatClampNeg) - (1 : Int32)))))) hc hw 6 (wr_X2_T_11 ..) (vp_in_nI (show i34 < 30 by omega) (by omega)) dX2_keep_48 ?_
        refine lv_bipush (v := 10) hx hb dX2_keep_49 (by decide) ?_
        refine lv_iload_n hx hb dX2_keep_51 rfl (lv_at hl 1 rfl) ?_
        refine lv_iadd hx hb dX2_keep_52 ?_
        refine lv_icmp_ne (tgt := 69) hx hb dX2_keep_53 (by decide) (fun c3 => ?_) (fun c3 => ?_)
        · refine lv_iconst (v := 0) hx hb dX2_keep_69 (by decide) ?_
          refine lv_iadd hx hb dX2_keep_70 ?_
          refine lv_istore_n (lv' := [(2, .int (q34 + (0 : Int32))), (0, .ref (a 0)), (1, .int x1), (3, .int (nI i34))]) hx hb dX2_keep_71 rfl hl (by decide) rfl (fun ls hl => ?_)
          refine lv_iinc (v := (nI (i34 + 1))) (lv' := [(3, .int (nI (i34 + 1))), (2, .int (q34 + (0 : Int32))), (0, .ref (a 0)), (1, .int x1)]) hx hb dX2_keep_72 hl (k := 3) rfl (inc_n i34) (by decide) rfl (fun ls hl => ?_)
          refine lv_goto (tgt := 34) hx hb dX2_keep_75 (by decide) ?_
          rw [show (f_X2_keep_34 w b n T x1) i34 q34 = ((q34 + (0 : Int32))) from by rw [f_X2_keep_34, if_neg c3]] at k34
          exact k34 H locs ls hw (lv_sub hl [2, 3, 1, 0] rfl)
        · refine lv_aload_n hx hb dX2_keep_56 rfl (lv_at hl 0 rfl) ?_
          refine g_get (v := .ref (a 10)) hc hw hiX2 0 10 (wo_X2_T ..) rfl (by decide) (List.mem_of_getElem? (i := 4) rfl) (wv_X2_T_10 ..) dX2_keep_57 ?_
          refine lv_iload_n hx hb dX2_keep_60 rfl (lv_at hl 3 rfl) ?_
          refine g_iald (f := (mt_fe (ms_to T (upd (mt_to T) x1.toNatClampNeg (((mt_to T) x1.toNatClampNeg) - (1 : Int32)))))) hc hw 5 (wr_X2_T_10 ..) (vp_in_nI (show i34 < 30 by omega) (by omega)) dX2_keep_61 ?_
          refine lv_if_le (tgt := 69) hx hb dX2_keep_62 (by decide) (fun c4 => ?_) (fun c4 => ?_)
          · refine lv_iconst (v := 0) hx hb dX2_keep_69 (by decide) ?_
            refine lv_iadd hx hb dX2_keep_70 ?_
            refine lv_istore_n (lv' := [(2, .int (q34 + (0 : Int32))), (0, .ref (a 0)), (1, .int x1), (3, .int (nI i34))]) hx hb dX2_keep_71 rfl hl (by decide) rfl (fun ls hl => ?_)
            refine lv_iinc (v := (nI (i34 + 1))) (lv' := [(3, .int (nI (i34 + 1))), (2, .int (q34 + (0 : Int32))), (0, .ref (a 0)), (1, .int x1)]) hx hb dX2_keep_72 hl (k := 3) rfl (inc_n i34) (by decide) rfl (fun ls hl => ?_)
            refine lv_goto (tgt := 34) hx hb dX2_keep_75 (by decide) ?_
            rw [show (f_X2_keep_34 w b n T x1) i34 q34 = ((q34 + (0 : Int32))) from by rw [f_X2_keep_34, if_pos c3, if_pos c4]] at k34
            exact k34 H locs ls hw (lv_sub hl [2, 3, 1, 0] rfl)
          · refine lv_iconst (v := 1) hx hb dX2_keep_65 (by decide) ?_
            refine lv_goto (tgt := 70) hx hb dX2_keep_66 (by decide) ?_
            refine lv_iadd hx hb dX2_keep_70 ?_
            refine lv_istore_n (lv' := [(2, .int (q34 + (1 : Int32))), (0, .ref (a 0)), (1, .int x1), (3, .int (nI i34))]) hx hb dX2_keep_71 rfl hl (by decide) rfl (fun ls hl => ?_)
            refine lv_iinc (v := (nI (i34 + 1))) (lv' := [(3, .int (nI (i34 + 1))), (2, .int (q34 + (1 : Int32))), (0, .ref (a 0)), (1, .int x1)]) hx hb dX2_keep_72 hl (k := 3) rfl (inc_n i34) (by decide) rfl (fun ls hl => ?_)
            refine lv_goto (tgt := 34) hx hb dX2_keep_75 (by decide) ?_
            rw [show (f_X2_keep_34 w b n T x1) i34 q34 = ((q34 + (1 : Int32))) from by rw [f_X2_keep_34, if_pos c3, if_neg c4]] at k34
            exact k34 H locs ls hw (lv_sub hl [2, 3, 1, 0] rfl)
      · intro H locs ls hw hl
        refine lv_iload_n hx hb dX2_keep_34 rfl (lv_at hl 3 rfl) ?_
        refine lv_aload_n hx hb dX2_keep_35 rfl (lv_at hl 0 rfl) ?_
        refine g_get (v := .int (nI n)) hc hw hiX2 0 3 (wo_X2_T ..) rfl (by decide) (List.mem_of_getElem? (i := 2) rfl) (wv_X2_T_3 ..) dX2_keep_36 ?_
        refine lv_icmp_ge (tgt := 78) hx hb dX2_keep_39 (by decide) (fun _ => ?_) (fun z => absurd (nI_le (Nat.le_refl _) (by omega)) z)
        refine lv_iconst (v := 0) hx hb dX2_keep_78 (by decide) ?_
        refine lv_istore_n (lv' := [(3, .int (0 : Int32)), (0, .ref (a 0)), (1, .int x1), (2, .int (lpf (f_X2_keep_34 w b n T x1) n 0 ((0 : Int32))))]) hx hb dX2_keep_79 rfl hl (by decide) rfl (fun ls hl => ?_)
        refine lp_go (fun (i80 : Nat) (q80 : mt_T) => ∀ (H : Heap) (locs : List Loc) (ls : Array Slot), Wo D A s.heap (wt_m a cI w b n q80) H locs → lv_has ls 5 [(0, .ref (a 0)), (1, .int x1), (2, .int (lpf (f_X2_keep_34 w b n T x1) n 0 ((0 : Int32)))), (3, .int (nI i80))] → W p l e rm_X2_keep s m args below meth c H locs 0 0 (QE below args s D A none (wt_m a cI w b n (s_X2_keep w b n T x1)) rm_X2_keep) (F0 m 80 ls [])) (f_X2_keep_80 w b n T x1) n ((ms_to T (upd (mt_to T) x1.toNatClampNeg (((mt_to T) x1.toNatClampNeg) - (1 : Int32))))) ?_ ?_ H locs ls hw (lv_sub hl [1, 2, 3, 0] rfl)
        · intro i80 q80 hi80 k80 H locs ls hw hl
          refine lv_iload_n hx hb dX2_keep_80 rfl (lv_at hl 3 rfl) ?_
          refine lv_aload_n hx hb dX2_keep_81 rfl (lv_at hl 0 rfl) ?_
          refine g_get (v := .int (nI n)) hc hw hiX2 0 3 (wo_X2_T ..) rfl (by decide) (List.mem_of_getElem? (i := 2) rfl) (wv_X2_T_3 ..) dX2_keep_82 ?_
          refine lv_icmp_ge (tgt := 160) hx hb dX2_keep_85 (by decide) (fun z => absurd z (nI_ge hi80 (by omega))) (fun _ => ?_)
          refine lv_aload_n hx hb dX2_keep_88 rfl (lv_at hl 0 rfl) ?_
          refine g_get (v := .ref (a 11)) hc hw hiX2 0 11 (wo_X2_T ..) rfl (by decide) (List.mem_of_getElem? (i := 3) rfl) (wv_X2_T_11 ..) dX2_keep_89 ?_
          refine lv_iload_n hx hb dX2_keep_92 rfl (lv_at hl 3 rfl) ?_
          refine g_iald (f := (mt_wh q80)) hc hw 6 (wr_X2_T_11 ..) (vp_in_nI (show i80 < 30 by omega) (by omega)) dX2_keep_93 ?_
          refine lv_bipush (v := 10) hx hb dX2_keep_94 (by decide) ?_
          refine lv_iload_n hx hb dX2_keep_96 rfl (lv_at hl 1 rfl) ?_
          refine lv_iadd hx hb dX2_keep_97 ?_
          refine lv_icmp_eq (tgt := 104) hx hb dX2_keep_98 (by decide) (fun c5 => ?_) (fun c5 => ?_)
          · refine lv_iload_n hx hb dX2_keep_104 rfl (lv_at hl 2 rfl) ?_
            refine lv_aload_n hx hb dX2_keep_105 rfl (lv_at hl 0 rfl) ?_
            refine g_get (v := .ref (a 10)) hc hw hiX2 0 10 (wo_X2_T ..) rfl (by decide) (List.mem_of_getElem? (i := 4) rfl) (wv_X2_T_10 ..) dX2_keep_106 ?_
            refine lv_iload_n hx hb dX2_keep_109 rfl (lv_at hl 3 rfl) ?_
            refine g_iald (f := (mt_fe q80)) hc hw 5 (wr_X2_T_10 ..) (vp_in_nI (show i80 < 30 by omega) (by omega)) dX2_keep_110 ?_
            refine lv_if_le (tgt := 118) hx hb dX2_keep_111 (by decide) (fun c6 => ?_) (fun c6 => ?_)
            · refine lv_iconst (v := 0) hx hb dX2_keep_118 (by decide) ?_
              refine lv_isub hx hb dX2_keep_119 ?_
              refine lv_if_le (tgt := 127) hx hb dX2_keep_120 (by decide) (fun c7 => ?_) (fun c7 => ?_)
              · refine lv_iconst (v := 0) hx hb dX2_keep_127 (by decide) ?_
                refine lv_istore (lv' := [(4, .int (0 : Int32)), (0, .ref (a 0)), (1, .int x1), (2, .int (lpf (f_X2_keep_34 w b n T x1) n 0 ((0 : Int32)))), (3, .int (nI i80))]) hx hb dX2_keep_128 hl (by decide) rfl (fun ls hl => ?_)
                refine lv_iload hx hb dX2_keep_130 (lv_at hl 0 rfl) ?_
                refine lv_if_eq (tgt := 154) hx hb dX2_keep_132 (by decide) (fun _ => ?_) (fun z => absurd (by decide) z)
                refine lv_iinc (v := (nI (i80 + 1))) (lv' := [(3, .int (nI (i80 + 1))), (4, .int (0 : Int32)), (0, .ref (a 0)), (1, .int x1), (2, .int (lpf (f_X2_keep_34 w b n T x1) n 0 ((0 : Int32))))]) hx hb dX2_keep_154 hl (k := 4) rfl (inc_n i80) (by decide) rfl (fun ls hl => ?_)
                refine lv_goto (tgt := 80) hx hb dX2_keep_157 (by decide) ?_
                rw [show (f_X2_keep_80 w b n T x1) i80 q80 = (q80) from by rw [f_X2_keep_80, if_pos c5, if_pos c6, if_pos c7]] at k80
                exact k80 H locs ls hw (lv_sub hl [2, 3, 4, 0] rfl)
              · refine lv_iconst (v := 1) hx hb dX2_keep_123 (by decide) ?_
                refine lv_goto (tgt := 128) hx hb dX2_keep_124 (by decide) ?_
                refine lv_istore (lv' := [(4, .int (1 : Int32)), (0, .ref (a 0)), (1, .int x1), (2, .int (lpf (f_X2_keep_34 w b n T x1) n 0 ((0 : Int32)))), (3, .int (nI i80))]) hx hb dX2_keep_128 hl (by decide) rfl (fun ls hl => ?_)
                refine lv_iload hx hb dX2_keep_130 (lv_at hl 0 rfl) ?_
                refine lv_if_eq (tgt := 154) hx hb dX2_keep_132 (by decide) (fun z => absurd z (by decide)) (fun _ => ?_)
                refine lv_aload_n hx hb dX2_keep_135 rfl (lv_at hl 1 rfl) ?_
                refine g_get (v := .ref (a 10)) hc hw hiX2 0 10 (wo_X2_T ..) rfl (by decide) (List.mem_of_getElem? (i := 4) rfl) (wv_X2_T_10 ..) dX2_keep_136 ?_
                refine lv_iload_n hx hb dX2_keep_139 rfl (lv_at hl 4 rfl) ?_
                refine lv_bipush (v := 10) hx hb dX2_keep_140 (by decide) ?_
                refine lv_aload_n hx hb dX2_keep_142 rfl (lv_at hl 1 rfl) ?_
                refine g_get (v := .ref (a 10)) hc hw hiX2 0 10 (wo_X2_T ..) rfl (by decide) (List.mem_of_getElem? (i := 4) rfl) (wv_X2_T_10 ..) dX2_keep_143 ?_
                refine lv_iload_n hx hb dX2_keep_146 rfl (lv_at hl 4 rfl) ?_
                refine g_iald (f := (mt_fe q80)) hc hw 5 (wr_X2_T_10 ..) (vp_in_nI (show i80 < 30 by omega) (by omega)) dX2_keep_147 ?_
                refine lv_iconst (v := 1) hx hb dX2_keep_148 (by decide) ?_
                refine lv_iadd hx hb dX2_keep_149 ?_
                refine g_mmin hc hl.1 (List.mem_of_getElem? (i := 5) rfl) (List.mem_of_getElem? (i := 6) rfl) (List.mem_of_getElem? (i := 7) rfl) (List.mem_of_getElem? (i := 8) rfl) (Nat.le_of_ble_eq_true rfl) (Nat.le_of_ble_eq_true rfl) (Nat.le_of_ble_eq_true rfl) (Nat.le_of_ble_eq_true rfl) dX2_keep_150 ?_
                refine g_iast (f := (mt_fe q80)) hc hw 5 (wr_X2_T_10 ..) (vp_in_nI (show i80 < 30 by omega) (by omega)) (w' := (wt_m a cI w b n (ms_fe q80 (upd (mt_fe q80) (nI i80).toNatClampNeg (if (((mt_fe q80) (nI i80).toNatClampNeg) + (1 : Int32)) < (10 : Int32) then (((mt_fe q80) (nI i80).toNatClampNeg) + (1 : Int32)) else (10 : Int32)))))) (wu_X2_T_10 ..) dX2_keep_153 (fun H locs hw => ?_)
                refine lv_iinc (v := (nI (i80 + 1))) (lv' := [(3, .int (nI (i80 + 1))), (4, .int (1 : Int32)), (0, .ref (a 0)), (1, .int x1), (2, .int (lpf (f_X2_keep_34 w b n T x1) n 0 ((0 : Int32))))]) hx hb dX2_keep_154 hl (k := 4) rfl (inc_n i80) (by decide) rfl (fun ls hl => ?_)
                refine lv_goto (tgt := 80) hx hb dX2_keep_157 (by decide) ?_
                rw [show (f_X2_keep_80 w b n T x1) i80 q80 = ((ms_fe q80 (upd (mt_fe q80) (nI i80).toNatClampNeg (if (((mt_fe q80) (nI i80).toNatClampNeg) + (1 : Int32)) < (10 : Int32) then (((mt_fe q80) (nI i80).toNatClampNeg) + (1 : Int32)) else (10 : Int32))))) from by rw [f_X2_keep_80, if_pos c5, if_pos c6, if_neg c7]] at k80
                exact k80 H locs ls hw (lv_sub hl [2, 3, 4, 0] rfl)
            · refine lv_iconst (v := 1) hx hb dX2_keep_114 (by decide) ?_
              refine lv_goto (tgt := 119) hx hb dX2_keep_115 (by decide) ?_
              refine lv_isub hx hb dX2_keep_119 ?_
              refine lv_if_le (tgt := 127) hx hb dX2_keep_120 (by decide) (fun c8 => ?_) (fun c8 => ?_)
              · refine lv_iconst (v := 0) hx hb dX2_keep_127 (by decide) ?_
                refine lv_istore (lv' := [(4, .int (0 : Int32)), (0, .ref (a 0)), (1, .int x1), (2, .int (lpf (f_X2_keep_34 w b n T x1) n 0 ((0 : Int32)))), (3, .int (nI i80))]) hx hb dX2_keep_128 hl (by decide) rfl (fun ls hl => ?_)
                refine lv_iload hx hb dX2_keep_130 (lv_at hl 0 rfl) ?_
                refine lv_if_eq (tgt := 154) hx hb dX2_keep_132 (by decide) (fun _ => ?_) (fun z => absurd (by decide) z)
                refine lv_iinc (v := (nI (i80 + 1))) (lv' := [(3, .int (nI (i80 + 1))), (4, .int (0 : Int32)), (0, .ref (a 0)), (1, .int x1), (2, .int (lpf (f_X2_keep_34 w b n T x1) n 0 ((0 : Int32))))]) hx hb dX2_keep_154 hl (k := 4) rfl (inc_n i80) (by decide) rfl (fun ls hl => ?_)
                refine lv_goto (tgt := 80) hx hb dX2_keep_157 (by decide) ?_
                rw [show (f_X2_keep_80 w b n T x1) i80 q80 = (q80) from by rw [f_X2_keep_80, if_pos c5, if_neg c6, if_pos c8]] at k80
                exact k80 H locs ls hw (lv_sub hl [2, 3, 4, 0] rfl)
              · refine lv_iconst (v := 1) hx hb dX2_keep_123 (by decide) ?_
                refine lv_goto (tgt := 128) hx hb dX2_keep_124 (by decide) ?_
                refine lv_istore (lv' := [(4, .int (1 : Int32)), (0, .ref (a 0)), (1, .int x1), (2, .int (lpf (f_X2_keep_34 w b n T x1) n 0 ((0 : Int32)))), (3, .int (nI i80))]) hx hb dX2_keep_128 hl (by decide) rfl (fun ls hl => ?_)
                refine lv_iload hx hb dX2_keep_130 (lv_at hl 0 rfl) ?_
                refine lv_if_eq (tgt := 154) hx hb dX2_keep_132 (by decide) (fun z => absurd z (by decide)) (fun _ => ?_)
                refine lv_aload_n hx hb dX2_keep_135 rfl (lv_at hl 1 rfl) ?_
                refine g_get (v := .ref (a 10)) hc hw hiX2 0 10 (wo_X2_T ..) rfl (by decide) (List.mem_of_getElem? (i := 4) rfl) (wv_X2_T_10 ..) dX2_keep_136 ?_
                refine lv_iload_n hx hb dX2_keep_139 rfl (lv_at hl 4 rfl) ?_
                refine lv_bipush (v := 10) hx hb dX2_keep_140 (by decide) ?_
                refine lv_aload_n hx hb dX2_keep_142 rfl (lv_at hl 1 rfl) ?_
                refine g_get (v := .ref (a 10)) hc hw hiX2 0 10 (wo_X2_T ..) rfl (by decide) (List.mem_of_getElem? (i := 4) rfl) (wv_X2_T_10 ..) dX2_keep_143 ?_
                refine lv_iload_n hx hb dX2_keep_146 rfl (lv_at hl 4 rfl) ?_
                refine g_iald (f := (mt_fe q80)) hc hw 5 (wr_X2_T_10 ..) (vp_in_nI (show i80 < 30 by omega) (by omega)) dX2_keep_147 ?_
                refine lv_iconst (v := 1) hx hb dX2_keep_148 (by decide) ?_
                refine lv_iadd hx hb dX2_keep_149 ?_
                refine g_mmin hc hl.1 (List.mem_of_getElem? (i := 5) rfl) (List.mem_of_getElem? (i := 6) rfl) (List.mem_of_getElem? (i := 7) rfl) (List.mem_of_getElem? (i := 8) rfl) (Nat.le_of_ble_eq_true rfl) (Nat.le_of_ble_eq_true rfl) (Nat.le_of_ble_eq_true rfl) (Nat.le_of_ble_eq_true rfl) dX2_keep_150 ?_
                refine g_iast (f := (mt_fe q80)) hc hw 5 (wr_X2_T_10 ..) (vp_in_nI (show i80 < 30 by omega) (by omega)) (w' := (wt_m a cI w b n (ms_fe q80 (upd (mt_fe q80) (nI i80).toNatClampNeg (if (((mt_fe q80) (nI i80).toNatClampNeg) + (1 : Int32)) < (10 : Int32) then (((mt_fe q80) (nI i80).toNatClampNeg) + (1 : Int32)) else (10 : Int32)))))) (wu_X2_T_10 ..) dX2_keep_153 (fun H locs hw => ?_)
                refine lv_iinc (v := (nI (i80 + 1))) (lv' := [(3, .int (nI (i80 + 1))), (4, .int (1 : Int32)), (0, .ref (a 0)), (1, .int x1), (2, .int (lpf (f_X2_keep_34 w b n T x1) n 0 ((0 : Int32))))]) hx hb dX2_keep_154 hl (k := 4) rfl (inc_n i80) (by decide) rfl (fun ls hl => ?_)
                refine lv_goto (tgt := 80) hx hb dX2_keep_157 (by decide) ?_
                rw [show (f_X2_keep_80 w b n T x1) i80 q80 = ((ms_fe q80 (upd (mt_fe q80) (nI i80).toNatClampNeg (if (((mt_fe q80) (nI i80).toNatClampNeg) + (1 : Int32)) < (10 : Int32) then (((mt_fe q80) (nI i80).toNatClampNeg) + (1 : Int32)) else (10 : Int32))))) from by rw [f_X2_keep_80, if_pos c5, if_neg c6, if_neg c8]] at k80
                exact k80 H locs ls hw (lv_sub hl [2, 3, 4, 0] rfl)
          · refine lv_goto (tgt := 154) hx hb dX2_keep_101 (by decide) ?_
            refine lv_iinc (v := (nI (i80 + 1))) (lv' := [(3, .int (nI (i80 + 1))), (0, .ref (a 0)), (1, .int x1), (2, .int (lpf (f_X2_keep_34 w b n T x1) n 0 ((0 : Int32))))]) hx hb dX2_keep_154 hl (k := 3) rfl (inc_n i80) (by decide) rfl (fun ls hl => ?_)
            refine lv_goto (tgt := 80) hx hb dX2_keep_157 (by decide) ?_
            rw [show (f_X2_keep_80 w b n T x1) i80 q80 = (q80) from by rw [f_X2_keep_80, if_neg c5]] at k80
            exact k80 H locs ls hw (lv_sub hl [1, 2, 3, 0] rfl)
        · intro H locs ls hw hl
          refine lv_iload_n hx hb dX2_keep_80 rfl (lv_at hl 3 rfl) ?_
          refine lv_aload_n hx hb dX2_keep_81 rfl (lv_at hl 0 rfl) ?_
          refine g_get (v := .int (nI n)) hc hw hiX2 0 3 (wo_X2_T ..) rfl (by decide) (List.mem_of_getElem? (i := 2) rfl) (wv_X2_T_3 ..) dX2_keep_82 ?_
          refine lv_icmp_ge (tgt := 160) hx hb dX2_keep_85 (by decide) (fun _ => ?_) (fun z => absurd (nI_le (Nat.le_refl _) (by omega)) z)
          rw [show s_X2_keep w b n T x1 = (lpf (f_X2_keep_80 w b n T x1) n 0 ((ms_to T (upd (mt_to T) x1.toNatClampNeg (((mt_to T) x1.toNatClampNeg) - (1 : Int32)))))) from by rw [s_X2_keep, if_neg c1, if_neg c2]]
          exact g_vret hc hw rfl (Nat.le_of_ble_eq_true rfl) (Nat.le_of_ble_eq_true rfl) dX2_keep_160
    · rw [show s_X2_keep w b n T x1 = (ms_to T (upd (mt_to T) x1.toNatClampNeg (((mt_to T) x1.toNatClampNeg) - (1 : Int32)))) from by rw [s_X2_keep, if_neg c1, if_pos c2]]
      exact g_vret hc hw rfl (Nat.le_of_ble_eq_true rfl) (Nat.le_of_ble_eq_true rfl) dX2_keep_29
  · rw [show s_X2_keep w b n T x1 = T from by rw [s_X2_keep, if_pos c1]]
    exact g_vret hc hw rfl (Nat.le_of_ble_eq_true rfl) (Nat.le_of_ble_eq_true rfl) dX2_keep_9
