def r_X3_board (th : Int32) (w : Nat) (b : Nat) (n : Nat) (T : mt_T) (w2 : Nat) (b2 : Nat) (n2 : Nat) (T2 : mt_T) (x1 : Int32) (x2 : Int32) : Int32 := if (r_X3_isBarge (0 : Int32) w b n T w2 b2 n2 T2 x1) = (0 : Int32) then ((r_X3_no (0 : Int32) w b n T w2 b2 n2 T2 (1 : Int32))) else (if (r_X3_isIn x2 (0 : Int32) (9 : Int32)) = (0 : Int32) then ((r_X3_no (0 : Int32) w b n T w2 b2 n2 T2 (2 : Int32))) else (if (nI n) = (30 : Int32) then ((r_X3_no (0 : Int32) w b n T w2 b2 n2 T2 (3 : Int32))) else (if ((mt_to (ms_wh (ms_fe T (upd (mt_fe T) (nI n).toNatClampNeg x2)) (upd (mt_wh (ms_fe T (upd (mt_fe T) (nI n).toNatClampNeg x2))) (nI n).toNatClampNeg ((10 : Int32) + x1)))) x1.toNatClampNeg) = (0 : Int32) then (((nI (n + 1)) - (1 : Int32))) else (((nI (n + 1)) - (1 : Int32))))))
def t_X3_board (th : Int32) (w : Nat) (b : Nat) (n : Nat) (T : mt_T) (w2 : Nat) (b2 : Nat) (n2 : Nat) (T2 : mt_T) (x1 : Int32) (x2 : Int32) : Int32 := if (r_X3_isBarge (0 : Int32) w b n T w2 b2 n2 T2 x1) = (0 : Int32) then ((t_X3_no (0 : Int32) w b n T w2 b2 n2 T2 (1 : Int32))) else (if (r_X3_isIn x2 (0 : Int32) (9 : Int32)) = (0 : Int32) then ((t_X3_no (0 : Int32) w b n T w2 b2 n2 T2 (2 : Int32))) else (if (nI n) = (30 : Int32) then ((t_X3_no (0 : Int32) w b n T w2 b2 n2 T2 (3 : Int32))) else (if ((mt_to (ms_wh (ms_fe T (upd (mt_fe T) (nI n).toNatClampNeg x2)) (upd (mt_wh (ms_fe T (upd (mt_fe T) (nI n).toNatClampNeg x2))) (nI n).toNatClampNeg ((10 : Int32) + x1)))) x1.toNatClampNeg) = (0 : Int32) then ((0 : Int32)) else ((0 : Int32)))))
def s_X3_board (th : Int32) (w : Nat) (b : Nat) (n : Nat) (T : mt_T) (w2 : Nat) (b2 : Nat) (n2 : Nat) (T2 : mt_T) (x1 : Int32) (x2 : Int32) : mt_T := if (r_X3_isBarge (0 : Int32) w b n T w2 b2 n2 T2 x1) = (0 : Int32) then (T) else (if (r_X3_isIn x2 (0 : Int32) (9 : Int32)) = (0 : Int32) then (T) else (if (nI n) = (30 : Int32) then (T) else (if ((mt_to (ms_wh (ms_fe T (upd (mt_fe T) (nI n).toNatClampNeg x2)) (upd (mt_wh (ms_fe T (upd (mt_fe T) (nI n).toNatClampNeg x2))) (nI n).toNatClampNeg ((10 : Int32) + x1)))) x1.toNatClampNeg) = (0 : Int32) then ((ms_to (ms_wh (ms_fe T (upd (mt_fe T) (nI n).toNatClampNeg x2)) (upd (mt_wh (ms_fe T (upd (mt_fe T) (nI n).toNatClampNeg x2))) (nI n).toNatClampNeg ((10 : Int32) + x1))) (upd (mt_to (ms_wh (ms_fe T (upd (mt_fe T) (nI n).toNatClampNeg x2)) (upd (mt_wh (ms_fe T (upd (mt_fe T) (nI n).toNatClampNeg x2))) (nI n).toNatClampNeg ((10 : Int32) + x1)))) x1.toNatClampNeg ((mt_ke (ms_wh (ms_fe T (upd (mt_fe T) (nI n).toNatClampNeg x2)) (upd (mt_wh (ms_fe T (upd (mt_fe T) (nI n).toNatClampNeg x2))) (nI n).toNatClampNeg ((10 : Int32) + x1)))) x1.toNatClampNeg)))) else ((ms_wh (ms_fe T (upd (mt_fe T) (nI n).toNatClampNeg x2)) (upd (mt_wh (ms_fe T (upd (mt_fe T) (nI n).toNatClampNeg x2))) (nI n).toNatClampNeg ((10 : Int32) + x1)))))))
def nn_X3_board (th : Int32) (w : Nat) (b : Nat) (n : Nat) (T : mt_T) (w2 : Nat) (b2 : Nat) (n2 : Nat) (T2 : mt_T) (x1 : Int32) (x2 : Int32) : Nat := if (r_X3_isBarge (0 : Int32) w b n T w2 b2 n2 T2 x1) = (0 : Int32) then (n) else (if (r_X3_isIn x2 (0 : Int32) (9 : Int32)) = (0 : Int32) then (n) else (if (nI n) = (30 : Int32) then (n) else (if ((mt_to (ms_wh (ms_fe T (upd (mt_fe T) (nI n).toNatClampNeg x2)) (upd (mt_wh (ms_fe T (upd (mt_fe T) (nI n).toNatClampNeg x2))) (nI n).toNatClampNeg ((10 : Int32) + x1)))) x1.toNatClampNeg) = (0 : Int32) then ((n + 1)) else ((n + 1)))))
abbrev rm_X3_board : Room := { frames := 2, cells := 0, slots := 0, locals := 43 }
set_option maxHeartbeats 4000000 in
set_option maxRecDepth 100000 in
theorem k_X3_board (l : Launch) (D : va_G) (cI cZ cL : ClassId) (h : Nat) (a a2 : Nat → Nat) (th : Int32) (w : Nat) (b : Nat) (n : Nat) (T : mt_T) (w2 : Nat) (b2 : Nat) (n2 : Nat) (T2 : mt_T) (hd5 : w ≤ 5) (hd4 : b ≤ 4) (hd30 : n ≤ 30) (he5 : w2 ≤ 5) (he4 : b2 ≤ 4) (he30 : n2 ≤ 30) (x1 : Int32) (x2 : Int32)  : MX l yX3_board wsX3_board rm_X3_board D cI cZ cL [.ref h, .int x1, .int x2] (wb_m h a a2 cI th w b n T w2 b2 n2 T2) (some (.int (r_X3_board th w b n T w2 b2 n2 T2 x1 x2))) (wb_m h a a2 cI (t_X3_board th w b n T w2 b2 n2 T2 x1 x2) w b (nn_X3_board th w b n T w2 b2 n2 T2 x1 x2) (s_X3_board th w b n T w2 b2 n2 T2 x1 x2) w2 b2 n2 T2) := by
  refine MX.of (own := RX3) (cc := cX3_board) (maxL := 3) (ret := (some .int)) (lv0 := [(0, .ref h), (1, .int x1), (2, .int x2)]) (by decide) rfl rfl (Nat.le_of_ble_eq_true rfl) rfl ?_
  intro p e s m args below meth c A hc hnm hw ls hl
  obtain ⟨hx, hb, hr, hml, hown, hts, hlk, hK, hA⟩ := id hc
  have hiX2 : ∀ w ∈ u_ws RX2 TX2 13, w ∈ wsX3_board := fun _ h => List.mem_cons_of_mem _ (List.mem_append_right _ h)
  have hiX3 : ∀ w ∈ u_ws RX3 TX3 3, w ∈ wsX3_board := fun _ h => List.mem_cons_of_mem _ (List.mem_append_left _ (List.mem_append_right _ h))
  refine lv_aload_n hx hb dX3_board_0 rfl (lv_at hl 0 rfl) ?_
  refine lv_iconst (v := 0) hx hb dX3_board_1 (by decide) ?_
  refine g_put hc hw hiX3 tyX3 tyX3_ok nmX3 0 0 (wo_X3_H ..) rfl (by decide) (List.mem_of_getElem? (i := 1) rfl) (by decide) rfl rfl (Nat.le_of_ble_eq_true rfl) (w' := (wb_m h a a2 cI (0 : Int32) w b n T w2 b2 n2 T2)) (wp_X3_H_0 ..) dX3_board_2 (fun H locs hw => ?_)
  refine lv_aload_n hx hb dX3_board_5 rfl (lv_at hl 0 rfl) ?_
  refine lv_iload_n hx hb dX3_board_6 rfl (lv_at hl 1 rfl) ?_
  refine g_callV0 (n := 1) hc hw (k_X3_isBarge l D cI cZ cL h a a2 (0 : Int32) w b n T w2 b2 n2 T2 hd5 hd4 hd30 he5 he4 he30 x1) gX3_board_X3_isBarge rfl (by decide +kernel) ⟨Nat.le_of_ble_eq_true rfl, Nat.le_of_ble_eq_true rfl⟩ 0 (wo_X3_H ..) rfl rfl rfl (rest := []) rfl hl.1 (Nat.le_of_ble_eq_true rfl) (st1 := [.int (r_X3_isBarge (0 : Int32) w b n T w2 b2 n2 T2 x1)]) rfl dX3_board_7 (k2 := 0) (s2 := 0) rfl rfl ⟨Nat.le_of_ble_eq_true rfl, Nat.le_of_ble_eq_true rfl⟩ (fun H locs hw => ?_)
  refine lv_if_ne (tgt := 19) hx hb dX3_board_10 (by decide) (fun c1 => ?_) (fun c1 => ?_)
  · refine lv_iload_n hx hb dX3_board_19 rfl (lv_at hl 2 rfl) ?_
    refine lv_iconst (v := 0) hx hb dX3_board_20 (by decide) ?_
    refine lv_bipush (v := 9) hx hb dX3_board_21 (by decide) ?_
    refine g_callS0 (n := 3) hc hw (k_X3_isIn l D cI cZ cL x2 (0 : Int32) (9 : Int32)) gX3_board_X3_isIn rfl (by decide +kernel) ⟨Nat.le_of_ble_eq_true rfl, Nat.le_of_ble_eq_true rfl⟩ rfl (rest := []) rfl hl.1 (Nat.le_of_ble_eq_true rfl) (st1 := [.int (r_X3_isIn x2 (0 : Int32) (9 : Int32))]) rfl dX3_board_23 (k2 := 0) (s2 := 0) rfl rfl ⟨Nat.le_of_ble_eq_true rfl, Nat.le_of_ble_eq_true rfl⟩ (fun H locs hw => ?_)
    refine lv_if_ne (tgt := 35) hx hb dX3_board_26 (by decide) (fun c2 => ?_) (fun c2 => ?_)
    · refine lv_aload_n hx hb dX3_board_35 rfl (lv_at hl 0 rfl) ?_
      refine g_get (v := .ref (a 0)) hc hw hiX3 0 1 (wo_X3_H ..) rfl (by decide) (List.mem_of_getElem? (i := 2) rfl) (wv_X3_H_1 ..) dX3_board_36 ?_
      refine g_getN (v := .int (nI n)) (host := RX3) hc hw hiX2 1 3 (wo_X3_T ..) rfl (by decide) (fun z => z.2 (33, "people", "I") (by decide +kernel)) (wv_X3_T_3 ..) dX3_board_39 ?_
      refine lv_bipush (v := 30) hx hb dX3_board_42 (by decide) ?_
      refine lv_icmp_ne (tgt := 53) hx hb dX3_board_44 (by decide) (fun c3 => ?_) (fun c3 => ?_)
      · refine lv_aload_n hx hb dX3_board_53 rfl (lv_at hl 0 rfl) ?_
        refine g_get (v := .ref (a 0)) hc hw hiX3 0 1 (wo_X3_H ..) rfl (by decide) (List.mem_of_getElem? (i := 2) rfl) (wv_X3_H_1 ..) dX3_board_54 ?_
        refine g_getN (v := .ref (a 10)) (host := RX3) hc hw hiX2 1 10 (wo_X3_T ..) rfl (by decide) (fun z => z.2 (54, "fever", "[I") (by decide +kernel)) (wv_X3_T_10 ..) dX3_board_57 ?_
        refine lv_aload_n hx hb dX3_board_60 rfl (lv_at hl 0 rfl) ?_
        refine g_get (v := .ref (a 0)) hc hw hiX3 0 1 (wo_X3_H ..) rfl (by decide) (List.mem_of_getElem? (i := 2) rfl) (wv_X3_H_1 ..) dX3_board_61 ?_
        refine g_getN (v := .int (nI n)) (host := RX3) hc hw hiX2 1 3 (wo_X3_T ..) rfl (by decide) (fun z => z.2 (33, "people", "I") (by decide +kernel)) (wv_X3_T_3 ..) dX3_board_64 ?_
        refine lv_iload_n hx hb dX3_board_67 rfl (lv_at hl 2 rfl) ?_
        refine g_iast (f := (mt_fe T)) hc hw 6 (wr_X3_T_10 ..) (vp_in_nI (l_ne 30 n c3 hd30) (by omega)) (w' := (wb_m h a a2 cI (0 : Int32) w b n (ms_fe T (upd (mt_fe T) (nI n).toNatClampNeg x2)) w2 b2 n2 T2)) (wu_X3_T_10 ..) dX3_board_68 (fun H locs hw => ?_)
        refine lv_aload_n hx hb dX3_board_69 rfl (lv_at hl 0 rfl) ?_
        refine g_get (v := .ref (a 0)) hc hw hiX3 0 1 (wo_X3_H ..) rfl (by decide) (List.mem_of_getElem? (i := 2) rfl) (wv_X3_H_1 ..) dX3_board_70 ?_
        refine g_getN (v := .ref (a 11)) (host := RX3) hc hw hiX2 1 11 (wo_X3_T ..) rfl (by decide) (fun z => z.2 (57, "where", "[I") (by decide +kernel)) (wv_X3_T_11 ..) dX3_board_73 ?_
        refine lv_aload_n hx hb dX3_board_76 rfl (lv_at hl 0 rfl) ?_
        refine g_get (v := .ref (a 0)) hc hw hiX3 0 1 (wo_X3_H ..) rfl (by decide) (List.mem_of_getElem? (i := 2) rfl) (wv_X3_H_1 ..) dX3_board_77 ?_
        refine g_getN (v := .int (nI n)) (host := RX3) hc hw hiX2 1 3 (wo_X3_T ..) rfl (by decide) (fun z => z.2 (33, "people", "I") (by decide +kernel)) (wv_X3_T_3 ..) dX3_board_80 ?_
        refine lv_bipush (v := 10) hx hb dX3_board_83 (by decide) ?_
        refine lv_iload_n hx hb dX3_board_85 rfl (lv_at hl 1 rfl) ?_
        refine lv_iadd hx hb dX3_board_86 ?_
        refine g_iast (f := (mt_wh (ms_fe T (upd (mt_fe T) (nI n).toNatClampNeg x2)))) hc hw 7 (wr_X3_T_11 ..) (vp_in_nI (l_ne 30 n c3 hd30) (by omega)) (w' := (wb_m h a a2 cI (0 : Int32) w b n (ms_wh (ms_fe T (upd (mt_fe T) (nI n).toNatClampNeg x2)) (upd (mt_wh (ms_fe T (upd (mt_fe T) (nI n).toNatClampNeg x2))) (nI n).toNatClampNeg ((10 : Int32) + x1))) w2 b2 n2 T2)) (wu_X3_T_11 ..) dX3_board_87 (fun H locs hw => ?_)
        refine lv_aload_n hx hb dX3_board_88 rfl (lv_at hl 0 rfl) ?_
        refine g_get (v := .ref (a 0)) hc hw hiX3 0 1 (wo_X3_H ..) rfl (by decide) (List.mem_of_getElem? (i := 2) rfl) (wv_X3_H_1 ..) dX3_board_89 ?_
        refine lv_dup hx hb dX3_board_92 rfl ?_
        refine g_getN (v := .int (nI n)) (host := RX3) hc hw hiX2 1 3 (wo_X3_T ..) rfl (by decide) (fun z => z.2 (33, "people", "I") (by decide +kernel)) (wv_X3_T_3 ..) dX3_board_93 ?_
        refine lv_iconst (v := 1) hx hb dX3_board_96 (by decide) ?_
        refine lv_iadd hx hb dX3_board_97 ?_
        rw [nI_1 n]
        refine g_putN (host := RX3) hc hw hiX2 tyX2 tyX2_ok nmX2 1 3 (wo_X3_T ..) rfl (by decide) (fun z => z.2 (33, "people", "I") (by decide +kernel)) (by decide) rfl rfl (Nat.le_of_ble_eq_true rfl) (w' := (wb_m h a a2 cI (0 : Int32) w b (n + 1) (ms_wh (ms_fe T (upd (mt_fe T) (nI n).toNatClampNeg x2)) (upd (mt_wh (ms_fe T (upd (mt_fe T) (nI n).toNatClampNeg x2))) (nI n).toNatClampNeg ((10 : Int32) + x1))) w2 b2 n2 T2)) (wp_X3_T_3 ..) dX3_board_98 (fun H locs hw => ?_)
        refine lv_aload_n hx hb dX3_board_101 rfl (lv_at hl 0 rfl) ?_
        refine g_get (v := .ref (a 0)) hc hw hiX3 0 1 (wo_X3_H ..) rfl (by decide) (List.mem_of_getElem? (i := 2) rfl) (wv_X3_H_1 ..) dX3_board_102 ?_
        refine g_getN (v := .ref (a 9)) (host := RX3) hc hw hiX2 1 9 (wo_X3_T ..) rfl (by decide) (fun z => z.2 (47, "toGo", "[I") (by decide +kernel)) (wv_X3_T_9 ..) dX3_board_105 ?_
        refine lv_iload_n hx hb dX3_board_108 rfl (lv_at hl 1 rfl) ?_
        refine g_iald (f := (mt_to (ms_wh (ms_fe T (upd (mt_fe T) (nI n).toNatClampNeg x2)) (upd (mt_wh (ms_fe T (upd (mt_fe T) (nI n).toNatClampNeg x2))) (nI n).toNatClampNeg ((10 : Int32) + x1))))) hc hw 5 (wr_X3_T_9 ..) (v_X3_isBarge c1 hd4) dX3_board_109 ?_
        refine lv_if_ne (tgt := 131) hx hb dX3_board_110 (by decide) (fun c4 => ?_) (fun c4 => ?_)
        · refine lv_aload_n hx hb dX3_board_131 rfl (lv_at hl 0 rfl) ?_
          refine g_get (v := .ref (a 0)) hc hw hiX3 0 1 (wo_X3_H ..) rfl (by decide) (List.mem_of_getElem? (i := 2) rfl) (wv_X3_H_1 ..) dX3_board_132 ?_
          refine g_getN (v := .int (nI (n + 1))) (host := RX3) hc hw hiX2 1 3 (wo_X3_T ..) rfl (by decide) (fun z => z.2 (33, "people", "I") (by decide +kernel)) (wv_X3_T_3 ..) dX3_board_135 ?_
          refine lv_iconst (v := 1) hx hb dX3_board_138 (by decide) ?_
          refine lv_isub hx hb dX3_board_139 ?_
          rw [show r_X3_board th w b n T w2 b2 n2 T2 x1 x2 = ((nI (n + 1)) - (1 : Int32)) from by rw [r_X3_board, if_neg c1, if_neg c2, if_neg c3, if_neg c4]]
          rw [show t_X3_board th w b n T w2 b2 n2 T2 x1 x2 = (0 : Int32) from by rw [t_X3_board, if_neg c1, if_neg c2, if_neg c3, if_neg c4]]
          rw [show s_X3_board th w b n T w2 b2 n2 T2 x1 x2 = (ms_wh (ms_fe T (upd (mt_fe T) (nI n).toNatClampNeg x2)) (upd (mt_wh (ms_fe T (upd (mt_fe T) (nI n).toNatClampNeg x2))) (nI n).toNatClampNeg ((10 : Int32) + x1))) from by rw [s_X3_board, if_neg c1, if_neg c2, if_neg c3, if_neg c4]]
          rw [show nn_X3_board th w b n T w2 b2 n2 T2 x1 x2 = (n + 1) from by rw [nn_X3_board, if_neg c1, if_neg c2, if_neg c3, if_neg c4]]
          exact g_ret hc hw rfl (Nat.le_of_ble_eq_true rfl) (Nat.le_of_ble_eq_true rfl) dX3_board_140
        · refine lv_aload_n hx hb dX3_board_113 rfl (lv_at hl 0 rfl) ?_
          refine g_get (v := .ref (a 0)) hc hw hiX3 0 1 (wo_X3_H ..) rfl (by decide) (List.mem_of_getElem? (i := 2) rfl) (wv_X3_H_1 ..) dX3_board_114 ?_
          refine g_getN (v := .ref (a 9)) (host := RX3) hc hw hiX2 1 9 (wo_X3_T ..) rfl (by decide) (fun z => z.2 (47, "toGo", "[I") (by decide +kernel)) (wv_X3_T_9 ..) dX3_board_117 ?_
          refine lv_iload_n hx hb dX3_board_120 rfl (lv_at hl 1 rfl) ?_
          refine lv_aload_n hx hb dX3_board_121 rfl (lv_at hl 0 rfl) ?_
          refine g_get (v := .ref (a 0)) hc hw hiX3 0 1 (wo_X3_H ..) rfl (by decide) (List.mem_of_getElem? (i := 2) rfl) (wv_X3_H_1 ..) dX3_board_122 ?_
          refine g_getN (v := .ref (a 8)) (host := RX3) hc hw hiX2 1 8 (wo_X3_T ..) rfl (by decide) (fun z => z.2 (44, "kept", "[I") (by decide +kernel)) (wv_X3_T_8 ..) dX3_board_125 ?_
          refine lv_iload_n hx hb dX3_board_128 rfl (lv_at hl 1 rfl) ?_
          refine g_iald (f := (mt_ke (ms_wh (ms_fe T (upd (mt_fe T) (nI n).toNatClampNeg x2)) (upd (mt_wh (ms_fe T (upd (mt_fe T) (nI n).toNatClampNeg x2))) (nI n).toNatClampNeg ((10 : Int32) + x1))))) hc hw 4 (wr_X3_T_8 ..) (v_X3_isBarge c1 hd4) dX3_board_129 ?_
          refine g_iast (f := (mt_to (ms_wh (ms_fe T (upd (mt_fe T) (nI n).toNatClampNeg x2)) (upd (mt_wh (ms_fe T (upd (mt_fe T) (nI n).toNatClampNeg x2))) (nI n).toNatClampNeg ((10 : Int32) + x1))))) hc hw 5 (wr_X3_T_9 ..) (v_X3_isBarge c1 hd4) (w' := (wb_m h a a2 cI (0 : Int32) w b (n + 1) (ms_to (ms_wh (ms_fe T (upd (mt_fe T) (nI n).toNatClampNeg x2)) (upd (mt_wh (ms_fe T (upd (mt_fe T) (nI n).toNatClampNeg x2))) (nI n).toNatClampNeg ((10 : Int32) + x1))) (upd (mt_to (ms_wh (ms_fe T (upd (mt_fe T) (nI n).toNatClampNeg x2)) (upd (mt_wh (ms_fe T (upd (mt_fe T) (nI n).toNatClampNeg x2))) (nI n).toNatClampNeg ((10 : Int32) + x1)))) x1.toNatClampNeg ((mt_ke (ms_wh (ms_fe T (upd (mt_fe T) (nI n).toNatClampNeg x2)) (upd (mt_wh (ms_fe T (upd (mt_fe T) (nI n).toNatClampNeg x2))) (nI n).toNatClampNeg ((10 : Int32) + x1)))) x1.toNatClampNeg))) w2 b2 n2 T2)) (wu_X3_T_9 ..) dX3_board_130 (fun H locs hw => ?_)
          refine lv_aload_n hx hb dX3_board_131 rfl (lv_at hl 0 rfl) ?_
          refine g_get (v := .ref (a 0)) hc hw hiX3 0 1 (wo_X3_H ..) rfl (by decide) (List.mem_of_getElem? (i := 2) rfl) (wv_X3_H_1 ..) dX3_board_132 ?_
          refine g_getN (v := .int (nI (n + 1))) (host := RX3) hc hw hiX2 1 3 (wo_X3_T ..) rfl (by decide) (fun z => z.2 (33, "people", "I") (by decide +kernel)) (wv_X3_T_3 ..) dX3_board_135 ?_
          refine lv_iconst (v := 1) hx hb dX3_board_138 (by decide) ?_
          refine lv_isub hx hb dX3_board_139 ?_
          rw [show r_X3_board th w b n T w2 b2 n2 T2 x1 x2 = ((nI (n + 1)) - (1 : Int32)) from by rw [r_X3_board, if_neg c1, if_neg c2, if_neg c3, if_pos c4]]
          rw [show t_X3_board th w b n T w2 b2 n2 T2 x1 x2 = (0 : Int32) from by rw [t_X3_board, if_neg c1, if_neg c2, if_neg c3, if_pos c4]]
          rw [show s_X3_board th w b n T w2 b2 n2 T2 x1 x2 = (ms_to (ms_wh (ms_fe T (upd (mt_fe T) (nI n).toNatClampNeg x2)) (upd (mt_wh (ms_fe T (upd (mt_fe T) (nI n).toNatClampNeg x2))) (nI n).toNatClampNeg ((10 : Int32) + x1))) (upd (mt_to (ms_wh (ms_fe T (upd (mt_fe T) (nI n).toNatClampNeg x2)) (upd (mt_wh (ms_fe T (upd (mt_fe T) (nI n).toNatClampNeg x2))) (nI n).toNatClampNeg ((10 : Int32) + x1)))) x1.toNatClampNeg ((mt_ke (ms_wh (ms_fe T (upd (mt_fe T) (nI n).toNatClampNeg x2)) (upd (mt_wh (ms_fe T (upd (mt_fe T) (nI n).toNatClampNeg x2))) (nI n).toNatClampNeg ((10 : Int32) + x1)))) x1.toNatClampNeg))) from by rw [s_X3_board, if_neg c1, if_neg c2, if_neg c3, if_pos c4]]
          rw [show nn_X3_board th w b n T w2 b2 n2 T2 x1 x2 = (n + 1) from by rw [nn_X3_board, if_neg c1, if_neg c2, if_neg c3, if_pos c4]]
          exact g_ret hc hw rfl (Nat.le_of_ble_eq_true rfl) (Nat.le_of_ble_eq_true rfl) dX3_board_140
      · refine lv_aload_n hx hb dX3_board_47 rfl (lv_at hl 0 rfl) ?_
        refine lv_iconst (v := 3) hx hb dX3_board_48 (by decide) ?_
        refine g_callV0 (n := 1) hc hw (k_X3_no l D cI cZ cL h a a2 (0 : Int32) w b n T w2 b2 n2 T2 hd5 hd4 hd30 he5 he4 he30 (3 : Int32)) gX3_board_X3_no rfl (by decide +kernel) ⟨Nat.le_of_ble_eq_true rfl, Nat.le_of_ble_eq_true rfl⟩ 0 (wo_X3_H ..) rfl rfl rfl (rest := []) rfl hl.1 (Nat.le_of_ble_eq_true rfl) (st1 := [.int (r_X3_no (0 : Int32) w b n T w2 b2 n2 T2 (3 : Int32))]) rfl dX3_board_49 (k2 := 0) (s2 := 0) rfl rfl ⟨Nat.le_of_ble_eq_true rfl, Nat.le_of_ble_eq_true rfl⟩ (fun H locs hw => ?_)
        rw [show r_X3_board th w b n T w2 b2 n2 T2 x1 x2 = (r_X3_no (0 : Int32) w b n T w2 b2 n2 T2 (3 : Int32)) from by rw [r_X3_board, if_neg c1, if_neg c2, if_pos c3]]
        rw [show t_X3_board th w b n T w2 b2 n2 T2 x1 x2 = (t_X3_no (0 : Int32) w b n T w2 b2 n2 T2 (3 : Int32)) from by rw [t_X3_board, if_neg c1, if_neg c2, if_pos c3]]
        rw [show s_X3_board th w b n T w2 b2 n2 T2 x1 x2 = T from by rw [s_X3_board, if_neg c1, if_neg c2, if_pos c3]]
        rw [show nn_X3_board th w b n T w2 b2 n2 T2 x1 x2 = n from by rw [nn_X3_board, if_neg c1, if_neg c2, if_pos c3]]
        exact g_ret hc hw rfl (Nat.le_of_ble_eq_true rfl) (Nat.le_of_ble_eq_true rfl) dX3_board_52
    · refine lv_aload_n hx hb dX3_board_29 rfl (lv_at hl 0 rfl) ?_
      refine lv_iconst (v := 2) hx hb dX3_board_30 (by decide) ?_
      refine g_callV0 (n := 1) hc hw (k_X3_no l D cI cZ cL h a a2 (0 : Int32) w b n T w2 b2 n2 T2 hd5 hd4 hd30 he5 he4 he30 (2 : Int32)) gX3_board_X3_no rfl (by decide +kernel) ⟨Nat.le_of_ble_eq_true rfl, Nat.le_of_ble_eq_true rfl⟩ 0 (wo_X3_H ..) rfl rfl rfl (rest := []) rfl hl.1 (Nat.le_of_ble_eq_true rfl) (st1 := [.int (r_X3_no (0 : Int32) w b n T w2 b2 n2 T2 (2 : Int32))]) rfl dX3_board_31 (k2 := 0) (s2 := 0) rfl rfl ⟨Nat.le_of_ble_eq_true rfl, Nat.le_of_ble_eq_true rfl⟩ (fun H locs hw => ?_)
      rw [show r_X3_board th w b n T w2 b2 n2 T2 x1 x2 = (r_X3_no (0 : Int32) w b n T w2 b2 n2 T2 (2 : Int32)) from by rw [r_X3_board, if_neg c1, if_pos c2]]
      rw [show t_X3_board th w b n T w2 b2 n2 T2 x1 x2 = (t_X3_no (0 : Int32) w b n T w2 b2 n2 T2 (2 : Int32)) from by rw [t_X3_board, if_neg c1, if_pos c2]]
      rw [show s_X3_board th w b n T w2 b2 n2 T2 x1 x2 = T from by rw [s_X3_board, if_neg c1, if_pos c2]]
      rw [show nn_X3_board th w b n T w2 b2 n2 T2 x1 x2 = n from by rw [nn_X3_board, if_neg c1, if_pos c2]]
      exact g_ret hc hw rfl (Nat.le_of_ble_eq_true rfl) (Nat.le_of_ble_eq_true rfl) dX3_board_34
  · refine lv_aload_n hx hb dX3_board_13 rfl (lv_at hl 0 rfl) ?_
    refine lv_iconst (v := 1) hx hb dX3_board_14 (by decide) ?_
    refine g_callV0 (n := 1) hc hw (k_X3_no l D cI cZ cL h a a2 (0 : Int32) w b n T w2 b2 n2 T2 hd5 hd4 hd30 he5 he4 he30 (1 : Int32)) gX3_board_X3_no rfl (by decide +kernel) ⟨Nat.le_of_ble_eq_true rfl, Nat.le_of_ble_eq_true rfl⟩ 0 (wo_X3_H ..) rfl rfl rfl (rest := []) rfl hl.1 (Nat.le_of_ble_eq_true rfl) (st1 := [.int (r_X3_no (0 : Int32) w b n T w2 b2 n2 T2 (1 : Int32))]) rfl dX3_board_15 (k2 := 0) (s2 := 0) rfl rfl ⟨Nat.le_of_ble_eq_true rfl, Nat.le_of_ble_eq_true rfl⟩ (fun H locs hw => ?_)
    rw [show r_X3_board th w b n T w2 b2 n2 T2 x1 x2 = (r_X3_no (0 : Int32) w b n T w2 b2 n2 T2 (1 : Int32)) from by rw [r_X3_board, if_pos c1]]
    rw [show t_X3_board th w b n T w2 b2 n2 T2 x1 x2 = (t_X3_no (0 : Int32) w b n T w2 b2 n2 T2 (1 : Int32)) from by rw [t_X3_board, if_pos c1]]
    rw [show s_X3_board th w b n T w2 b2 n2 T2 x1 x2 = T from by rw [s_X3_board, if_pos c1]]
    rw [show nn_X3_board th w b n T w2 b2 n2 T2 x1 x2 = n from by rw [nn_X3_board, if_pos c1]]
    exact g_ret hc hw rfl (Nat.le_of_ble_eq_true rfl) (Nat.le_of_ble_eq_true rfl) dX3_board_18

def r_X3_setBowls (th : Int32) (w : Nat) (b : Nat) (n : Nat) (T : mt_T) (w2 : Nat) (b2 : Nat) (n2 : Nat) (T2 : mt_T) (x1 : Int32) : Int32 := if (r_X3_isIn x1 (0 : Int32) (60 : Int32)) = (0 : Int32) then ((r_X3_no (0 : Int32) w b n T w2 b2 n2 T2 (1 : Int32))) else ((mt_bo T))
def t_X3_setBowls (th : Int32) (w : Nat) (b : Nat) (n : Nat) (T : mt_T) (w2 : Nat) (b2 : Nat) (n2 : Nat) (T2 : mt_T) (x1 : Int32) : Int32 := if (r_X3_isIn x1 (0 : Int32) (60 : Int32)) = (0 : Int32) then ((t_X3_no (0 : Int32) w b n T w2 b2 n2 T2 (1 : Int32))) else ((0 : Int32))
def s_X3_setBowls (th : Int32) (w : Nat) (b : Nat) (n : Nat) (T : mt_T) (w2 : Nat) (b2 : Nat) (n2 : Nat) (T2 : mt_T) (x1 : Int32) : mt_T := if (r_X3_isIn x1 (0 : Int32) (60 : Int32)) = (0 : Int32) then (T) else ((ms_bo T x1))
abbrev rm_X3_setBowls : Room := { frames := 1, cells := 0, slots := 0, locals := 22 }
set_option maxHeartbeats 4000000 in
set_option maxRecDepth 100000 in
theorem k_X3_setBowls (l : Launch) (D : va_G) (cI cZ cL : ClassId) (h : Nat) (a a2 : Nat → Nat) (th : Int32) (w : Nat) (b : Nat) (n : Nat) (T : mt_T) (w2 : Nat) (b2 : Nat) (n2 : Nat) (T2 : mt_T) (hd5 : w ≤ 5) (hd4 : b ≤ 4) (hd30 : n ≤ 30) (he5 : w2 ≤ 5) (he4 : b2 ≤ 4) (he30 : n2 ≤ 30) (x1 : Int32)  : MX l yX3_setBowls wsX3_setBowls rm_X3_setBowls D cI cZ cL [.ref h, .int x1] (wb_m h a a2 cI th w b n T w2 b2 n2 T2) (some (.int (r_X3_setBowls th w b n T w2 b2 n2 T2 x1))) (wb_m h a a2 cI (t_X3_setBowls th w b n T w2 b2 n2 T2 x1) w b n (s_X3_setBowls th w b n T w2 b2 n2 T2 x1) w2 b2 n2 T2) := by
  refine MX.of (own := RX3) (cc := cX3_setBowls) (maxL := 3) (ret := (some .int)) (lv0 := [(0, .ref h), (1, .int x1)]) (by decide) rfl rfl (Nat.le_of_ble_eq_true rfl) rfl ?_
  intro p e s m args below meth c A hc hnm hw ls hl
  obtain ⟨hx, hb, hr, hml, hown, hts, hlk, hK, hA⟩ := id hc
  have hiX2 : ∀ w ∈ u_ws RX2 TX2 13, w ∈ wsX3_setBowls := fun _ h => List.mem_cons_of_mem _ (List.mem_append_right _ h)
  have hiX3 : ∀ w ∈ u_ws RX3 TX3 3, w ∈ wsX3_setBowls := fun _ h => List.mem_cons_of_mem _ (List.mem_append_left _ (List.mem_append_right _ h))
  refine lv_aload_n hx hb dX3_setBowls_0 rfl (lv_at hl 0 rfl) ?_
  refine lv_iconst (v := 0) hx hb dX3_setBowls_1 (by decide) ?_
  refine g_put hc hw hiX3 tyX3 tyX3_ok nmX3 0 0 (wo_X3_H ..) rfl (by decide) (List.mem_of_getElem? (i := 1) rfl) (by decide) rfl rfl (Nat.le_of_ble_eq_true rfl) (w' := (wb_m h a a2 cI (0 : Int32) w b n T w2 b2 n2 T2)) (wp_X3_H_0 ..) dX3_setBowls_2 (fun H locs hw => ?_)
  refine lv_iload_n hx hb dX3_setBowls_5 rfl (lv_at hl 1 rfl) ?_
  refine lv_iconst (v := 0) hx hb dX3_setBowls_6 (by decide) ?_
  refine lv_bipush (v := 60) hx hb dX3_setBowls_7 (by decide) ?_
  refine g_callS0 (n := 3) hc hw (k_X3_isIn l D cI cZ cL x1 (0 : Int32) (60 : Int32)) gX3_setBowls_X3_isIn rfl (by decide +kernel) ⟨Nat.le_of_ble_eq_true rfl, Nat.le_of_ble_eq_true rfl⟩ rfl (rest := []) rfl hl.1 (Nat.le_of_ble_eq_true rfl) (st1 := [.int (r_X3_isIn x1 (0 : Int32) (60 : Int32))]) rfl dX3_setBowls_9 (k2 := 0) (s2 := 0) rfl rfl ⟨Nat.le_of_ble_eq_true rfl, Nat.le_of_ble_eq_true rfl⟩ (fun H locs hw => ?_)
  refine lv_if_ne (tgt := 21) hx hb dX3_setBowls_12 (by decide) (fun c1 => ?_) (fun c1 => ?_)
  · refine lv_aload_n hx hb dX3_setBowls_21 rfl (lv_at hl 0 rfl) ?_
    refine g_get (v := .ref (a 0)) hc hw hiX3 0 1 (wo_X3_H ..) rfl (by decide) (List.mem_of_getElem? (i := 2) rfl) (wv_X3_H_1 ..) dX3_setBowls_22 ?_
    refine g_getN (v := .int (mt_bo T)) (host := RX3) hc hw hiX2 1 4 (wo_X3_T ..) rfl (by decide) (fun z => z.2 (60, "bowls", "I") (by decide +kernel)) (wv_X3_T_4 ..) dX3_setBowls_25 ?_
    refine lv_istore_n (lv' := [(2, .int (mt_bo T)), (0, .ref h), (1, .int x1)]) hx hb dX3_setBowls_28 rfl hl (by decide) rfl (fun ls hl => ?_)
    refine lv_aload_n hx hb dX3_setBowls_29 rfl (lv_at hl 1 rfl) ?_
    refine g_get (v := .ref (a 0)) hc hw hiX3 0 1 (wo_X3_H ..) rfl (by decide) (List.mem_of_getElem? (i := 2) rfl) (wv_X3_H_1 ..) dX3_setBowls_30 ?_
    refine lv_iload_n hx hb dX3_setBowls_33 rfl (lv_at hl 2 rfl) ?_
    refine g_putN (host := RX3) hc hw hiX2 tyX2 tyX2_ok nmX2 1 4 (wo_X3_T ..) rfl (by decide) (fun z => z.2 (60, "bowls", "I") (by decide +kernel)) (by decide) rfl rfl (Nat.le_of_ble_eq_true rfl) (w' := (wb_m h a a2 cI (0 : Int32) w b n (ms_bo T x1) w2 b2 n2 T2)) (wp_X3_T_4 ..) dX3_setBowls_34 (fun H locs hw => ?_)
    refine lv_iload_n hx hb dX3_setBowls_37 rfl (lv_at hl 0 rfl) ?_
    rw [show r_X3_setBowls th w b n T w2 b2 n2 T2 x1 = (mt_bo T) from by rw [r_X3_setBowls, if_neg c1]]
    rw [show t_X3_setBowls th w b n T w2 b2 n2 T2 x1 = (0 : Int32) from by rw [t_X3_setBowls, if_neg c1]]
    rw [show s_X3_setBowls th w b n T w2 b2 n2 T2 x1 = (ms_bo T x1) from by rw [s_X3_setBowls, if_neg c1]]
    exact g_ret hc hw rfl (Nat.le_of_ble_eq_true rfl) (Nat.le_of_ble_eq_true rfl) dX3_setBowls_38
  · refine lv_aload_n hx hb dX3_setBowls_15 rfl (lv_at hl 0 rfl) ?_
    refine lv_iconst (v := 1) hx hb dX3_setBowls_16 (by decide) ?_
    refine g_callV0 (n := 1) hc hw (k_X3_no l D cI cZ cL h a a2 (0 : Int32) w b n T w2 b2 n2 T2 hd5 hd4 hd30 he5 he4 he30 (1 : Int32)) gX3_setBowls_X3_no rfl (by decide +kernel) ⟨Nat.le_of_ble_eq_true rfl, Nat.le_of_ble_eq_true rfl⟩ 0 (wo_X3_H ..) rfl rfl rfl (rest := []) rfl hl.1 (Nat.le_of_ble_eq_true rfl) (st1 := [.int (r_X3_no (0 : Int32) w b n T w2 b2 n2 T2 (1 : Int32))]) rfl dX3_setBowls_17 (k2 := 0) (s2 := 0) rfl rfl ⟨Nat.le_of_ble_eq_true rfl, Nat.le_of_ble_eq_true rfl⟩ (fun H locs hw => ?_)
    rw [show r_X3_setBowls th w b n T w2 b2 n2 T2 x1 = (r_X3_no (0 : Int32) w b n T w2 b2 n2 T2 (1 : Int32)) from by rw [r_X3_setBowls, if_pos c1]]
    rw [show t_X3_setBowls th w b n T w2 b2 n2 T2 x1 = (t_X3_no (0 : Int32) w b n T w2 b2 n2 T2 (1 : Int32)) from by rw [t_X3_setBowls, if_pos c1]]
    rw [show s_X3_setBowls th w b n T w2 b2 n2 T2 x1 = T from by rw [s_X3_setBowls, if_pos c1]]
    exact g_ret hc hw rfl (Nat.le_of_ble_eq_true rfl) (Nat.le_of_ble_eq_true rfl) dX3_setBowls_20
