theorem wqC_X1 (h : Nat) (a a2 : Nat → Nat) (cI cZ : ClassId) (w b n : Nat) (T : ct_T) (w2 b2 n2 : Nat) (T2 : ct_T) : ([12, 13, 14, 15, 16, 17, 18, 19, 20, 21, 22, 1, 2, 3, 4, 5, 6, 7, 8, 9, 10, 11] : List Nat).map (fun i => (wb_c h a a2 cI cZ w b n T w2 b2 n2 T2)[i]?) = (wt_c a2 cI cZ w2 b2 n2 T2 ++ wt_c a cI cZ w b n T).map some := rfl
theorem wqR_X1 (h : Nat) (a a2 : Nat → Nat) (cI cZ : ClassId) (w b n : Nat) (T : ct_T) (w2 b2 n2 : Nat) (T2 : ct_T) : ([0] : List Nat).map (fun i => (wb_c h a a2 cI cZ w b n T w2 b2 n2 T2)[i]?) = ([wb_c0 h a a2] : va_W).map some := rfl
theorem wqJ_X1 (h : Nat) (a a2 : Nat → Nat) (cI cZ : ClassId) (w b n : Nat) (T : ct_T) (w2 b2 n2 : Nat) (T2 : ct_T) : ([0, 12, 13, 14, 15, 16, 17, 18, 19, 20, 21, 22, 1, 2, 3, 4, 5, 6, 7, 8, 9, 10, 11] : List Nat).map (fun i => (([wb_c0 h a a2] : va_W) ++ (wt_c a2 cI cZ w2 b2 n2 T2 ++ wt_c a cI cZ w b n T))[i]?) = (wb_c h a a2 cI cZ w b n T w2 b2 n2 T2).map some := rfl
def s_X0_copyFrom (w : Nat) (b : Nat) (n : Nat) (T : ct_T) (w2 : Nat) (b2 : Nat) (n2 : Nat) (T2 : ct_T) : ct_T := (cc_hd (cc_nu (cc_wh (cc_fe (cc_to (cc_ke (cc_st (cc_pl (cs_ea (cs_bo (cs_day T (ct_day T2)) (ct_bo T2)) (ct_ea T2)) T2) T2) T2) T2) T2) T2) T2) T2)
abbrev rm_X0_copyFrom : Room := { frames := 1, cells := 0, slots := 0, locals := 60 }
set_option maxHeartbeats 4000000 in
set_option maxRecDepth 100000 in
theorem k_X0_copyFrom (l : Launch) (D : va_G) (cI cZ cL : ClassId) (a a2 : Nat → Nat) (w : Nat) (b : Nat) (n : Nat) (T : ct_T) (w2 : Nat) (b2 : Nat) (n2 : Nat) (T2 : ct_T) (hd5 : w ≤ 5) (hd4 : b ≤ 4) (hd30 : n ≤ 30) (he5 : w2 ≤ 5) (he4 : b2 ≤ 4) (he30 : n2 ≤ 30)   : MX l yX0_copyFrom wsX0_copyFrom rm_X0_copyFrom D cI cZ cL [.ref (a 0), .ref (a2 0)] (wt_c a cI cZ w b n T ++ wt_c a2 cI cZ w2 b2 n2 T2) none (wt_c a cI cZ w2 b2 n2 (s_X0_copyFrom w b n T w2 b2 n2 T2) ++ wt_c a2 cI cZ w2 b2 n2 T2) := by
  refine MX.of (own := RX0) (cc := cX0_copyFrom) (maxL := 2) (ret := none) (lv0 := [(0, .ref (a 0)), (1, .ref (a2 0))]) (by decide) rfl rfl (Nat.le_of_ble_eq_true rfl) rfl ?_
  intro p e s m args below meth c A hc hnm hw ls hl
  obtain ⟨hx, hb, hr, hml, hown, hts, hlk, hK, hA⟩ := id hc
  have hiX0 : ∀ w ∈ u_ws RX0 TX0 16, w ∈ wsX0_copyFrom := fun _ h => List.mem_cons_of_mem _ (List.mem_append_right _ h)
  refine lv_aload_n hx hb dX0_copyFrom_0 rfl (lv_at hl 0 rfl) ?_
  refine lv_aload_n hx hb dX0_copyFrom_1 rfl (lv_at hl 1 rfl) ?_
  refine g_get (v := .int (ct_day T2)) hc hw hiX0 11 0 (wo_X00_T2 ..) rfl (by decide) (List.mem_of_getElem? (i := 1) rfl) (wv_X00_T2_0 ..) dX0_copyFrom_2 ?_
  refine g_put hc hw hiX0 tyX0 tyX0_ok nmX0 0 0 (wo_X00_T ..) rfl (by decide) (List.mem_of_getElem? (i := 1) rfl) (by decide) rfl rfl (Nat.le_of_ble_eq_true rfl) (w' := (wt_c a cI cZ w b n (cs_day T (ct_day T2)) ++ wt_c a2 cI cZ w2 b2 n2 T2)) (wp_X00_T_0 ..) dX0_copyFrom_5 (fun H locs hw => ?_)
  refine lv_aload_n hx hb dX0_copyFrom_8 rfl (lv_at hl 0 rfl) ?_
  refine lv_aload_n hx hb dX0_copyFrom_9 rfl (lv_at hl 1 rfl) ?_
  refine g_get (v := .int (ct_bo T2)) hc hw hiX0 11 1 (wo_X00_T2 ..) rfl (by decide) (List.mem_of_getElem? (i := 2) rfl) (wv_X00_T2_1 ..) dX0_copyFrom_10 ?_
  refine g_put hc hw hiX0 tyX0 tyX0_ok nmX0 0 1 (wo_X00_T ..) rfl (by decide) (List.mem_of_getElem? (i := 2) rfl) (by decide) rfl rfl (Nat.le_of_ble_eq_true rfl) (w' := (wt_c a cI cZ w b n (cs_bo (cs_day T (ct_day T2)) (ct_bo T2)) ++ wt_c a2 cI cZ w2 b2 n2 T2)) (wp_X00_T_1 ..) dX0_copyFrom_13 (fun H locs hw => ?_)
  refine lv_aload_n hx hb dX0_copyFrom_16 rfl (lv_at hl 0 rfl) ?_
  refine lv_aload_n hx hb dX0_copyFrom_17 rfl (lv_at hl 1 rfl) ?_
  refine g_get (v := .int (ct_ea T2)) hc hw hiX0 11 2 (wo_X00_T2 ..) rfl (by decide) (List.mem_of_getElem? (i := 3) rfl) (wv_X00_T2_2 ..) dX0_copyFrom_18 ?_
  refine g_put hc hw hiX0 tyX0 tyX0_ok nmX0 0 2 (wo_X00_T ..) rfl (by decide) (List.mem_of_getElem? (i := 3) rfl) (by decide) rfl rfl (Nat.le_of_ble_eq_true rfl) (w' := (wt_c a cI cZ w b n (cs_ea (cs_bo (cs_day T (ct_day T2)) (ct_bo T2)) (ct_ea T2)) ++ wt_c a2 cI cZ w2 b2 n2 T2)) (wp_X00_T_2 ..) dX0_copyFrom_21 (fun H locs hw => ?_)
  refine lv_aload_n hx hb dX0_copyFrom_24 rfl (lv_at hl 0 rfl) ?_
  refine lv_aload_n hx hb dX0_copyFrom_25 rfl (lv_at hl 1 rfl) ?_
  refine g_get (v := .int (nI w2)) hc hw hiX0 11 3 (wo_X00_T2 ..) rfl (by decide) (List.mem_of_getElem? (i := 4) rfl) (wv_X00_T2_3 ..) dX0_copyFrom_26 ?_
  refine g_put hc hw hiX0 tyX0 tyX0_ok nmX0 0 3 (wo_X00_T ..) rfl (by decide) (List.mem_of_getElem? (i := 4) rfl) (by decide) rfl rfl (Nat.le_of_ble_eq_true rfl) (w' := (wt_c a cI cZ w2 b n (cs_ea (cs_bo (cs_day T (ct_day T2)) (ct_bo T2)) (ct_ea T2)) ++ wt_c a2 cI cZ w2 b2 n2 T2)) (wp_X00_T_3 ..) dX0_copyFrom_29 (fun H locs hw => ?_)
  refine lv_aload_n hx hb dX0_copyFrom_32 rfl (lv_at hl 0 rfl) ?_
  refine lv_aload_n hx hb dX0_copyFrom_33 rfl (lv_at hl 1 rfl) ?_
  refine g_get (v := .int (nI b2)) hc hw hiX0 11 6 (wo_X00_T2 ..) rfl (by decide) (List.mem_of_getElem? (i := 5) rfl) (wv_X00_T2_6 ..) dX0_copyFrom_34 ?_
  refine g_put hc hw hiX0 tyX0 tyX0_ok nmX0 0 6 (wo_X00_T ..) rfl (by decide) (List.mem_of_getElem? (i := 5) rfl) (by decide) rfl rfl (Nat.le_of_ble_eq_true rfl) (w' := (wt_c a cI cZ w2 b2 n (cs_ea (cs_bo (cs_day T (ct_day T2)) (ct_bo T2)) (ct_ea T2)) ++ wt_c a2 cI cZ w2 b2 n2 T2)) (wp_X00_T_6 ..) dX0_copyFrom_37 (fun H locs hw => ?_)
  refine lv_aload_n hx hb dX0_copyFrom_40 rfl (lv_at hl 0 rfl) ?_
  refine lv_aload_n hx hb dX0_copyFrom_41 rfl (lv_at hl 1 rfl) ?_
  refine g_get (v := .int (nI n2)) hc hw hiX0 11 9 (wo_X00_T2 ..) rfl (by decide) (List.mem_of_getElem? (i := 6) rfl) (wv_X00_T2_9 ..) dX0_copyFrom_42 ?_
  refine g_put hc hw hiX0 tyX0 tyX0_ok nmX0 0 9 (wo_X00_T ..) rfl (by decide) (List.mem_of_getElem? (i := 6) rfl) (by decide) rfl rfl (Nat.le_of_ble_eq_true rfl) (w' := (wt_c a cI cZ w2 b2 n2 (cs_ea (cs_bo (cs_day T (ct_day T2)) (ct_bo T2)) (ct_ea T2)) ++ wt_c a2 cI cZ w2 b2 n2 T2)) (wp_X00_T_9 ..) dX0_copyFrom_45 (fun H locs hw => ?_)
  refine lv_aload_n hx hb dX0_copyFrom_48 rfl (lv_at hl 1 rfl) ?_
  refine g_get (v := .ref (a2 4)) hc hw hiX0 11 4 (wo_X00_T2 ..) rfl (by decide) (List.mem_of_getElem? (i := 7) rfl) (wv_X00_T2_4 ..) dX0_copyFrom_49 ?_
  refine lv_iconst (v := 0) hx hb dX0_copyFrom_52 (by decide) ?_
  refine lv_aload_n hx hb dX0_copyFrom_53 rfl (lv_at hl 0 rfl) ?_
  refine g_get (v := .ref (a 4)) hc hw hiX0 0 4 (wo_X00_T ..) rfl (by decide) (List.mem_of_getElem? (i := 7) rfl) (wv_X00_T_4 ..) dX0_copyFrom_54 ?_
  refine lv_iconst (v := 0) hx hb dX0_copyFrom_57 (by decide) ?_
  refine lv_iconst (v := 5) hx hb dX0_copyFrom_58 (by decide) ?_
  refine g_copy (f := (ct_pl T2)) (g := (ct_pl (cs_ea (cs_bo (cs_day T (ct_day T2)) (ct_bo T2)) (ct_ea T2)))) hc hw hl.1 (List.mem_of_getElem? (i := 8) rfl) (List.mem_of_getElem? (i := 9) rfl) (List.mem_of_getElem? (i := 10) rfl) (List.mem_of_getElem? (i := 11) rfl) 12 1 (wr_X00_T2_4 ..) (wr_X00_T_4 ..) (n := 5) (by decide) (by decide) (Nat.le_of_ble_eq_true rfl) (Nat.le_of_ble_eq_true rfl) (w' := (wt_c a cI cZ w2 b2 n2 (cc_pl (cs_ea (cs_bo (cs_day T (ct_day T2)) (ct_bo T2)) (ct_ea T2)) T2) ++ wt_c a2 cI cZ w2 b2 n2 T2)) (wc_X00_T_4 ..) dX0_copyFrom_59 (fun H locs hw => ?_)
  refine lv_aload_n hx hb dX0_copyFrom_62 rfl (lv_at hl 1 rfl) ?_
  refine g_get (v := .ref (a2 5)) hc hw hiX0 11 5 (wo_X00_T2 ..) rfl (by decide) (List.mem_of_getElem? (i := 12) rfl) (wv_X00_T2_5 ..) dX0_copyFrom_63 ?_
  refine lv_iconst (v := 0) hx hb dX0_copyFrom_66 (by decide) ?_
  refine lv_aload_n hx hb dX0_copyFrom_67 rfl (lv_at hl 0 rfl) ?_
  refine g_get (v := .ref (a 5)) hc hw hiX0 0 5 (wo_X00_T ..) rfl (by decide) (List.mem_of_getElem? (i := 12) rfl) (wv_X00_T_5 ..) dX0_copyFrom_68 ?_
  refine lv_iconst (v := 0) hx hb dX0_copyFrom_71 (by decide) ?_
  refine lv_iconst (v := 5) hx hb dX0_copyFrom_72 (by decide) ?_
  refine g_copy (f := (ct_st T2)) (g := (ct_st (cc_pl (cs_ea (cs_bo (cs_day T (ct_day T2)) (ct_bo T2)) (ct_ea T2)) T2))) hc hw hl.1 (List.mem_of_getElem? (i := 8) rfl) (List.mem_of_getElem? (i := 9) rfl) (List.mem_of_getElem? (i := 10) rfl) (List.mem_of_getElem? (i := 11) rfl) 13 2 (wr_X00_T2_5 ..) (wr_X00_T_5 ..) (n := 5) (by decide) (by decide) (Nat.le_of_ble_eq_true rfl) (Nat.le_of_ble_eq_true rfl) (w' := (wt_c a cI cZ w2 b2 n2 (cc_st (cc_pl (cs_ea (cs_bo (cs_day T (ct_day T2)) (ct_bo T2)) (ct_ea T2)) T2) T2) ++ wt_c a2 cI cZ w2 b2 n2 T2)) (wc_X00_T_5 ..) dX0_copyFrom_73 (fun H locs hw => ?_)
  refine lv_aload_n hx hb dX0_copyFrom_76 rfl (lv_at hl 1 rfl) ?_
  refine g_get (v := .ref (a2 7)) hc hw hiX0 11 7 (wo_X00_T2 ..) rfl (by decide) (List.mem_of_getElem? (i := 13) rfl) (wv_X00_T2_7 ..) dX0_copyFrom_77 ?_
  refine lv_iconst (v := 0) hx hb dX0_copyFrom_80 (by decide) ?_
  refine lv_aload_n hx hb dX0_copyFrom_81 rfl (lv_at hl 0 rfl) ?_
  refine g_get (v := .ref (a 7)) hc hw hiX0 0 7 (wo_X00_T ..) rfl (by decide) (List.mem_of_getElem? (i := 13) rfl) (wv_X00_T_7 ..) dX0_copyFrom_82 ?_
  refine lv_iconst (v := 0) hx hb dX0_copyFrom_85 (by decide) ?_
  refine lv_iconst (v := 4) hx hb dX0_copyFrom_86 (by decide) ?_
  refine g_copy (f := (ct_ke T2)) (g := (ct_ke (cc_st (cc_pl (cs_ea (cs_bo (cs_day T (ct_day T2)) (ct_bo T2)) (ct_ea T2)) T2) T2))) hc hw hl.1 (List.mem_of_getElem? (i := 8) rfl) (List.mem_of_getElem? (i := 9) rfl) (List.mem_of_getElem? (i := 10) rfl) (List.mem_of_getElem? (i := 11) rfl) 14 3 (wr_X00_T2_7 ..) (wr_X00_T_7 ..) (n := 4) (by decide) (by decide) (Nat.le_of_ble_eq_true rfl) (Nat.le_of_ble_eq_true rfl) (w' := (wt_c a cI cZ w2 b2 n2 (cc_ke (cc_st (cc_pl (cs_ea (cs_bo (cs_day T (ct_day T2)) (ct_bo T2)) (ct_ea T2)) T2) T2) T2) ++ wt_c a2 cI cZ w2 b2 n2 T2)) (wc_X00_T_7 ..) dX0_copyFrom_87 (fun H locs hw => ?_)
  refine lv_aload_n hx hb dX0_copyFrom_90 rfl (lv_at hl 1 rfl) ?_
  refine g_get (v := .ref (a2 8)) hc hw hiX0 11 8 (wo_X00_T2 ..) rfl (by decide) (List.mem_of_getElem? (i := 14) rfl) (wv_X00_T2_8 ..) dX0_copyFrom_91 ?_
  refine lv_iconst (v := 0) hx hb dX0_copyFrom_94 (by decide) ?_
  refine lv_aload_n hx hb dX0_copyFrom_95 rfl (lv_at hl 0 rfl) ?_
  refine g_get (v := .ref (a 8)) hc hw hiX0 0 8 (wo_X00_T ..) rfl (by decide) (List.mem_of_getElem? (i := 14) rfl) (wv_X00_T_8 ..) dX0_copyFrom_96 ?_
  refine lv_iconst (v := 0) hx hb dX0_copyFrom_99 (by decide) ?_
  refine lv_iconst (v := 4) hx hb dX0_copyFrom_100 (by decide) ?_
  refine g_copy (f := (ct_to T2)) (g := (ct_to (cc_ke (cc_st (cc_pl (cs_ea (cs_bo (cs_day T (ct_day T2)) (ct_bo T2)) (ct_ea T2)) T2) T2) T2))) hc hw hl.1 (List.mem_of_getElem? (i := 8) rfl) (List.mem_of_getElem? (i := 9) rfl) (List.mem_of_getElem? (i := 10) rfl) (List.mem_of_getElem? (i := 11) rfl) 15 4 (wr_X00_T2_8 ..) (wr_X00_T_8 ..) (n := 4) (by decide) (by decide) (Nat.le_of_ble_eq_true rfl) (Nat.le_of_ble_eq_true rfl) (w' := (wt_c a cI cZ w2 b2 n2 (cc_to (cc_ke (cc_st (cc_pl (cs_ea (cs_bo (cs_day T (ct_day T2)) (ct_bo T2)) (ct_ea T2)) T2) T2) T2) T2) ++ wt_c a2 cI cZ w2 b2 n2 T2)) (wc_X00_T_8 ..) dX0_copyFrom_101 (fun H locs hw => ?_)
  refine lv_aload_n hx hb dX0_copyFrom_104 rfl (lv_at hl 1 rfl) ?_
  refine g_get (v := .ref (a2 10)) hc hw hiX0 11 10 (wo_X00_T2 ..) rfl (by decide) (List.mem_of_getElem? (i := 15) rfl) (wv_X00_T2_10 ..) dX0_copyFrom_105 ?_
  refine lv_iconst (v := 0) hx hb dX0_copyFrom_108 (by decide) ?_
  refine lv_aload_n hx hb dX0_copyFrom_109 rfl (lv_at hl 0 rfl) ?_
  refine g_get (v := .ref (a 10)) hc hw hiX0 0 10 (wo_X00_T ..) rfl (by decide) (List.mem_of_getElem? (i := 15) rfl) (wv_X00_T_10 ..) dX0_copyFrom_110 ?_
  refine lv_iconst (v := 0) hx hb dX0_copyFrom_113 (by decide) ?_
  refine lv_bipush (v := 30) hx hb dX0_copyFrom_114 (by decide) ?_
  refine g_copy (f := (ct_fe T2)) (g := (ct_fe (cc_to (cc_ke (cc_st (cc_pl (cs_ea (cs_bo (cs_day T (ct_day T2)) (ct_bo T2)) (ct_ea T2)) T2) T2) T2) T2))) hc hw hl.1 (List.mem_of_getElem? (i := 8) rfl) (List.mem_of_getElem? (i := 9) rfl) (List.mem_of_getElem? (i := 10) rfl) (List.mem_of_getElem? (i := 11) rfl) 16 5 (wr_X00_T2_10 ..) (wr_X00_T_10 ..) (n := 30) (by decide) (by decide) (Nat.le_of_ble_eq_true rfl) (Nat.le_of_ble_eq_true rfl) (w' := (wt_c a cI cZ w2 b2 n2 (cc_fe (cc_to (cc_ke (cc_st (cc_pl (cs_ea (cs_bo (cs_day T (ct_day T2)) (ct_bo T2)) (ct_ea T2)) T2) T2) T2) T2) T2) ++ wt_c a2 cI cZ w2 b2 n2 T2)) (wc_X00_T_10 ..) dX0_copyFrom_116 (fun H locs hw => ?_)
  refine lv_aload_n hx hb dX0_copyFrom_119 rfl (lv_at hl 1 rfl) ?_
  refine g_get (v := .ref (a2 11)) hc hw hiX0 11 11 (wo_X00_T2 ..) rfl (by decide) (List.mem_of_getElem? (i := 16) rfl) (wv_X00_T2_11 ..) dX0_copyFrom_120 ?_
  refine lv_iconst (v := 0) hx hb dX0_copyFrom_123 (by decide) ?_
  refine lv_aload_n hx hb dX0_copyFrom_124 rfl (lv_at hl 0 rfl) ?_
  refine g_get (v := .ref (a 11)) hc hw hiX0 0 11 (wo_X00_T ..) rfl (by decide) (List.mem_of_getElem? (i := 16) rfl) (wv_X00_T_11 ..) dX0_copyFrom_125 ?_
  refine lv_iconst (v := 0) hx hb dX0_copyFrom_128 (by decide) ?_
  refine lv_bipush (v := 30) hx hb dX0_copyFrom_129 (by decide) ?_
  refine g_copy (f := (ct_wh T2)) (g := (ct_wh (cc_fe (cc_to (cc_ke (cc_st (cc_pl (cs_ea (cs_bo (cs_day T (ct_day T2)) (ct_bo T2)) (ct_ea T2)) T2) T2) T2) T2) T2))) hc hw hl.1 (List.mem_of_getElem? (i := 8) rfl) (List.mem_of_getElem? (i := 9) rfl) (List.mem_of_getElem? (i := 10) rfl) (List.mem_of_getElem? (i := 11) rfl) 17 6 (wr_X00_T2_11 ..) (wr_X00_T_11 ..) (n := 30) (by decide) (by decide) (Nat.le_of_ble_eq_true rfl) (Nat.le_of_ble_eq_true rfl) (w' := (wt_c a cI cZ w2 b2 n2 (cc_wh (cc_fe (cc_to (cc_ke (cc_st (cc_pl (cs_ea (cs_bo (cs_day T (ct_day T2)) (ct_bo T2)) (ct_ea T2)) T2) T2) T2) T2) T2) T2) ++ wt_c a2 cI cZ w2 b2 n2 T2)) (wc_X00_T_11 ..) dX0_copyFrom_131 (fun H locs hw => ?_)
  refine lv_aload_n hx hb dX0_copyFrom_134 rfl (lv_at hl 1 rfl) ?_
  refine g_get (v := .ref (a2 12)) hc hw hiX0 11 12 (wo_X00_T2 ..) rfl (by decide) (List.mem_of_getElem? (i := 17) rfl) (wv_X00_T2_12 ..) dX0_copyFrom_135 ?_
  refine lv_iconst (v := 0) hx hb dX0_copyFrom_138 (by decide) ?_
  refine lv_aload_n hx hb dX0_copyFrom_139 rfl (lv_at hl 0 rfl) ?_
  refine g_get (v := .ref (a 12)) hc hw hiX0 0 12 (wo_X00_T ..) rfl (by decide) (List.mem_of_getElem? (i := 17) rfl) (wv_X00_T_12 ..) dX0_copyFrom_140 ?_
  refine lv_iconst (v := 0) hx hb dX0_copyFrom_143 (by decide) ?_
  refine lv_bipush (v := 30) hx hb dX0_copyFrom_144 (by decide) ?_
  refine g_copy (f := (ct_nu T2)) (g := (ct_nu (cc_wh (cc_fe (cc_to (cc_ke (cc_st (cc_pl (cs_ea (cs_bo (cs_day T (ct_day T2)) (ct_bo T2)) (ct_ea T2)) T2) T2) T2) T2) T2) T2))) hc hw hl.1 (List.mem_of_getElem? (i := 8) rfl) (List.mem_of_getElem? (i := 9) rfl) (List.mem_of_getElem? (i := 10) rfl) (List.mem_of_getElem? (i := 11) rfl) 18 7 (wr_X00_T2_12 ..) (wr_X00_T_12 ..) (n := 30) (by decide) (by decide) (Nat.le_of_ble_eq_true rfl) (Nat.le_of_ble_eq_true rfl) (w' := (wt_c a cI cZ w2 b2 n2 (cc_nu (cc_wh (cc_fe (cc_to (cc_ke (cc_st (cc_pl (cs_ea (cs_bo (cs_day T (ct_day T2)) (ct_bo T2)) (ct_ea T2)) T2) T2) T2) T2) T2) T2) T2) ++ wt_c a2 cI cZ w2 b2 n2 T2)) (wc_X00_T_12 ..) dX0_copyFrom_146 (fun H locs hw => ?_)
  refine lv_aload_n hx hb dX0_copyFrom_149 rfl (lv_at hl 1 rfl) ?_
  refine g_get (v := .ref (a2 13)) hc hw hiX0 11 13 (wo_X00_T2 ..) rfl (by decide) (List.mem_of_getElem? (i := 18) rfl) (wv_X00_T2_13 ..) dX0_copyFrom_150 ?_
  refine lv_iconst (v := 0) hx hb dX0_copyFrom_153 (by decide) ?_
  refine lv_aload_n hx hb dX0_copyFrom_154 rfl (lv_at hl 0 rfl) ?_
  refine g_get (v := .ref (a 13)) hc hw hiX0 0 13 (wo_X00_T ..) rfl (by decide) (List.mem_of_getElem? (i := 18) rfl) (wv_X00_T_13 ..) dX0_copyFrom_155 ?_
  refine lv_iconst (v := 0) hx hb dX0_copyFrom_158 (by decide) ?_
  refine lv_bipush (v := 30) hx hb dX0_copyFrom_159 (by decide) ?_
  refine g_copy (f := (ct_hd T2)) (g := (ct_hd (cc_nu (cc_wh (cc_fe (cc_to (cc_ke (cc_st (cc_pl (cs_ea (cs_bo (cs_day T (ct_day T2)) (ct_bo T2)) (ct_ea T2)) T2) T2) T2) T2) T2) T2) T2))) hc hw hl.1 (List.mem_of_getElem? (i := 8) rfl) (List.mem_of_getElem? (i := 9) rfl) (List.mem_of_getElem? (i := 10) rfl) (List.mem_of_getElem? (i := 11) rfl) 19 8 (wr_X00_T2_13 ..) (wr_X00_T_13 ..) (n := 30) (by decide) (by decide) (Nat.le_of_ble_eq_true rfl) (Nat.le_of_ble_eq_true rfl) (w' := (wt_c a cI cZ w2 b2 n2 (cc_hd (cc_nu (cc_wh (cc_fe (cc_to (cc_ke (cc_st (cc_pl (cs_ea (cs_bo (cs_day T (ct_day T2)) (ct_bo T2)) (ct_ea T2)) T2) T2) T2) T2) T2) T2) T2) T2) ++ wt_c a2 cI cZ w2 b2 n2 T2)) (wc_X00_T_13 ..) dX0_copyFrom_161 (fun H locs hw => ?_)
  rw [show s_X0_copyFrom w b n T w2 b2 n2 T2 = (cc_hd (cc_nu (cc_wh (cc_fe (cc_to (cc_ke (cc_st (cc_pl (cs_ea (cs_bo (cs_day T (ct_day T2)) (ct_bo T2)) (ct_ea T2)) T2) T2) T2) T2) T2) T2) T2) T2) from by rw [s_X0_copyFrom]]
  exact g_vret hc hw rfl (Nat.le_of_ble_eq_true rfl) (Nat.le_of_ble_eq_true rfl) dX0_copyFrom_164
