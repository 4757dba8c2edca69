
abbrev rm_X2_copy : Room := { frames := 1, cells := 0, slots := 0, locals := 60 }
set_option maxHeartbeats 4000000 in
set_option maxRecDepth 100000 in
theorem k_X2_copy (l : Launch) (D : va_G) (cI cZ cL : ClassId) (p0 q0 N : Nat) (f g : Nat → Int32) (hN : N < 2 ^ 31) : MX l yX2_copy wsX2_copy rm_X2_copy D cI cZ cL [.ref p0, .ref q0] [(p0, .inl (cI, N, .inl f)), (q0, .inl (cI, N, .inl g))] none [(p0, .inl (cI, N, .inl f)), (q0, .inl (cI, N, .inl (va_cpy f g 0 0 N)))] := by
  refine MX.of (own := RX2) (cc := cX2_copy) (maxL := 2) (ret := none) (lv0 := [(0, .ref p0), (1, .ref q0)]) (by decide) rfl rfl (Nat.le_of_ble_eq_true rfl) rfl ?_
  intro p e s m args below meth c A hc hnm hw ls hl
  obtain ⟨hx, hb, hr, hml, hown, hts, hlk, hK, hA⟩ := id hc
  refine lv_aload_n hx hb dX2_copy_0 rfl (lv_at hl 0 rfl) ?_
  refine lv_iconst (v := 0) hx hb dX2_copy_1 (by decide) ?_
  refine lv_aload_n hx hb dX2_copy_2 rfl (lv_at hl 1 rfl) ?_
  refine lv_iconst (v := 0) hx hb dX2_copy_3 (by decide) ?_
  refine lv_aload_n hx hb dX2_copy_4 rfl (lv_at hl 1 rfl) ?_
  refine va_alen (v := nI N) hx hb hK.1 hw.1 1 0 rfl rfl rfl dX2_copy_5 ?_
  refine g_copy (f := f) (g := g) hc hw hl.1 (List.mem_of_getElem? (i := 1) rfl) (List.mem_of_getElem? (i := 2) rfl) (List.mem_of_getElem? (i := 3) rfl) (List.mem_of_getElem? (i := 4) rfl) 0 1 rfl rfl (n := N) (nI_clamp hN) (nI_pos hN) (Nat.le_of_ble_eq_true rfl) (Nat.le_of_ble_eq_true rfl) (w' := [(p0, .inl (cI, N, .inl f)), (q0, .inl (cI, N, .inl (va_cpy f g 0 0 N)))]) rfl dX2_copy_6 (fun H locs hw => ?_)
  exact g_vret hc hw rfl (Nat.le_of_ble_eq_true rfl) (Nat.le_of_ble_eq_true rfl) dX2_copy_9

def s_X2_become (w : Nat) (b : Nat) (n : Nat) (T : mt_T) (w2 : Nat) (b2 : Nat) (n2 : Nat) (T2 : mt_T) : mt_T := (mc_hu (mc_wh (mc_fe (mc_to (mc_ke (mc_st (mc_pl (ms_ea (ms_bo (ms_day T (mt_day T2)) (mt_bo T2)) (mt_ea T2)) T2) T2) T2) T2) T2) T2) T2)
abbrev rm_X2_become : Room := { frames := 2, cells := 0, slots := 0, locals := 81 }
set_option maxHeartbeats 4000000 in
set_option maxRecDepth 100000 in
theorem k_X2_become (l : Launch) (D : va_G) (cI cZ cL : ClassId) (a a2 : Nat → Nat) (w : Nat) (b : Nat) (n : Nat) (T : mt_T) (w2 : Nat) (b2 : Nat) (n2 : Nat) (T2 : mt_T) (hd5 : w ≤ 5) (hd4 : b ≤ 4) (hd30 : n ≤ 30) (he5 : w2 ≤ 5) (he4 : b2 ≤ 4) (he30 : n2 ≤ 30)   : MX l yX2_become wsX2_become rm_X2_become D cI cZ cL [.ref (a 0), .ref (a2 0)] (wt_m a cI w b n T ++ wt_m a2 cI w2 b2 n2 T2) none (wt_m a cI w2 b2 n2 (s_X2_become w b n T w2 b2 n2 T2) ++ wt_m a2 cI w2 b2 n2 T2) := by
  refine MX.of (own := RX2) (cc := cX2_become) (maxL := 2) (ret := none) (lv0 := [(0, .ref (a 0)), (1, .ref (a2 0))]) (by decide) rfl rfl (Nat.le_of_ble_eq_true rfl) rfl ?_
  intro p e s m args below meth c A hc hnm hw ls hl
  obtain ⟨hx, hb, hr, hml, hown, hts, hlk, hK, hA⟩ := id hc
  have hiX2 : ∀ w ∈ u_ws RX2 TX2 13, w ∈ wsX2_become := fun _ h => List.mem_cons_of_mem _ (List.mem_append_right _ h)
  refine lv_aload_n hx hb dX2_become_0 rfl (lv_at hl 0 rfl) ?_
  refine lv_aload_n hx hb dX2_become_1 rfl (lv_at hl 1 rfl) ?_
  refine g_get (v := .int (mt_day T2)) hc hw hiX2 8 0 (wo_X22_T2 ..) rfl (by decide) (List.mem_of_getElem? (i := 1) rfl) (wv_X22_T2_0 ..) dX2_become_2 ?_
  refine g_put hc hw hiX2 tyX2 tyX2_ok nmX2 0 0 (wo_X22_T ..) rfl (by decide) (List.mem_of_getElem? (i := 1) rfl) (by decide) rfl rfl (Nat.le_of_ble_eq_true rfl) (w' := (wt_m a cI w b n (ms_day T (mt_day T2)) ++ wt_m a2 cI w2 b2 n2 T2)) (wp_X22_T_0 ..) dX2_become_5 (fun H locs hw => ?_)
  refine lv_aload_n hx hb dX2_become_8 rfl (lv_at hl 0 rfl) ?_
  refine lv_aload_n hx hb dX2_become_9 rfl (lv_at hl 1 rfl) ?_
  refine g_get (v := .int (nI w2)) hc hw hiX2 8 1 (wo_X22_T2 ..) rfl (by decide) (List.mem_of_getElem? (i := 2) rfl) (wv_X22_T2_1 ..) dX2_become_10 ?_
  refine g_put hc hw hiX2 tyX2 tyX2_ok nmX2 0 1 (wo_X22_T ..) rfl (by decide) (List.mem_of_getElem? (i := 2) rfl) (by decide) rfl rfl (Nat.le_of_ble_eq_true rfl) (w' := (wt_m a cI w2 b n (ms_day T (mt_day T2)) ++ wt_m a2 cI w2 b2 n2 T2)) (wp_X22_T_1 ..) dX2_become_13 (fun H locs hw => ?_)
  refine lv_aload_n hx hb dX2_become_16 rfl (lv_at hl 0 rfl) ?_
  refine lv_aload_n hx hb dX2_become_17 rfl (lv_at hl 1 rfl) ?_
  refine g_get (v := .int (nI b2)) hc hw hiX2 8 2 (wo_X22_T2 ..) rfl (by decide) (List.mem_of_getElem? (i := 3) rfl) (wv_X22_T2_2 ..) dX2_become_18 ?_
  refine g_put hc hw hiX2 tyX2 tyX2_ok nmX2 0 2 (wo_X22_T ..) rfl (by decide) (List.mem_of_getElem? (i := 3) rfl) (by decide) rfl rfl (Nat.le_of_ble_eq_true rfl) (w' := (wt_m a cI w2 b2 n (ms_day T (mt_day T2)) ++ wt_m a2 cI w2 b2 n2 T2)) (wp_X22_T_2 ..) dX2_become_21 (fun H locs hw => ?_)
  refine lv_aload_n hx hb dX2_become_24 rfl (lv_at hl 0 rfl) ?_
  refine lv_aload_n hx hb dX2_become_25 rfl (lv_at hl 1 rfl) ?_
  refine g_get (v := .int (nI n2)) hc hw hiX2 8 3 (wo_X22_T2 ..) rfl (by decide) (List.mem_of_getElem? (i := 4) rfl) (wv_X22_T2_3 ..) dX2_become_26 ?_
  refine g_put hc hw hiX2 tyX2 tyX2_ok nmX2 0 3 (wo_X22_T ..) rfl (by decide) (List.mem_of_getElem? (i := 4) rfl) (by decide) rfl rfl (Nat.le_of_ble_eq_true rfl) (w' := (wt_m a cI w2 b2 n2 (ms_day T (mt_day T2)) ++ wt_m a2 cI w2 b2 n2 T2)) (wp_X22_T_3 ..) dX2_become_29 (fun H locs hw => ?_)
  refine lv_aload_n hx hb dX2_become_32 rfl (lv_at hl 0 rfl) ?_
  refine lv_aload_n hx hb dX2_become_33 rfl (lv_at hl 1 rfl) ?_
  refine g_get (v := .int (mt_bo T2)) hc hw hiX2 8 4 (wo_X22_T2 ..) rfl (by decide) (List.mem_of_getElem? (i := 5) rfl) (wv_X22_T2_4 ..) dX2_become_34 ?_
  refine g_put hc hw hiX2 tyX2 tyX2_ok nmX2 0 4 (wo_X22_T ..) rfl (by decide) (List.mem_of_getElem? (i := 5) rfl) (by decide) rfl rfl (Nat.le_of_ble_eq_true rfl) (w' := (wt_m a cI w2 b2 n2 (ms_bo (ms_day T (mt_day T2)) (mt_bo T2)) ++ wt_m a2 cI w2 b2 n2 T2)) (wp_X22_T_4 ..) dX2_become_37 (fun H locs hw => ?_)
  refine lv_aload_n hx hb dX2_become_40 rfl (lv_at hl 0 rfl) ?_
  refine lv_aload_n hx hb dX2_become_41 rfl (lv_at hl 1 rfl) ?_
  refine g_get (v := .int (mt_ea T2)) hc hw hiX2 8 5 (wo_X22_T2 ..) rfl (by decide) (List.mem_of_getElem? (i := 6) rfl) (wv_X22_T2_5 ..) dX2_become_42 ?_
  refine g_put hc hw hiX2 tyX2 tyX2_ok nmX2 0 5 (wo_X22_T ..) rfl (by decide) (List.mem_of_getElem? (i := 6) rfl) (by decide) rfl rfl (Nat.le_of_ble_eq_true rfl) (w' := (wt_m a cI w2 b2 n2 (ms_ea (ms_bo (ms_day T (mt_day T2)) (mt_bo T2)) (mt_ea T2)) ++ wt_m a2 cI w2 b2 n2 T2)) (wp_X22_T_5 ..) dX2_become_45 (fun H locs hw => ?_)
  refine lv_aload_n hx hb dX2_become_48 rfl (lv_at hl 1 rfl) ?_
  refine g_get (v := .ref (a2 6)) hc hw hiX2 8 6 (wo_X22_T2 ..) rfl (by decide) (List.mem_of_getElem? (i := 7) rfl) (wv_X22_T2_6 ..) dX2_become_49 ?_
  refine lv_aload_n hx hb dX2_become_52 rfl (lv_at hl 0 rfl) ?_
  refine g_get (v := .ref (a 6)) hc hw hiX2 0 6 (wo_X22_T ..) rfl (by decide) (List.mem_of_getElem? (i := 7) rfl) (wv_X22_T_6 ..) dX2_become_53 ?_
  refine g_callS (n := 2) hc hw (k_X2_copy l D cI cZ cL (a2 6) (a 6) 5 (mt_pl T2) (mt_pl (ms_ea (ms_bo (ms_day T (mt_day T2)) (mt_bo T2)) (mt_ea T2))) (by decide)) gX2_become_X2_copy rfl (by decide +kernel) ⟨Nat.le_of_ble_eq_true rfl, Nat.le_of_ble_eq_true rfl⟩ [9, 1] [0, 2, 3, 4, 5, 6, 7, 8, 10, 11, 12, 13, 14, 15] [0, 15, 1, 2, 3, 4, 5, 6, 7, 14, 8, 9, 10, 11, 12, 13] (w' := (wt_m a cI w2 b2 n2 (mc_pl (ms_ea (ms_bo (ms_day T (mt_day T2)) (mt_bo T2)) (mt_ea T2)) T2) ++ wt_m a2 cI w2 b2 n2 T2)) (wkC_X22_6 ..) (wkR_X22_6 ..) (by decide) (by decide) (by decide) (wkJ_X22_6 ..) (by decide) rfl (rest := []) rfl hl.1 (Nat.le_of_ble_eq_true rfl) (st1 := []) rfl dX2_become_56 (k2 := 0) (s2 := 0) rfl rfl ⟨Nat.le_of_ble_eq_true rfl, Nat.le_of_ble_eq_true rfl⟩ (fun H locs hw => ?_)
  refine lv_aload_n hx hb dX2_become_59 rfl (lv_at hl 1 rfl) ?_
  refine g_get (v := .ref (a2 7)) hc hw hiX2 8 7 (wo_X22_T2 ..) rfl (by decide) (List.mem_of_getElem? (i := 8) rfl) (wv_X22_T2_7 ..) dX2_become_60 ?_
  refine lv_aload_n hx hb dX2_become_63 rfl (lv_at hl 0 rfl) ?_
  refine g_get (v := .ref (a 7)) hc hw hiX2 0 7 (wo_X22_T ..) rfl (by decide) (List.mem_of_getElem? (i := 8) rfl) (wv_X22_T_7 ..) dX2_become_64 ?_
  refine g_callS (n := 2) hc hw (k_X2_copy l D cI cZ cL (a2 7) (a 7) 5 (mt_st T2) (mt_st (mc_pl (ms_ea (ms_bo (ms_day T (mt_day T2)) (mt_bo T2)) (mt_ea T2)) T2)) (by decide)) gX2_become_X2_copy rfl (by decide +kernel) ⟨Nat.le_of_ble_eq_true rfl, Nat.le_of_ble_eq_true rfl⟩ [10, 2] [0, 1, 3, 4, 5, 6, 7, 8, 9, 11, 12, 13, 14, 15] [0, 1, 15, 2, 3, 4, 5, 6, 7, 8, 14, 9, 10, 11, 12, 13] (w' := (wt_m a cI w2 b2 n2 (mc_st (mc_pl (ms_ea (ms_bo (ms_day T (mt_day T2)) (mt_bo T2)) (mt_ea T2)) T2) T2) ++ wt_m a2 cI w2 b2 n2 T2)) (wkC_X22_7 ..) (wkR_X22_7 ..) (by decide) (by decide) (by decide) (wkJ_X22_7 ..) (by decide) rfl (rest := []) rfl hl.1 (Nat.le_of_ble_eq_true rfl) (st1 := []) rfl dX2_become_67 (k2 := 0) (s2 := 0) rfl rfl ⟨Nat.le_of_ble_eq_true rfl, Nat.le_of_ble_eq_true rfl⟩ (fun H locs hw => ?_)
  refine lv_aload_n hx hb dX2_become_70 rfl (lv_at hl 1 rfl) ?_
  refine g_get (v := .ref (a2 8)) hc hw hiX2 8 8 (wo_X22_T2 ..) rfl (by decide) (List.mem_of_getElem? (i := 9) rfl) (wv_X22_T2_8 ..) dX2_become_71 ?_
  refine lv_aload_n hx hb dX2_become_74 rfl (lv_at hl 0 rfl) ?_
  refine g_get (v := .ref (a 8)) hc hw hiX2 0 8 (wo_X22_T ..) rfl (by decide) (List.mem_of_getElem? (i := 9) rfl) (wv_X22_T_8 ..) dX2_become_75 ?_
  refine g_callS (n := 2) hc hw (k_X2_copy l D cI cZ cL (a2 8) (a 8) 4 (mt_ke T2) (mt_ke (mc_st (mc_pl (ms_ea (ms_bo (ms_day T (mt_day T2)) (mt_bo T2)) (mt_ea T2)) T2) T2)) (by decide)) gX2_become_X2_copy rfl (by decide +kernel) ⟨Nat.le_of_ble_eq_true rfl, Nat.le_of_ble_eq_true rfl⟩ [11, 3] [0, 1, 2, 4, 5, 6, 7, 8, 9, 10, 12, 13, 14, 15] [0, 1, 2, 15, 3, 4, 5, 6, 7, 8, 9, 14, 10, 11, 12, 13] (w' := (wt_m a cI w2 b2 n2 (mc_ke (mc_st (mc_pl (ms_ea (ms_bo (ms_day T (mt_day T2)) (mt_bo T2)) (mt_ea T2)) T2) T2) T2) ++ wt_m a2 cI w2 b2 n2 T2)) (wkC_X22_8 ..) (wkR_X22_8 ..) (by decide) (by decide) (by decide) (wkJ_X22_8 ..) (by decide) rfl (rest := []) rfl hl.1 (Nat.le_of_ble_eq_true rfl) (st1 := []) rfl dX2_become_78 (k2 := 0) (s2 := 0) rfl rfl ⟨Nat.le_of_ble_eq_true rfl, Nat.le_of_ble_eq_true rfl⟩ (fun H locs hw => ?_)
  refine lv_aload_n hx hb dX2_become_81 rfl (lv_at hl 1 rfl) ?_
  refine g_get (v := .ref (a2 9)) hc hw hiX2 8 9 (wo_X22_T2 ..) rfl (by decide) (List.mem_of_getElem? (i := 10) rfl) (wv_X22_T2_9 ..) dX2_become_82 ?_
  refine lv_aload_n hx hb dX2_become_85 rfl (lv_at hl 0 rfl) ?_
  refine g_get (v := .ref (a 9)) hc hw hiX2 0 9 (wo_X22_T ..) rfl (by decide) (List.mem_of_getElem? (i := 10) rfl) (wv_X22_T_9 ..) dX2_become_86 ?_
  refine g_callS (n := 2) hc hw (k_X2_copy l D cI cZ cL (a2 9) (a 9) 4 (mt_to T2) (mt_to (mc_ke (mc_st (mc_pl (ms_ea (ms_bo (ms_day T (mt_day T2)) (mt_bo T2)) (mt_ea T2)) T2) T2) T2)) (by decide)) gX2_become_X2_copy rfl (by decide +kernel) ⟨Nat.le_of_ble_eq_true rfl, Nat.le_of_ble_eq_true rfl⟩ [12, 4] [0, 1, 2, 3, 5, 6, 7, 8, 9, 10, 11, 13, 14, 15] [0, 1, 2, 3, 15, 4, 5, 6, 7, 8, 9, 10, 14, 11, 12, 13] (w' := (wt_m a cI w2 b2 n2 (mc_to (mc_ke (mc_st (mc_pl (ms_ea (ms_bo (ms_day T (mt_day T2)) (mt_bo T2)) (mt_ea T2)) T2) T2) T2) T2) ++ wt_m a2 cI w2 b2 n2 T2)) (wkC_X22_9 ..) (wkR_X22_9 ..) (by decide) (by decide) (by decide) (wkJ_X22_9 ..) (by decide) rfl (rest := []) rfl hl.1 (Nat.le_of_ble_eq_true rfl) (st1 := []) rfl dX2_become_89 (k2 := 0) (s2 := 0) rfl rfl ⟨Nat.le_of_ble_eq_true rfl, Nat.le_of_ble_eq_true rfl⟩ (fun H locs hw => ?_)
  refine lv_aload_n hx hb dX2_become_92 rfl (lv_at hl 1 rfl) ?_
  refine g_get (v := .ref (a2 10)) hc hw hiX2 8 10 (wo_X22_T2 ..) rfl (by decide) (List.mem_of_getElem? (i := 11) rfl) (wv_X22_T2_10 ..) dX2_become_93 ?_
  refine lv_aload_n hx hb dX2_become_96 rfl (lv_at hl 0 rfl) ?_
  refine g_get (v := .ref (a 10)) hc hw hiX2 0 10 (wo_X22_T ..) rfl (by decide) (List.mem_of_getElem? (i := 11) rfl) (wv_X22_T_10 ..) dX2_become_97 ?_
  refine g_callS (n := 2) hc hw (k_X2_copy l D cI cZ cL (a2 10) (a 10) 30 (mt_fe T2) (mt_fe (mc_to (mc_ke (mc_st (mc_pl (ms_ea (ms_bo (ms_day T (mt_day T2)) (mt_bo T2)) (mt_ea T2)) T2) T2) T2) T2)) (by decide)) gX2_become_X2_copy rfl (by decide +kernel) ⟨Nat.le_of_ble_eq_true rfl, Nat.le_of_ble_eq_true rfl⟩ [13, 5] [0, 1, 2, 3, 4, 6, 7, 8, 9, 10, 11, 12, 14, 15] [0, 1, 2, 3, 4, 15, 5, 6, 7, 8, 9, 10, 11, 14, 12, 13] (w' := (wt_m a cI w2 b2 n2 (mc_fe (mc_to (mc_ke (mc_st (mc_pl (ms_ea (ms_bo (ms_day T (mt_day T2)) (mt_bo T2)) (mt_ea T2)) T2) T2) T2) T2) T2) ++ wt_m a2 cI w2 b2 n2 T2)) (wkC_X22_10 ..) (wkR_X22_10 ..) (by decide) (by decide) (by decide) (wkJ_X22_10 ..) (by decide) rfl (rest := []) rfl hl.1 (Nat.le_of_ble_eq_true rfl) (st1 := []) rfl dX2_become_100 (k2 := 0) (s2 := 0) rfl rfl ⟨Nat.le_of_ble_eq_true rfl, Nat.le_of_ble_eq_true rfl⟩ (fun H locs hw => ?_)
  refine lv_aload_n hx hb dX2_become_103 rfl (lv_at hl 1 rfl) ?_
  refine g_get (v := .ref (a2 11)) hc hw hiX2 8 11 (wo_X22_T2 ..) rfl (by decide) (List.mem_of_getElem? (i := 12) rfl) (wv_X22_T2_11 ..) dX2_become_104 ?_
  refine lv_aload_n hx hb dX2_become_107 rfl (lv_at hl 0 rfl) ?_
  refine g_get (v := .ref (a 11)) hc hw hiX2 0 11 (wo_X22_T ..) rfl (by decide) (List.mem_of_getElem? (i := 12) rfl) (wv_X22_T_11 ..) dX2_become_108 ?_
  refine g_callS (n := 2) hc hw (k_X2_copy l D cI cZ cL (a2 11) (a 11) 30 (mt_wh T2) (mt_wh (mc_fe (mc_to (mc_ke (mc_st (mc_pl (ms_ea (ms_bo (ms_day T (mt_day T2)) (mt_bo T2)) (mt_ea T2)) T2) T2) T2) T2) T2)) (by decide)) gX2_become_X2_copy rfl (by decide +kernel) ⟨Nat.le_of_ble_eq_true rfl, Nat.le_of_ble_eq_true rfl⟩ [14, 6] [0, 1, 2, 3, 4, 5, 7, 8, 9, 10, 11, 12, 13, 15] [0, 1, 2, 3, 4, 5, 15, 6, 7, 8, 9, 10, 11, 12, 14, 13] (w' := (wt_m a cI w2 b2 n2 (mc_wh (mc_fe (mc_to (mc_ke (mc_st (mc_pl (ms_ea (ms_bo (ms_day T (mt_day T2)) (mt_bo T2)) (mt_ea T2)) T2) T2) T2) T2) T2) T2) ++ wt_m a2 cI w2 b2 n2 T2)) (wkC_X22_11 ..) (wkR_X22_11 ..) (by decide) (by decide) (by decide) (wkJ_X22_11 ..) (by decide) rfl (rest := []) rfl hl.1 (Nat.le_of_ble_eq_true rfl) (st1 := []) rfl dX2_become_111 (k2 := 0) (s2 := 0) rfl rfl ⟨Nat.le_of_ble_eq_true rfl, Nat.le_of_ble_eq_true rfl⟩ (fun H locs hw => ?_)
  refine lv_aload_n hx hb dX2_become_114 rfl (lv_at hl 1 rfl) ?_
  refine g_get (v := .ref (a2 12)) hc hw hiX2 8 12 (wo_X22_T2 ..) rfl (by decide) (List.mem_of_getElem? (i := 13) rfl) (wv_X22_T2_12 ..) dX2_become_115 ?_
  refine lv_aload_n hx hb dX2_become_118 rfl (lv_at hl 0 rfl) ?_
  refine g_get (v := .ref (a 12)) hc hw hiX2 0 12 (wo_X22_T ..) rfl (by decide) (List.mem_of_getElem? (i := 13) rfl) (wv_X22_T_12 ..) dX2_become_119 ?_
  refine g_callS (n := 2) hc hw (k_X2_copy l D cI cZ cL (a2 12) (a 12) 30 (mt_hu T2) (mt_hu (mc_wh (mc_fe (mc_to (mc_ke (mc_st (mc_pl (ms_ea (ms_bo (ms_day T (mt_day T2)) (mt_bo T2)) (mt_ea T2)) T2) T2) T2) T2) T2) T2)) (by decide)) gX2_become_X2_copy rfl (by decide +kernel) ⟨Nat.le_of_ble_eq_true rfl, Nat.le_of_ble_eq_true rfl⟩ [15, 7] [0, 1, 2, 3, 4, 5, 6, 8, 9, 10, 11, 12, 13, 14] [0, 1, 2, 3, 4, 5, 6, 15, 7, 8, 9, 10, 11, 12, 13, 14] (w' := (wt_m a cI w2 b2 n2 (mc_hu (mc_wh (mc_fe (mc_to (mc_ke (mc_st (mc_pl (ms_ea (ms_bo (ms_day T (mt_day T2)) (mt_bo T2)) (mt_ea T2)) T2) T2) T2) T2) T2) T2) T2) ++ wt_m a2 cI w2 b2 n2 T2)) (wkC_X22_12 ..) (wkR_X22_12 ..) (by decide) (by decide) (by decide) (wkJ_X22_12 ..) (by decide) rfl (rest := []) rfl hl.1 (Nat.le_of_ble_eq_true rfl) (st1 := []) rfl dX2_become_122 (k2 := 0) (s2 := 0) rfl rfl ⟨Nat.le_of_ble_eq_true rfl, Nat.le_of_ble_eq_true rfl⟩ (fun H locs hw => ?_)
  rw [show s_X2_become w b n T w2 b2 n2 T2 = (mc_hu (mc_wh (mc_fe (mc_to (mc_ke (mc_st (mc_pl (ms_ea (ms_bo (ms_day T (mt_day T2)) (mt_bo T2)) (mt_ea T2)) T2) T2) T2) T2) T2) T2) T2) from by rw [s_X2_become]]
  exact g_vret hc hw rfl (Nat.le_of_ble_eq_true rfl) (Nat.le_of_ble_eq_true rfl) dX2_become_125

def r_X3_isIn (x1 : Int32) (x2 : Int32) (x3 : Int32) : Int32 := if x1 < x2 then ((0 : Int32)) else (if x3 < x1 then ((0 : Int32)) else ((1 : Int32)))
abbrev rm_X3_isIn : Room := { frames := 0, cells := 0, slots := 0, locals := 0 }
set_option maxHeartbeats 4000000 in
set_option maxRecDepth 100000 in
theorem k_X3_isIn (l : Launch) (D : va_G) (cI cZ cL : ClassId)    (x1 : Int32) (x2 : Int32) (x3 : Int32)  : MX l yX3_isIn wsX3_isIn rm_X3_isIn D cI cZ cL [.int x1, .int x2, .int x3] [] (some (.int (r_X3_isIn x1 x2 x3))) [] := by
  refine MX.of (own := RX3) (cc := cX3_isIn) (maxL := 3) (ret := (some .boolean)) (lv0 := [(0, .int x1), (1, .int x2), (2, .int x3)]) (by decide) rfl rfl (Nat.le_of_ble_eq_true rfl) rfl ?_
  intro p e s m args below meth c A hc hnm hw ls hl
  obtain ⟨hx, hb, hr, hml, hown, hts, hlk, hK, hA⟩ := id hc
  refine lv_iload_n hx hb dX3_isIn_0 rfl (lv_at hl 0 rfl) ?_
  refine lv_iload_n hx hb dX3_isIn_1 rfl (lv_at hl 1 rfl) ?_
  refine lv_icmp_lt (tgt := 14) hx hb dX3_isIn_2 (by decide) (fun c1 => ?_) (fun c1 => ?_)
  · refine lv_iconst (v := 0) hx hb dX3_isIn_14 (by decide) ?_
    rw [show r_X3_isIn x1 x2 x3 = (0 : Int32) from by rw [r_X3_isIn, if_pos c1]]
    exact g_zret hc hw rfl rfl (Nat.le_of_ble_eq_true rfl) (Nat.le_of_ble_eq_true rfl) dX3_isIn_15
  · refine lv_iload_n hx hb dX3_isIn_5 rfl (lv_at hl 0 rfl) ?_
    refine lv_iload_n hx hb dX3_isIn_6 rfl (lv_at hl 2 rfl) ?_
    refine lv_icmp_gt (tgt := 14) hx hb dX3_isIn_7 (by decide) (fun c2 => ?_) (fun c2 => ?_)
    · refine lv_iconst (v := 0) hx hb dX3_isIn_14 (by decide) ?_
      rw [show r_X3_isIn x1 x2 x3 = (0 : Int32) from by rw [r_X3_isIn, if_neg c1, if_pos c2]]
      exact g_zret hc hw rfl rfl (Nat.le_of_ble_eq_true rfl) (Nat.le_of_ble_eq_true rfl) dX3_isIn_15
    · refine lv_iconst (v := 1) hx hb dX3_isIn_10 (by decide) ?_
      refine lv_goto (tgt := 15) hx hb dX3_isIn_11 (by decide) ?_
      rw [show r_X3_isIn x1 x2 x3 = (1 : Int32) from by rw [r_X3_isIn, if_neg c1, if_neg c2]]
      exact g_zret hc hw rfl rfl (Nat.le_of_ble_eq_true rfl) (Nat.le_of_ble_eq_true rfl) dX3_isIn_15

theorem r_X3_isIn_01 (a b c : Int32) : r_X3_isIn a b c = 0 ∨ r_X3_isIn a b c = 1 := by
  rw [r_X3_isIn]
  (repeat' split) <;> first | exact Or.inl rfl | exact Or.inr rfl
theorem r_X3_isIn_1 {a b c : Int32} (h : ¬ r_X3_isIn a b c = 0) : b ≤ a ∧ a ≤ c := by
  rw [r_X3_isIn] at h
  by_cases h1 : a < b
  · rw [if_pos h1] at h; exact absurd rfl h
  · rw [if_neg h1] at h
    by_cases h2 : c < a
    · rw [if_pos h2] at h; exact absurd rfl h
    · exact ⟨Int32.not_lt.mp h1, Int32.not_lt.mp h2⟩
theorem v_X3_days {x : Int32} (h : ¬ r_X3_isIn x (1 : Int32) (40 : Int32) = 0) : x = nI x.toNatClampNeg ∧ x.toNatClampNeg < 2 ^ 31 := l_days (Int32.not_lt.mpr (r_X3_isIn_1 h).1) (r_X3_isIn_1 h).2
theorem v_isIn {x : Int32} {w N : Nat} (h : ¬ r_X3_isIn x (0 : Int32) (nI w - (1 : Int32)) = 0) (hw : w ≤ N) (hN : N < 2 ^ 30) : vp_in x N := by
  obtain ⟨h1, h2⟩ := r_X3_isIn_1 h
  obtain ⟨j, hj, rfl⟩ := nI_of (Int32.not_lt.mpr h1)
  cases w with
  | zero =>
    exfalso
    rw [Int32.le_iff_toInt_le, nI_toInt hj] at h2
    have e1 : (nI 0 - (1 : Int32)).toInt = -1 := by decide
    omega
  | succ w =>
    rw [nI_pred] at h2
    have h3 := (nI_leI hj (by omega)).mp h2
    exact vp_in_nI (by omega) (by omega)

def r_X3_thrown (th : Int32) (w : Nat) (b : Nat) (n : Nat) (T : mt_T) (w2 : Nat) (b2 : Nat) (n2 : Nat) (T2 : mt_T) : Int32 := th
abbrev rm_X3_thrown : Room := { frames := 0, cells := 0, slots := 0, locals := 0 }
set_option maxHeartbeats 4000000 in
set_option maxRecDepth 100000 in
theorem k_X3_thrown (l : Launch) (D : va_G) (cI cZ cL : ClassId) (h : Nat) (a a2 : Nat → Nat) (th : Int32) (w : Nat) (b : Nat) (n : Nat) (T : mt_T) (w2 : Nat) (b2 : Nat) (n2 : Nat) (T2 : mt_T) (hd5 : w ≤ 5) (hd4 : b ≤ 4) (hd30 : n ≤ 30) (he5 : w2 ≤ 5) (he4 : b2 ≤ 4) (he30 : n2 ≤ 30)   : MX l yX3_thrown wsX3_thrown rm_X3_thrown D cI cZ cL [.ref h] (wb_m h a a2 cI th w b n T w2 b2 n2 T2) (some (.int (r_X3_thrown th w b n T w2 b2 n2 T2))) (wb_m h a a2 cI th w b n T w2 b2 n2 T2) := by
  refine MX.of (own := RX3) (cc := cX3_thrown) (maxL := 1) (ret := (some .int)) (lv0 := [(0, .ref h)]) (by decide) rfl rfl (Nat.le_of_ble_eq_true rfl) rfl ?_
  intro p e s m args below meth c A hc hnm hw ls hl
  obtain ⟨hx, hb, hr, hml, hown, hts, hlk, hK, hA⟩ := id hc
  have hiX3 : ∀ w ∈ u_ws RX3 TX3 3, w ∈ wsX3_thrown := fun _ h => List.mem_cons_of_mem _ (List.mem_append_right _ h)
  refine lv_aload_n hx hb dX3_thrown_0 rfl (lv_at hl 0 rfl) ?_
  refine g_get (v := .int th) hc hw hiX3 0 0 (wo_X3_H ..) rfl (by decide) (List.mem_of_getElem? (i := 1) rfl) (wv_X3_H_0 ..) dX3_thrown_1 ?_
  rw [show r_X3_thrown th w b n T w2 b2 n2 T2 = th from by rw [r_X3_thrown]]
  exact g_ret hc hw rfl (Nat.le_of_ble_eq_true rfl) (Nat.le_of_ble_eq_true rfl) dX3_thrown_4

def r_X3_no (th : Int32) (w : Nat) (b : Nat) (n : Nat) (T : mt_T) (w2 : Nat) (b2 : Nat) (n2 : Nat) (T2 : mt_T) (x1 : Int32) : Int32 := (0 : Int32)
def t_X3_no (th : Int32) (w : Nat) (b : Nat) (n : Nat) (T : mt_T) (w2 : Nat) (b2 : Nat) (n2 : Nat) (T2 : mt_T) (x1 : Int32) : Int32 := x1
abbrev rm_X3_no : Room := { frames := 0, cells := 0, slots := 0, locals := 0 }
set_option maxHeartbeats 4000000 in
set_option maxRecDepth 100000 in
theorem k_X3_no (l : Launch) (D : va_G) (cI cZ cL : ClassId) (h : Nat) (a a2 : Nat → Nat) (th : Int32) (w : Nat) (b : Nat) (n : Nat) (T : mt_T) (w2 : Nat) (b2 : Nat) (n2 : Nat) (T2 : mt_T) (hd5 : w ≤ 5) (hd4 : b ≤ 4) (hd30 : n ≤ 30) (he5 : w2 ≤ 5) (he4 : b2 ≤ 4) (he30 : n2 ≤ 30) (x1 : Int32)  : MX l yX3_no wsX3_no rm_X3_no D cI cZ cL [.ref h, .int x1] (wb_m h a a2 cI th w b n T w2 b2 n2 T2) (some (.int (r_X3_no th w b n T w2 b2 n2 T2 x1))) (wb_m h a a2 cI (t_X3_no th w b n T w2 b2 n2 T2 x1) w b n T w2 b2 n2 T2) := by
  refine MX.of (own := RX3) (cc := cX3_no) (maxL := 2) (ret := (some .int)) (lv0 := [(0, .ref h), (1, .int x1)]) (by decide) rfl rfl (Nat.le_of_ble_eq_true rfl) rfl ?_
  intro p e s m args below meth c A hc hnm hw ls hl
  obtain ⟨hx, hb, hr, hml, hown, hts, hlk, hK, hA⟩ := id hc
  have hiX3 : ∀ w ∈ u_ws RX3 TX3 3, w ∈ wsX3_no := fun _ h => List.mem_cons_of_mem _ (List.mem_append_right _ h)
  refine lv_aload_n hx hb dX3_no_0 rfl (lv_at hl 0 rfl) ?_
  refine lv_iload_n hx hb dX3_no_1 rfl (lv_at hl 1 rfl) ?_
  refine g_put hc hw hiX3 tyX3 tyX3_ok nmX3 0 0 (wo_X3_H ..) rfl (by decide) (List.mem_of_getElem? (i := 1) rfl) (by decide) rfl rfl (Nat.le_of_ble_eq_true rfl) (w' := (wb_m h a a2 cI x1 w b n T w2 b2 n2 T2)) (wp_X3_H_0 ..) dX3_no_2 (fun H locs hw => ?_)
  refine lv_iconst (v := 0) hx hb dX3_no_5 (by decide) ?_
  rw [show r_X3_no th w b n T w2 b2 n2 T2 x1 = (0 : Int32) from by rw [r_X3_no]]
  rw [show t_X3_no th w b n T w2 b2 n2 T2 x1 = x1 from by rw [t_X3_no]]
  exact g_ret hc hw rfl (Nat.le_of_ble_eq_true rfl) (Nat.le_of_ble_eq_true rfl) dX3_no_6

def r_X3_isWard (th : Int32) (w : Nat) (b : Nat) (n : Nat) (T : mt_T) (w2 : Nat) (b2 : Nat) (n2 : Nat) (T2 : mt_T) (x1 : Int32) : Int32 := (r_X3_isIn x1 (0 : Int32) ((nI w) - (1 : Int32)))
abbrev rm_X3_isWard : Room := { frames := 1, cells := 0, slots := 0, locals := 22 }
set_option maxHeartbeats 4000000 in
set_option maxRecDepth 100000 in
theorem k_X3_isWard (l : Launch) (D : va_G) (cI cZ cL : ClassId) (h : Nat) (a a2 : Nat → Nat) (th : Int32) (w : Nat) (b : Nat) (n : Nat) (T : mt_T) (w2 : Nat) (b2 : Nat) (n2 : Nat) (T2 : mt_T) (hd5 : w ≤ 5) (hd4 : b ≤ 4) (hd30 : n ≤ 30) (he5 : w2 ≤ 5) (he4 : b2 ≤ 4) (he30 : n2 ≤ 30) (x1 : Int32)  : MX l yX3_isWard wsX3_isWard rm_X3_isWard D cI cZ cL [.ref h, .int x1] (wb_m h a a2 cI th w b n T w2 b2 n2 T2) (some (.int (r_X3_isWard th w b n T w2 b2 n2 T2 x1))) (wb_m h a a2 cI th w b n T w2 b2 n2 T2) := by
  refine MX.of (own := RX3) (cc := cX3_isWard) (maxL := 2) (ret := (some .boolean)) (lv0 := [(0, .ref h), (1, .int x1)]) (by decide) rfl rfl (Nat.le_of_ble_eq_true rfl) rfl ?_
  intro p e s m args below meth c A hc hnm hw ls hl
  obtain ⟨hx, hb, hr, hml, hown, hts, hlk, hK, hA⟩ := id hc
  have hiX2 : ∀ w ∈ u_ws RX2 TX2 13, w ∈ wsX3_isWard := fun _ h => List.mem_cons_of_mem _ (List.mem_append_right _ h)
  have hiX3 : ∀ w ∈ u_ws RX3 TX3 3, w ∈ wsX3_isWard := fun _ h => List.mem_cons_of_mem _ (List.mem_append_left _ (List.mem_append_right _ h))
  refine lv_iload_n hx hb dX3_isWard_0 rfl (lv_at hl 1 rfl) ?_
  refine lv_iconst (v := 0) hx hb dX3_isWard_1 (by decide) ?_
  refine lv_aload_n hx hb dX3_isWard_2 rfl (lv_at hl 0 rfl) ?_
  refine g_get (v := .ref (a 0)) hc hw hiX3 0 1 (wo_X3_H ..) rfl (by decide) (List.mem_of_getElem? (i := 1) rfl) (wv_X3_H_1 ..) dX3_isWard_3 ?_
  refine g_getN (v := .int (nI w)) (host := RX3) hc hw hiX2 1 1 (wo_X3_T ..) rfl (by decide) (fun z => z.2 (23, "wards", "I") (by decide +kernel)) (wv_X3_T_1 ..) dX3_isWard_6 ?_
  refine lv_iconst (v := 1) hx hb dX3_isWard_9 (by decide) ?_
  refine lv_isub hx hb dX3_isWard_10 ?_
  refine g_callS0 (n := 3) hc hw (k_X3_isIn l D cI cZ cL x1 (0 : Int32) ((nI w) - (1 : Int32))) gX3_isWard_X3_isIn rfl (by decide +kernel) ⟨Nat.le_of_ble_eq_true rfl, Nat.le_of_ble_eq_true rfl⟩ rfl (rest := []) rfl hl.1 (Nat.le_of_ble_eq_true rfl) (st1 := [.int (r_X3_isIn x1 (0 : Int32) ((nI w) - (1 : Int32)))]) rfl dX3_isWard_11 (k2 := 0) (s2 := 0) rfl rfl ⟨Nat.le_of_ble_eq_true rfl, Nat.le_of_ble_eq_true rfl⟩ (fun H locs hw => ?_)
  rw [show r_X3_isWard th w b n T w2 b2 n2 T2 x1 = (r_X3_isIn x1 (0 : Int32) ((nI w) - (1 : Int32))) from by rw [r_X3_isWard]]
  exact g_zret hc hw rfl (nz_01 (r_X3_isIn_01 _ _ _)) (Nat.le_of_ble_eq_true rfl) (Nat.le_of_ble_eq_true rfl) dX3_isWard_14

theorem v_X3_isWard {th : Int32} {w b n : Nat} {T : mt_T} {w2 b2 n2 : Nat} {T2 : mt_T} {x : Int32} (h : ¬ r_X3_isWard th w b n T w2 b2 n2 T2 x = 0) (hd : w ≤ 5) : vp_in x 5 := v_isIn (N := 5) h hd (by decide)
