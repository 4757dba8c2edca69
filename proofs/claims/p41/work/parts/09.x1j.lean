def r_X1_digestWith (x1 : Int64) (x2 : Int32) : Int64 := ((x1 * (31 : Int64)) + (Int32.toInt64 x2))
abbrev rm_X1_digestWith : Room := { frames := 0, cells := 0, slots := 0, locals := 0 }
set_option maxHeartbeats 4000000 in
set_option maxRecDepth 100000 in
theorem k_X1_digestWith (l : Launch) (D : va_G) (cI cZ cL : ClassId)    (x1 : Int64) (x2 : Int32)  : MX l yX1_digestWith wsX1_digestWith rm_X1_digestWith D cI cZ cL [.long x1, .int x2] [] (some (.long (r_X1_digestWith x1 x2))) [] := by
  refine MX.of (own := RX1) (cc := cX1_digestWith) (maxL := 3) (ret := (some .long)) (lv0 := [(0, .long x1), (2, .int x2)]) (by decide) rfl rfl (Nat.le_of_ble_eq_true rfl) rfl ?_
  intro p e s m args below meth c A hc hnm hw ls hl
  obtain ⟨hx, hb, hr, hml, hown, hts, hlk, hK, hA⟩ := id hc
  refine lv_lload_n hx hb dX1_digestWith_0 rfl (lv_at hl 0 rfl) ?_
  refine lv_ldc2 hx hb hown (hts _ (List.mem_of_getElem? (i := 1) rfl)) dX1_digestWith_1 ?_
  refine lv_lmul hx hb dX1_digestWith_4 ?_
  refine lv_iload_n hx hb dX1_digestWith_5 rfl (lv_at hl 1 rfl) ?_
  refine lv_i2l (v := (Int32.toInt64 x2)) hx hb dX1_digestWith_6 rfl ?_
  refine lv_ladd hx hb dX1_digestWith_7 ?_
  rw [show r_X1_digestWith x1 x2 = ((x1 * (31 : Int64)) + (Int32.toInt64 x2)) from by rw [r_X1_digestWith]]
  exact g_lret hc hw rfl (Nat.le_of_ble_eq_true rfl) (Nat.le_of_ble_eq_true rfl) dX1_digestWith_8

def f_X1_digestWithWards_5 (w : Nat) (b : Nat) (n : Nat) (T : ct_T) (w2 : Nat) (b2 : Nat) (n2 : Nat) (T2 : ct_T) (x1 : Int64) (i5 : Nat) (q5 : Int64) : Int64 := ((r_X1_digestWith (r_X1_digestWith (r_X1_digestWith (r_X1_digestWith q5 ((ct_pl T) (nI i5).toNatClampNeg)) (r_X0_countAt w b n T (1 : Int32) (nI i5))) ((ct_st T) (nI i5).toNatClampNeg)) (r_X0_feversInWard w b n T (nI i5))))
def r_X1_digestWithWards (w : Nat) (b : Nat) (n : Nat) (T : ct_T) (w2 : Nat) (b2 : Nat) (n2 : Nat) (T2 : ct_T) (x1 : Int64) : Int64 := (lpf (f_X1_digestWithWards_5 w b n T w2 b2 n2 T2 x1) w 0 (x1))
abbrev rm_X1_digestWithWards : Room := { frames := 2, cells := 0, slots := 0, locals := 47 }
set_option maxHeartbeats 4000000 in
set_option maxRecDepth 100000 in
theorem k_X1_digestWithWards (l : Launch) (D : va_G) (cI cZ cL : ClassId) (h : Nat) (a a2 : Nat → Nat) (w : Nat) (b : Nat) (n : Nat) (T : ct_T) (w2 : Nat) (b2 : Nat) (n2 : Nat) (T2 : ct_T) (hd5 : w ≤ 5) (hd4 : b ≤ 4) (hd30 : n ≤ 30) (he5 : w2 ≤ 5) (he4 : b2 ≤ 4) (he30 : n2 ≤ 30) (x1 : Int64)  : MX l yX1_digestWithWards wsX1_digestWithWards rm_X1_digestWithWards D cI cZ cL [.ref h, .long x1] (wb_c h a a2 cI cZ w b n T w2 b2 n2 T2) (some (.long (r_X1_digestWithWards w b n T w2 b2 n2 T2 x1))) (wb_c h a a2 cI cZ w b n T w2 b2 n2 T2) := by
  refine MX.of (own := RX1) (cc := cX1_digestWithWards) (maxL := 6) (ret := (some .long)) (lv0 := [(0, .ref h), (1, .long x1)]) (by decide) rfl rfl (Nat.le_of_ble_eq_true rfl) rfl ?_
  intro p e s m args below meth c A hc hnm hw ls hl
  obtain ⟨hx, hb, hr, hml, hown, hts, hlk, hK, hA⟩ := id hc
  have hiX0 : ∀ w ∈ u_ws RX0 TX0 16, w ∈ wsX1_digestWithWards := fun _ h => List.mem_cons_of_mem _ (List.mem_append_right _ h)
  have hiX1 : ∀ w ∈ u_ws RX1 TX1 2, w ∈ wsX1_digestWithWards := fun _ h => List.mem_cons_of_mem _ (List.mem_append_left _ (List.mem_append_right _ h))
  refine lv_lload_n hx hb dX1_digestWithWards_0 rfl (lv_at hl 1 rfl) ?_
  refine lv_lstore_n (lv' := [(3, .long x1), (0, .ref h), (1, .long x1)]) hx hb dX1_digestWithWards_1 rfl hl (by decide) rfl (fun ls hl => ?_)
  refine lv_iconst (v := 0) hx hb dX1_digestWithWards_2 (by decide) ?_
  refine lv_istore (lv' := [(5, .int (0 : Int32)), (3, .long x1), (0, .ref h), (1, .long x1)]) hx hb dX1_digestWithWards_3 hl (by decide) rfl (fun ls hl => ?_)
  refine lp_go (fun (i5 : Nat) (q5 : Int64) => ∀ (H : Heap) (locs : List Loc) (ls : Array Slot), Wo D A s.heap (wb_c h a a2 cI cZ w b n T w2 b2 n2 T2) H locs → lv_has ls 6 [(0, .ref h), (3, .long q5), (5, .int (nI i5))] → W p l e rm_X1_digestWithWards s m args below meth c H locs 0 0 (QE below args s D A (some (.long (r_X1_digestWithWards w b n T w2 b2 n2 T2 x1))) (wb_c h a a2 cI cZ w b n T w2 b2 n2 T2) rm_X1_digestWithWards) (F0 m 5 ls [])) (f_X1_digestWithWards_5 w b n T w2 b2 n2 T2 x1) w (x1) ?_ ?_ s.heap [] ls hw (lv_sub hl [2, 1, 0] rfl)
  · intro i5 q5 hi5 k5 H locs ls hw hl
    refine lv_iload hx hb dX1_digestWithWards_5 (lv_at hl 2 rfl) ?_
    refine lv_aload_n hx hb dX1_digestWithWards_7 rfl (lv_at hl 0 rfl) ?_
    refine g_get (v := .ref (a 0)) hc hw hiX1 0 0 (wo_X1_H ..) rfl (by decide) (List.mem_of_getElem? (i := 1) rfl) (wv_X1_H_0 ..) dX1_digestWithWards_8 ?_
    refine g_get (v := .int (nI w)) hc hw hiX0 1 3 (wo_X1_T ..) rfl (by decide) (List.mem_of_getElem? (i := 2) rfl) (wv_X1_T_3 ..) dX1_digestWithWards_11 ?_
    refine lv_icmp_ge (tgt := 82) hx hb dX1_digestWithWards_14 (by decide) (fun z => absurd z (nI_ge hi5 (by omega))) (fun _ => ?_)
    refine lv_lload_n hx hb dX1_digestWithWards_17 rfl (lv_at hl 1 rfl) ?_
    refine lv_aload_n hx hb dX1_digestWithWards_18 rfl (lv_at hl 0 rfl) ?_
    refine g_get (v := .ref (a 0)) hc hw hiX1 0 0 (wo_X1_H ..) rfl (by decide) (List.mem_of_getElem? (i := 1) rfl) (wv_X1_H_0 ..) dX1_digestWithWards_19 ?_
    refine g_get (v := .ref (a 4)) hc hw hiX0 1 4 (wo_X1_T ..) rfl (by decide) (List.mem_of_getElem? (i := 3) rfl) (wv_X1_T_4 ..) dX1_digestWithWards_22 ?_
    refine lv_iload hx hb dX1_digestWithWards_25 (lv_at hl 2 rfl) ?_
    refine g_iald (f := (ct_pl T)) hc hw 2 (wr_X1_T_4 ..) (vp_in_nI (show i5 < 5 by omega) (by omega)) dX1_digestWithWards_27 ?_
    refine g_callS0 (n := 2) hc hw (k_X1_digestWith l D cI cZ cL q5 ((ct_pl T) (nI i5).toNatClampNeg)) gX1_digestWithWards_X1_digestWith rfl (by decide +kernel) ⟨Nat.le_of_ble_eq_true rfl, Nat.le_of_ble_eq_true rfl⟩ rfl (rest := []) rfl hl.1 (Nat.le_of_ble_eq_true rfl) (st1 := [.long (r_X1_digestWith q5 ((ct_pl T) (nI i5).toNatClampNeg))]) rfl dX1_digestWithWards_28 (k2 := 0) (s2 := 0) rfl rfl ⟨Nat.le_of_ble_eq_true rfl, Nat.le_of_ble_eq_true rfl⟩ (fun H locs hw => ?_)
    refine lv_lstore_n (lv' := [(3, .long (r_X1_digestWith q5 ((ct_pl T) (nI i5).toNatClampNeg))), (0, .ref h), (5, .int (nI i5))]) hx hb dX1_digestWithWards_31 rfl hl (by decide) rfl (fun ls hl => ?_)
    refine lv_lload_n hx hb dX1_digestWithWards_32 rfl (lv_at hl 0 rfl) ?_
    refine lv_aload_n hx hb dX1_digestWithWards_33 rfl (lv_at hl 1 rfl) ?_
    refine g_get (v := .ref (a 0)) hc hw hiX1 0 0 (wo_X1_H ..) rfl (by decide) (List.mem_of_getElem? (i := 1) rfl) (wv_X1_H_0 ..) dX1_digestWithWards_34 ?_
    refine lv_iconst (v := 1) hx hb dX1_digestWithWards_37 (by decide) ?_
    refine lv_iload hx hb dX1_digestWithWards_38 (lv_at hl 2 rfl) ?_
    refine g_callV (n := 2) hc hw (k_X0_countAt l D cI cZ cL a w b n T hd5 hd4 hd30 (1 : Int32) (nI i5)) gX1_digestWithWards_X0_countAt rfl (by decide +kernel) ⟨Nat.le_of_ble_eq_true rfl, Nat.le_of_ble_eq_true rfl⟩ (wo_X0_T ..) rfl rfl [1, 2, 3, 4, 5, 6, 7, 8, 9, 10, 11] [0, 12, 13, 14, 15, 16, 17, 18, 19, 20, 21, 22] [0, 12, 13, 14, 15, 16, 17, 18, 19, 20, 21, 22, 1, 2, 3, 4, 5, 6, 7, 8, 9, 10, 11] (wr := (wb_c0 h a a2 :: wt_c a2 cI cZ w2 b2 n2 T2)) (w' := (wb_c h a a2 cI cZ w b n T w2 b2 n2 T2)) (wpC_X1_T ..) (wpR_X1_T ..) (by decide) (by decide) (by decide) (wpJ_X1_T ..) (by decide) rfl (rest := [.long (r_X1_digestWith q5 ((ct_pl T) (nI i5).toNatClampNeg))]) rfl hl.1 (Nat.le_of_ble_eq_true rfl) (st1 := [.int (r_X0_countAt w b n T (1 : Int32) (nI i5)), .long (r_X1_digestWith q5 ((ct_pl T) (nI i5).toNatClampNeg))]) rfl dX1_digestWithWards_40 (k2 := 0) (s2 := 0) rfl rfl ⟨Nat.le_of_ble_eq_true rfl, Nat.le_of_ble_eq_true rfl⟩ (fun H locs hw => ?_)
    refine g_callS0 (n := 2) hc hw (k_X1_digestWith l D cI cZ cL (r_X1_digestWith q5 ((ct_pl T) (nI i5).toNatClampNeg)) (r_X0_countAt w b n T (1 : Int32) (nI i5))) gX1_digestWithWards_X1_digestWith rfl (by decide +kernel) ⟨Nat.le_of_ble_eq_true rfl, Nat.le_of_ble_eq_true rfl⟩ rfl (rest := []) rfl hl.1 (Nat.le_of_ble_eq_true rfl) (st1 := [.long (r_X1_digestWith (r_X1_digestWith q5 ((ct_pl T) (nI i5).toNatClampNeg)) (r_X0_countAt w b n T (1 : Int32) (nI i5)))]) rfl dX1_digestWithWards_43 (k2 := 0) (s2 := 0) rfl rfl ⟨Nat.le_of_ble_eq_true rfl, Nat.le_of_ble_eq_true rfl⟩ (fun H locs hw => ?_)
    refine lv_lstore_n (lv' := [(3, .long (r_X1_digestWith (r_X1_digestWith q5 ((ct_pl T) (nI i5).toNatClampNeg)) (r_X0_countAt w b n T (1 : Int32) (nI i5)))), (0, .ref h), (5, .int (nI i5))]) hx hb dX1_digestWithWards_46 rfl hl (by decide) rfl (fun ls hl => ?_)
    refine lv_lload_n hx hb dX1_digestWithWards_47 rfl (lv_at hl 0 rfl) ?_
    refine lv_aload_n hx hb dX1_digestWithWards_48 rfl (lv_at hl 1 rfl) ?_
    refine g_get (v := .ref (a 0)) hc hw hiX1 0 0 (wo_X1_H ..) rfl (by decide) (List.mem_of_getElem? (i := 1) rfl) (wv_X1_H_0 ..) dX1_digestWithWards_49 ?_
    refine g_get (v := .ref (a 5)) hc hw hiX0 1 5 (wo_X1_T ..) rfl (by decide) (List.mem_of_getElem? (i := 4) rfl) (wv_X1_T_5 ..) dX1_digestWithWards_52 ?_
    refine lv_iload hx hb dX1_digestWithWards_55 (lv_at hl 2 rfl) ?_
    refine g_iald (f := (ct_st T)) hc hw 3 (wr_X1_T_5 ..) (vp_in_nI (show i5 < 5 by omega) (by omega)) dX1_digestWithWards_57 ?_
    refine g_callS0 (n := 2) hc hw (k_X1_digestWith l D cI cZ cL (r_X1_digestWith (r_X1_digestWith q5 ((ct_pl T) (nI i5).toNatClampNeg)) (r_X0_countAt w b n T (1 : Int32) (nI i5))) ((ct_st T) (nI i5).toNatClampNeg)) gX1_digestWithWards_X1_digestWith rfl (by decide +kernel) ⟨Nat.le_of_ble_eq_true rfl, Nat.le_of_ble_eq_true rfl⟩ rfl (rest := []) rfl hl.1 (Nat.le_of_ble_eq_true rfl) (st1 := [.long (r_X1_digestWith (r_X1_digestWith (r_X1_digestWith q5 ((ct_pl T) (nI i5).toNatClampNeg)) (r_X0_countAt w b n T (1 : Int32) (nI i5))) ((ct_st T) (nI i5).toNatClampNeg))]) rfl dX1_digestWithWards_58 (k2 := 0) (s2 := 0) rfl rfl ⟨Nat.le_of_ble_eq_true rfl, Nat.le_of_ble_eq_true rfl⟩ (fun H locs hw => ?_)
    refine lv_lstore_n (lv' := [(3, .long (r_X1_digestWith (r_X1_digestWith (r_X1_digestWith q5 ((ct_pl T) (nI i5).toNatClampNeg)) (r_X0_countAt w b n T (1 : Int32) (nI i5))) ((ct_st T) (nI i5).toNatClampNeg))), (0, .ref h), (5, .int (nI i5))]) hx hb dX1_digestWithWards_61 rfl hl (by decide) rfl (fun ls hl => ?_)
    refine lv_lload_n hx hb dX1_digestWithWards_62 rfl (lv_at hl 0 rfl) ?_
    refine lv_aload_n hx hb dX1_digestWithWards_63 rfl (lv_at hl 1 rfl) ?_
    refine g_get (v := .ref (a 0)) hc hw hiX1 0 0 (wo_X1_H ..) rfl (by decide) (List.mem_of_getElem? (i := 1) rfl) (wv_X1_H_0 ..) dX1_digestWithWards_64 ?_
    refine lv_iload hx hb dX1_digestWithWards_67 (lv_at hl 2 rfl) ?_
    refine g_callV (n := 1) hc hw (k_X0_feversInWard l D cI cZ cL a w b n T hd5 hd4 hd30 (nI i5)) gX1_digestWithWards_X0_feversInWard rfl (by decide +kernel) ⟨Nat.le_of_ble_eq_true rfl, Nat.le_of_ble_eq_true rfl⟩ (wo_X0_T ..) rfl rfl [1, 2, 3, 4, 5, 6, 7, 8, 9, 10, 11] [0, 12, 13, 14, 15, 16, 17, 18, 19, 20, 21, 22] [0, 12, 13, 14, 15, 16, 17, 18, 19, 20, 21, 22, 1, 2, 3, 4, 5, 6, 7, 8, 9, 10, 11] (wr := (wb_c0 h a a2 :: wt_c a2 cI cZ w2 b2 n2 T2)) (w' := (wb_c h a a2 cI cZ w b n T w2 b2 n2 T2)) (wpC_X1_T ..) (wpR_X1_T ..) (by decide) (by decide) (by decide) (wpJ_X1_T ..) (by decide) rfl (rest := [.long (r_X1_digestWith (r_X1_digestWith (r_X1_digestWith q5 ((ct_pl T) (nI i5).toNatClampNeg)) (r_X0_countAt w b n T (1 : Int32) (nI i5))) ((ct_st T) (nI i5).toNatClampNeg))]) rfl hl.1 (Nat.le_of_ble_eq_true rfl) (st1 := [.int (r_X0_feversInWard w b n T (nI i5)), .long (r_X1_digestWith (r_X1_digestWith (r_X1_digestWith q5 ((ct_pl T) (nI i5).toNatClampNeg)) (r_X0_countAt w b n T (1 : Int32) (nI i5))) ((ct_st T) (nI i5).toNatClampNeg))]) rfl dX1_digestWithWards_69 (k2 := 0) (s2 := 0) rfl rfl ⟨Nat.le_of_ble_eq_true rfl, Nat.le_of_ble_eq_true rfl⟩ (fun H locs hw => ?_)
    refine g_callS0 (n := 2) hc hw (k_X1_digestWith l D cI cZ cL (r_X1_digestWith (r_X1_digestWith (r_X1_digestWith q5 ((ct_pl T) (nI i5).toNatClampNeg)) (r_X0_countAt w b n T (1 : Int32) (nI i5))) ((ct_st T) (nI i5).toNatClampNeg)) (r_X0_feversInWard w b n T (nI i5))) gX1_digestWithWards_X1_digestWith rfl (by decide +kernel) ⟨Nat.le_of_ble_eq_true rfl, Nat.le_of_ble_eq_true rfl⟩ rfl (rest := []) rfl hl.1 (Nat.le_of_ble_eq_true rfl) (st1 := [.long (r_X1_digestWith (r_X1_digestWith (r_X1_digestWith (r_X1_digestWith q5 ((ct_pl T) (nI i5).toNatClampNeg)) (r_X0_countAt w b n T (1 : Int32) (nI i5))) ((ct_st T) (nI i5).toNatClampNeg)) (r_X0_feversInWard w b n T (nI i5)))]) rfl dX1_digestWithWards_72 (k2 := 0) (s2 := 0) rfl rfl ⟨Nat.le_of_ble_eq_true rfl, Nat.le_of_ble_eq_true rfl⟩ (fun H locs hw => ?_)
    refine lv_lstore_n (lv' := [(3, .long (r_X1_digestWith (r_X1_digestWith (r_X1_digestWith (r_X1_digestWith q5 ((ct_pl T) (nI i5).toNatClampNeg)) (r_X0_countAt w b n T (1 : Int32) (nI i5))) ((ct_st T) (nI i5).toNatClampNeg)) (r_X0_feversInWard w b n T (nI i5)))), (0, .ref h), (5, .int (nI i5))]) hx hb dX1_digestWithWards_75 rfl hl (by decide) rfl (fun ls hl => ?_)
    refine lv_iinc (v := (nI (i5 + 1))) (lv' := [(5, .int (nI (i5 + 1))), (3, .long (r_X1_digestWith (r_X1_digestWith (r_X1_digestWith (r_X1_digestWith q5 ((ct_pl T) (nI i5).toNatClampNeg)) (r_X0_countAt w b n T (1 : Int32) (nI i5))) ((ct_st T) (nI i5).toNatClampNeg)) (r_X0_feversInWard w b n T (nI i5)))), (0, .ref h)]) hx hb dX1_digestWithWards_76 hl (k := 2) rfl (inc_n i5) (by decide) rfl (fun ls hl => ?_)
    refine lv_goto (tgt := 5) hx hb dX1_digestWithWards_79 (by decide) ?_
    rw [show (f_X1_digestWithWards_5 w b n T w2 b2 n2 T2 x1) i5 q5 = ((r_X1_digestWith (r_X1_digestWith (r_X1_digestWith (r_X1_digestWith q5 ((ct_pl T) (nI i5).toNatClampNeg)) (r_X0_countAt w b n T (1 : Int32) (nI i5))) ((ct_st T) (nI i5).toNatClampNeg)) (r_X0_feversInWard w b n T (nI i5)))) from by rw [f_X1_digestWithWards_5]] at k5
    exact k5 H locs ls hw (lv_sub hl [2, 1, 0] rfl)
  · intro H locs ls hw hl
    refine lv_iload hx hb dX1_digestWithWards_5 (lv_at hl 2 rfl) ?_
    refine lv_aload_n hx hb dX1_digestWithWards_7 rfl (lv_at hl 0 rfl) ?_
    refine g_get (v := .ref (a 0)) hc hw hiX1 0 0 (wo_X1_H ..) rfl (by decide) (List.mem_of_getElem? (i := 1) rfl) (wv_X1_H_0 ..) dX1_digestWithWards_8 ?_
    refine g_get (v := .int (nI w)) hc hw hiX0 1 3 (wo_X1_T ..) rfl (by decide) (List.mem_of_getElem? (i := 2) rfl) (wv_X1_T_3 ..) dX1_digestWithWards_11 ?_
    refine lv_icmp_ge (tgt := 82) hx hb dX1_digestWithWards_14 (by decide) (fun _ => ?_) (fun z => absurd (nI_le (Nat.le_refl _) (by omega)) z)
    refine lv_lload_n hx hb dX1_digestWithWards_82 rfl (lv_at hl 1 rfl) ?_
    rw [show r_X1_digestWithWards w b n T w2 b2 n2 T2 x1 = (lpf (f_X1_digestWithWards_5 w b n T w2 b2 n2 T2 x1) w 0 (x1)) from by rw [r_X1_digestWithWards]]
    exact g_lret hc hw rfl (Nat.le_of_ble_eq_true rfl) (Nat.le_of_ble_eq_true rfl) dX1_digestWithWards_83

def f_X1_digestWithBarges_5 (w : Nat) (b : Nat) (n : Nat) (T : ct_T) (w2 : Nat) (b2 : Nat) (n2 : Nat) (T2 : ct_T) (x1 : Int64) (i5 : Nat) (q5 : Int64) : Int64 := ((r_X1_digestWith (r_X1_digestWith (r_X1_digestWith q5 ((ct_to T) (nI i5).toNatClampNeg)) ((ct_ke T) (nI i5).toNatClampNeg)) (r_X0_countAt w b n T (0 : Int32) (nI i5))))
def r_X1_digestWithBarges (w : Nat) (b : Nat) (n : Nat) (T : ct_T) (w2 : Nat) (b2 : Nat) (n2 : Nat) (T2 : ct_T) (x1 : Int64) : Int64 := (lpf (f_X1_digestWithBarges_5 w b n T w2 b2 n2 T2 x1) b 0 (x1))
abbrev rm_X1_digestWithBarges : Room := { frames := 2, cells := 0, slots := 0, locals := 47 }
set_option maxHeartbeats 4000000 in
set_option maxRecDepth 100000 in
theorem k_X1_digestWithBarges (l : Launch) (D : va_G) (cI cZ cL : ClassId) (h : Nat) (a a2 : Nat → Nat) (w : Nat) (b : Nat) (n : Nat) (T : ct_T) (w2 : Nat) (b2 : Nat) (n2 : Nat) (T2 : ct_T) (hd5 : w ≤ 5) (hd4 : b ≤ 4) (hd30 : n ≤ 30) (he5 : w2 ≤ 5) (he4 : b2 ≤ 4) (he30 : n2 ≤ 30) (x1 : Int64)  : MX l yX1_digestWithBarges wsX1_digestWithBarges rm_X1_digestWithBarges D cI cZ cL [.ref h, .long x1] (wb_c h a a2 cI cZ w b n T w2 b2 n2 T2) (some (.long (r_X1_digestWithBarges w b n T w2 b2 n2 T2 x1))) (wb_c h a a2 cI cZ w b n T w2 b2 n2 T2) := by
  refine MX.of (own := RX1) (cc := cX1_digestWithBarges) (maxL := 6) (ret := (some .long)) (lv0 := [(0, .ref h), (1, .long x1)]) (by decide) rfl rfl (Nat.le_of_ble_eq_true rfl) rfl ?_
  intro p e s m args below meth c A hc hnm hw ls hl
  obtain ⟨hx, hb, hr, hml, hown, hts, hlk, hK, hA⟩ := id hc
  have hiX0 : ∀ w ∈ u_ws RX0 TX0 16, w ∈ wsX1_digestWithBarges := fun _ h => List.mem_cons_of_mem _ (List.mem_append_right _ h)
  have hiX1 : ∀ w ∈ u_ws RX1 TX1 2, w ∈ wsX1_digestWithBarges := fun _ h => List.mem_cons_of_mem _ (List.mem_append_left _ (List.mem_append_right _ h))
  refine lv_lload_n hx hb dX1_digestWithBarges_0 rfl (lv_at hl 1 rfl) ?_
  refine lv_lstore_n (lv' := [(3, .long x1), (0, .ref h), (1, .long x1)]) hx hb dX1_digestWithBarges_1 rfl hl (by decide) rfl (fun ls hl => ?_)
  refine lv_iconst (v := 0) hx hb dX1_digestWithBarges_2 (by decide) ?_
  refine lv_istore (lv' := [(5, .int (0 : Int32)), (3, .long x1), (0, .ref h), (1, .long x1)]) hx hb dX1_digestWithBarges_3 hl (by decide) rfl (fun ls hl => ?_)
  refine lp_go (fun (i5 : Nat) (q5 : Int64) => ∀ (H : Heap) (locs : List Loc) (ls : Array Slot), Wo D A s.heap (wb_c h a a2 cI cZ w b n T w2 b2 n2 T2) H locs → lv_has ls 6 [(0, .ref h), (3, .long q5), (5, .int (nI i5))] → W p l e rm_X1_digestWithBarges s m args below meth c H locs 0 0 (QE below args s D A (some (.long (r_X1_digestWithBarges w b n T w2 b2 n2 T2 x1))) (wb_c h a a2 cI cZ w b n T w2 b2 n2 T2) rm_X1_digestWithBarges) (F0 m 5 ls [])) (f_X1_digestWithBarges_5 w b n T w2 b2 n2 T2 x1) b (x1) ?_ ?_ s.heap [] ls hw (lv_sub hl [2, 1, 0] rfl)
  · intro i5 q5 hi5 k5 H locs ls hw hl
    refine lv_iload hx hb dX1_digestWithBarges_5 (lv_at hl 2 rfl) ?_
    refine lv_aload_n hx hb dX1_digestWithBarges_7 rfl (lv_at hl 0 rfl) ?_
    refine g_get (v := .ref (a 0)) hc hw hiX1 0 0 (wo_X1_H ..) rfl (by decide) (List.mem_of_getElem? (i := 1) rfl) (wv_X1_H_0 ..) dX1_digestWithBarges_8 ?_
    refine g_get (v := .int (nI b)) hc hw hiX0 1 6 (wo_X1_T ..) rfl (by decide) (List.mem_of_getElem? (i := 2) rfl) (wv_X1_T_6 ..) dX1_digestWithBarges_11 ?_
    refine lv_icmp_ge (tgt := 68) hx hb dX1_digestWithBarges_14 (by decide) (fun z => absurd z (nI_ge hi5 (by omega))) (fun _ => ?_)
    refine lv_lload_n hx hb dX1_digestWithBarges_17 rfl (lv_at hl 1 rfl) ?_
    refine lv_aload_n hx hb dX1_digestWithBarges_18 rfl (lv_at hl 0 rfl) ?_
    refine g_get (v := .ref (a 0)) hc hw hiX1 0 0 (wo_X1_H ..) rfl (by decide) (List.mem_of_getElem? (i := 1) rfl) (wv_X1_H_0 ..) dX1_digestWithBarges_19 ?_
    refine g_get (v := .ref (a 8)) hc hw hiX0 1 8 (wo_X1_T ..) rfl (by decide) (List.mem_of_getElem? (i := 3) rfl) (wv_X1_T_8 ..) dX1_digestWithBarges_22 ?_
    refine lv_iload hx hb dX1_digestWithBarges_25 (lv_at hl 2 rfl) ?_
    refine g_iald (f := (ct_to T)) hc hw 5 (wr_X1_T_8 ..) (vp_in_nI (show i5 < 4 by omega) (by omega)) dX1_digestWithBarges_27 ?_
    refine g_callS0 (n := 2) hc hw (k_X1_digestWith l D cI cZ cL q5 ((ct_to T) (nI i5).toNatClampNeg)) gX1_digestWithBarges_X1_digestWith rfl (by decide +kernel) ⟨Nat.le_of_ble_eq_true rfl, Nat.le_of_ble_eq_true rfl⟩ rfl (rest := []) rfl hl.1 (Nat.le_of_ble_eq_true rfl) (st1 := [.long (r_X1_digestWith q5 ((ct_to T) (nI i5).toNatClampNeg))]) rfl dX1_digestWithBarges_28 (k2 := 0) (s2 := 0) rfl rfl ⟨Nat.le_of_ble_eq_true rfl, Nat.le_of_ble_eq_true rfl⟩ (fun H locs hw => ?_)
    refine lv_lstore_n (lv' := [(3, .long (r_X1_digestWith q5 ((ct_to T) (nI i5).toNatClampNeg))), (0, .ref h), (5, .int (nI i5))]) hx hb dX1_digestWithBarges_31 rfl hl (by decide) rfl (fun ls hl => ?_)
    refine lv_lload_n hx hb dX1_digestWithBarges_32 rfl (lv_at hl 0 rfl) ?_
    refine lv_aload_n hx hb dX1_digestWithBarges_33 rfl (lv_at hl 1 rfl) ?_
    refine g_get (v := .ref (a 0)) hc hw hiX1 0 0 (wo_X1_H ..) rfl (by decide) (List.mem_of_getElem? (i := 1) rfl) (wv_X1_H_0 ..) dX1_digestWithBarges_34 ?_
    refine g_get (v := .ref (a 7)) hc hw hiX0 1 7 (wo_X1_T ..) rfl (by decide) (List.mem_of_getElem? (i := 4) rfl) (wv_X1_T_7 ..) dX1_digestWithBarges_37 ?_
    refine lv_iload hx hb dX1_digestWithBarges_40 (lv_at hl 2 rfl) ?_
    refine g_iald (f := (ct_ke T)) hc hw 4 (wr_X1_T_7 ..) (vp_in_nI (show i5 < 4 by omega) (by omega)) dX1_digestWithBarges_42 ?_
    refine g_callS0 (n := 2) hc hw (k_X1_digestWith l D cI cZ cL (r_X1_digestWith q5 ((ct_to T) (nI i5).toNatClampNeg)) ((ct_ke T) (nI i5).toNatClampNeg)) gX1_digestWithBarges_X1_digestWith rfl (by decide +kernel) ⟨Nat.le_of_ble_eq_true rfl, Nat.le_of_ble_eq_true rfl⟩ rfl (rest := []) rfl hl.1 (Nat.le_of_ble_eq_true rfl) (st1 := [.long (r_X1_digestWith (r_X1_digestWith q5 ((ct_to T) (nI i5).toNatClampNeg)) ((ct_ke T) (nI i5).toNatClampNeg))]) rfl dX1_digestWithBarges_43 (k2 := 0) (s2 := 0) rfl rfl ⟨Nat.le_of_ble_eq_true rfl, Nat.le_of_ble_eq_true rfl⟩ (fun H locs hw => ?_)
    refine lv_lstore_n (lv' := [(3, .long (r_X1_digestWith (r_X1_digestWith q5 ((ct_to T) (nI i5).toNatClampNeg)) ((ct_ke T) (nI i5).toNatClampNeg))), (0, .ref h), (5, .int (nI i5))]) hx hb dX1_digestWithBarges_46 rfl hl (by decide) rfl (fun ls hl => ?_)
    refine lv_lload_n hx hb dX1_digestWithBarges_47 rfl (lv_at hl 0 rfl) ?_
    refine lv_aload_n hx hb dX1_digestWithBarges_48 rfl (lv_at hl 1 rfl) ?_
    refine g_get (v := .ref (a 0)) hc hw hiX1 0 0 (wo_X1_H ..) rfl (by decide) (List.mem_of_getElem? (i := 1) rfl) (wv_X1_H_0 ..) dX1_digestWithBarges_49 ?_
    refine lv_iconst (v := 0) hx hb dX1_digestWithBarges_52 (by decide) ?_
    refine lv_iload hx hb dX1_digestWithBarges_53 (lv_at hl 2 rfl) ?_
    refine g_callV (n := 2) hc hw (k_X0_countAt l D cI cZ cL a w b n T hd5 hd4 hd30 (0 : Int32) (nI i5)) gX1_digestWithBarges_X0_countAt rfl (by decide +kernel) ⟨Nat.le_of_ble_eq_true rfl, Nat.le_of_ble_eq_true rfl⟩ (wo_X0_T ..) rfl rfl [1, 2, 3, 4, 5, 6, 7, 8, 9, 10, 11] [0, 12, 13, 14, 15, 16, 17, 18, 19, 20, 21, 22] [0, 12, 13, 14, 15, 16, 17, 18, 19, 20, 21, 22, 1, 2, 3, 4, 5, 6, 7, 8, 9, 10, 11] (wr := (wb_c0 h a a2 :: wt_c a2 cI cZ w2 b2 n2 T2)) (w' := (wb_c h a a2 cI cZ w b n T w2 b2 n2 T2)) (wpC_X1_T ..) (wpR_X1_T ..) (by decide) (by decide) (by decide) (wpJ_X1_T ..) (by decide) rfl (rest := [.long (r_X1_digestWith (r_X1_digestWith q5 ((ct_to T) (nI i5).toNatClampNeg)) ((ct_ke T) (nI i5).toNatClampNeg))]) rfl hl.1 (Nat.le_of_ble_eq_true rfl) (st1 := [.int (r_X0_countAt w b n T (0 : Int32) (nI i5)), .long (r_X1_digestWith (r_X1_digestWith q5 ((ct_to T) (nI i5).toNatClampNeg)) ((ct_ke T) (nI i5).toNatClampNeg))]) rfl dX1_digestWithBarges_55 (k2 := 0) (s2 := 0) rfl rfl ⟨Nat.le_of_ble_eq_true rfl, Nat.le_of_ble_eq_true rfl⟩ (fun H locs hw => ?_)
    refine g_callS0 (n := 2) hc hw (k_X1_digestWith l D cI cZ cL (r_X1_digestWith (r_X1_digestWith q5 ((ct_to T) (nI i5).toNatClampNeg)) ((ct_ke T) (nI i5).toNatClampNeg)) (r_X0_countAt w b n T (0 : Int32) (nI i5))) gX1_digestWithBarges_X1_digestWith rfl (by decide +kernel) ⟨Nat.le_of_ble_eq_true rfl, Nat.le_of_ble_eq_true rfl⟩ rfl (rest := []) rfl hl.1 (Nat.le_of_ble_eq_true rfl) (st1 := [.long (r_X1_digestWith (r_X1_digestWith (r_X1_digestWith q5 ((ct_to T) (nI i5).toNatClampNeg)) ((ct_ke T) (nI i5).toNatClampNeg)) (r_X0_countAt w b n T (0 : Int32) (nI i5)))]) rfl dX1_digestWithBarges_58 (k2 := 0) (s2 := 0) rfl rfl ⟨Nat.le_of_ble_eq_true rfl, Nat.le_of_ble_eq_true rfl⟩ (fun H locs hw => ?_)
    refine lv_lstore_n (lv' := [(3, .long (r_X1_digestWith (r_X1_digestWith (r_X1_digestWith q5 ((ct_to T) (nI i5).toNatClampNeg)) ((ct_ke T) (nI i5).toNatClampNeg)) (r_X0_countAt w b n T (0 : Int32) (nI i5)))), (0, .ref h), (5, .int (nI i5))]) hx hb dX1_digestWithBarges_61 rfl hl (by decide) rfl (fun ls hl => ?_)
    refine lv_iinc (v := (nI (i5 + 1))) (lv' := [(5, .int (nI (i5 + 1))), (3, .long (r_X1_digestWith (r_X1_digestWith (r_X1_digestWith q5 ((ct_to T) (nI i5).toNatClampNeg)) ((ct_ke T) (nI i5).toNatClampNeg)) (r_X0_countAt w b n T (0 : Int32) (nI i5)))), (0, .ref h)]) hx hb dX1_digestWithBarges_62 hl (k := 2) rfl (inc_n i5) (by decide) rfl (fun ls hl => ?_)
    refine lv_goto (tgt := 5) hx hb dX1_digestWithBarges_65 (by decide) ?_
    rw [show (f_X1_digestWithBarges_5 w b n T w2 b2 n2 T2 x1) i5 q5 = ((r_X1_digestWith (r_X1_digestWith (r_X1_digestWith q5 ((ct_to T) (nI i5).toNatClampNeg)) ((ct_ke T) (nI i5).toNatClampNeg)) (r_X0_countAt w b n T (0 : Int32) (nI i5)))) from by rw [f_X1_digestWithBarges_5]] at k5
    exact k5 H locs ls hw (lv_sub hl [2, 1, 0] rfl)
  · intro H locs ls hw hl
    refine lv_iload hx hb dX1_digestWithBarges_5 (lv_at hl 2 rfl) ?_
    refine lv_aload_n hx hb dX1_digestWithBarges_7 rfl (lv_at hl 0 rfl) ?_
    refine g_get (v := .ref (a 0)) hc hw hiX1 0 0 (wo_X1_H ..) rfl (by decide) (List.mem_of_getElem? (i := 1) rfl) (wv_X1_H_0 ..) dX1_digestWithBarges_8 ?_
    refine g_get (v := .int (nI b)) hc hw hiX0 1 6 (wo_X1_T ..) rfl (by decide) (List.mem_of_getElem? (i := 2) rfl) (wv_X1_T_6 ..) dX1_digestWithBarges_11 ?_
    refine lv_icmp_ge (tgt := 68) hx hb dX1_digestWithBarges_14 (by decide) (fun _ => ?_) (fun z => absurd (nI_le (Nat.le_refl _) (by omega)) z)
    refine lv_lload_n hx hb dX1_digestWithBarges_68 rfl (lv_at hl 1 rfl) ?_
    rw [show r_X1_digestWithBarges w b n T w2 b2 n2 T2 x1 = (lpf (f_X1_digestWithBarges_5 w b n T w2 b2 n2 T2 x1) b 0 (x1)) from by rw [r_X1_digestWithBarges]]
    exact g_lret hc hw rfl (Nat.le_of_ble_eq_true rfl) (Nat.le_of_ble_eq_true rfl) dX1_digestWithBarges_69
