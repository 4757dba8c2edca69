def f_X3_digest_118 (th : Int32) (w : Nat) (b : Nat) (n : Nat) (T : mt_T) (w2 : Nat) (b2 : Nat) (n2 : Nat) (T2 : mt_T) (i118 : Nat) (q118 : Int64) : Int64 := (((((((((q118 * (31 : Int64)) + (Int32.toInt64 ((mt_pl T) (nI i118).toNatClampNeg))) * (31 : Int64)) + (Int32.toInt64 (r_X2_at w b n T (nI i118)))) * (31 : Int64)) + (Int32.toInt64 ((mt_st T) (nI i118).toNatClampNeg))) * (31 : Int64)) + (Int32.toInt64 (r_X3_feversAt (0 : Int32) w b n T w2 b2 n2 T2 (nI i118)))))
def f_X3_digest_202 (th : Int32) (w : Nat) (b : Nat) (n : Nat) (T : mt_T) (w2 : Nat) (b2 : Nat) (n2 : Nat) (T2 : mt_T) (i202 : Nat) (q202 : Int64) : Int64 := (((((((q202 * (31 : Int64)) + (Int32.toInt64 ((mt_to T) (nI i202).toNatClampNeg))) * (31 : Int64)) + (Int32.toInt64 ((mt_ke T) (nI i202).toNatClampNeg))) * (31 : Int64)) + (Int32.toInt64 (r_X2_at w b n T ((10 : Int32) + (nI i202))))))
def f_X3_digest_277 (th : Int32) (w : Nat) (b : Nat) (n : Nat) (T : mt_T) (w2 : Nat) (b2 : Nat) (n2 : Nat) (T2 : mt_T) (i277 : Nat) (q277 : Int64) : Int64 := if ((mt_wh T) (nI i277).toNatClampNeg) = (20 : Int32) then (if ((mt_wh T) (nI i277).toNatClampNeg) = (21 : Int32) then (((((((((((((q277 * (31 : Int64)) + (Int32.toInt64 ((mt_fe T) (nI i277).toNatClampNeg))) * (31 : Int64)) + (Int32.toInt64 (r_X3_wardTold (0 : Int32) w b n T w2 b2 n2 T2 (nI i277)))) * (31 : Int64)) + (Int32.toInt64 (r_X3_bargeTold (0 : Int32) w b n T w2 b2 n2 T2 (nI i277)))) * (31 : Int64)) + (Int32.toInt64 (1 : Int32))) * (31 : Int64)) + (Int32.toInt64 (1 : Int32))) * (31 : Int64)) + (Int32.toInt64 ((mt_hu T) (nI i277).toNatClampNeg)))) else (((((((((((((q277 * (31 : Int64)) + (Int32.toInt64 ((mt_fe T) (nI i277).toNatClampNeg))) * (31 : Int64)) + (Int32.toInt64 (r_X3_wardTold (0 : Int32) w b n T w2 b2 n2 T2 (nI i277)))) * (31 : Int64)) + (Int32.toInt64 (r_X3_bargeTold (0 : Int32) w b n T w2 b2 n2 T2 (nI i277)))) * (31 : Int64)) + (Int32.toInt64 (1 : Int32))) * (31 : Int64)) + (Int32.toInt64 (0 : Int32))) * (31 : Int64)) + (Int32.toInt64 ((mt_hu T) (nI i277).toNatClampNeg))))) else (if ((mt_wh T) (nI i277).toNatClampNeg) = (21 : Int32) then (((((((((((((q277 * (31 : Int64)) + (Int32.toInt64 ((mt_fe T) (nI i277).toNatClampNeg))) * (31 : Int64)) + (Int32.toInt64 (r_X3_wardTold (0 : Int32) w b n T w2 b2 n2 T2 (nI i277)))) * (31 : Int64)) + (Int32.toInt64 (r_X3_bargeTold (0 : Int32) w b n T w2 b2 n2 T2 (nI i277)))) * (31 : Int64)) + (Int32.toInt64 (0 : Int32))) * (31 : Int64)) + (Int32.toInt64 (1 : Int32))) * (31 : Int64)) + (Int32.toInt64 ((mt_hu T) (nI i277).toNatClampNeg)))) else (((((((((((((q277 * (31 : Int64)) + (Int32.toInt64 ((mt_fe T) (nI i277).toNatClampNeg))) * (31 : Int64)) + (Int32.toInt64 (r_X3_wardTold (0 : Int32) w b n T w2 b2 n2 T2 (nI i277)))) * (31 : Int64)) + (Int32.toInt64 (r_X3_bargeTold (0 : Int32) w b n T w2 b2 n2 T2 (nI i277)))) * (31 : Int64)) + (Int32.toInt64 (0 : Int32))) * (31 : Int64)) + (Int32.toInt64 (0 : Int32))) * (31 : Int64)) + (Int32.toInt64 ((mt_hu T) (nI i277).toNatClampNeg)))))
def r_X3_digest (th : Int32) (w : Nat) (b : Nat) (n : Nat) (T : mt_T) (w2 : Nat) (b2 : Nat) (n2 : Nat) (T2 : mt_T) : Int64 := (lpf (f_X3_digest_277 th w b n T w2 b2 n2 T2) n 0 ((lpf (f_X3_digest_202 th w b n T w2 b2 n2 T2) b 0 ((lpf (f_X3_digest_118 th w b n T w2 b2 n2 T2) w 0 ((((((((((((((1877 : Int64) * (31 : Int64)) + (Int32.toInt64 (mt_day T))) * (31 : Int64)) + (Int32.toInt64 (nI w))) * (31 : Int64)) + (Int32.toInt64 (nI b))) * (31 : Int64)) + (Int32.toInt64 (nI n))) * (31 : Int64)) + (Int32.toInt64 (mt_bo T))) * (31 : Int64)) + (Int32.toInt64 (mt_ea T)))))))))
def t_X3_digest (th : Int32) (w : Nat) (b : Nat) (n : Nat) (T : mt_T) (w2 : Nat) (b2 : Nat) (n2 : Nat) (T2 : mt_T) : Int32 := (0 : Int32)
abbrev rm_X3_digest : Room := { frames := 2, cells := 1, slots := 6, locals := 43 }
set_option maxHeartbeats 4000000 in
set_option maxRecDepth 100000 in
theorem k_X3_digest (l : Launch) (D : va_G) (cI cZ cL : ClassId) (h : Nat) (a a2 : Nat → Nat) (th : Int32) (w : Nat) (b : Nat) (n : Nat) (T : mt_T) (w2 : Nat) (b2 : Nat) (n2 : Nat) (T2 : mt_T) (hd5 : w ≤ 5) (hd4 : b ≤ 4) (hd30 : n ≤ 30) (he5 : w2 ≤ 5) (he4 : b2 ≤ 4) (he30 : n2 ≤ 30)   : MX l yX3_digest wsX3_digest rm_X3_digest D cI cZ cL [.ref h] (wb_m h a a2 cI th w b n T w2 b2 n2 T2) (some (.long (r_X3_digest th w b n T w2 b2 n2 T2))) (wb_m h a a2 cI (t_X3_digest th w b n T w2 b2 n2 T2) w b n T w2 b2 n2 T2) := by
  refine MX.of (own := RX3) (cc := cX3_digest) (maxL := 8) (ret := (some .long)) (lv0 := [(0, .ref h)]) (by decide) rfl rfl (Nat.le_of_ble_eq_true rfl) rfl ?_
  intro p e s m args below meth c A hc hnm hw ls hl
  obtain ⟨hx, hb, hr, hml, hown, hts, hlk, hK, hA⟩ := id hc
  have hiX2 : ∀ w ∈ u_ws RX2 TX2 13, w ∈ wsX3_digest := fun _ h => List.mem_cons_of_mem _ (List.mem_append_right _ h)
  have hiX3 : ∀ w ∈ u_ws RX3 TX3 3, w ∈ wsX3_digest := fun _ h => List.mem_cons_of_mem _ (List.mem_append_left _ (List.mem_append_right _ h))
  refine lv_aload_n hx hb dX3_digest_0 rfl (lv_at hl 0 rfl) ?_
  refine lv_iconst (v := 0) hx hb dX3_digest_1 (by decide) ?_
  refine g_put hc hw hiX3 tyX3 tyX3_ok nmX3 0 0 (wo_X3_H ..) rfl (by decide) (List.mem_of_getElem? (i := 1) rfl) (by decide) rfl rfl (Nat.le_of_ble_eq_true rfl) (w' := (wb_m h a a2 cI (0 : Int32) w b n T w2 b2 n2 T2)) (wp_X3_H_0 ..) dX3_digest_2 (fun H locs hw => ?_)
  refine lv_bipush (v := 6) hx hb dX3_digest_5 (by decide) ?_
  refine g_newI hc hw (N := 6) (List.mem_of_getElem? (i := 2) rfl) (by decide) (by decide) (by decide) (Nat.le_of_ble_eq_true rfl) (Nat.le_of_ble_eq_true rfl) dX3_digest_7 (fun qa H locs hw => ?_)
  refine lv_dup hx hb dX3_digest_9 rfl ?_
  refine lv_iconst (v := 0) hx hb dX3_digest_10 (by decide) ?_
  refine lv_aload_n hx hb dX3_digest_11 rfl (lv_at hl 0 rfl) ?_
  refine g_get (v := .ref (a 0)) hc hw hiX3 0 1 rfl rfl (by decide) (List.mem_of_getElem? (i := 3) rfl) (wv_X3_H_1 ..) dX3_digest_12 ?_
  refine g_getN (v := .int (mt_day T)) (host := RX3) hc hw hiX2 1 0 rfl rfl (by decide) (fun z => z.2 (97, "day", "I") (by decide +kernel)) (wv_X3_T_0 ..) dX3_digest_15 ?_
  refine g_iast (f := (fun _ => 0)) hc hw 17 rfl (by unfold vp_in; decide) (w' := ((wb_m h a a2 cI (0 : Int32) w b n T w2 b2 n2 T2) ++ [(qa, .inl (cI, 6, .inl (upd (fun _ => 0) (0 : Int32).toNatClampNeg (mt_day T))))])) rfl dX3_digest_18 (fun H locs hw => ?_)
  refine lv_dup hx hb dX3_digest_19 rfl ?_
  refine lv_iconst (v := 1) hx hb dX3_digest_20 (by decide) ?_
  refine lv_aload_n hx hb dX3_digest_21 rfl (lv_at hl 0 rfl) ?_
  refine g_get (v := .ref (a 0)) hc hw hiX3 0 1 rfl rfl (by decide) (List.mem_of_getElem? (i := 3) rfl) (wv_X3_H_1 ..) dX3_digest_22 ?_
  refine g_getN (v := .int (nI w)) (host := RX3) hc hw hiX2 1 1 rfl rfl (by decide) (fun z => z.2 (23, "wards", "I") (by decide +kernel)) (wv_X3_T_1 ..) dX3_digest_25 ?_
  refine g_iast (f := (upd (fun _ => 0) (0 : Int32).toNatClampNeg (mt_day T))) hc hw 17 rfl (by unfold vp_in; decide) (w' := ((wb_m h a a2 cI (0 : Int32) w b n T w2 b2 n2 T2) ++ [(qa, .inl (cI, 6, .inl (upd (upd (fun _ => 0) (0 : Int32).toNatClampNeg (mt_day T)) (1 : Int32).toNatClampNeg (nI w))))])) rfl dX3_digest_28 (fun H locs hw => ?_)
  refine lv_dup hx hb dX3_digest_29 rfl ?_
  refine lv_iconst (v := 2) hx hb dX3_digest_30 (by decide) ?_
  refine lv_aload_n hx hb dX3_digest_31 rfl (lv_at hl 0 rfl) ?_
  refine g_get (v := .ref (a 0)) hc hw hiX3 0 1 rfl rfl (by decide) (List.mem_of_getElem? (i := 3) rfl) (wv_X3_H_1 ..) dX3_digest_32 ?_
  refine g_getN (v := .int (nI b)) (host := RX3) hc hw hiX2 1 2 rfl rfl (by decide) (fun z => z.2 (30, "barges", "I") (by decide +kernel)) (wv_X3_T_2 ..) dX3_digest_35 ?_
  refine g_iast (f := (upd (upd (fun _ => 0) (0 : Int32).toNatClampNeg (mt_day T)) (1 : Int32).toNatClampNeg (nI w))) hc hw 17 rfl (by unfold vp_in; decide) (w' := ((wb_m h a a2 cI (0 : Int32) w b n T w2 b2 n2 T2) ++ [(qa, .inl (cI, 6, .inl (upd (upd (upd (fun _ => 0) (0 : Int32).toNatClampNeg (mt_day T)) (1 : Int32).toNatClampNeg (nI w)) (2 : Int32).toNatClampNeg (nI b))))])) rfl dX3_digest_38 (fun H locs hw => ?_)
  refine lv_dup hx hb dX3_digest_39 rfl ?_
  refine lv_iconst (v := 3) hx hb dX3_digest_40 (by decide) ?_
  refine lv_aload_n hx hb dX3_digest_41 rfl (lv_at hl 0 rfl) ?_
  refine g_get (v := .ref (a 0)) hc hw hiX3 0 1 rfl rfl (by decide) (List.mem_of_getElem? (i := 3) rfl) (wv_X3_H_1 ..) dX3_digest_42 ?_
  refine g_getN (v := .int (nI n)) (host := RX3) hc hw hiX2 1 3 rfl rfl (by decide) (fun z => z.2 (33, "people", "I") (by decide +kernel)) (wv_X3_T_3 ..) dX3_digest_45 ?_
  refine g_iast (f := (upd (upd (upd (fun _ => 0) (0 : Int32).toNatClampNeg (mt_day T)) (1 : Int32).toNatClampNeg (nI w)) (2 : Int32).toNatClampNeg (nI b))) hc hw 17 rfl (by unfold vp_in; decide) (w' := ((wb_m h a a2 cI (0 : Int32) w b n T w2 b2 n2 T2) ++ [(qa, .inl (cI, 6, .inl (upd (upd (upd (upd (fun _ => 0) (0 : Int32).toNatClampNeg (mt_day T)) (1 : Int32).toNatClampNeg (nI w)) (2 : Int32).toNatClampNeg (nI b)) (3 : Int32).toNatClampNeg (nI n))))])) rfl dX3_digest_48 (fun H locs hw => ?_)
  refine lv_dup hx hb dX3_digest_49 rfl ?_
  refine lv_iconst (v := 4) hx hb dX3_digest_50 (by decide) ?_
  refine lv_aload_n hx hb dX3_digest_51 rfl (lv_at hl 0 rfl) ?_
  refine g_get (v := .ref (a 0)) hc hw hiX3 0 1 rfl rfl (by decide) (List.mem_of_getElem? (i := 3) rfl) (wv_X3_H_1 ..) dX3_digest_52 ?_
  refine g_getN (v := .int (mt_bo T)) (host := RX3) hc hw hiX2 1 4 rfl rfl (by decide) (fun z => z.2 (60, "bowls", "I") (by decide +kernel)) (wv_X3_T_4 ..) dX3_digest_55 ?_
  refine g_iast (f := (upd (upd (upd (upd (fun _ => 0) (0 : Int32).toNatClampNeg (mt_day T)) (1 : Int32).toNatClampNeg (nI w)) (2 : Int32).toNatClampNeg (nI b)) (3 : Int32).toNatClampNeg (nI n))) hc hw 17 rfl (by unfold vp_in; decide) (w' := ((wb_m h a a2 cI (0 : Int32) w b n T w2 b2 n2 T2) ++ [(qa, .inl (cI, 6, .inl (upd (upd (upd (upd (upd (fun _ => 0) (0 : Int32).toNatClampNeg (mt_day T)) (1 : Int32).toNatClampNeg (nI w)) (2 : Int32).toNatClampNeg (nI b)) (3 : Int32).toNatClampNeg (nI n)) (4 : Int32).toNatClampNeg (mt_bo T))))])) rfl dX3_digest_58 (fun H locs hw => ?_)
  refine lv_dup hx hb dX3_digest_59 rfl ?_
  refine lv_iconst (v := 5) hx hb dX3_digest_60 (by decide) ?_
  refine lv_aload_n hx hb dX3_digest_61 rfl (lv_at hl 0 rfl) ?_
  refine g_get (v := .ref (a 0)) hc hw hiX3 0 1 rfl rfl (by decide) (List.mem_of_getElem? (i := 3) rfl) (wv_X3_H_1 ..) dX3_digest_62 ?_
  refine g_getN (v := .int (mt_ea T)) (host := RX3) hc hw hiX2 1 5 rfl rfl (by decide) (fun z => z.2 (104, "eaten", "I") (by decide +kernel)) (wv_X3_T_5 ..) dX3_digest_65 ?_
  refine g_iast (f := (upd (upd (upd (upd (upd (fun _ => 0) (0 : Int32).toNatClampNeg (mt_day T)) (1 : Int32).toNatClampNeg (nI w)) (2 : Int32).toNatClampNeg (nI b)) (3 : Int32).toNatClampNeg (nI n)) (4 : Int32).toNatClampNeg (mt_bo T))) hc hw 17 rfl (by unfold vp_in; decide) (w' := ((wb_m h a a2 cI (0 : Int32) w b n T w2 b2 n2 T2) ++ [(qa, .inl (cI, 6, .inl (upd (upd (upd (upd (upd (upd (fun _ => 0) (0 : Int32).toNatClampNeg (mt_day T)) (1 : Int32).toNatClampNeg (nI w)) (2 : Int32).toNatClampNeg (nI b)) (3 : Int32).toNatClampNeg (nI n)) (4 : Int32).toNatClampNeg (mt_bo T)) (5 : Int32).toNatClampNeg (mt_ea T))))])) rfl dX3_digest_68 (fun H locs hw => ?_)
  refine lv_astore_n (lv' := [(1, .ref qa), (0, .ref h)]) hx hb dX3_digest_69 rfl hl (by decide) rfl (fun ls hl => ?_)
  refine lv_ldc2 hx hb hown (hts _ (List.mem_of_getElem? (i := 4) rfl)) dX3_digest_70 ?_
  refine lv_lstore_n (lv' := [(2, .long (1877 : Int64)), (1, .ref qa), (0, .ref h)]) hx hb dX3_digest_73 rfl hl (by decide) rfl (fun ls hl => ?_)
  refine lv_aload_n hx hb dX3_digest_74 rfl (lv_at hl 1 rfl) ?_
  refine lv_astore (lv' := [(4, .ref qa), (2, .long (1877 : Int64)), (1, .ref qa), (0, .ref h)]) hx hb dX3_digest_75 hl (by decide) rfl (fun ls hl => ?_)
  refine lv_aload hx hb dX3_digest_77 (lv_at hl 0 rfl) ?_
  refine va_alen (v := 6) hx hb hK.1 hw.1 17 0 rfl rfl rfl dX3_digest_79 ?_
  refine lv_istore (lv' := [(5, .int (6 : Int32)), (4, .ref qa), (2, .long (1877 : Int64)), (1, .ref qa), (0, .ref h)]) hx hb dX3_digest_80 hl (by decide) rfl (fun ls hl => ?_)
  refine lv_iconst (v := 0) hx hb dX3_digest_82 (by decide) ?_
  refine lv_istore (lv' := [(6, .int (0 : Int32)), (5, .int (6 : Int32)), (4, .ref qa), (2, .long (1877 : Int64)), (1, .ref qa), (0, .ref h)]) hx hb dX3_digest_83 hl (by decide) rfl (fun ls hl => ?_)
  refine lv_iload hx hb dX3_digest_85 (lv_at hl 0 rfl) ?_
  refine lv_iload hx hb dX3_digest_87 (lv_at hl 1 rfl) ?_
  refine lv_icmp_ge (tgt := 115) hx hb dX3_digest_89 (by decide) (fun z => absurd z (by decide)) (fun _ => ?_)
  refine lv_aload hx hb dX3_digest_92 (lv_at hl 2 rfl) ?_
  refine lv_iload hx hb dX3_digest_94 (lv_at hl 0 rfl) ?_
  refine g_iald (f := (upd (upd (upd (upd (upd (upd (fun _ => 0) (0 : Int32).toNatClampNeg (mt_day T)) (1 : Int32).toNatClampNeg (nI w)) (2 : Int32).toNatClampNeg (nI b)) (3 : Int32).toNatClampNeg (nI n)) (4 : Int32).toNatClampNeg (mt_bo T)) (5 : Int32).toNatClampNeg (mt_ea T))) hc hw 17 rfl (by unfold vp_in; decide) dX3_digest_96 ?_
  rw [show ((upd (upd (upd (upd (upd (upd (fun _ => 0) (0 : Int32).toNatClampNeg (mt_day T)) (1 : Int32).toNatClampNeg (nI w)) (2 : Int32).toNatClampNeg (nI b)) (3 : Int32).toNatClampNeg (nI n)) (4 : Int32).toNatClampNeg (mt_bo T)) (5 : Int32).toNatClampNeg (mt_ea T)) (0 : Int32).toNatClampNeg) = (mt_day T) from rfl]
  refine lv_istore (lv' := [(7, .int (mt_day T)), (6, .int (0 : Int32)), (5, .int (6 : Int32)), (4, .ref qa), (2, .long (1877 : Int64)), (1, .ref qa), (0, .ref h)]) hx hb dX3_digest_97 hl (by decide) rfl (fun ls hl => ?_)
  refine lv_lload_n hx hb dX3_digest_99 rfl (lv_at hl 4 rfl) ?_
  refine lv_ldc2 hx hb hown (hts _ (List.mem_of_getElem? (i := 5) rfl)) dX3_digest_100 ?_
  refine lv_lmul hx hb dX3_digest_103 ?_
  refine lv_iload hx hb dX3_digest_104 (lv_at hl 0 rfl) ?_
  refine lv_i2l (v := (Int32.toInt64 (mt_day T))) hx hb dX3_digest_106 rfl ?_
  refine lv_ladd hx hb dX3_digest_107 ?_
  refine lv_lstore_n (lv' := [(2, .long (((1877 : Int64) * (31 : Int64)) + (Int32.toInt64 (mt_day T)))), (7, .int (mt_day T)), (6, .int (0 : Int32)), (5, .int (6 : Int32)), (4, .ref qa), (1, .ref qa), (0, .ref h)]) hx hb dX3_digest_108 rfl hl (by decide) rfl (fun ls hl => ?_)
  refine lv_iinc (v := (1 : Int32)) (lv' := [(6, .int (1 : Int32)), (2, .long (((1877 : Int64) * (31 : Int64)) + (Int32.toInt64 (mt_day T)))), (7, .int (mt_day T)), (5, .int (6 : Int32)), (4, .ref qa), (1, .ref qa), (0, .ref h)]) hx hb dX3_digest_109 hl (k := 2) rfl rfl (by decide) rfl (fun ls hl => ?_)
  refine lv_goto (tgt := 85) hx hb dX3_digest_112 (by decide) ?_
  refine lv_iload hx hb dX3_digest_85 (lv_at hl 0 rfl) ?_
  refine lv_iload hx hb dX3_digest_87 (lv_at hl 3 rfl) ?_
  refine lv_icmp_ge (tgt := 115) hx hb dX3_digest_89 (by decide) (fun z => absurd z (by decide)) (fun _ => ?_)
  refine lv_aload hx hb dX3_digest_92 (lv_at hl 4 rfl) ?_
  refine lv_iload hx hb dX3_digest_94 (lv_at hl 0 rfl) ?_
  refine g_iald (f := (upd (upd (upd (upd (upd (upd (fun _ => 0) (0 : Int32).toNatClampNeg (mt_day T)) (1 : Int32).toNatClampNeg (nI w)) (2 : Int32).toNatClampNeg (nI b)) (3 : Int32).toNatClampNeg (nI n)) (4 : Int32).toNatClampNeg (mt_bo T)) (5 : Int32).toNatClampNeg (mt_ea T))) hc hw 17 rfl (by unfold vp_in; decide) dX3_digest_96 ?_
  rw [show ((upd (upd (upd (upd (upd (upd (fun _ => 0) (0 : Int32).toNatClampNeg (mt_day T)) (1 : Int32).toNatClampNeg (nI w)) (2 : Int32).toNatClampNeg (nI b)) (3 : Int32).toNatClampNeg (nI n)) (4 : Int32).toNatClampNeg (mt_bo T)) (5 : Int32).toNatClampNeg (mt_ea T)) (1 : Int32).toNatClampNeg) = (nI w) from rfl]
  refine lv_istore (lv' := [(7, .int (nI w)), (6, .int (1 : Int32)), (2, .long (((1877 : Int64) * (31 : Int64)) + (Int32.toInt64 (mt_day T)))), (5, .int (6 : Int32)), (4, .ref qa), (1, .ref qa), (0, .ref h)]) hx hb dX3_digest_97 hl (by decide) rfl (fun ls hl => ?_)
  refine lv_lload_n hx hb dX3_digest_99 rfl (lv_at hl 2 rfl) ?_
  refine lv_ldc2 hx hb hown (hts _ (List.mem_of_getElem? (i := 5) rfl)) dX3_digest_100 ?_
  refine lv_lmul hx hb dX3_digest_103 ?_
  refine lv_iload hx hb dX3_digest_104 (lv_at hl 0 rfl) ?_
  refine lv_i2l (v := (Int32.toInt64 (nI w))) hx hb dX3_digest_106 rfl ?_
  refine lv_ladd hx hb dX3_digest_107 ?_
  refine lv_lstore_n (lv' := [(2, .long (((((1877 : Int64) * (31 : Int64)) + (Int32.toInt64 (mt_day T))) * (31 : Int64)) + (Int32.toInt64 (nI w)))), (7, .int (nI w)), (6, .int (1 : Int32)), (5, .int (6 : Int32)), (4, .ref qa), (1, .ref qa), (0, .ref h)]) hx hb dX3_digest_108 rfl hl (by decide) rfl (fun ls hl => ?_)
  refine lv_iinc (v := (2 : Int32)) (lv' := [(6, .int (2 : Int32)), (2, .long (((((1877 : Int64) * (31 : Int64)) + (Int32.toInt64 (mt_day T))) * (31 : Int64)) + (Int32.toInt64 (nI w)))), (7, .int (nI w)), (5, .int (6 : Int32)), (4, .ref qa), (1, .ref qa), (0, .ref h)]) hx hb dX3_digest_109 hl (k := 2) rfl rfl (by decide) rfl (fun ls hl => ?_)
  refine lv_goto (tgt := 85) hx hb dX3_digest_112 (by decide) ?_
  refine lv_iload hx hb dX3_digest_85 (lv_at hl 0 rfl) ?_
  refine lv_iload hx hb dX3_digest_87 (lv_at hl 3 rfl) ?_
  refine lv_icmp_ge (tgt := 115) hx hb dX3_digest_89 (by decide) (fun z => absurd z (by decide)) (fun _ => ?_)
  refine lv_aload hx hb dX3_digest_92 (lv_at hl 4 rfl) ?_
  refine lv_iload hx hb dX3_digest_94 (lv_at hl 0 rfl) ?_
  refine g_iald (f := (upd (upd (upd (upd (upd (upd (fun _ => 0) (0 : Int32).toNatClampNeg (mt_day T)) (1 : Int32).toNatClampNeg (nI w)) (2 : Int32).toNatClampNeg (nI b)) (3 : Int32).toNatClampNeg (nI n)) (4 : Int32).toNatClampNeg (mt_bo T)) (5 : Int32).toNatClampNeg (mt_ea T))) hc hw 17 rfl (by unfold vp_in; decide) dX3_digest_96 ?_
  rw [show ((upd (upd (upd (upd (upd (upd (fun _ => 0) (0 : Int32).toNatClampNeg (mt_day T)) (1 : Int32).toNatClampNeg (nI w)) (2 : Int32).toNatClampNeg (nI b)) (3 : Int32).toNatClampNeg (nI n)) (4 : Int32).toNatClampNeg (mt_bo T)) (5 : Int32).toNatClampNeg (mt_ea T)) (2 : Int32).toNatClampNeg) = (nI b) from rfl]
  refine lv_istore (lv' := [(7, .int (nI b)), (6, .int (2 : Int32)), (2, .long (((((1877 : Int64) * (31 : Int64)) + (Int32.toInt64 (mt_day T))) * (31 : Int64)) + (Int32.toInt64 (nI w)))), (5, .int (6 : Int32)), (4, .ref qa), (1, .ref qa), (0, .ref h)]) hx hb dX3_digest_97 hl (by decide) rfl (fun ls hl => ?_)
  refine lv_lload_n hx hb dX3_digest_99 rfl (lv_at hl 2 rfl) ?_
  refine lv_ldc2 hx hb hown (hts _ (List.mem_of_getElem? (i := 5) rfl)) dX3_digest_100 ?_
  refine lv_lmul hx hb dX3_digest_103 ?_
  refine lv_iload hx hb dX3_digest_104 (lv_at hl 0 rfl) ?_
  refine lv_i2l (v := (Int32.toInt64 (nI b))) hx hb dX3_digest_106 rfl ?_
  refine lv_ladd hx hb dX3_digest_107 ?_
  refine lv_lstore_n (lv' := [(2, .long (((((((1877 : Int64) * (31 : Int64)) + (Int32.toInt64 (mt_day T))) * (31 : Int64)) + (Int32.toInt64 (nI w))) * (31 : Int64)) + (Int32.toInt64 (nI b)))), (7, .int (nI b)), (6, .int (2 : Int32)), (5, .int (6 : Int32)), (4, .ref qa), (1, .ref qa), (0, .ref h)]) hx hb dX3_digest_108 rfl hl (by decide) rfl (fun ls hl => ?_)
  refine lv_iinc (v := (3 : Int32)) (lv' := [(6, .int (3 : Int32)), (2, .long (((((((1877 : Int64) * (31 : Int64)) + (Int32.toInt64 (mt_day T))) * (31 : Int64)) + (Int32.toInt64 (nI w))) * (31 : Int64)) + (Int32.toInt64 (nI b)))), (7, .int (nI b)), (5, .int (6 : Int32)), (4, .ref qa), (1, .ref qa), (0, .ref h)]) hx hb dX3_digest_109 hl (k := 2) rfl rfl (by decide) rfl (fun ls hl => ?_)
  refine lv_goto (tgt := 85) hx hb dX3_digest_112 (by decide) ?_
  refine lv_iload hx hb dX3_digest_85 (lv_at hl 0 rfl) ?_
  refine lv_iload hx hb dX3_digest_87 (lv_at hl 3 rfl) ?_
  refine lv_icmp_ge (tgt := 115) hx hb dX3_digest_89 (by decide) (fun z => absurd z (by decide)) (fun _ => ?_)
  refine lv_aload hx hb dX3_digest_92 (lv_at hl 4 rfl) ?_
  refine lv_iload hx hb dX3_digest_94 (lv_at hl 0 rfl) ?_
  refine g_iald (f := (upd (upd (upd (upd (upd (upd (fun _ => 0) (0 : Int32).toNatClampNeg (mt_day T)) (1 : Int32).toNatClampNeg (nI w)) (2 : Int32).toNatClampNeg (nI b)) (3 : Int32).toNatClampNeg (nI n)) (4 : Int32).toNatClampNeg (mt_bo T)) (5 : Int32).toNatClampNeg (mt_ea T))) hc hw 17 rfl (by unfold vp_in; decide) dX3_digest_96 ?_
  rw [show ((upd (upd (upd (upd (upd (upd (fun _ => 0) (0 : Int32).toNatClampNeg (mt_day T)) (1 : Int32).toNatClampNeg (nI w)) (2 : Int32).toNatClampNeg (nI b)) (3 : Int32).toNatClampNeg (nI n)) (4 : Int32).toNatClampNeg (mt_bo T)) (5 : Int32).toNatClampNeg (mt_ea T)) (3 : Int32).toNatClampNeg) = (nI n) from rfl]
  refine lv_istore (lv' := [(7, .int (nI n)), (6, .int (3 : Int32)), (2, .long (((((((1877 : Int64) * (31 : Int64)) + (Int32.toInt64 (mt_day T))) * (31 : Int64)) + (Int32.toInt64 (nI w))) * (31 : Int64)) + (Int32.toInt64 (nI b)))), (5, .int (6 : Int32)), (4, .ref qa), (1, .ref qa), (0, .ref h)]) hx hb dX3_digest_97 hl (by decide) rfl (fun ls hl => ?_)
  refine lv_lload_n hx hb dX3_digest_99 rfl (lv_at hl 2 rfl) ?_
  refine lv_ldc2 hx hb hown (hts _ (List.mem_of_getElem? (i := 5) rfl)) dX3_digest_100 ?_
  refine lv_lmul hx hb dX3_digest_103 ?_
  refine lv_iload hx hb dX3_digest_104 (lv_at hl 0 rfl) ?_
  refine lv_i2l (v := (Int32.toInt64 (nI n))) hx hb dX3_digest_106 rfl ?_
  refine lv_ladd hx hb dX3_digest_107 ?_
  refine lv_lstore_n (lv' := [(2, .long (((((((((1877 : Int64) * (31 : Int64)) + (Int32.toInt64 (mt_day T))) * (31 : Int64)) + (Int32.toInt64 (nI w))) * (31 : Int64)) + (Int32.toInt64 (nI b))) * (31 : Int64)) + (Int32.toInt64 (nI n)))), (7, .int (nI n)), (6, .int (3 : Int32)), (5, .int (6 : Int32)), (4, .ref qa), (1, .ref qa), (0, .ref h)]) hx hb dX3_digest_108 rfl hl (by decide) rfl (fun ls hl => ?_)
  refine lv_iinc (v := (4 : Int32)) (lv' := [(6, .int (4 : Int32)), (2, .long (((((((((1877 : Int64) * (31 : Int64)) + (Int32.toInt64 (mt_day T))) * (31 : Int64)) + (Int32.toInt64 (nI w))) * (31 : Int64)) + (Int32.toInt64 (nI b))) * (31 : Int64)) + (Int32.toInt64 (nI n)))), (7, .int (nI n)), (5, .int (6 : Int32)), (4, .ref qa), (1, .ref qa), (0, .ref h)]) hx hb dX3_digest_109 hl (k := 2) rfl rfl (by decide) rfl (fun ls hl => ?_)
  refine lv_goto (tgt := 85) hx hb dX3_digest_112 (by decide) ?_
  refine lv_iload hx hb dX3_digest_85 (lv_at hl 0 rfl) ?_
  refine lv_iload hx hb dX3_digest_87 (lv_at hl 3 rfl) ?_
  refine lv_icmp_ge (tgt := 115) hx hb dX3_digest_89 (by decide) (fun z => absurd z (by decide)) (fun _ => ?_)
  refine lv_aload hx hb dX3_digest_92 (lv_at hl 4 rfl) ?_
  refine lv_iload hx hb dX3_digest_94 (lv_at hl 0 rfl) ?_
  refine g_iald (f := (upd (upd (upd (upd (upd (upd (fun _ => 0) (0 : Int32).toNatClampNeg (mt_day T)) (1 : Int32).toNatClampNeg (nI w)) (2 : Int32).toNatClampNeg (nI b)) (3 : Int32).toNatClampNeg (nI n)) (4 : Int32).toNatClampNeg (mt_bo T)) (5 : Int32).toNatClampNeg (mt_ea T))) hc hw 17 rfl (by unfold vp_in; decide) dX3_digest_96 ?_
  rw [show ((upd (upd (upd (upd (upd (upd (fun _ => 0) (0 : Int32).toNatClampNeg (mt_day T)) (1 : Int32).toNatClampNeg (nI w)) (2 : Int32).toNatClampNeg (nI b)) (3 : Int32).toNatClampNeg (nI n)) (4 : Int32).toNatClampNeg (mt_bo T)) (5 : Int32).toNatClampNeg (mt_ea T)) (4 : Int32).toNatClampNeg) = (mt_bo T) from rfl]
  refine lv_istore (lv' := [(7, .int (mt_bo T)), (6, .int (4 : Int32)), (2, .long (((((((((1877 : Int64) * (31 : Int64)) + (Int32.toInt64 (mt_day T))) * (31 : Int64)) + (Int32.toInt64 (nI w))) * (31 : Int64)) + (Int32.toInt64 (nI b))) * (31 : Int64)) + (Int32.toInt64 (nI n)))), (5, .int (6 : Int32)), (4, .ref qa), (1, .ref qa), (0, .ref h)]) hx hb dX3_digest_97 hl (by decide) rfl (fun ls hl => ?_)
  refine lv_lload_n hx hb dX3_digest_99 rfl (lv_at hl 2 rfl) ?_
  refine lv_ldc2 hx hb hown (hts _ (List.mem_of_getElem? (i := 5) rfl)) dX3_digest_100 ?_
  refine lv_lmul hx hb dX3_digest_103 ?_
  refine lv_iload hx hb dX3_digest_104 (lv_at hl 0 rfl) ?_
  refine lv_i2l (v := (Int32.toInt64 (mt_bo T))) hx hb dX3_digest_106 rfl ?_
  refine lv_ladd hx hb dX3_digest_107 ?_
  refine lv_lstore_n (lv' := [(2, .long (((((((((((1877 : Int64) * (31 : Int64)) + (Int32.toInt64 (mt_day T))) * (31 : Int64)) + (Int32.toInt64 (nI w))) * (31 : Int64)) + (Int32.toInt64 (nI b))) * (31 : Int64)) + (Int32.toInt64 (nI n))) * (31 : Int64)) + (Int32.toInt64 (mt_bo T)))), (7, .int (mt_bo T)), (6, .int (4 : Int32)), (5, .int (6 : Int32)), (4, .ref qa), (1, .ref qa), (0, .ref h)]) hx hb dX3_digest_108 rfl hl (by decide) rfl (fun ls hl => ?_)
  refine lv_iinc (v := (5 : Int32)) (lv' := [(6, .int (5 : Int32)), (2, .long (((((((((((1877 : Int64) * (31 : Int64)) + (Int32.toInt64 (mt_day T))) * (31 : Int64)) + (Int32.toInt64 (nI w))) * (31 : Int64)) + (Int32.toInt64 (nI b))) * (31 : Int64)) + (Int32.toInt64 (nI n))) * (31 : Int64)) + (Int32.toInt64 (mt_bo T)))), (7, .int (mt_bo T)), (5, .int (6 : Int32)), (4, .ref qa), (1, .ref qa), (0, .ref h)]) hx hb dX3_digest_109 hl (k := 2) rfl rfl (by decide) rfl (fun ls hl => ?_)
  refine lv_goto (tgt := 85) hx hb dX3_digest_112 (by decide) ?_
  refine lv_iload hx hb dX3_digest_85 (lv_at hl 0 rfl) ?_
  refine lv_iload hx hb dX3_digest_87 (lv_at hl 3 rfl) ?_
  refine lv_icmp_ge (tgt := 115) hx hb dX3_digest_89 (by decide) (fun z => absurd z (by decide)) (fun _ => ?_)
  refine lv_aload hx hb dX3_digest_92 (lv_at hl 4 rfl) ?_
  refine lv_iload hx hb dX3_digest_94 (lv_at hl 0 rfl) ?_
  refine g_iald (f := (upd (upd (upd (upd (upd (upd (fun _ => 0) (0 : Int32).toNatClampNeg (mt_day T)) (1 : Int32).toNatClampNeg (nI w)) (2 : Int32).toNatClampNeg (nI b)) (3 : Int32).toNatClampNeg (nI n)) (4 : Int32).toNatClampNeg (mt_bo T)) (5 : Int32).toNatClampNeg (mt_ea T))) hc hw 17 rfl (by unfold vp_in; decide) dX3_digest_96 ?_
  rw [show ((upd (upd (upd (upd (upd (upd (fun _ => 0) (0 : Int32).toNatClampNeg (mt_day T)) (1 : Int32).toNatClampNeg (nI w)) (2 : Int32).toNatClampNeg (nI b)) (3 : Int32).toNatClampNeg (nI n)) (4 : Int32).toNatClampNeg (mt_bo T)) (5 : Int32).toNatClampNeg (mt_ea T)) (5 : Int32).toNatClampNeg) = (mt_ea T) from rfl]
  refine lv_istore (lv' := [(7, .int (mt_ea T)), (6, .int (5 : Int32)), (2, .long (((((((((((1877 : Int64) * (31 : Int64)) + (Int32.toInt64 (mt_day T))) * (31 : Int64)) + (Int32.toInt64 (nI w))) * (31 : Int64)) + (Int32.toInt64 (nI b))) * (31 : Int64)) + (Int32.toInt64 (nI n))) * (31 : Int64)) + (Int32.toInt64 (mt_bo T)))), (5, .int (6 : Int32)), (4, .ref qa), (1, .ref qa), (0, .ref h)]) hx hb dX3_digest_97 hl (by decide) rfl (fun ls hl => ?_)
  refine lv_lload_n hx hb dX3_digest_99 rfl (lv_at hl 2 rfl) ?_
  refine lv_ldc2 hx hb hown (hts _ (List.mem_of_getElem? (i := 5) rfl)) dX3_digest_100 ?_
  refine lv_lmul hx hb dX3_digest_103 ?_
  refine lv_iload hx hb dX3_digest_104 (lv_at hl 0 rfl) ?_
  refine lv_i2l (v := (Int32.toInt64 (mt_ea T))) hx hb dX3_digest_106 rfl ?_
  refine lv_ladd hx hb dX3_digest_107 ?_
  refine lv_lstore_n (lv' := [(2, .long (((((((((((((1877 : Int64) * (31 : Int64)) + (Int32.toInt64 (mt_day T))) * (31 : Int64)) + (Int32.toInt64 (nI w))) * (31 : Int64)) + (Int32.toInt64 (nI b))) * (31 : Int64)) + (Int32.toInt64 (nI n))) * (31 : Int64)) + (Int32.toInt64 (mt_bo T))) * (31 : Int64)) + (Int32.toInt64 (mt_ea T)))), (7, .int (mt_ea T)), (6, .int (5 : Int32)), (5, .int (6 : Int32)), (4, .ref qa), (1, .ref qa), (0, .ref h)]) hx hb dX3_digest_108 rfl hl (by decide) rfl (fun ls hl => ?_)
  refine lv_iinc (v := (6 : Int32)) (lv' := [(6, .int (6 : Int32)), (2, .long (((((((((((((1877 : Int64) * (31 : Int64)) + (Int32.toInt64 (mt_day T))) * (31 : Int64)) + (Int32.toInt64 (nI w))) * (31 : Int64)) + (Int32.toInt64 (nI b))) * (31 : Int64)) + (Int32.toInt64 (nI n))) * (31 : Int64)) + (Int32.toInt64 (mt_bo T))) * (31 : Int64)) + (Int32.toInt64 (mt_ea T)))), (7, .int (mt_ea T)), (5, .int (6 : Int32)), (4, .ref qa), (1, .ref qa), (0, .ref h)]) hx hb dX3_digest_109 hl (k := 2) rfl rfl (by decide) rfl (fun ls hl => ?_)
  refine lv_goto (tgt := 85) hx hb dX3_digest_112 (by decide) ?_
  refine lv_iload hx hb dX3_digest_85 (lv_at hl 0 rfl) ?_
  refine lv_iload hx hb dX3_digest_87 (lv_at hl 3 rfl) ?_
  refine lv_icmp_ge (tgt := 115) hx hb dX3_digest_89 (by decide) (fun _ => ?_) (fun z => absurd (by decide) z)
  have hw := Wo.drop hw
  refine lv_iconst (v := 0) hx hb dX3_digest_115 (by decide) ?_
  refine lv_istore (lv' := [(4, .int (0 : Int32)), (6, .int (6 : Int32)), (2, .long (((((((((((((1877 : Int64) * (31 : Int64)) + (Int32.toInt64 (mt_day T))) * (31 : Int64)) + (Int32.toInt64 (nI w))) * (31 : Int64)) + (Int32.toInt64 (nI b))) * (31 : Int64)) + (Int32.toInt64 (nI n))) * (31 : Int64)) + (Int32.toInt64 (mt_bo T))) * (31 : Int64)) + (Int32.toInt64 (mt_ea T)))), (7, .int (mt_ea T)), (5, .int (6 : Int32)), (1, .ref qa), (0, .ref h)]) hx hb dX3_digest_116 hl (by decide) rfl (fun ls hl => ?_)
  refine lp_go (fun (i118 : Nat) (q118 : Int64) => ∀ (H : Heap) (locs : List Loc) (ls : Array Slot), Wo D A s.heap (wb_m h a a2 cI (0 : Int32) w b n T w2 b2 n2 T2) H locs → lv_has ls 8 [(0, .ref h), (2, .long q118), (4, .int (nI i118))] → W p l e rm_X3_digest s m args below meth c H locs 1 6 (QE below args s D A (some (.long (r_X3_digest th w b n T w2 b2 n2 T2))) (wb_m h a a2 cI (t_X3_digest th w b n T w2 b2 n2 T2) w b n T w2 b2 n2 T2) rm_X3_digest) (F0 m 118 ls [])) (f_X3_digest_118 th w b n T w2 b2 n2 T2) w ((((((((((((((1877 : Int64) * (31 : Int64)) + (Int32.toInt64 (mt_day T))) * (31 : Int64)) + (Int32.toInt64 (nI w))) * (31 : Int64)) + (Int32.toInt64 (nI b))) * (31 : Int64)) + (Int32.toInt64 (nI n))) * (31 : Int64)) + (Int32.toInt64 (mt_bo T))) * (31 : Int64)) + (Int32.toInt64 (mt_ea T)))) ?_ ?_ H locs ls hw (lv_sub hl [6, 2, 0] rfl)
  · intro i118 q118 hi118 k118 H locs ls hw hl
    refine lv_iload hx hb dX3_digest_118 (lv_at hl 2 rfl) ?_
    refine lv_aload_n hx hb dX3_digest_120 rfl (lv_at hl 0 rfl) ?_
    refine g_get (v := .ref (a 0)) hc hw hiX3 0 1 (wo_X3_H ..) rfl (by decide) (List.mem_of_getElem? (i := 3) rfl) (wv_X3_H_1 ..) dX3_digest_121 ?_
    refine g_getN (v := .int (nI w)) (host := RX3) hc hw hiX2 1 1 (wo_X3_T ..) rfl (by decide) (fun z => z.2 (23, "wards", "I") (by decide +kernel)) (wv_X3_T_1 ..) dX3_digest_124 ?_
    refine lv_icmp_ge (tgt := 199) hx hb dX3_digest_127 (by decide) (fun z => absurd z (nI_ge hi118 (by omega))) (fun _ => ?_)
    refine lv_lload_n hx hb dX3_digest_130 rfl (lv_at hl 1 rfl) ?_
    refine lv_ldc2 hx hb hown (hts _ (List.mem_of_getElem? (i := 5) rfl)) dX3_digest_131 ?_
    refine lv_lmul hx hb dX3_digest_134 ?_
    refine lv_aload_n hx hb dX3_digest_135 rfl (lv_at hl 0 rfl) ?_
    refine g_get (v := .ref (a 0)) hc hw hiX3 0 1 (wo_X3_H ..) rfl (by decide) (List.mem_of_getElem? (i := 3) rfl) (wv_X3_H_1 ..) dX3_digest_136 ?_
    refine g_getN (v := .ref (a 6)) (host := RX3) hc hw hiX2 1 6 (wo_X3_T ..) rfl (by decide) (fun z => z.2 (40, "places", "[I") (by decide +kernel)) (wv_X3_T_6 ..) dX3_digest_139 ?_
    refine lv_iload hx hb dX3_digest_142 (lv_at hl 2 rfl) ?_
    refine g_iald (f := (mt_pl T)) hc hw 2 (wr_X3_T_6 ..) (vp_in_nI (show i118 < 5 by omega) (by omega)) dX3_digest_144 ?_
    refine lv_i2l (v := (Int32.toInt64 ((mt_pl T) (nI i118).toNatClampNeg))) hx hb dX3_digest_145 rfl ?_
    refine lv_ladd hx hb dX3_digest_146 ?_
    refine lv_ldc2 hx hb hown (hts _ (List.mem_of_getElem? (i := 5) rfl)) dX3_digest_147 ?_
    refine lv_lmul hx hb dX3_digest_150 ?_
    refine lv_aload_n hx hb dX3_digest_151 rfl (lv_at hl 0 rfl) ?_
    refine g_get (v := .ref (a 0)) hc hw hiX3 0 1 (wo_X3_H ..) rfl (by decide) (List.mem_of_getElem? (i := 3) rfl) (wv_X3_H_1 ..) dX3_digest_152 ?_
    refine lv_iload hx hb dX3_digest_155 (lv_at hl 2 rfl) ?_
    refine g_callV (n := 1) hc hw (k_X2_at l D cI cZ cL a w b n T hd5 hd4 hd30 (nI i118)) gX3_digest_X2_at rfl (by decide +kernel) ⟨Nat.le_of_ble_eq_true rfl, Nat.le_of_ble_eq_true rfl⟩ (wo_X2_T ..) rfl rfl [1, 2, 3, 4, 5, 6, 7, 8] [0, 9, 10, 11, 12, 13, 14, 15, 16] [0, 9, 10, 11, 12, 13, 14, 15, 16, 1, 2, 3, 4, 5, 6, 7, 8] (wr := (wb_m0 h a a2 (0 : Int32) :: wt_m a2 cI w2 b2 n2 T2)) (w' := (wb_m h a a2 cI (0 : Int32) w b n T w2 b2 n2 T2)) (wpC_X3_T ..) (wpR_X3_T ..) (by decide) (by decide) (by decide) (wpJ_X3_T ..) (by decide) rfl (rest := [.long (((q118 * (31 : Int64)) + (Int32.toInt64 ((mt_pl T) (nI i118).toNatClampNeg))) * (31 : Int64))]) rfl hl.1 (Nat.le_of_ble_eq_true rfl) (st1 := [.int (r_X2_at w b n T (nI i118)), .long (((q118 * (31 : Int64)) + (Int32.toInt64 ((mt_pl T) (nI i118).toNatClampNeg))) * (31 : Int64))]) rfl dX3_digest_157 (k2 := 1) (s2 := 6) rfl rfl ⟨Nat.le_of_ble_eq_true rfl, Nat.le_of_ble_eq_true rfl⟩ (fun H locs hw => ?_)
    refine lv_i2l (v := (Int32.toInt64 (r_X2_at w b n T (nI i118)))) hx hb dX3_digest_160 rfl ?_
    refine lv_ladd hx hb dX3_digest_161 ?_
    refine lv_lstore_n (lv' := [(2, .long ((((q118 * (31 : Int64)) + (Int32.toInt64 ((mt_pl T) (nI i118).toNatClampNeg))) * (31 : Int64)) + (Int32.toInt64 (r_X2_at w b n T (nI i118))))), (0, .ref h), (4, .int (nI i118))]) hx hb dX3_digest_162 rfl hl (by decide) rfl (fun ls hl => ?_)
    refine lv_lload_n hx hb dX3_digest_163 rfl (lv_at hl 0 rfl) ?_
    refine lv_ldc2 hx hb hown (hts _ (List.mem_of_getElem? (i := 5) rfl)) dX3_digest_164 ?_
    refine lv_lmul hx hb dX3_digest_167 ?_
    refine lv_aload_n hx hb dX3_digest_168 rfl (lv_at hl 1 rfl) ?_
    refine g_get (v := .ref (a 0)) hc hw hiX3 0 1 (wo_X3_H ..) rfl (by decide) (List.mem_of_getElem? (i := 3) rfl) (wv_X3_H_1 ..) dX3_digest_169 ?_
    refine g_getN (v := .ref (a 7)) (host := RX3) hc hw hiX2 1 7 (wo_X3_T ..) rfl (by decide) (fun z => z.2 (66, "straw", "[I") (by decide +kernel)) (wv_X3_T_7 ..) dX3_digest_172 ?_
    refine lv_iload hx hb dX3_digest_175 (lv_at hl 2 rfl) ?_
    refine g_iald (f := (mt_st T)) hc hw 3 (wr_X3_T_7 ..) (vp_in_nI (show i118 < 5 by omega) (by omega)) dX3_digest_177 ?_
    refine lv_i2l (v := (Int32.toInt64 ((mt_st T) (nI i118).toNatClampNeg))) hx hb dX3_digest_178 rfl ?_
    refine lv_ladd hx hb dX3_digest_179 ?_
    refine lv_ldc2 hx hb hown (hts _ (List.mem_of_getElem? (i := 5) rfl)) dX3_digest_180 ?_
    refine lv_lmul hx hb dX3_digest_183 ?_
    refine lv_aload_n hx hb dX3_digest_184 rfl (lv_at hl 1 rfl) ?_
    refine lv_iload hx hb dX3_digest_185 (lv_at hl 2 rfl) ?_
    refine g_callV0 (n := 1) hc hw (k_X3_feversAt l D cI cZ cL h a a2 (0 : Int32) w b n T w2 b2 n2 T2 hd5 hd4 hd30 he5 he4 he30 (nI i118)) gX3_digest_X3_feversAt rfl (by decide +kernel) ⟨Nat.le_of_ble_eq_true rfl, Nat.le_of_ble_eq_true rfl⟩ 0 (wo_X3_H ..) rfl rfl rfl (rest := [.long (((((((q118 * (31 : Int64)) + (Int32.toInt64 ((mt_pl T) (nI i118).toNatClampNeg))) * (31 : Int64)) + (Int32.toInt64 (r_X2_at w b n T (nI i118)))) * (31 : Int64)) + (Int32.toInt64 ((mt_st T) (nI i118).toNatClampNeg))) * (31 : Int64))]) rfl hl.1 (Nat.le_of_ble_eq_true rfl) (st1 := [.int (r_X3_feversAt (0 : Int32) w b n T w2 b2 n2 T2 (nI i118)), .long (((((((q118 * (31 : Int64)) + (Int32.toInt64 ((mt_pl T) (nI i118).toNatClampNeg))) * (31 : Int64)) + (Int32.toInt64 (r_X2_at w b n T (nI i118)))) * (31 : Int64)) + (Int32.toInt64 ((mt_st T) (nI i118).toNatClampNeg))) * (31 : Int64))]) rfl dX3_digest_187 (k2 := 1) (s2 := 6) rfl rfl ⟨Nat.le_of_ble_eq_true rfl, Nat.le_of_ble_eq_true rfl⟩ (fun H locs hw => ?_)
    refine lv_i2l (v := (Int32.toInt64 (r_X3_feversAt (0 : Int32) w b n T w2 b2 n2 T2 (nI i118)))) hx hb dX3_digest_190 rfl ?_
    refine lv_ladd hx hb dX3_digest_191 ?_
    refine lv_lstore_n (lv' := [(2, .long ((((((((q118 * (31 : Int64)) + (Int32.toInt64 ((mt_pl T) (nI i118).toNatClampNeg))) * (31 : Int64)) + (Int32.toInt64 (r_X2_at w b n T (nI i118)))) * (31 : Int64)) + (Int32.toInt64 ((mt_st T) (nI i118).toNatClampNeg))) * (31 : Int64)) + (Int32.toInt64 (r_X3_feversAt (0 : Int32) w b n T w2 b2 n2 T2 (nI i118))))), (0, .ref h), (4, .int (nI i118))]) hx hb dX3_digest_192 rfl hl (by decide) rfl (fun ls hl => ?_)
    refine lv_iinc (v := (nI (i118 + 1))) (lv' := [(4, .int (nI (i118 + 1))), (2, .long ((((((((q118 * (31 : Int64)) + (Int32.toInt64 ((mt_pl T) (nI i118).toNatClampNeg))) * (31 : Int64)) + (Int32.toInt64 (r_X2_at w b n T (nI i118)))) * (31 : Int64)) + (Int32.toInt64 ((mt_st T) (nI i118).toNatClampNeg))) * (31 : Int64)) + (Int32.toInt64 (r_X3_feversAt (0 : Int32) w b n T w2 b2 n2 T2 (nI i118))))), (0, .ref h)]) hx hb dX3_digest_193 hl (k := 2) rfl (inc_n i118) (by decide) rfl (fun ls hl => ?_)
    refine lv_goto (tgt := 118) hx hb dX3_digest_196 (by decide) ?_
    rw [show (f_X3_digest_118 th w b n T w2 b2 n2 T2) i118 q118 = (((((((((q118 * (31 : Int64)) + (Int32.toInt64 ((mt_pl T) (nI i118).toNatClampNeg))) * (31 : Int64)) + (Int32.toInt64 (r_X2_at w b n T (nI i118)))) * (31 : Int64)) + (Int32.toInt64 ((mt_st T) (nI i118).toNatClampNeg))) * (31 : Int64)) + (Int32.toInt64 (r_X3_feversAt (0 : Int32) w b n T w2 b2 n2 T2 (nI i118))))) from by rw [f_X3_digest_118]] at k118
    exact k118 H locs ls hw (lv_sub hl [2, 1, 0] rfl)
  · intro H locs ls hw hl
    refine lv_iload hx hb dX3_digest_118 (lv_at hl 2 rfl) ?_
    refine lv_aload_n hx hb dX3_digest_120 rfl (lv_at hl 0 rfl) ?_
    refine g_get (v := .ref (a 0)) hc hw hiX3 0 1 (wo_X3_H ..) rfl (by decide) (List.mem_of_getElem? (i := 3) rfl) (wv_X3_H_1 ..) dX3_digest_121 ?_
    refine g_getN (v := .int (nI w)) (host := RX3) hc hw hiX2 1 1 (wo_X3_T ..) rfl (by decide) (fun z => z.2 (23, "wards", "I") (by decide +kernel)) (wv_X3_T_1 ..) dX3_digest_124 ?_
    refine lv_icmp_ge (tgt := 199) hx hb dX3_digest_127 (by decide) (fun _ => ?_) (fun z => absurd (nI_le (Nat.le_refl _) (by omega)) z)
    refine lv_iconst (v := 0) hx hb dX3_digest_199 (by decide) ?_
    refine lv_istore (lv' := [(4, .int (0 : Int32)), (0, .ref h), (2, .long (lpf (f_X3_digest_118 th w b n T w2 b2 n2 T2) w 0 ((((((((((((((1877 : Int64) * (31 : Int64)) + (Int32.toInt64 (mt_day T))) * (31 : Int64)) + (Int32.toInt64 (nI w))) * (31 : Int64)) + (Int32.toInt64 (nI b))) * (31 : Int64)) + (Int32.toInt64 (nI n))) * (31 : Int64)) + (Int32.toInt64 (mt_bo T))) * (31 : Int64)) + (Int32.toInt64 (mt_ea T))))))]) hx hb dX3_digest_200 hl (by decide) rfl (fun ls hl => ?_)
    refine lp_go (fun (i202 : Nat) (q202 : Int64) => ∀ (H : Heap) (locs : List Loc) (ls : Array Slot), Wo D A s.heap (wb_m h a a2 cI (0 : Int32) w b n T w2 b2 n2 T2) H locs → lv_has ls 8 [(0, .ref h), (2, .long q202), (4, .int (nI i202))] → W p l e rm_X3_digest s m args below meth c H locs 1 6 (QE below args s D A (some (.long (r_X3_digest th w b n T w2 b2 n2 T2))) (wb_m h a a2 cI (t_X3_digest th w b n T w2 b2 n2 T2) w b n T w2 b2 n2 T2) rm_X3_digest) (F0 m 202 ls [])) (f_X3_digest_202 th w b n T w2 b2 n2 T2) b ((lpf (f_X3_digest_118 th w b n T w2 b2 n2 T2) w 0 ((((((((((((((1877 : Int64) * (31 : Int64)) + (Int32.toInt64 (mt_day T))) * (31 : Int64)) + (Int32.toInt64 (nI w))) * (31 : Int64)) + (Int32.toInt64 (nI b))) * (31 : Int64)) + (Int32.toInt64 (nI n))) * (31 : Int64)) + (Int32.toInt64 (mt_bo T))) * (31 : Int64)) + (Int32.toInt64 (mt_ea T)))))) ?_ ?_ H locs ls hw (lv_sub hl [1, 2, 0] rfl)
    · intro i202 q202 hi202 k202 H locs ls hw hl
      refine lv_iload hx hb dX3_digest_202 (lv_at hl 2 rfl) ?_
      refine lv_aload_n hx hb dX3_digest_204 rfl (lv_at hl 0 rfl) ?_
      refine g_get (v := .ref (a 0)) hc hw hiX3 0 1 (wo_X3_H ..) rfl (by decide) (List.mem_of_getElem? (i := 3) rfl) (wv_X3_H_1 ..) dX3_digest_205 ?_
      refine g_getN (v := .int (nI b)) (host := RX3) hc hw hiX2 1 2 (wo_X3_T ..) rfl (by decide) (fun z => z.2 (30, "barges", "I") (by decide +kernel)) (wv_X3_T_2 ..) dX3_digest_208 ?_
      refine lv_icmp_ge (tgt := 274) hx hb dX3_digest_211 (by decide) (fun z => absurd z (nI_ge hi202 (by omega))) (fun _ => ?_)
      refine lv_lload_n hx hb dX3_digest_214 rfl (lv_at hl 1 rfl) ?_
      refine lv_ldc2 hx hb hown (hts _ (List.mem_of_getElem? (i := 5) rfl)) dX3_digest_215 ?_
      refine lv_lmul hx hb dX3_digest_218 ?_
      refine lv_aload_n hx hb dX3_digest_219 rfl (lv_at hl 0 rfl) ?_
      refine g_get (v := .ref (a 0)) hc hw hiX3 0 1 (wo_X3_H ..) rfl (by decide) (List.mem_of_getElem? (i := 3) rfl) (wv_X3_H_1 ..) dX3_digest_220 ?_
      refine g_getN (v := .ref (a 9)) (host := RX3) hc hw hiX2 1 9 (wo_X3_T ..) rfl (by decide) (fun z => z.2 (47, "toGo", "[I") (by decide +kernel)) (wv_X3_T_9 ..) dX3_digest_223 ?_
      refine lv_iload hx hb dX3_digest_226 (lv_at hl 2 rfl) ?_
      refine g_iald (f := (mt_to T)) hc hw 5 (wr_X3_T_9 ..) (vp_in_nI (show i202 < 4 by omega) (by omega)) dX3_digest_228 ?_
      refine lv_i2l (v := (Int32.toInt64 ((mt_to T) (nI i202).toNatClampNeg))) hx hb dX3_digest_229 rfl ?_
      refine lv_ladd hx hb dX3_digest_230 ?_
      refine lv_ldc2 hx hb hown (hts _ (List.mem_of_getElem? (i := 5) rfl)) dX3_digest_231 ?_
      refine lv_lmul hx hb dX3_digest_234 ?_
      refine lv_aload_n hx hb dX3_digest_235 rfl (lv_at hl 0 rfl) ?_
      refine g_get (v := .ref (a 0)) hc hw hiX3 0 1 (wo_X3_H ..) rfl (by decide) (List.mem_of_getElem? (i := 3) rfl) (wv_X3_H_1 ..) dX3_digest_236 ?_
      refine g_getN (v := .ref (a 8)) (host := RX3) hc hw hiX2 1 8 (wo_X3_T ..) rfl (by decide) (fun z => z.2 (44, "kept", "[I") (by decide +kernel)) (wv_X3_T_8 ..) dX3_digest_239 ?_
      refine lv_iload hx hb dX3_digest_242 (lv_at hl 2 rfl) ?_
      refine g_iald (f := (mt_ke T)) hc hw 4 (wr_X3_T_8 ..) (vp_in_nI (show i202 < 4 by omega) (by omega)) dX3_digest_244 ?_
      refine lv_i2l (v := (Int32.toInt64 ((mt_ke T) (nI i202).toNatClampNeg))) hx hb dX3_digest_245 rfl ?_
      refine lv_ladd hx hb dX3_digest_246 ?_
      refine lv_lstore_n (lv' := [(2, .long ((((q202 * (31 : Int64)) + (Int32.toInt64 ((mt_to T) (nI i202).toNatClampNeg))) * (31 : Int64)) + (Int32.toInt64 ((mt_ke T) (nI i202).toNatClampNeg)))), (0, .ref h), (4, .int (nI i202))]) hx hb dX3_digest_247 rfl hl (by decide) rfl (fun ls hl => ?_)
      refine lv_lload_n hx hb dX3_digest_248 rfl (lv_at hl 0 rfl) ?_
      refine lv_ldc2 hx hb hown (hts _ (List.mem_of_getElem? (i := 5) rfl)) dX3_digest_249 ?_
      refine lv_lmul hx hb dX3_digest_252 ?_
      refine lv_aload_n hx hb dX3_digest_253 rfl (lv_at hl 1 rfl) ?_
      refine g_get (v := .ref (a 0)) hc hw hiX3 0 1 (wo_X3_H ..) rfl (by decide) (List.mem_of_getElem? (i := 3) rfl) (wv_X3_H_1 ..) dX3_digest_254 ?_
      refine lv_bipush (v := 10) hx hb dX3_digest_257 (by decide) ?_
      refine lv_iload hx hb dX3_digest_259 (lv_at hl 2 rfl) ?_
      refine lv_iadd hx hb dX3_digest_261 ?_
      refine g_callV (n := 1) hc hw (k_X2_at l D cI cZ cL a w b n T hd5 hd4 hd30 ((10 : Int32) + (nI i202))) gX3_digest_X2_at rfl (by decide +kernel) ⟨Nat.le_of_ble_eq_true rfl, Nat.le_of_ble_eq_true rfl⟩ (wo_X2_T ..) rfl rfl [1, 2, 3, 4, 5, 6, 7, 8] [0, 9, 10, 11, 12, 13, 14, 15, 16] [0, 9, 10, 11, 12, 13, 14, 15, 16, 1, 2, 3, 4, 5, 6, 7, 8] (wr := (wb_m0 h a a2 (0 : Int32) :: wt_m a2 cI w2 b2 n2 T2)) (w' := (wb_m h a a2 cI (0 : Int32) w b n T w2 b2 n2 T2)) (wpC_X3_T ..) (wpR_X3_T ..) (by decide) (by decide) (by decide) (wpJ_X3_T ..) (by decide) rfl (rest := [.long (((((q202 * (31 : Int64)) + (Int32.toInt64 ((mt_to T) (nI i202).toNatClampNeg))) * (31 : Int64)) + (Int32.toInt64 ((mt_ke T) (nI i202).toNatClampNeg))) * (31 : Int64))]) rfl hl.1 (Nat.le_of_ble_eq_true rfl) (st1 := [.int (r_X2_at w b n T ((10 : Int32) + (nI i202))), .long (((((q202 * (31 : Int64)) + (Int32.toInt64 ((mt_to T) (nI i202).toNatClampNeg))) * (31 : Int64)) + (Int32.toInt64 ((mt_ke T) (nI i202).toNatClampNeg))) * (31 : Int64))]) rfl dX3_digest_262 (k2 := 1) (s2 := 6) rfl rfl ⟨Nat.le_of_ble_eq_true rfl, Nat.le_of_ble_eq_true rfl⟩ (fun H locs hw => ?_)
      refine lv_i2l (v := (Int32.toInt64 (r_X2_at w b n T ((10 : Int32) + (nI i202))))) hx hb dX3_digest_265 rfl ?_
      refine lv_ladd hx hb dX3_digest_266 ?_
      refine lv_lstore_n (lv' := [(2, .long ((((((q202 * (31 : Int64)) + (Int32.toInt64 ((mt_to T) (nI i202).toNatClampNeg))) * (31 : Int64)) + (Int32.toInt64 ((mt_ke T) (nI i202).toNatClampNeg))) * (31 : Int64)) + (Int32.toInt64 (r_X2_at w b n T ((10 : Int32) + (nI i202)))))), (0, .ref h), (4, .int (nI i202))]) hx hb dX3_digest_267 rfl hl (by decide) rfl (fun ls hl => ?_)
      refine lv_iinc (v := (nI (i202 + 1))) (lv' := [(4, .int (nI (i202 + 1))), (2, .long ((((((q202 * (31 : Int64)) + (Int32.toInt64 ((mt_to T) (nI i202).toNatClampNeg))) * (31 : Int64)) + (Int32.toInt64 ((mt_ke T) (nI i202).toNatClampNeg))) * (31 : Int64)) + (Int32.toInt64 (r_X2_at w b n T ((10 : Int32) + (nI i202)))))), (0, .ref h)]) hx hb dX3_digest_268 hl (k := 2) rfl (inc_n i202) (by decide) rfl (fun ls hl => ?_)
      refine lv_goto (tgt := 202) hx hb dX3_digest_271 (by decide) ?_
      rw [show (f_X3_digest_202 th w b n T w2 b2 n2 T2) i202 q202 = (((((((q202 * (31 : Int64)) + (Int32.toInt64 ((mt_to T) (nI i202).toNatClampNeg))) * (31 : Int64)) + (Int32.toInt64 ((mt_ke T) (nI i202).toNatClampNeg))) * (31 : Int64)) + (Int32.toInt64 (r_X2_at w b n T ((10 : Int32) + (nI i202)))))) from by rw [f_X3_digest_202]] at k202
      exact k202 H locs ls hw (lv_sub hl [2, 1, 0] rfl)
    · intro H locs ls hw hl
      refine lv_iload hx hb dX3_digest_202 (lv_at hl 2 rfl) ?_
      refine lv_aload_n hx hb dX3_digest_204 rfl (lv_at hl 0 rfl) ?_
      refine g_get (v := .ref (a 0)) hc hw hiX3 0 1 (wo_X3_H ..) rfl (by decide) (List.mem_of_getElem? (i := 3) rfl) (wv_X3_H_1 ..) dX3_digest_205 ?_
      refine g_getN (v := .int (nI b)) (host := RX3) hc hw hiX2 1 2 (wo_X3_T ..) rfl (by decide) (fun z => z.2 (30, "barges", "I") (by decide +kernel)) (wv_X3_T_2 ..) dX3_digest_208 ?_
      refine lv_icmp_ge (tgt := 274) hx hb dX3_digest_211 (by decide) (fun _ => ?_) (fun z => absurd (nI_le (Nat.le_refl _) (by omega)) z)
      refine lv_iconst (v := 0) hx hb dX3_digest_274 (by decide) ?_
      refine lv_istore (lv' := [(4, .int (0 : Int32)), (0, .ref h), (2, .long (lpf (f_X3_digest_202 th w b n T w2 b2 n2 T2) b 0 ((lpf (f_X3_digest_118 th w b n T w2 b2 n2 T2) w 0 ((((((((((((((1877 : Int64) * (31 : Int64)) + (Int32.toInt64 (mt_day T))) * (31 : Int64)) + (Int32.toInt64 (nI w))) * (31 : Int64)) + (Int32.toInt64 (nI b))) * (31 : Int64)) + (Int32.toInt64 (nI n))) * (31 : Int64)) + (Int32.toInt64 (mt_bo T))) * (31 : Int64)) + (Int32.toInt64 (mt_ea T))))))))]) hx hb dX3_digest_275 hl (by decide) rfl (fun ls hl => ?_)
      refine lp_go (fun (i277 : Nat) (q277 : Int64) => ∀ (H : Heap) (locs : List Loc) (ls : Array Slot), Wo D A s.heap (wb_m h a a2 cI (0 : Int32) w b n T w2 b2 n2 T2) H locs → lv_has ls 8 [(0, .ref h), (2, .long q277), (4, .int (nI i277))] → W p l e rm_X3_digest s m args below meth c H locs 1 6 (QE below args s D A (some (.long (r_X3_digest th w b n T w2 b2 n2 T2))) (wb_m h a a2 cI (t_X3_digest th w b n T w2 b2 n2 T2) w b n T w2 b2 n2 T2) rm_X3_digest) (F0 m 277 ls [])) (f_X3_digest_277 th w b n T w2 b2 n2 T2) n ((lpf (f_X3_digest_202 th w b n T w2 b2 n2 T2) b 0 ((lpf (f_X3_digest_118 th w b n T w2 b2 n2 T2) w 0 ((((((((((((((1877 : Int64) * (31 : Int64)) + (Int32.toInt64 (mt_day T))) * (31 : Int64)) + (Int32.toInt64 (nI w))) * (31 : Int64)) + (Int32.toInt64 (nI b))) * (31 : Int64)) + (Int32.toInt64 (nI n))) * (31 : Int64)) + (Int32.toInt64 (mt_bo T))) * (31 : Int64)) + (Int32.toInt64 (mt_ea T)))))))) ?_ ?_ H locs ls hw (lv_sub hl [1, 2, 0] rfl)
      · intro i277 q277 hi277 k277 H locs ls hw hl
        refine lv_iload hx hb dX3_digest_277 (lv_at hl 2 rfl) ?_
        refine lv_aload_n hx hb dX3_digest_279 rfl (lv_at hl 0 rfl) ?_
        refine g_get (v := .ref (a 0)) hc hw hiX3 0 1 (wo_X3_H ..) rfl (by decide) (List.mem_of_getElem? (i := 3) rfl) (wv_X3_H_1 ..) dX3_digest_280 ?_
        refine g_getN (v := .int (nI n)) (host := RX3) hc hw hiX2 1 3 (wo_X3_T ..) rfl (by decide) (fun z => z.2 (33, "people", "I") (by decide +kernel)) (wv_X3_T_3 ..) dX3_digest_283 ?_
        refine lv_icmp_ge (tgt := 409) hx hb dX3_digest_286 (by decide) (fun z => absurd z (nI_ge hi277 (by omega))) (fun _ => ?_)
        refine lv_lload_n hx hb dX3_digest_289 rfl (lv_at hl 1 rfl) ?_
        refine lv_ldc2 hx hb hown (hts _ (List.mem_of_getElem? (i := 5) rfl)) dX3_digest_290 ?_
        refine lv_lmul hx hb dX3_digest_293 ?_
        refine lv_aload_n hx hb dX3_digest_294 rfl (lv_at hl 0 rfl) ?_
        refine g_get (v := .ref (a 0)) hc hw hiX3 0 1 (wo_X3_H ..) rfl (by decide) (List.mem_of_getElem? (i := 3) rfl) (wv_X3_H_1 ..) dX3_digest_295 ?_
        refine g_getN (v := .ref (a 10)) (host := RX3) hc hw hiX2 1 10 (wo_X3_T ..) rfl (by decide) (fun z => z.2 (54, "fever", "[I") (by decide +kernel)) (wv_X3_T_10 ..) dX3_digest_298 ?_
        refine lv_iload hx hb dX3_digest_301 (lv_at hl 2 rfl) ?_
        refine g_iald (f := (mt_fe T)) hc hw 6 (wr_X3_T_10 ..) (vp_in_nI (show i277 < 30 by omega) (by omega)) dX3_digest_303 ?_
        refine lv_i2l (v := (Int32.toInt64 ((mt_fe T) (nI i277).toNatClampNeg))) hx hb dX3_digest_304 rfl ?_
        refine lv_ladd hx hb dX3_digest_305 ?_
        refine lv_ldc2 hx hb hown (hts _ (List.mem_of_getElem? (i := 5) rfl)) dX3_digest_306 ?_
        refine lv_lmul hx hb dX3_digest_309 ?_
        refine lv_aload_n hx hb dX3_digest_310 rfl (lv_at hl 0 rfl) ?_
        refine lv_iload hx hb dX3_digest_311 (lv_at hl 2 rfl) ?_
        refine g_callV0 (n := 1) hc hw (k_X3_wardTold l D cI cZ cL h a a2 (0 : Int32) w b n T w2 b2 n2 T2 hd5 hd4 hd30 he5 he4 he30 (nI i277) (vp_in_nI (show i277 < 30 by omega) (by omega))) gX3_digest_X3_wardTold rfl (by decide +kernel) ⟨Nat.le_of_ble_eq_true rfl, Nat.le_of_ble_eq_true rfl⟩ 0 (wo_X3_H ..) rfl rfl rfl (rest := [.long (((q277 * (31 : Int64)) + (Int32.toInt64 ((mt_fe T) (nI i277).toNatClampNeg))) * (31 : Int64))]) rfl hl.1 (Nat.le_of_ble_eq_true rfl) (st1 := [.int (r_X3_wardTold (0 : Int32) w b n T w2 b2 n2 T2 (nI i277)), .long (((q277 * (31 : Int64)) + (Int32.toInt64 ((mt_fe T) (nI i277).toNatClampNeg))) * (31 : Int64))]) rfl dX3_digest_313 (k2 := 1) (s2 := 6) rfl rfl ⟨Nat.le_of_ble_eq_true rfl, Nat.le_of_ble_eq_true rfl⟩ (fun H locs hw => ?_)
        refine lv_i2l (v := (Int32.toInt64 (r_X3_wardTold (0 : Int32) w b n T w2 b2 n2 T2 (nI i277)))) hx hb dX3_digest_316 rfl ?_
        refine lv_ladd hx hb dX3_digest_317 ?_
        refine lv_lstore_n (lv' := [(2, .long ((((q277 * (31 : Int64)) + (Int32.toInt64 ((mt_fe T) (nI i277).toNatClampNeg))) * (31 : Int64)) + (Int32.toInt64 (r_X3_wardTold (0 : Int32) w b n T w2 b2 n2 T2 (nI i277))))), (0, .ref h), (4, .int (nI i277))]) hx hb dX3_digest_318 rfl hl (by decide) rfl (fun ls hl => ?_)
        refine lv_lload_n hx hb dX3_digest_319 rfl (lv_at hl 0 rfl) ?_
        refine lv_ldc2 hx hb hown (hts _ (List.mem_of_getElem? (i := 5) rfl)) dX3_digest_320 ?_
        refine lv_lmul hx hb dX3_digest_323 ?_
        refine lv_aload_n hx hb dX3_digest_324 rfl (lv_at hl 1 rfl) ?_
        refine lv_iload hx hb dX3_digest_325 (lv_at hl 2 rfl) ?_
        refine g_callV0 (n := 1) hc hw (k_X3_bargeTold l D cI cZ cL h a a2 (0 : Int32) w b n T w2 b2 n2 T2 hd5 hd4 hd30 he5 he4 he30 (nI i277) (vp_in_nI (show i277 < 30 by omega) (by omega))) gX3_digest_X3_bargeTold rfl (by decide +kernel) ⟨Nat.le_of_ble_eq_true rfl, Nat.le_of_ble_eq_true rfl⟩ 0 (wo_X3_H ..) rfl rfl rfl (rest := [.long (((((q277 * (31 : Int64)) + (Int32.toInt64 ((mt_fe T) (nI i277).toNatClampNeg))) * (31 : Int64)) + (Int32.toInt64 (r_X3_wardTold (0 : Int32) w b n T w2 b2 n2 T2 (nI i277)))) * (31 : Int64))]) rfl hl.1 (Nat.le_of_ble_eq_true rfl) (st1 := [.int (r_X3_bargeTold (0 : Int32) w b n T w2 b2 n2 T2 (nI i277)), .long (((((q277 * (31 : Int64)) + (Int32.toInt64 ((mt_fe T) (nI i277).toNatClampNeg))) * (31 : Int64)) + (Int32.toInt64 (r_X3_wardTold (0 : Int32) w b n T w2 b2 n2 T2 (nI i277)))) * (31 : Int64))]) rfl dX3_digest_327 (k2 := 1) (s2 := 6) rfl rfl ⟨Nat.le_of_ble_eq_true rfl, Nat.le_of_ble_eq_true rfl⟩ (fun H locs hw => ?_)
        refine lv_i2l (v := (Int32.toInt64 (r_X3_bargeTold (0 : Int32) w b n T w2 b2 n2 T2 (nI i277)))) hx hb dX3_digest_330 rfl ?_
        refine lv_ladd hx hb dX3_digest_331 ?_
        refine lv_ldc2 hx hb hown (hts _ (List.mem_of_getElem? (i := 5) rfl)) dX3_digest_332 ?_
        refine lv_lmul hx hb dX3_digest_335 ?_
        refine lv_aload_n hx hb dX3_digest_336 rfl (lv_at hl 1 rfl) ?_
        refine g_get (v := .ref (a 0)) hc hw hiX3 0 1 (wo_X3_H ..) rfl (by decide) (List.mem_of_getElem? (i := 3) rfl) (wv_X3_H_1 ..) dX3_digest_337 ?_
        refine g_getN (v := .ref (a 11)) (host := RX3) hc hw hiX2 1 11 (wo_X3_T ..) rfl (by decide) (fun z => z.2 (57, "where", "[I") (by decide +kernel)) (wv_X3_T_11 ..) dX3_digest_340 ?_
        refine lv_iload hx hb dX3_digest_343 (lv_at hl 2 rfl) ?_
        refine g_iald (f := (mt_wh T)) hc hw 7 (wr_X3_T_11 ..) (vp_in_nI (show i277 < 30 by omega) (by omega)) dX3_digest_345 ?_
        refine lv_bipush (v := 20) hx hb dX3_digest_346 (by decide) ?_
        refine lv_icmp_ne (tgt := 355) hx hb dX3_digest_348 (by decide) (fun c1 => ?_) (fun c1 => ?_)
        · refine lv_iconst (v := 0) hx hb dX3_digest_355 (by decide) ?_
          refine lv_i2l (v := (Int32.toInt64 (0 : Int32))) hx hb dX3_digest_356 rfl ?_
          refine lv_ladd hx hb dX3_digest_357 ?_
          refine lv_lstore_n (lv' := [(2, .long ((((((((q277 * (31 : Int64)) + (Int32.toInt64 ((mt_fe T) (nI i277).toNatClampNeg))) * (31 : Int64)) + (Int32.toInt64 (r_X3_wardTold (0 : Int32) w b n T w2 b2 n2 T2 (nI i277)))) * (31 : Int64)) + (Int32.toInt64 (r_X3_bargeTold (0 : Int32) w b n T w2 b2 n2 T2 (nI i277)))) * (31 : Int64)) + (Int32.toInt64 (0 : Int32)))), (0, .ref h), (4, .int (nI i277))]) hx hb dX3_digest_358 rfl hl (by decide) rfl (fun ls hl => ?_)
          refine lv_lload_n hx hb dX3_digest_359 rfl (lv_at hl 0 rfl) ?_
          refine lv_ldc2 hx hb hown (hts _ (List.mem_of_getElem? (i := 5) rfl)) dX3_digest_360 ?_
          refine lv_lmul hx hb dX3_digest_363 ?_
          refine lv_aload_n hx hb dX3_digest_364 rfl (lv_at hl 1 rfl) ?_
          refine g_get (v := .ref (a 0)) hc hw hiX3 0 1 (wo_X3_H ..) rfl (by decide) (List.mem_of_getElem? (i := 3) rfl) (wv_X3_H_1 ..) dX3_digest_365 ?_
          refine g_getN (v := .ref (a 11)) (host := RX3) hc hw hiX2 1 11 (wo_X3_T ..) rfl (by decide) (fun z => z.2 (57, "where", "[I") (by decide +kernel)) (wv_X3_T_11 ..) dX3_digest_368 ?_
          refine lv_iload hx hb dX3_digest_371 (lv_at hl 2 rfl) ?_
          refine g_iald (f := (mt_wh T)) hc hw 7 (wr_X3_T_11 ..) (vp_in_nI (show i277 < 30 by omega) (by omega)) dX3_digest_373 ?_
          refine lv_bipush (v := 21) hx hb dX3_digest_374 (by decide) ?_
          refine lv_icmp_ne (tgt := 383) hx hb dX3_digest_376 (by decide) (fun c2 => ?_) (fun c2 => ?_)
          · refine lv_iconst (v := 0) hx hb dX3_digest_383 (by decide) ?_
            refine lv_i2l (v := (Int32.toInt64 (0 : Int32))) hx hb dX3_digest_384 rfl ?_
            refine lv_ladd hx hb dX3_digest_385 ?_
            refine lv_ldc2 hx hb hown (hts _ (List.mem_of_getElem? (i := 5) rfl)) dX3_digest_386 ?_
            refine lv_lmul hx hb dX3_digest_389 ?_
            refine lv_aload_n hx hb dX3_digest_390 rfl (lv_at hl 1 rfl) ?_
            refine g_get (v := .ref (a 0)) hc hw hiX3 0 1 (wo_X3_H ..) rfl (by decide) (List.mem_of_getElem? (i := 3) rfl) (wv_X3_H_1 ..) dX3_digest_391 ?_
            refine g_getN (v := .ref (a 12)) (host := RX3) hc hw hiX2 1 12 (wo_X3_T ..) rfl (by decide) (fun z => z.2 (85, "hungry", "[I") (by decide +kernel)) (wv_X3_T_12 ..) dX3_digest_394 ?_
            refine lv_iload hx hb dX3_digest_397 (lv_at hl 2 rfl) ?_
            refine g_iald (f := (mt_hu T)) hc hw 8 (wr_X3_T_12 ..) (vp_in_nI (show i277 < 30 by omega) (by omega)) dX3_digest_399 ?_
            refine lv_i2l (v := (Int32.toInt64 ((mt_hu T) (nI i277).toNatClampNeg))) hx hb dX3_digest_400 rfl ?_
            refine lv_ladd hx hb dX3_digest_401 ?_
            refine lv_lstore_n (lv' := [(2, .long ((((((((((((q277 * (31 : Int64)) + (Int32.toInt64 ((mt_fe T) (nI i277).toNatClampNeg))) * (31 : Int64)) + (Int32.toInt64 (r_X3_wardTold (0 : Int32) w b n T w2 b2 n2 T2 (nI i277)))) * (31 : Int64)) + (Int32.toInt64 (r_X3_bargeTold (0 : Int32) w b n T w2 b2 n2 T2 (nI i277)))) * (31 : Int64)) + (Int32.toInt64 (0 : Int32))) * (31 : Int64)) + (Int32.toInt64 (0 : Int32))) * (31 : Int64)) + (Int32.toInt64 ((mt_hu T) (nI i277).toNatClampNeg)))), (0, .ref h), (4, .int (nI i277))]) hx hb dX3_digest_402 rfl hl (by decide) rfl (fun ls hl => ?_)
            refine lv_iinc (v := (nI (i277 + 1))) (lv' := [(4, .int (nI (i277 + 1))), (2, .long ((((((((((((q277 * (31 : Int64)) + (Int32.toInt64 ((mt_fe T) (nI i277).toNatClampNeg))) * (31 : Int64)) + (Int32.toInt64 (r_X3_wardTold (0 : Int32) w b n T w2 b2 n2 T2 (nI i277)))) * (31 : Int64)) + (Int32.toInt64 (r_X3_bargeTold (0 : Int32) w b n T w2 b2 n2 T2 (nI i277)))) * (31 : Int64)) + (Int32.toInt64 (0 : Int32))) * (31 : Int64)) + (Int32.toInt64 (0 : Int32))) * (31 : Int64)) + (Int32.toInt64 ((mt_hu T) (nI i277).toNatClampNeg)))), (0, .ref h)]) hx hb dX3_digest_403 hl (k := 2) rfl (inc_n i277) (by decide) rfl (fun ls hl => ?_)
            refine lv_goto (tgt := 277) hx hb dX3_digest_406 (by decide) ?_
            rw [show (f_X3_digest_277 th w b n T w2 b2 n2 T2) i277 q277 = (((((((((((((q277 * (31 : Int64)) + (Int32.toInt64 ((mt_fe T) (nI i277).toNatClampNeg))) * (31 : Int64)) + (Int32.toInt64 (r_X3_wardTold (0 : Int32) w b n T w2 b2 n2 T2 (nI i277)))) * (31 : Int64)) + (Int32.toInt64 (r_X3_bargeTold (0 : Int32) w b n T w2 b2 n2 T2 (nI i277)))) * (31 : Int64)) + (Int32.toInt64 (0 : Int32))) * (31 : Int64)) + (Int32.toInt64 (0 : Int32))) * (31 : Int64)) + (Int32.toInt64 ((mt_hu T) (nI i277).toNatClampNeg)))) from by rw [f_X3_digest_277, if_neg c1, if_neg c2]] at k277
            exact k277 H locs ls hw (lv_sub hl [2, 1, 0] rfl)
          · refine lv_iconst (v := 1) hx hb dX3_digest_379 (by decide) ?_
            refine lv_goto (tgt := 384) hx hb dX3_digest_380 (by decide) ?_
            refine lv_i2l (v := (Int32.toInt64 (1 : Int32))) hx hb dX3_digest_384 rfl ?_
            refine lv_ladd hx hb dX3_digest_385 ?_
            refine lv_ldc2 hx hb hown (hts _ (List.mem_of_getElem? (i := 5) rfl)) dX3_digest_386 ?_
            refine lv_lmul hx hb dX3_digest_389 ?_
            refine lv_aload_n hx hb dX3_digest_390 rfl (lv_at hl 1 rfl) ?_
            refine g_get (v := .ref (a 0)) hc hw hiX3 0 1 (wo_X3_H ..) rfl (by decide) (List.mem_of_getElem? (i := 3) rfl) (wv_X3_H_1 ..) dX3_digest_391 ?_
            refine g_getN (v := .ref (a 12)) (host := RX3) hc hw hiX2 1 12 (wo_X3_T ..) rfl (by decide) (fun z => z.2 (85, "hungry", "[I") (by decide +kernel)) (wv_X3_T_12 ..) dX3_digest_394 ?_
            refine lv_iload hx hb dX3_digest_397 (lv_at hl 2 rfl) ?_
            refine g_iald (f := (mt_hu T)) hc hw 8 (wr_X3_T_12 ..) (vp_in_nI (show i277 < 30 by omega) (by omega)) dX3_digest_399 ?_
            refine lv_i2l (v := (Int32.toInt64 ((mt_hu T) (nI i277).toNatClampNeg))) hx hb dX3_digest_400 rfl ?_
            refine lv_ladd hx hb dX3_digest_401 ?_
            refine lv_lstore_n (lv' := [(2, .long ((((((((((((q277 * (31 : Int64)) + (Int32.toInt64 ((mt_fe T) (nI i277).toNatClampNeg))) * (31 : Int64)) + (Int32.toInt64 (r_X3_wardTold (0 : Int32) w b n T w2 b2 n2 T2 (nI i277)))) * (31 : Int64)) + (Int32.toInt64 (r_X3_bargeTold (0 : Int32) w b n T w2 b2 n2 T2 (nI i277)))) * (31 : Int64)) + (Int32.toInt64 (0 : Int32))) * (31 : Int64)) + (Int32.toInt64 (1 : Int32))) * (31 : Int64)) + (Int32.toInt64 ((mt_hu T) (nI i277).toNatClampNeg)))), (0, .ref h), (4, .int (nI i277))]) hx hb dX3_digest_402 rfl hl (by decide) rfl (fun ls hl => ?_)
            refine lv_iinc (v := (nI (i277 + 1))) (lv' := [(4, .int (nI (i277 + 1))), (2, .long ((((((((((((q277 * (31 : Int64)) + (Int32.toInt64 ((mt_fe T) (nI i277).toNatClampNeg))) * (31 : Int64)) + (Int32.toInt64 (r_X3_wardTold (0 : Int32) w b n T w2 b2 n2 T2 (nI i277)))) * (31 : Int64)) + (Int32.toInt64 (r_X3_bargeTold (0 : Int32) w b n T w2 b2 n2 T2 (nI i277)))) * (31 : Int64)) + (Int32.toInt64 (0 : Int32))) * (31 : Int64)) + (Int32.toInt64 (1 : Int32))) * (31 : Int64)) + (Int32.toInt64 ((mt_hu T) (nI i277).toNatClampNeg)))), (0, .ref h)]) hx hb dX3_digest_403 hl (k := 2) rfl (inc_n i277) (by decide) rfl (fun ls hl => ?_)
            refine lv_goto (tgt := 277) hx hb dX3_digest_406 (by decide) ?_
            rw [show (f_X3_digest_277 th w b n T w2 b2 n2 T2) i277 q277 = (((((((((((((q277 * (31 : Int64)) + (Int32.toInt64 ((mt_fe T) (nI i277).toNatClampNeg))) * (31 : Int64)) + (Int32.toInt64 (r_X3_wardTold (0 : Int32) w b n T w2 b2 n2 T2 (nI i277)))) * (31 : Int64)) + (Int32.toInt64 (r_X3_bargeTold (0 : Int32) w b n T w2 b2 n2 T2 (nI i277)))) * (31 : Int64)) + (Int32.toInt64 (0 : Int32))) * (31 : Int64)) + (Int32.toInt64 (1 : Int32))) * (31 : Int64)) + (Int32.toInt64 ((mt_hu T) (nI i277).toNatClampNeg)))) from by rw [f_X3_digest_277, if_neg c1, if_pos c2]] at k277
            exact k277 H locs ls hw (lv_sub hl [2, 1, 0] rfl)
        · refine lv_iconst (v := 1) hx hb dX3_digest_351 (by decide) ?_
          refine lv_goto (tgt := 356) hx hb dX3_digest_352 (by decide) ?_
          refine lv_i2l (v := (Int32.toInt64 (1 : Int32))) hx hb dX3_digest_356 rfl ?_
          refine lv_ladd hx hb dX3_digest_357 ?_
          refine lv_lstore_n (lv' := [(2, .long ((((((((q277 * (31 : Int64)) + (Int32.toInt64 ((mt_fe T) (nI i277).toNatClampNeg))) * (31 : Int64)) + (Int32.toInt64 (r_X3_wardTold (0 : Int32) w b n T w2 b2 n2 T2 (nI i277)))) * (31 : Int64)) + (Int32.toInt64 (r_X3_bargeTold (0 : Int32) w b n T w2 b2 n2 T2 (nI i277)))) * (31 : Int64)) + (Int32.toInt64 (1 : Int32)))), (0, .ref h), (4, .int (nI i277))]) hx hb dX3_digest_358 rfl hl (by decide) rfl (fun ls hl => ?_)
          refine lv_lload_n hx hb dX3_digest_359 rfl (lv_at hl 0 rfl) ?_
          refine lv_ldc2 hx hb hown (hts _ (List.mem_of_getElem? (i := 5) rfl)) dX3_digest_360 ?_
          refine lv_lmul hx hb dX3_digest_363 ?_
          refine lv_aload_n hx hb dX3_digest_364 rfl (lv_at hl 1 rfl) ?_
          refine g_get (v := .ref (a 0)) hc hw hiX3 0 1 (wo_X3_H ..) rfl (by decide) (List.mem_of_getElem? (i := 3) rfl) (wv_X3_H_1 ..) dX3_digest_365 ?_
          refine g_getN (v := .ref (a 11)) (host := RX3) hc hw hiX2 1 11 (wo_X3_T ..) rfl (by decide) (fun z => z.2 (57, "where", "[I") (by decide +kernel)) (wv_X3_T_11 ..) dX3_digest_368 ?_
          refine lv_iload hx hb dX3_digest_371 (lv_at hl 2 rfl) ?_
          refine g_iald (f := (mt_wh T)) hc hw 7 (wr_X3_T_11 ..) (vp_in_nI (show i277 < 30 by omega) (by omega)) dX3_digest_373 ?_
          refine lv_bipush (v := 21) hx hb dX3_digest_374 (by decide) ?_
          refine lv_icmp_ne (tgt := 383) hx hb dX3_digest_376 (by decide) (fun c3 => ?_) (fun c3 => ?_)
          · refine lv_iconst (v := 0) hx hb dX3_digest_383 (by decide) ?_
            refine lv_i2l (v := (Int32.toInt64 (0 : Int32))) hx hb dX3_digest_384 rfl ?_
            refine lv_ladd hx hb dX3_digest_385 ?_
            refine lv_ldc2 hx hb hown (hts _ (List.mem_of_getElem? (i := 5) rfl)) dX3_digest_386 ?_
            refine lv_lmul hx hb dX3_digest_389 ?_
            refine lv_aload_n hx hb dX3_digest_390 rfl (lv_at hl 1 rfl) ?_
            refine g_get (v := .ref (a 0)) hc hw hiX3 0 1 (wo_X3_H ..) rfl (by decide) (List.mem_of_getElem? (i := 3) rfl) (wv_X3_H_1 ..) dX3_digest_391 ?_
            refine g_getN (v := .ref (a 12)) (host := RX3) hc hw hiX2 1 12 (wo_X3_T ..) rfl (by decide) (fun z => z.2 (85, "hungry", "[I") (by decide +kernel)) (wv_X3_T_12 ..) dX3_digest_394 ?_
            refine lv_iload hx hb dX3_digest_397 (lv_at hl 2 rfl) ?_
            refine g_iald (f := (mt_hu T)) hc hw 8 (wr_X3_T_12 ..) (vp_in_nI (show i277 < 30 by omega) (by omega)) dX3_digest_399 ?_
            refine lv_i2l (v := (Int32.toInt64 ((mt_hu T) (nI i277).toNatClampNeg))) hx hb dX3_digest_400 rfl ?_
            refine lv_ladd hx hb dX3_digest_401 ?_
            refine lv_lstore_n (lv' := [(2, .long ((((((((((((q277 * (31 : Int64)) + (Int32.toInt64 ((mt_fe T) (nI i277).toNatClampNeg))) * (31 : Int64)) + (Int32.toInt64 (r_X3_wardTold (0 : Int32) w b n T w2 b2 n2 T2 (nI i277)))) * (31 : Int64)) + (Int32.toInt64 (r_X3_bargeTold (0 : Int32) w b n T w2 b2 n2 T2 (nI i277)))) * (31 : Int64)) + (Int32.toInt64 (1 : Int32))) * (31 : Int64)) + (Int32.toInt64 (0 : Int32))) * (31 : Int64)) + (Int32.toInt64 ((mt_hu T) (nI i277).toNatClampNeg)))), (0, .ref h), (4, .int (nI i277))]) hx hb dX3_digest_402 rfl hl (by decide) rfl (fun ls hl => ?_)
            refine lv_iinc (v := (nI (i277 + 1))) (lv' := [(4, .int (nI (i277 + 1))), (2, .long ((((((((((((q277 * (31 : Int64)) + (Int32.toInt64 ((mt_fe T) (nI i277).toNatClampNeg))) * (31 : Int64)) + (Int32.toInt64 (r_X3_wardTold (0 : Int32) w b n T w2 b2 n2 T2 (nI i277)))) * (31 : Int64)) + (Int32.toInt64 (r_X3_bargeTold (0 : Int32) w b n T w2 b2 n2 T2 (nI i277)))) * (31 : Int64)) + (Int32.toInt64 (1 : Int32))) * (31 : Int64)) + (Int32.toInt64 (0 : Int32))) * (31 : Int64)) + (Int32.toInt64 ((mt_hu T) (nI i277).toNatClampNeg)))), (0, .ref h)]) hx hb dX3_digest_403 hl (k := 2) rfl (inc_n i277) (by decide) rfl (fun ls hl => ?_)
            refine lv_goto (tgt := 277) hx hb dX3_digest_406 (by decide) ?_
            rw [show (f_X3_digest_277 th w b n T w2 b2 n2 T2) i277 q277 = (((((((((((((q277 * (31 : Int64)) + (Int32.toInt64 ((mt_fe T) (nI i277).toNatClampNeg))) * (31 : Int64)) + (Int32.toInt64 (r_X3_wardTold (0 : Int32) w b n T w2 b2 n2 T2 (nI i277)))) * (31 : Int64)) + (Int32.toInt64 (r_X3_bargeTold (0 : Int32) w b n T w2 b2 n2 T2 (nI i277)))) * (31 : Int64)) + (Int32.toInt64 (1 : Int32))) * (31 : Int64)) + (Int32.toInt64 (0 : Int32))) * (31 : Int64)) + (Int32.toInt64 ((mt_hu T) (nI i277).toNatClampNeg)))) from by rw [f_X3_digest_277, if_pos c1, if_neg c3]] at k277
            exact k277 H locs ls hw (lv_sub hl [2, 1, 0] rfl)
          · refine lv_iconst (v := 1) hx hb dX3_digest_379 (by decide) ?_
            refine lv_goto (tgt := 384) hx hb dX3_digest_380 (by decide) ?_
            refine lv_i2l (v := (Int32.toInt64 (1 : Int32))) hx hb dX3_digest_384 rfl ?_
            refine lv_ladd hx hb dX3_digest_385 ?_
            refine lv_ldc2 hx hb hown (hts _ (List.mem_of_getElem? (i := 5) rfl)) dX3_digest_386 ?_
            refine lv_lmul hx hb dX3_digest_389 ?_
            refine lv_aload_n hx hb dX3_digest_390 rfl (lv_at hl 1 rfl) ?_
            refine g_get (v := .ref (a 0)) hc hw hiX3 0 1 (wo_X3_H ..) rfl (by decide) (List.mem_of_getElem? (i := 3) rfl) (wv_X3_H_1 ..) dX3_digest_391 ?_
            refine g_getN (v := .ref (a 12)) (host := RX3) hc hw hiX2 1 12 (wo_X3_T ..) rfl (by decide) (fun z => z.2 (85, "hungry", "[I") (by decide +kernel)) (wv_X3_T_12 ..) dX3_digest_394 ?_
            refine lv_iload hx hb dX3_digest_397 (lv_at hl 2 rfl) ?_
            refine g_iald (f := (mt_hu T)) hc hw 8 (wr_X3_T_12 ..) (vp_in_nI (show i277 < 30 by omega) (by omega)) dX3_digest_399 ?_
            refine lv_i2l (v := (Int32.toInt64 ((mt_hu T) (nI i277).toNatClampNeg))) hx hb dX3_digest_400 rfl ?_
            refine lv_ladd hx hb dX3_digest_401 ?_
            refine lv_lstore_n (lv' := [(2, .long ((((((((((((q277 * (31 : Int64)) + (Int32.toInt64 ((mt_fe T) (nI i277).toNatClampNeg))) * (31 : Int64)) + (Int32.toInt64 (r_X3_wardTold (0 : Int32) w b n T w2 b2 n2 T2 (nI i277)))) * (31 : Int64)) + (Int32.toInt64 (r_X3_bargeTold (0 : Int32) w b n T w2 b2 n2 T2 (nI i277)))) * (31 : Int64)) + (Int32.toInt64 (1 : Int32))) * (31 : Int64)) + (Int32.toInt64 (1 : Int32))) * (31 : Int64)) + (Int32.toInt64 ((mt_hu T) (nI i277).toNatClampNeg)))), (0, .ref h), (4, .int (nI i277))]) hx hb dX3_digest_402 rfl hl (by decide) rfl (fun ls hl => ?_)
            refine lv_iinc (v := (nI (i277 + 1))) (lv' := [(4, .int (nI (i277 + 1))), (2, .long ((((((((((((q277 * (31 : Int64)) + (Int32.toInt64 ((mt_fe T) (nI i277).toNatClampNeg))) * (31 : Int64)) + (Int32.toInt64 (r_X3_wardTold (0 : Int32) w b n T w2 b2 n2 T2 (nI i277)))) * (31 : Int64)) + (Int32.toInt64 (r_X3_bargeTold (0 : Int32) w b n T w2 b2 n2 T2 (nI i277)))) * (31 : Int64)) + (Int32.toInt64 (1 : Int32))) * (31 : Int64)) + (Int32.toInt64 (1 : Int32))) * (31 : Int64)) + (Int32.toInt64 ((mt_hu T) (nI i277).toNatClampNeg)))), (0, .ref h)]) hx hb dX3_digest_403 hl (k := 2) rfl (inc_n i277) (by decide) rfl (fun ls hl => ?_)
            refine lv_goto (tgt := 277) hx hb dX3_digest_406 (by decide) ?_
            rw [show (f_X3_digest_277 th w b n T w2 b2 n2 T2) i277 q277 = (((((((((((((q277 * (31 : Int64)) + (Int32.toInt64 ((mt_fe T) (nI i277).toNatClampNeg))) * (31 : Int64)) + (Int32.toInt64 (r_X3_wardTold (0 : Int32) w b n T w2 b2 n2 T2 (nI i277)))) * (31 : Int64)) + (Int32.toInt64 (r_X3_bargeTold (0 : Int32) w b n T w2 b2 n2 T2 (nI i277)))) * (31 : Int64)) + (Int32.toInt64 (1 : Int32))) * (31 : Int64)) + (Int32.toInt64 (1 : Int32))) * (31 : Int64)) + (Int32.toInt64 ((mt_hu T) (nI i277).toNatClampNeg)))) from by rw [f_X3_digest_277, if_pos c1, if_pos c3]] at k277
            exact k277 H locs ls hw (lv_sub hl [2, 1, 0] rfl)
      · intro H locs ls hw hl
        refine lv_iload hx hb dX3_digest_277 (lv_at hl 2 rfl) ?_
        refine lv_aload_n hx hb dX3_digest_279 rfl (lv_at hl 0 rfl) ?_
        refine g_get (v := .ref (a 0)) hc hw hiX3 0 1 (wo_X3_H ..) rfl (by decide) (List.mem_of_getElem? (i := 3) rfl) (wv_X3_H_1 ..) dX3_digest_280 ?_
        refine g_getN (v := .int (nI n)) (host := RX3) hc hw hiX2 1 3 (wo_X3_T ..) rfl (by decide) (fun z => z.2 (33, "people", "I") (by decide +kernel)) (wv_X3_T_3 ..) dX3_digest_283 ?_
        refine lv_icmp_ge (tgt := 409) hx hb dX3_digest_286 (by decide) (fun _ => ?_) (fun z => absurd (nI_le (Nat.le_refl _) (by omega)) z)
        refine lv_lload_n hx hb dX3_digest_409 rfl (lv_at hl 1 rfl) ?_
        rw [show r_X3_digest th w b n T w2 b2 n2 T2 = (lpf (f_X3_digest_277 th w b n T w2 b2 n2 T2) n 0 ((lpf (f_X3_digest_202 th w b n T w2 b2 n2 T2) b 0 ((lpf (f_X3_digest_118 th w b n T w2 b2 n2 T2) w 0 ((((((((((((((1877 : Int64) * (31 : Int64)) + (Int32.toInt64 (mt_day T))) * (31 : Int64)) + (Int32.toInt64 (nI w))) * (31 : Int64)) + (Int32.toInt64 (nI b))) * (31 : Int64)) + (Int32.toInt64 (nI n))) * (31 : Int64)) + (Int32.toInt64 (mt_bo T))) * (31 : Int64)) + (Int32.toInt64 (mt_ea T))))))))) from by rw [r_X3_digest]]
        rw [show t_X3_digest th w b n T w2 b2 n2 T2 = (0 : Int32) from by rw [t_X3_digest]]
        exact g_lret hc hw rfl (Nat.le_of_ble_eq_true rfl) (Nat.le_of_ble_eq_true rfl) dX3_digest_410
