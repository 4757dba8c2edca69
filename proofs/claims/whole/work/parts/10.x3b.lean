def r_X3_isBarge (th : Int32) (w : Nat) (b : Nat) (n : Nat) (T : mt_T) (w2 : Nat) (b2 : Nat) (n2 : Nat) (T2 : mt_T) (x1 : Int32) : Int32 := (r_X3_isIn x1 (0 : Int32) ((nI b) - (1 : Int32)))
abbrev rm_X3_isBarge : Room := { frames := 1, cells := 0, slots := 0, locals := 22 }
set_option maxHeartbeats 4000000 in
set_option maxRecDepth 100000 in
theorem k_X3_isBarge (l : Launch) (D : va_G) (cI cZ cL : ClassId) (h : Nat) (a a2 : Nat → Nat) (th : Int32) (w : Nat) (b : Nat) (n : Nat) (T : mt_T) (w2 : Nat) (b2 : Nat) (n2 : Nat) (T2 : mt_T) (hd5 : w ≤ 5) (hd4 : b ≤ 4) (hd30 : n ≤ 30) (he5 : w2 ≤ 5) (he4 : b2 ≤ 4) (he30 : n2 ≤ 30) (x1 : Int32)  : MX l yX3_isBarge wsX3_isBarge rm_X3_isBarge D cI cZ cL [.ref h, .int x1] (wb_m h a a2 cI th w b n T w2 b2 n2 T2) (some (.int (r_X3_isBarge th w b n T w2 b2 n2 T2 x1))) (wb_m h a a2 cI th w b n T w2 b2 n2 T2) := by
  refine MX.of (own := RX3) (cc := cX3_isBarge) (maxL := 2) (ret := (some .boolean)) (lv0 := [(0, .ref h), (1, .int x1)]) (by decide) rfl rfl (Nat.le_of_ble_eq_true rfl) rfl ?_
  intro p e s m args below meth c A hc hnm hw ls hl
  obtain ⟨hx, hb, hr, hml, hown, hts, hlk, hK, hA⟩ := id hc
  have hiX2 : ∀ w ∈ u_ws RX2 TX2 13, w ∈ wsX3_isBarge := fun _ h => List.mem_cons_of_mem _ (List.mem_append_right _ h)
  have hiX3 : ∀ w ∈ u_ws RX3 TX3 3, w ∈ wsX3_isBarge := fun _ h => List.mem_cons_of_mem _ (List.mem_append_left _ (List.mem_append_right _ h))
  refine lv_iload_n hx hb dX3_isBarge_0 rfl (lv_at hl 1 rfl) ?_
  refine lv_iconst (v := 0) hx hb dX3_isBarge_1 (by decide) ?_
  refine lv_aload_n hx hb dX3_isBarge_2 rfl (lv_at hl 0 rfl) ?_
  refine g_get (v := .ref (a 0)) hc hw hiX3 0 1 (wo_X3_H ..) rfl (by decide) (List.mem_of_getElem? (i := 1) rfl) (wv_X3_H_1 ..) dX3_isBarge_3 ?_
  refine g_getN (v := .int (nI b)) (host := RX3) hc hw hiX2 1 2 (wo_X3_T ..) rfl (by decide) (fun z => z.2 (30, "barges", "I") (by decide +kernel)) (wv_X3_T_2 ..) dX3_isBarge_6 ?_
  refine lv_iconst (v := 1) hx hb dX3_isBarge_9 (by decide) ?_
  refine lv_isub hx hb dX3_isBarge_10 ?_
  refine g_callS0 (n := 3) hc hw (k_X3_isIn l D cI cZ cL x1 (0 : Int32) ((nI b) - (1 : Int32))) gX3_isBarge_X3_isIn rfl (by decide +kernel) ⟨Nat.le_of_ble_eq_true rfl, Nat.le_of_ble_eq_true rfl⟩ rfl (rest := []) rfl hl.1 (Nat.le_of_ble_eq_true rfl) (st1 := [.int (r_X3_isIn x1 (0 : Int32) ((nI b) - (1 : Int32)))]) rfl dX3_isBarge_11 (k2 := 0) (s2 := 0) rfl rfl ⟨Nat.le_of_ble_eq_true rfl, Nat.le_of_ble_eq_true rfl⟩ (fun H locs hw => ?_)
  rw [show r_X3_isBarge th w b n T w2 b2 n2 T2 x1 = (r_X3_isIn x1 (0 : Int32) ((nI b) - (1 : Int32))) from by rw [r_X3_isBarge]]
  exact g_zret hc hw rfl (nz_01 (r_X3_isIn_01 _ _ _)) (Nat.le_of_ble_eq_true rfl) (Nat.le_of_ble_eq_true rfl) dX3_isBarge_14

theorem v_X3_isBarge {th : Int32} {w b n : Nat} {T : mt_T} {w2 b2 n2 : Nat} {T2 : mt_T} {x : Int32} (h : ¬ r_X3_isBarge th w b n T w2 b2 n2 T2 x = 0) (hd : b ≤ 4) : vp_in x 4 := v_isIn (N := 4) h hd (by decide)

def r_X3_isPerson (th : Int32) (w : Nat) (b : Nat) (n : Nat) (T : mt_T) (w2 : Nat) (b2 : Nat) (n2 : Nat) (T2 : mt_T) (x1 : Int32) : Int32 := (r_X3_isIn x1 (0 : Int32) ((nI n) - (1 : Int32)))
abbrev rm_X3_isPerson : Room := { frames := 1, cells := 0, slots := 0, locals := 22 }
set_option maxHeartbeats 4000000 in
set_option maxRecDepth 100000 in
theorem k_X3_isPerson (l : Launch) (D : va_G) (cI cZ cL : ClassId) (h : Nat) (a a2 : Nat → Nat) (th : Int32) (w : Nat) (b : Nat) (n : Nat) (T : mt_T) (w2 : Nat) (b2 : Nat) (n2 : Nat) (T2 : mt_T) (hd5 : w ≤ 5) (hd4 : b ≤ 4) (hd30 : n ≤ 30) (he5 : w2 ≤ 5) (he4 : b2 ≤ 4) (he30 : n2 ≤ 30) (x1 : Int32)  : MX l yX3_isPerson wsX3_isPerson rm_X3_isPerson D cI cZ cL [.ref h, .int x1] (wb_m h a a2 cI th w b n T w2 b2 n2 T2) (some (.int (r_X3_isPerson th w b n T w2 b2 n2 T2 x1))) (wb_m h a a2 cI th w b n T w2 b2 n2 T2) := by
  refine MX.of (own := RX3) (cc := cX3_isPerson) (maxL := 2) (ret := (some .boolean)) (lv0 := [(0, .ref h), (1, .int x1)]) (by decide) rfl rfl (Nat.le_of_ble_eq_true rfl) rfl ?_
  intro p e s m args below meth c A hc hnm hw ls hl
  obtain ⟨hx, hb, hr, hml, hown, hts, hlk, hK, hA⟩ := id hc
  have hiX2 : ∀ w ∈ u_ws RX2 TX2 13, w ∈ wsX3_isPerson := fun _ h => List.mem_cons_of_mem _ (List.mem_append_right _ h)
  have hiX3 : ∀ w ∈ u_ws RX3 TX3 3, w ∈ wsX3_isPerson := fun _ h => List.mem_cons_of_mem _ (List.mem_append_left _ (List.mem_append_right _ h))
  refine lv_iload_n hx hb dX3_isPerson_0 rfl (lv_at hl 1 rfl) ?_
  refine lv_iconst (v := 0) hx hb dX3_isPerson_1 (by decide) ?_
  refine lv_aload_n hx hb dX3_isPerson_2 rfl (lv_at hl 0 rfl) ?_
  refine g_get (v := .ref (a 0)) hc hw hiX3 0 1 (wo_X3_H ..) rfl (by decide) (List.mem_of_getElem? (i := 1) rfl) (wv_X3_H_1 ..) dX3_isPerson_3 ?_
  refine g_getN (v := .int (nI n)) (host := RX3) hc hw hiX2 1 3 (wo_X3_T ..) rfl (by decide) (fun z => z.2 (33, "people", "I") (by decide +kernel)) (wv_X3_T_3 ..) dX3_isPerson_6 ?_
  refine lv_iconst (v := 1) hx hb dX3_isPerson_9 (by decide) ?_
  refine lv_isub hx hb dX3_isPerson_10 ?_
  refine g_callS0 (n := 3) hc hw (k_X3_isIn l D cI cZ cL x1 (0 : Int32) ((nI n) - (1 : Int32))) gX3_isPerson_X3_isIn rfl (by decide +kernel) ⟨Nat.le_of_ble_eq_true rfl, Nat.le_of_ble_eq_true rfl⟩ rfl (rest := []) rfl hl.1 (Nat.le_of_ble_eq_true rfl) (st1 := [.int (r_X3_isIn x1 (0 : Int32) ((nI n) - (1 : Int32)))]) rfl dX3_isPerson_11 (k2 := 0) (s2 := 0) rfl rfl ⟨Nat.le_of_ble_eq_true rfl, Nat.le_of_ble_eq_true rfl⟩ (fun H locs hw => ?_)
  rw [show r_X3_isPerson th w b n T w2 b2 n2 T2 x1 = (r_X3_isIn x1 (0 : Int32) ((nI n) - (1 : Int32))) from by rw [r_X3_isPerson]]
  exact g_zret hc hw rfl (nz_01 (r_X3_isIn_01 _ _ _)) (Nat.le_of_ble_eq_true rfl) (Nat.le_of_ble_eq_true rfl) dX3_isPerson_14

theorem v_X3_isPerson {th : Int32} {w b n : Nat} {T : mt_T} {w2 b2 n2 : Nat} {T2 : mt_T} {x : Int32} (h : ¬ r_X3_isPerson th w b n T w2 b2 n2 T2 x = 0) (hd : n ≤ 30) : vp_in x 30 := v_isIn (N := 30) h hd (by decide)

def r_X3_addWard (th : Int32) (w : Nat) (b : Nat) (n : Nat) (T : mt_T) (w2 : Nat) (b2 : Nat) (n2 : Nat) (T2 : mt_T) (x1 : Int32) : Int32 := if (r_X3_isIn x1 (1 : Int32) (8 : Int32)) = (0 : Int32) then ((r_X3_no (0 : Int32) w b n T w2 b2 n2 T2 (1 : Int32))) else (if (nI w) = (5 : Int32) then ((r_X3_no (0 : Int32) w b n T w2 b2 n2 T2 (2 : Int32))) else (((nI (w + 1)) - (1 : Int32))))
def t_X3_addWard (th : Int32) (w : Nat) (b : Nat) (n : Nat) (T : mt_T) (w2 : Nat) (b2 : Nat) (n2 : Nat) (T2 : mt_T) (x1 : Int32) : Int32 := if (r_X3_isIn x1 (1 : Int32) (8 : Int32)) = (0 : Int32) then ((t_X3_no (0 : Int32) w b n T w2 b2 n2 T2 (1 : Int32))) else (if (nI w) = (5 : Int32) then ((t_X3_no (0 : Int32) w b n T w2 b2 n2 T2 (2 : Int32))) else ((0 : Int32)))
def s_X3_addWard (th : Int32) (w : Nat) (b : Nat) (n : Nat) (T : mt_T) (w2 : Nat) (b2 : Nat) (n2 : Nat) (T2 : mt_T) (x1 : Int32) : mt_T := if (r_X3_isIn x1 (1 : Int32) (8 : Int32)) = (0 : Int32) then (T) else (if (nI w) = (5 : Int32) then (T) else ((ms_pl T (upd (mt_pl T) (nI w).toNatClampNeg x1))))
def nw_X3_addWard (th : Int32) (w : Nat) (b : Nat) (n : Nat) (T : mt_T) (w2 : Nat) (b2 : Nat) (n2 : Nat) (T2 : mt_T) (x1 : Int32) : Nat := if (r_X3_isIn x1 (1 : Int32) (8 : Int32)) = (0 : Int32) then (w) else (if (nI w) = (5 : Int32) then (w) else ((w + 1)))
abbrev rm_X3_addWard : Room := { frames := 1, cells := 0, slots := 0, locals := 22 }
set_option maxHeartbeats 4000000 in
set_option maxRecDepth 100000 in
theorem k_X3_addWard (l : Launch) (D : va_G) (cI cZ cL : ClassId) (h : Nat) (a a2 : Nat → Nat) (th : Int32) (w : Nat) (b : Nat) (n : Nat) (T : mt_T) (w2 : Nat) (b2 : Nat) (n2 : Nat) (T2 : mt_T) (hd5 : w ≤ 5) (hd4 : b ≤ 4) (hd30 : n ≤ 30) (he5 : w2 ≤ 5) (he4 : b2 ≤ 4) (he30 : n2 ≤ 30) (x1 : Int32)  : MX l yX3_addWard wsX3_addWard rm_X3_addWard D cI cZ cL [.ref h, .int x1] (wb_m h a a2 cI th w b n T w2 b2 n2 T2) (some (.int (r_X3_addWard th w b n T w2 b2 n2 T2 x1))) (wb_m h a a2 cI (t_X3_addWard th w b n T w2 b2 n2 T2 x1) (nw_X3_addWard th w b n T w2 b2 n2 T2 x1) b n (s_X3_addWard th w b n T w2 b2 n2 T2 x1) w2 b2 n2 T2) := by
  refine MX.of (own := RX3) (cc := cX3_addWard) (maxL := 2) (ret := (some .int)) (lv0 := [(0, .ref h), (1, .int x1)]) (by decide) rfl rfl (Nat.le_of_ble_eq_true rfl) rfl ?_
  intro p e s m args below meth c A hc hnm hw ls hl
  obtain ⟨hx, hb, hr, hml, hown, hts, hlk, hK, hA⟩ := id hc
  have hiX2 : ∀ w ∈ u_ws RX2 TX2 13, w ∈ wsX3_addWard := fun _ h => List.mem_cons_of_mem _ (List.mem_append_right _ h)
  have hiX3 : ∀ w ∈ u_ws RX3 TX3 3, w ∈ wsX3_addWard := fun _ h => List.mem_cons_of_mem _ (List.mem_append_left _ (List.mem_append_right _ h))
  refine lv_aload_n hx hb dX3_addWard_0 rfl (lv_at hl 0 rfl) ?_
  refine lv_iconst (v := 0) hx hb dX3_addWard_1 (by decide) ?_
  refine g_put hc hw hiX3 tyX3 tyX3_ok nmX3 0 0 (wo_X3_H ..) rfl (by decide) (List.mem_of_getElem? (i := 1) rfl) (by decide) rfl rfl (Nat.le_of_ble_eq_true rfl) (w' := (wb_m h a a2 cI (0 : Int32) w b n T w2 b2 n2 T2)) (wp_X3_H_0 ..) dX3_addWard_2 (fun H locs hw => ?_)
  refine lv_iload_n hx hb dX3_addWard_5 rfl (lv_at hl 1 rfl) ?_
  refine lv_iconst (v := 1) hx hb dX3_addWard_6 (by decide) ?_
  refine lv_bipush (v := 8) hx hb dX3_addWard_7 (by decide) ?_
  refine g_callS0 (n := 3) hc hw (k_X3_isIn l D cI cZ cL x1 (1 : Int32) (8 : Int32)) gX3_addWard_X3_isIn rfl (by decide +kernel) ⟨Nat.le_of_ble_eq_true rfl, Nat.le_of_ble_eq_true rfl⟩ rfl (rest := []) rfl hl.1 (Nat.le_of_ble_eq_true rfl) (st1 := [.int (r_X3_isIn x1 (1 : Int32) (8 : Int32))]) rfl dX3_addWard_9 (k2 := 0) (s2 := 0) rfl rfl ⟨Nat.le_of_ble_eq_true rfl, Nat.le_of_ble_eq_true rfl⟩ (fun H locs hw => ?_)
  refine lv_if_ne (tgt := 21) hx hb dX3_addWard_12 (by decide) (fun c1 => ?_) (fun c1 => ?_)
  · refine lv_aload_n hx hb dX3_addWard_21 rfl (lv_at hl 0 rfl) ?_
    refine g_get (v := .ref (a 0)) hc hw hiX3 0 1 (wo_X3_H ..) rfl (by decide) (List.mem_of_getElem? (i := 2) rfl) (wv_X3_H_1 ..) dX3_addWard_22 ?_
    refine g_getN (v := .int (nI w)) (host := RX3) hc hw hiX2 1 1 (wo_X3_T ..) rfl (by decide) (fun z => z.2 (23, "wards", "I") (by decide +kernel)) (wv_X3_T_1 ..) dX3_addWard_25 ?_
    refine lv_iconst (v := 5) hx hb dX3_addWard_28 (by decide) ?_
    refine lv_icmp_ne (tgt := 38) hx hb dX3_addWard_29 (by decide) (fun c2 => ?_) (fun c2 => ?_)
    · refine lv_aload_n hx hb dX3_addWard_38 rfl (lv_at hl 0 rfl) ?_
      refine g_get (v := .ref (a 0)) hc hw hiX3 0 1 (wo_X3_H ..) rfl (by decide) (List.mem_of_getElem? (i := 2) rfl) (wv_X3_H_1 ..) dX3_addWard_39 ?_
      refine g_getN (v := .ref (a 6)) (host := RX3) hc hw hiX2 1 6 (wo_X3_T ..) rfl (by decide) (fun z => z.2 (40, "places", "[I") (by decide +kernel)) (wv_X3_T_6 ..) dX3_addWard_42 ?_
      refine lv_aload_n hx hb dX3_addWard_45 rfl (lv_at hl 0 rfl) ?_
      refine g_get (v := .ref (a 0)) hc hw hiX3 0 1 (wo_X3_H ..) rfl (by decide) (List.mem_of_getElem? (i := 2) rfl) (wv_X3_H_1 ..) dX3_addWard_46 ?_
      refine g_getN (v := .int (nI w)) (host := RX3) hc hw hiX2 1 1 (wo_X3_T ..) rfl (by decide) (fun z => z.2 (23, "wards", "I") (by decide +kernel)) (wv_X3_T_1 ..) dX3_addWard_49 ?_
      refine lv_iload_n hx hb dX3_addWard_52 rfl (lv_at hl 1 rfl) ?_
      refine g_iast (f := (mt_pl T)) hc hw 2 (wr_X3_T_6 ..) (vp_in_nI (l_ne 5 w c2 hd5) (by omega)) (w' := (wb_m h a a2 cI (0 : Int32) w b n (ms_pl T (upd (mt_pl T) (nI w).toNatClampNeg x1)) w2 b2 n2 T2)) (wu_X3_T_6 ..) dX3_addWard_53 (fun H locs hw => ?_)
      refine lv_aload_n hx hb dX3_addWard_54 rfl (lv_at hl 0 rfl) ?_
      refine g_get (v := .ref (a 0)) hc hw hiX3 0 1 (wo_X3_H ..) rfl (by decide) (List.mem_of_getElem? (i := 2) rfl) (wv_X3_H_1 ..) dX3_addWard_55 ?_
      refine lv_dup hx hb dX3_addWard_58 rfl ?_
      refine g_getN (v := .int (nI w)) (host := RX3) hc hw hiX2 1 1 (wo_X3_T ..) rfl (by decide) (fun z => z.2 (23, "wards", "I") (by decide +kernel)) (wv_X3_T_1 ..) dX3_addWard_59 ?_
      refine lv_iconst (v := 1) hx hb dX3_addWard_62 (by decide) ?_
      refine lv_iadd hx hb dX3_addWard_63 ?_
      rw [nI_1 w]
      refine g_putN (host := RX3) hc hw hiX2 tyX2 tyX2_ok nmX2 1 1 (wo_X3_T ..) rfl (by decide) (fun z => z.2 (23, "wards", "I") (by decide +kernel)) (by decide) rfl rfl (Nat.le_of_ble_eq_true rfl) (w' := (wb_m h a a2 cI (0 : Int32) (w + 1) b n (ms_pl T (upd (mt_pl T) (nI w).toNatClampNeg x1)) w2 b2 n2 T2)) (wp_X3_T_1 ..) dX3_addWard_64 (fun H locs hw => ?_)
      refine lv_aload_n hx hb dX3_addWard_67 rfl (lv_at hl 0 rfl) ?_
      refine g_get (v := .ref (a 0)) hc hw hiX3 0 1 (wo_X3_H ..) rfl (by decide) (List.mem_of_getElem? (i := 2) rfl) (wv_X3_H_1 ..) dX3_addWard_68 ?_
      refine g_getN (v := .int (nI (w + 1))) (host := RX3) hc hw hiX2 1 1 (wo_X3_T ..) rfl (by decide) (fun z => z.2 (23, "wards", "I") (by decide +kernel)) (wv_X3_T_1 ..) dX3_addWard_71 ?_
      refine lv_iconst (v := 1) hx hb dX3_addWard_74 (by decide) ?_
      refine lv_isub hx hb dX3_addWard_75 ?_
      rw [show r_X3_addWard th w b n T w2 b2 n2 T2 x1 = ((nI (w + 1)) - (1 : Int32)) from by rw [r_X3_addWard, if_neg c1, if_neg c2]]
      rw [show t_X3_addWard th w b n T w2 b2 n2 T2 x1 = (0 : Int32) from by rw [t_X3_addWard, if_neg c1, if_neg c2]]
      rw [show s_X3_addWard th w b n T w2 b2 n2 T2 x1 = (ms_pl T (upd (mt_pl T) (nI w).toNatClampNeg x1)) from by rw [s_X3_addWard, if_neg c1, if_neg c2]]
      rw [show nw_X3_addWard th w b n T w2 b2 n2 T2 x1 = (w + 1) from by rw [nw_X3_addWard, if_neg c1, if_neg c2]]
      exact g_ret hc hw rfl (Nat.le_of_ble_eq_true rfl) (Nat.le_of_ble_eq_true rfl) dX3_addWard_76
    · refine lv_aload_n hx hb dX3_addWard_32 rfl (lv_at hl 0 rfl) ?_
      refine lv_iconst (v := 2) hx hb dX3_addWard_33 (by decide) ?_
      refine g_callV0 (n := 1) hc hw (k_X3_no l D cI cZ cL h a a2 (0 : Int32) w b n T w2 b2 n2 T2 hd5 hd4 hd30 he5 he4 he30 (2 : Int32)) gX3_addWard_X3_no rfl (by decide +kernel) ⟨Nat.le_of_ble_eq_true rfl, Nat.le_of_ble_eq_true rfl⟩ 0 (wo_X3_H ..) rfl rfl rfl (rest := []) rfl hl.1 (Nat.le_of_ble_eq_true rfl) (st1 := [.int (r_X3_no (0 : Int32) w b n T w2 b2 n2 T2 (2 : Int32))]) rfl dX3_addWard_34 (k2 := 0) (s2 := 0) rfl rfl ⟨Nat.le_of_ble_eq_true rfl, Nat.le_of_ble_eq_true rfl⟩ (fun H locs hw => ?_)
      rw [show r_X3_addWard th w b n T w2 b2 n2 T2 x1 = (r_X3_no (0 : Int32) w b n T w2 b2 n2 T2 (2 : Int32)) from by rw [r_X3_addWard, if_neg c1, if_pos c2]]
      rw [show t_X3_addWard th w b n T w2 b2 n2 T2 x1 = (t_X3_no (0 : Int32) w b n T w2 b2 n2 T2 (2 : Int32)) from by rw [t_X3_addWard, if_neg c1, if_pos c2]]
      rw [show s_X3_addWard th w b n T w2 b2 n2 T2 x1 = T from by rw [s_X3_addWard, if_neg c1, if_pos c2]]
      rw [show nw_X3_addWard th w b n T w2 b2 n2 T2 x1 = w from by rw [nw_X3_addWard, if_neg c1, if_pos c2]]
      exact g_ret hc hw rfl (Nat.le_of_ble_eq_true rfl) (Nat.le_of_ble_eq_true rfl) dX3_addWard_37
  · refine lv_aload_n hx hb dX3_addWard_15 rfl (lv_at hl 0 rfl) ?_
    refine lv_iconst (v := 1) hx hb dX3_addWard_16 (by decide) ?_
    refine g_callV0 (n := 1) hc hw (k_X3_no l D cI cZ cL h a a2 (0 : Int32) w b n T w2 b2 n2 T2 hd5 hd4 hd30 he5 he4 he30 (1 : Int32)) gX3_addWard_X3_no rfl (by decide +kernel) ⟨Nat.le_of_ble_eq_true rfl, Nat.le_of_ble_eq_true rfl⟩ 0 (wo_X3_H ..) rfl rfl rfl (rest := []) rfl hl.1 (Nat.le_of_ble_eq_true rfl) (st1 := [.int (r_X3_no (0 : Int32) w b n T w2 b2 n2 T2 (1 : Int32))]) rfl dX3_addWard_17 (k2 := 0) (s2 := 0) rfl rfl ⟨Nat.le_of_ble_eq_true rfl, Nat.le_of_ble_eq_true rfl⟩ (fun H locs hw => ?_)
    rw [show r_X3_addWard th w b n T w2 b2 n2 T2 x1 = (r_X3_no (0 : Int32) w b n T w2 b2 n2 T2 (1 : Int32)) from by rw [r_X3_addWard, if_pos c1]]
    rw [show t_X3_addWard th w b n T w2 b2 n2 T2 x1 = (t_X3_no (0 : Int32) w b n T w2 b2 n2 T2 (1 : Int32)) from by rw [t_X3_addWard, if_pos c1]]
    rw [show s_X3_addWard th w b n T w2 b2 n2 T2 x1 = T from by rw [s_X3_addWard, if_pos c1]]
    rw [show nw_X3_addWard th w b n T w2 b2 n2 T2 x1 = w from by rw [nw_X3_addWard, if_pos c1]]
    exact g_ret hc hw rfl (Nat.le_of_ble_eq_true rfl) (Nat.le_of_ble_eq_true rfl) dX3_addWard_20

def r_X3_addBarge (th : Int32) (w : Nat) (b : Nat) (n : Nat) (T : mt_T) (w2 : Nat) (b2 : Nat) (n2 : Nat) (T2 : mt_T) (x1 : Int32) : Int32 := if (r_X3_isIn x1 (1 : Int32) (9 : Int32)) = (0 : Int32) then ((r_X3_no (0 : Int32) w b n T w2 b2 n2 T2 (1 : Int32))) else (if (nI b) = (4 : Int32) then ((r_X3_no (0 : Int32) w b n T w2 b2 n2 T2 (2 : Int32))) else (((nI (b + 1)) - (1 : Int32))))
def t_X3_addBarge (th : Int32) (w : Nat) (b : Nat) (n : Nat) (T : mt_T) (w2 : Nat) (b2 : Nat) (n2 : Nat) (T2 : mt_T) (x1 : Int32) : Int32 := if (r_X3_isIn x1 (1 : Int32) (9 : Int32)) = (0 : Int32) then ((t_X3_no (0 : Int32) w b n T w2 b2 n2 T2 (1 : Int32))) else (if (nI b) = (4 : Int32) then ((t_X3_no (0 : Int32) w b n T w2 b2 n2 T2 (2 : Int32))) else ((0 : Int32)))
def s_X3_addBarge (th : Int32) (w : Nat) (b : Nat) (n : Nat) (T : mt_T) (w2 : Nat) (b2 : Nat) (n2 : Nat) (T2 : mt_T) (x1 : Int32) : mt_T := if (r_X3_isIn x1 (1 : Int32) (9 : Int32)) = (0 : Int32) then (T) else (if (nI b) = (4 : Int32) then (T) else ((ms_to (ms_ke T (upd (mt_ke T) (nI b).toNatClampNeg x1)) (upd (mt_to (ms_ke T (upd (mt_ke T) (nI b).toNatClampNeg x1))) (nI b).toNatClampNeg x1))))
def nb_X3_addBarge (th : Int32) (w : Nat) (b : Nat) (n : Nat) (T : mt_T) (w2 : Nat) (b2 : Nat) (n2 : Nat) (T2 : mt_T) (x1 : Int32) : Nat := if (r_X3_isIn x1 (1 : Int32) (9 : Int32)) = (0 : Int32) then (b) else (if (nI b) = (4 : Int32) then (b) else ((b + 1)))
abbrev rm_X3_addBarge : Room := { frames := 1, cells := 0, slots := 0, locals := 22 }
set_option maxHeartbeats 4000000 in
set_option maxRecDepth 100000 in
theorem k_X3_addBarge (l : Launch) (D : va_G) (cI cZ cL : ClassId) (h : Nat) (a a2 : Nat → Nat) (th : Int32) (w : Nat) (b : Nat) (n : Nat) (T : mt_T) (w2 : Nat) (b2 : Nat) (n2 : Nat) (T2 : mt_T) (hd5 : w ≤ 5) (hd4 : b ≤ 4) (hd30 : n ≤ 30) (he5 : w2 ≤ 5) (he4 : b2 ≤ 4) (he30 : n2 ≤ 30) (x1 : Int32)  : MX l yX3_addBarge wsX3_addBarge rm_X3_addBarge D cI cZ cL [.ref h, .int x1] (wb_m h a a2 cI th w b n T w2 b2 n2 T2) (some (.int (r_X3_addBarge th w b n T w2 b2 n2 T2 x1))) (wb_m h a a2 cI (t_X3_addBarge th w b n T w2 b2 n2 T2 x1) w (nb_X3_addBarge th w b n T w2 b2 n2 T2 x1) n (s_X3_addBarge th w b n T w2 b2 n2 T2 x1) w2 b2 n2 T2) := by
  refine MX.of (own := RX3) (cc := cX3_addBarge) (maxL := 2) (ret := (some .int)) (lv0 := [(0, .ref h), (1, .int x1)]) (by decide) rfl rfl (Nat.le_of_ble_eq_true rfl) rfl ?_
  intro p e s m args below meth c A hc hnm hw ls hl
  obtain ⟨hx, hb, hr, hml, hown, hts, hlk, hK, hA⟩ := id hc
  have hiX2 : ∀ w ∈ u_ws RX2 TX2 13, w ∈ wsX3_addBarge := fun _ h => List.mem_cons_of_mem _ (List.mem_append_right _ h)
  have hiX3 : ∀ w ∈ u_ws RX3 TX3 3, w ∈ wsX3_addBarge := fun _ h => List.mem_cons_of_mem _ (List.mem_append_left _ (List.mem_append_right _ h))
  refine lv_aload_n hx hb dX3_addBarge_0 rfl (lv_at hl 0 rfl) ?_
  refine lv_iconst (v := 0) hx hb dX3_addBarge_1 (by decide) ?_
  refine g_put hc hw hiX3 tyX3 tyX3_ok nmX3 0 0 (wo_X3_H ..) rfl (by decide) (List.mem_of_getElem? (i := 1) rfl) (by decide) rfl rfl (Nat.le_of_ble_eq_true rfl) (w' := (wb_m h a a2 cI (0 : Int32) w b n T w2 b2 n2 T2)) (wp_X3_H_0 ..) dX3_addBarge_2 (fun H locs hw => ?_)
  refine lv_iload_n hx hb dX3_addBarge_5 rfl (lv_at hl 1 rfl) ?_
  refine lv_iconst (v := 1) hx hb dX3_addBarge_6 (by decide) ?_
  refine lv_bipush (v := 9) hx hb dX3_addBarge_7 (by decide) ?_
  refine g_callS0 (n := 3) hc hw (k_X3_isIn l D cI cZ cL x1 (1 : Int32) (9 : Int32)) gX3_addBarge_X3_isIn rfl (by decide +kernel) ⟨Nat.le_of_ble_eq_true rfl, Nat.le_of_ble_eq_true rfl⟩ rfl (rest := []) rfl hl.1 (Nat.le_of_ble_eq_true rfl) (st1 := [.int (r_X3_isIn x1 (1 : Int32) (9 : Int32))]) rfl dX3_addBarge_9 (k2 := 0) (s2 := 0) rfl rfl ⟨Nat.le_of_ble_eq_true rfl, Nat.le_of_ble_eq_true rfl⟩ (fun H locs hw => ?_)
  refine lv_if_ne (tgt := 21) hx hb dX3_addBarge_12 (by decide) (fun c1 => ?_) (fun c1 => ?_)
  · refine lv_aload_n hx hb dX3_addBarge_21 rfl (lv_at hl 0 rfl) ?_
    refine g_get (v := .ref (a 0)) hc hw hiX3 0 1 (wo_X3_H ..) rfl (by decide) (List.mem_of_getElem? (i := 2) rfl) (wv_X3_H_1 ..) dX3_addBarge_22 ?_
    refine g_getN (v := .int (nI b)) (host := RX3) hc hw hiX2 1 2 (wo_X3_T ..) rfl (by decide) (fun z => z.2 (30, "barges", "I") (by decide +kernel)) (wv_X3_T_2 ..) dX3_addBarge_25 ?_
    refine lv_iconst (v := 4) hx hb dX3_addBarge_28 (by decide) ?_
    refine lv_icmp_ne (tgt := 38) hx hb dX3_addBarge_29 (by decide) (fun c2 => ?_) (fun c2 => ?_)
    · refine lv_aload_n hx hb dX3_addBarge_38 rfl (lv_at hl 0 rfl) ?_
      refine g_get (v := .ref (a 0)) hc hw hiX3 0 1 (wo_X3_H ..) rfl (by decide) (List.mem_of_getElem? (i := 2) rfl) (wv_X3_H_1 ..) dX3_addBarge_39 ?_
      refine g_getN (v := .ref (a 8)) (host := RX3) hc hw hiX2 1 8 (wo_X3_T ..) rfl (by decide) (fun z => z.2 (44, "kept", "[I") (by decide +kernel)) (wv_X3_T_8 ..) dX3_addBarge_42 ?_
      refine lv_aload_n hx hb dX3_addBarge_45 rfl (lv_at hl 0 rfl) ?_
      refine g_get (v := .ref (a 0)) hc hw hiX3 0 1 (wo_X3_H ..) rfl (by decide) (List.mem_of_getElem? (i := 2) rfl) (wv_X3_H_1 ..) dX3_addBarge_46 ?_
      refine g_getN (v := .int (nI b)) (host := RX3) hc hw hiX2 1 2 (wo_X3_T ..) rfl (by decide) (fun z => z.2 (30, "barges", "I") (by decide +kernel)) (wv_X3_T_2 ..) dX3_addBarge_49 ?_
      refine lv_iload_n hx hb dX3_addBarge_52 rfl (lv_at hl 1 rfl) ?_
      refine g_iast (f := (mt_ke T)) hc hw 4 (wr_X3_T_8 ..) (vp_in_nI (l_ne 4 b c2 hd4) (by omega)) (w' := (wb_m h a a2 cI (0 : Int32) w b n (ms_ke T (upd (mt_ke T) (nI b).toNatClampNeg x1)) w2 b2 n2 T2)) (wu_X3_T_8 ..) dX3_addBarge_53 (fun H locs hw => ?_)
      refine lv_aload_n hx hb dX3_addBarge_54 rfl (lv_at hl 0 rfl) ?_
      refine g_get (v := .ref (a 0)) hc hw hiX3 0 1 (wo_X3_H ..) rfl (by decide) (List.mem_of_getElem? (i := 2) rfl) (wv_X3_H_1 ..) dX3_addBarge_55 ?_
      refine g_getN (v := .ref (a 9)) (host := RX3) hc hw hiX2 1 9 (wo_X3_T ..) rfl (by decide) (fun z => z.2 (47, "toGo", "[I") (by decide +kernel)) (wv_X3_T_9 ..) dX3_addBarge_58 ?_
      refine lv_aload_n hx hb dX3_addBarge_61 rfl (lv_at hl 0 rfl) ?_
      refine g_get (v := .ref (a 0)) hc hw hiX3 0 1 (wo_X3_H ..) rfl (by decide) (List.mem_of_getElem? (i := 2) rfl) (wv_X3_H_1 ..) dX3_addBarge_62 ?_
      refine g_getN (v := .int (nI b)) (host := RX3) hc hw hiX2 1 2 (wo_X3_T ..) rfl (by decide) (fun z => z.2 (30, "barges", "I") (by decide +kernel)) (wv_X3_T_2 ..) dX3_addBarge_65 ?_
      refine lv_iload_n hx hb dX3_addBarge_68 rfl (lv_at hl 1 rfl) ?_
      refine g_iast (f := (mt_to (ms_ke T (upd (mt_ke T) (nI b).toNatClampNeg x1)))) hc hw 5 (wr_X3_T_9 ..) (vp_in_nI (l_ne 4 b c2 hd4) (by omega)) (w' := (wb_m h a a2 cI (0 : Int32) w b n (ms_to (ms_ke T (upd (mt_ke T) (nI b).toNatClampNeg x1)) (upd (mt_to (ms_ke T (upd (mt_ke T) (nI b).toNatClampNeg x1))) (nI b).toNatClampNeg x1)) w2 b2 n2 T2)) (wu_X3_T_9 ..) dX3_addBarge_69 (fun H locs hw => ?_)
      refine lv_aload_n hx hb dX3_addBarge_70 rfl (lv_at hl 0 rfl) ?_
      refine g_get (v := .ref (a 0)) hc hw hiX3 0 1 (wo_X3_H ..) rfl (by decide) (List.mem_of_getElem? (i := 2) rfl) (wv_X3_H_1 ..) dX3_addBarge_71 ?_
      refine lv_dup hx hb dX3_addBarge_74 rfl ?_
      refine g_getN (v := .int (nI b)) (host := RX3) hc hw hiX2 1 2 (wo_X3_T ..) rfl (by decide) (fun z => z.2 (30, "barges", "I") (by decide +kernel)) (wv_X3_T_2 ..) dX3_addBarge_75 ?_
      refine lv_iconst (v := 1) hx hb dX3_addBarge_78 (by decide) ?_
      refine lv_iadd hx hb dX3_addBarge_79 ?_
      rw [nI_1 b]
      refine g_putN (host := RX3) hc hw hiX2 tyX2 tyX2_ok nmX2 1 2 (wo_X3_T ..) rfl (by decide) (fun z => z.2 (30, "barges", "I") (by decide +kernel)) (by decide) rfl rfl (Nat.le_of_ble_eq_true rfl) (w' := (wb_m h a a2 cI (0 : Int32) w (b + 1) n (ms_to (ms_ke T (upd (mt_ke T) (nI b).toNatClampNeg x1)) (upd (mt_to (ms_ke T (upd (mt_ke T) (nI b).toNatClampNeg x1))) (nI b).toNatClampNeg x1)) w2 b2 n2 T2)) (wp_X3_T_2 ..) dX3_addBarge_80 (fun H locs hw => ?_)
      refine lv_aload_n hx hb dX3_addBarge_83 rfl (lv_at hl 0 rfl) ?_
      refine g_get (v := .ref (a 0)) hc hw hiX3 0 1 (wo_X3_H ..) rfl (by decide) (List.mem_of_getElem? (i := 2) rfl) (wv_X3_H_1 ..) dX3_addBarge_84 ?_
      refine g_getN (v := .int (nI (b + 1))) (host := RX3) hc hw hiX2 1 2 (wo_X3_T ..) rfl (by decide) (fun z => z.2 (30, "barges", "I") (by decide +kernel)) (wv_X3_T_2 ..) dX3_addBarge_87 ?_
      refine lv_iconst (v := 1) hx hb dX3_addBarge_90 (by decide) ?_
      refine lv_isub hx hb dX3_addBarge_91 ?_
      rw [show r_X3_addBarge th w b n T w2 b2 n2 T2 x1 = ((nI (b + 1)) - (1 : Int32)) from by rw [r_X3_addBarge, if_neg c1, if_neg c2]]
      rw [show t_X3_addBarge th w b n T w2 b2 n2 T2 x1 = (0 : Int32) from by rw [t_X3_addBarge, if_neg c1, if_neg c2]]
      rw [show s_X3_addBarge th w b n T w2 b2 n2 T2 x1 = (ms_to (ms_ke T (upd (mt_ke T) (nI b).toNatClampNeg x1)) (upd (mt_to (ms_ke T (upd (mt_ke T) (nI b).toNatClampNeg x1))) (nI b).toNatClampNeg x1)) from by rw [s_X3_addBarge, if_neg c1, if_neg c2]]
      rw [show nb_X3_addBarge th w b n T w2 b2 n2 T2 x1 = (b + 1) from by rw [nb_X3_addBarge, if_neg c1, if_neg c2]]
      exact g_ret hc hw rfl (Nat.le_of_ble_eq_true rfl) (Nat.le_of_ble_eq_true rfl) dX3_addBarge_92
    · refine lv_aload_n hx hb dX3_addBarge_32 rfl (lv_at hl 0 rfl) ?_
      refine lv_iconst (v := 2) hx hb dX3_addBarge_33 (by decide) ?_
      refine g_callV0 (n := 1) hc hw (k_X3_no l D cI cZ cL h a a2 (0 : Int32) w b n T w2 b2 n2 T2 hd5 hd4 hd30 he5 he4 he30 (2 : Int32)) gX3_addBarge_X3_no rfl (by decide +kernel) ⟨Nat.le_of_ble_eq_true rfl, Nat.le_of_ble_eq_true rfl⟩ 0 (wo_X3_H ..) rfl rfl rfl (rest := []) rfl hl.1 (Nat.le_of_ble_eq_true rfl) (st1 := [.int (r_X3_no (0 : Int32) w b n T w2 b2 n2 T2 (2 : Int32))]) rfl dX3_addBarge_34 (k2 := 0) (s2 := 0) rfl rfl ⟨Nat.le_of_ble_eq_true rfl, Nat.le_of_ble_eq_true rfl⟩ (fun H locs hw => ?_)
      rw [show r_X3_addBarge th w b n T w2 b2 n2 T2 x1 = (r_X3_no (0 : Int32) w b n T w2 b2 n2 T2 (2 : Int32)) from by rw [r_X3_addBarge, if_neg c1, if_pos c2]]
      rw [show t_X3_addBarge th w b n T w2 b2 n2 T2 x1 = (t_X3_no (0 : Int32) w b n T w2 b2 n2 T2 (2 : Int32)) from by rw [t_X3_addBarge, if_neg c1, if_pos c2]]
      rw [show s_X3_addBarge th w b n T w2 b2 n2 T2 x1 = T from by rw [s_X3_addBarge, if_neg c1, if_pos c2]]
      rw [show nb_X3_addBarge th w b n T w2 b2 n2 T2 x1 = b from by rw [nb_X3_addBarge, if_neg c1, if_pos c2]]
      exact g_ret hc hw rfl (Nat.le_of_ble_eq_true rfl) (Nat.le_of_ble_eq_true rfl) dX3_addBarge_37
  · refine lv_aload_n hx hb dX3_addBarge_15 rfl (lv_at hl 0 rfl) ?_
    refine lv_iconst (v := 1) hx hb dX3_addBarge_16 (by decide) ?_
    refine g_callV0 (n := 1) hc hw (k_X3_no l D cI cZ cL h a a2 (0 : Int32) w b n T w2 b2 n2 T2 hd5 hd4 hd30 he5 he4 he30 (1 : Int32)) gX3_addBarge_X3_no rfl (by decide +kernel) ⟨Nat.le_of_ble_eq_true rfl, Nat.le_of_ble_eq_true rfl⟩ 0 (wo_X3_H ..) rfl rfl rfl (rest := []) rfl hl.1 (Nat.le_of_ble_eq_true rfl) (st1 := [.int (r_X3_no (0 : Int32) w b n T w2 b2 n2 T2 (1 : Int32))]) rfl dX3_addBarge_17 (k2 := 0) (s2 := 0) rfl rfl ⟨Nat.le_of_ble_eq_true rfl, Nat.le_of_ble_eq_true rfl⟩ (fun H locs hw => ?_)
    rw [show r_X3_addBarge th w b n T w2 b2 n2 T2 x1 = (r_X3_no (0 : Int32) w b n T w2 b2 n2 T2 (1 : Int32)) from by rw [r_X3_addBarge, if_pos c1]]
    rw [show t_X3_addBarge th w b n T w2 b2 n2 T2 x1 = (t_X3_no (0 : Int32) w b n T w2 b2 n2 T2 (1 : Int32)) from by rw [t_X3_addBarge, if_pos c1]]
    rw [show s_X3_addBarge th w b n T w2 b2 n2 T2 x1 = T from by rw [s_X3_addBarge, if_pos c1]]
    rw [show nb_X3_addBarge th w b n T w2 b2 n2 T2 x1 = b from by rw [nb_X3_addBarge, if_pos c1]]
    exact g_ret hc hw rfl (Nat.le_of_ble_eq_true rfl) (Nat.le_of_ble_eq_true rfl) dX3_addBarge_20
