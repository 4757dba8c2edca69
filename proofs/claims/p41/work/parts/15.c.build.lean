/-! 15.c: build: both towns from the cells -/
def gb (h : Nat) (a a2 : Nat → Nat) (cI cZ cL : ClassId) (res : Option Value) (w1 : va_W) : Prop := ∃ (w b n : Nat) (T : ct_T) (S : sm_T) (Z : sA), 0 < w ∧ w ≤ 5 ∧ 0 < b ∧ b ≤ 4 ∧ n ≤ 30 ∧ DI w b n 20 T S ∧ FH n T ∧ res = some (.ref (zh Z)) ∧ w1 = wb_c h a a2 cI cZ w b n T 0 0 0 ct_0 ++ ws_m Z cI cL w b n (nI 20) S []
theorem i_rem {j k : Nat} (hj : j < 2 ^ 31) (h : 0 < k) (hk : k < 2 ^ 31) : nI j - nI j / nI k * nI k = nI (j % k) := by
  have e1 : nI j / nI k = nI (j / k) := (Int32.ofNat_div hj hk).symm
  have e2 : nI (j / k) * nI k = nI (j / k * k) := (Int32.ofNat_mul (j / k) k).symm
  have hle : j / k * k ≤ j := Nat.div_mul_le_self j k
  rw [e1, e2, i_sub' hle]
  congr 1
  have := Nat.div_add_mod' j k
  omega
theorem hN_s {B : Nat → Nat → Int32} {i c : Nat} {r : Nat → Int32} (h : ∀ j, j < i → ¬ B j 1 = 0) (hr : r 1 = nI c) (h2 : 1 ≤ c ∧ c < 2 ^ 31) : ∀ j, j < i + 1 → ¬ sr B i r j 1 = 0 := by
  intro j hj
  by_cases hji : j = i
  · subst hji
    rw [sr_eq, hr]
    exact fun z => absurd ((i_eq0 h2.2).mp z) (by omega)
  · rw [sr_ne _ _ hji]; exact h j (by omega)
abbrev rm_L_build : Room := { frames := 8, cells := 260, slots := 2800, locals := 133 }
set_option maxHeartbeats 8000000 in
set_option maxRecDepth 100000 in
theorem k_L_build {l : Launch} (hst : l.stackTraces = false) (D : va_G) (cI cZ cL : ClassId) (b0 L : Nat) (xs : Nat → Int32) (hL : L < 2 ^ 31) {h : Nat} {a a2 : Nat → Nat} : MS l yL_build wsL_build rm_L_build D cI cZ cL b0 L xs [.ref h, .ref b0] (wb_c h a a2 cI cZ 0 0 0 ct_0 0 0 0 ct_0) (gb h a a2 cI cZ cL) := by
  refine MS.of (own := RL) (cc := cL_build) (maxL := 10) (ret := (some (.object "BargeWardsLaw$Sim"))) (lv0 := [(0, .ref h), (1, .ref b0)]) (by decide) rfl rfl (Nat.le_of_ble_eq_true rfl) rfl ?_
  intro p e s m args below meth c A hc hT hX hbl hbA hw ls hl
  obtain ⟨hx, hb, hr, hml, hown, hts, hlk, hK, hA⟩ := id hc
  have hi2 : ∀ w ∈ u_ws RX2 TX2 6, w ∈ wsL_build := fun _ h => List.mem_cons_of_mem _ (List.mem_append_left _ (List.mem_append_left _ (List.mem_append_left _ (List.mem_append_left _ (List.mem_append_left _ (List.mem_append_right _ h))))))
  refine g_new (ci := 2) (fs := gx_f2) hc hw hi2 tyX2 tyX2_ok (List.mem_of_getElem? (i := 1) rfl) (List.mem_of_getElem? (i := 2) rfl) (List.mem_of_getElem? (i := 3) rfl) rfl (fun j hj => by rcases (show j = 0 ∨ j = 1 ∨ j = 2 ∨ j = 3 ∨ j = 4 ∨ j = 5 by omega) with rfl | rfl | rfl | rfl | rfl | rfl <;> rfl) (Nat.le_of_ble_eq_true rfl) (Nat.le_of_ble_eq_true rfl) dL_build_0 (fun q0 H locs hw => ?_)
  refine lv_dup hx hb dL_build_3 rfl ?_
  refine G_callIN (rest := [.ref q0]) hc hT hw.2.2 (Pt.back hw hA) (k_X2_init l D cI cZ cL q0) gL_build_X2_init_n64 rfl (List.mem_of_getElem? (i := 3) rfl) (fun z => z.1) (List.mem_of_getElem? (i := 8) rfl) rfl (by decide +kernel) ⟨Nat.le_of_ble_eq_true rfl, Nat.le_of_ble_eq_true rfl⟩ hl.1 (Nat.le_of_ble_eq_true rfl) dL_build_4 (k2 := 4) (s2 := 6) (by show 1 + 3 = 4; omega) (by show 6 + 0 = 6; omega) ⟨(Nat.le_trans (show 4 ≤ 260 by omega) (Nat.le_of_ble_eq_true rfl)), (Nat.le_trans (show 6 ≤ 2800 by omega) (Nat.le_of_ble_eq_true rfl))⟩ (fun res w1 H locs hG hw => ?_)
  obtain ⟨Z, rfl, rfl, rfl⟩ := hG
  replace hw : Wo D A s.heap (wb_c h a a2 cI cZ 0 0 0 ct_0 0 0 0 ct_0 ++ ws_s Z cI cL 0 0 0 (0 : Int32) (nI 20) (0 : Int32) zz0 zz0 zz0 []) H locs := hw
  show W p l e rm_L_build s m args below meth c H locs 4 6 (GE below args s D A (gb h a a2 cI cZ cL) rm_L_build) (F0 m 7 ls [.ref (zh Z)])
  refine lv_astore_n (lv' := [(2, .ref (zh Z)), (0, .ref h), (1, .ref b0)]) hx hb dL_build_7 rfl hl (by decide) rfl (fun ls hl => ?_)
  refine lv_iconst (v := 1) hx hb dL_build_8 (by decide) ?_
  refine lv_aload_n hx hb dL_build_9 rfl (lv_at hl 2 rfl) ?_
  refine lv_iconst (v := 0) hx hb dL_build_10 (by decide) ?_
  refine G_callSS (n := 2) (As := [.ref b0, .int (nI 0)]) (rest := [.int (1 : Int32)]) hc hT hw.2.2 hX hbl hbA (Pt.front (wc := []) (wr := (wb_c h a a2 cI cZ 0 0 0 ct_0 0 0 0 ct_0 ++ ws_s Z cI cL 0 0 0 (0 : Int32) (nI 20) (0 : Int32) zz0 zz0 zz0 [])) hw hA) (k_L_cell l D cI cZ cL b0 L xs 0 hL (by omega)) gL_build_L_cell rfl (by decide +kernel) ⟨Nat.le_of_ble_eq_true rfl, Nat.le_of_ble_eq_true rfl⟩ rfl rfl hl.1 (Nat.le_of_ble_eq_true rfl) dL_build_11 (k2 := 4) (s2 := 6) (by show 4 + 0 = 4; omega) (by show 6 + 0 = 6; omega) ⟨(Nat.le_trans (show 4 ≤ 260 by omega) (Nat.le_of_ble_eq_true rfl)), (Nat.le_trans (show 6 ≤ 2800 by omega) (Nat.le_of_ble_eq_true rfl))⟩ (fun res w1 H locs hG hw => ?_)
  obtain ⟨x1, rfl, rfl⟩ := hG
  replace hw : Wo D A s.heap (wb_c h a a2 cI cZ 0 0 0 ct_0 0 0 0 ct_0 ++ ws_s Z cI cL 0 0 0 (0 : Int32) (nI 20) (0 : Int32) zz0 zz0 zz0 []) H locs := hw
  show W p l e rm_L_build s m args below meth c H locs 4 6 (GE below args s D A (gb h a a2 cI cZ cL) rm_L_build) (F0 m 14 ls [.int x1, .int (1 : Int32)])
  refine lv_iconst (v := 5) hx hb dL_build_14 (by decide) ?_
  refine g_callS0 (n := 2) (As := [.int x1, .int (nI 5)]) (rest := [.int (1 : Int32)]) hc hw (k_L_below l D cI cZ cL x1 5 (by omega) (by omega)) gL_build_L_below rfl (by decide +kernel) ⟨Nat.le_of_ble_eq_true rfl, Nat.le_of_ble_eq_true rfl⟩ rfl rfl hl.1 (Nat.le_of_ble_eq_true rfl) (st1 := [.int (nI (bl x1 5)), .int (1 : Int32)]) rfl dL_build_15 (k2 := 4) (s2 := 6) (by show 4 + 0 = 4; omega) (by show 6 + 0 = 6; omega) ⟨(Nat.le_trans (show 4 ≤ 260 by omega) (Nat.le_of_ble_eq_true rfl)), (Nat.le_trans (show 6 ≤ 2800 by omega) (Nat.le_of_ble_eq_true rfl))⟩ (fun H locs hw => ?_)
  obtain ⟨y1, hy1, ey1⟩ : ∃ v, v < 5 ∧ bl x1 5 = v := ⟨_, bl_lt _ (by omega), rfl⟩
  rw [ey1]
  refine lv_iadd hx hb dL_build_18 ?_
  rw [show ((1 : Int32) + (nI y1)) = (nI (1 + y1)) from nI_add 1 y1]
  refine lv_istore_n (lv' := [(3, .int (nI (1 + y1))), (2, .ref (zh Z)), (0, .ref h), (1, .ref b0)]) hx hb dL_build_19 rfl hl (by decide) rfl (fun ls hl => ?_)
  refine lv_iconst (v := 1) hx hb dL_build_20 (by decide) ?_
  refine lv_aload_n hx hb dL_build_21 rfl (lv_at hl 3 rfl) ?_
  refine lv_iconst (v := 1) hx hb dL_build_22 (by decide) ?_
  refine G_callSS (n := 2) (As := [.ref b0, .int (nI 1)]) (rest := [.int (1 : Int32)]) hc hT hw.2.2 hX hbl hbA (Pt.front (wc := []) (wr := (wb_c h a a2 cI cZ 0 0 0 ct_0 0 0 0 ct_0 ++ ws_s Z cI cL 0 0 0 (0 : Int32) (nI 20) (0 : Int32) zz0 zz0 zz0 [])) hw hA) (k_L_cell l D cI cZ cL b0 L xs 1 hL (by omega)) gL_build_L_cell rfl (by decide +kernel) ⟨Nat.le_of_ble_eq_true rfl, Nat.le_of_ble_eq_true rfl⟩ rfl rfl hl.1 (Nat.le_of_ble_eq_true rfl) dL_build_23 (k2 := 4) (s2 := 6) (by show 4 + 0 = 4; omega) (by show 6 + 0 = 6; omega) ⟨(Nat.le_trans (show 4 ≤ 260 by omega) (Nat.le_of_ble_eq_true rfl)), (Nat.le_trans (show 6 ≤ 2800 by omega) (Nat.le_of_ble_eq_true rfl))⟩ (fun res w1 H locs hG hw => ?_)
  obtain ⟨x2, rfl, rfl⟩ := hG
  replace hw : Wo D A s.heap (wb_c h a a2 cI cZ 0 0 0 ct_0 0 0 0 ct_0 ++ ws_s Z cI cL 0 0 0 (0 : Int32) (nI 20) (0 : Int32) zz0 zz0 zz0 []) H locs := hw
  show W p l e rm_L_build s m args below meth c H locs 4 6 (GE below args s D A (gb h a a2 cI cZ cL) rm_L_build) (F0 m 26 ls [.int x2, .int (1 : Int32)])
  refine lv_iconst (v := 4) hx hb dL_build_26 (by decide) ?_
  refine g_callS0 (n := 2) (As := [.int x2, .int (nI 4)]) (rest := [.int (1 : Int32)]) hc hw (k_L_below l D cI cZ cL x2 4 (by omega) (by omega)) gL_build_L_below rfl (by decide +kernel) ⟨Nat.le_of_ble_eq_true rfl, Nat.le_of_ble_eq_true rfl⟩ rfl rfl hl.1 (Nat.le_of_ble_eq_true rfl) (st1 := [.int (nI (bl x2 4)), .int (1 : Int32)]) rfl dL_build_27 (k2 := 4) (s2 := 6) (by show 4 + 0 = 4; omega) (by show 6 + 0 = 6; omega) ⟨(Nat.le_trans (show 4 ≤ 260 by omega) (Nat.le_of_ble_eq_true rfl)), (Nat.le_trans (show 6 ≤ 2800 by omega) (Nat.le_of_ble_eq_true rfl))⟩ (fun H locs hw => ?_)
  obtain ⟨y2, hy2, ey2⟩ : ∃ v, v < 4 ∧ bl x2 4 = v := ⟨_, bl_lt _ (by omega), rfl⟩
  rw [ey2]
  refine lv_iadd hx hb dL_build_30 ?_
  rw [show ((1 : Int32) + (nI y2)) = (nI (1 + y2)) from nI_add 1 y2]
  refine lv_istore (lv' := [(4, .int (nI (1 + y2))), (3, .int (nI (1 + y1))), (2, .ref (zh Z)), (0, .ref h), (1, .ref b0)]) hx hb dL_build_31 hl (by decide) rfl (fun ls hl => ?_)
  refine lv_iconst (v := 0) hx hb dL_build_33 (by decide) ?_
  refine lv_istore (lv' := [(5, .int (0 : Int32)), (4, .int (nI (1 + y2))), (3, .int (nI (1 + y1))), (2, .ref (zh Z)), (0, .ref h), (1, .ref b0)]) hx hb dL_build_34 hl (by decide) rfl (fun ls hl => ?_)
  refine lp_go0 (fun (i36 : Nat) => ∀ (T : ct_T) (Wr : Nat → Nat → Int32) (Z : sA) (hD : DI i36 0 0 20 T (0, 0, Wr, zz0, zz0)) (hB : FB T) (H : Heap) (locs : List Loc) (ls : Array Slot), Wo D A s.heap (wb_c h a a2 cI cZ i36 0 0 T 0 0 0 ct_0 ++ ws_s Z cI cL i36 0 0 (0 : Int32) (nI 20) (0 : Int32) Wr zz0 zz0 []) H locs → lv_has ls 10 [(0, .ref h), (1, .ref b0), (2, .ref (zh Z)), (3, .int (nI (1 + y1))), (4, .int (nI (1 + y2))), (5, .int (nI i36))] → W p l e rm_L_build s m args below meth c H locs (4 + 4 * i36) (6 + 50 * i36) (GE below args s D A (gb h a a2 cI cZ cL) rm_L_build) (F0 m 36 ls [])) (1 + y1) ?_ ?_ ct_0 zz0 Z DI_0.1 DI_0.2 H locs ls hw (lv_sub hl [4, 5, 3, 2, 1, 0] rfl)
  · intro i36 hi36 k36 T Wr Z hD hB H locs ls hw hl
    refine lv_iload hx hb dL_build_36 (lv_at hl 5 rfl) ?_
    refine lv_iload_n hx hb dL_build_38 rfl (lv_at hl 3 rfl) ?_
    refine lv_icmp_ge (tgt := 103) hx hb dL_build_39 (by decide) (fun z => absurd z (nI_ge hi36 (by omega))) (fun _ => ?_)
    refine lv_iconst (v := 1) hx hb dL_build_42 (by decide) ?_
    refine lv_aload_n hx hb dL_build_43 rfl (lv_at hl 1 rfl) ?_
    refine lv_iconst (v := 2) hx hb dL_build_44 (by decide) ?_
    refine G_callSS (n := 2) (As := [.ref b0, .int (nI 2)]) (rest := [.int (1 : Int32)]) hc hT hw.2.2 hX hbl hbA (Pt.front (wc := []) (wr := (wb_c h a a2 cI cZ i36 0 0 T 0 0 0 ct_0 ++ ws_s Z cI cL i36 0 0 (0 : Int32) (nI 20) (0 : Int32) Wr zz0 zz0 [])) hw hA) (k_L_cell l D cI cZ cL b0 L xs 2 hL (by omega)) gL_build_L_cell rfl (by decide +kernel) ⟨Nat.le_of_ble_eq_true rfl, Nat.le_of_ble_eq_true rfl⟩ rfl rfl hl.1 (Nat.le_of_ble_eq_true rfl) dL_build_45 (k2 := 4 + 4 * i36) (s2 := 6 + 50 * i36) (by show 4 + 4 * i36 + 0 = 4 + 4 * i36; omega) (by show 6 + 50 * i36 + 0 = 6 + 50 * i36; omega) ⟨(Nat.le_trans (show 4 + 4 * i36 ≤ 260 by omega) (Nat.le_of_ble_eq_true rfl)), (Nat.le_trans (show 6 + 50 * i36 ≤ 2800 by omega) (Nat.le_of_ble_eq_true rfl))⟩ (fun res w1 H locs hG hw => ?_)
    obtain ⟨x3, rfl, rfl⟩ := hG
    replace hw : Wo D A s.heap (wb_c h a a2 cI cZ i36 0 0 T 0 0 0 ct_0 ++ ws_s Z cI cL i36 0 0 (0 : Int32) (nI 20) (0 : Int32) Wr zz0 zz0 []) H locs := hw
    show W p l e rm_L_build s m args below meth c H locs (4 + 4 * i36) (6 + 50 * i36) (GE below args s D A (gb h a a2 cI cZ cL) rm_L_build) (F0 m 48 ls [.int x3, .int (1 : Int32)])
    refine lv_iconst (v := 2) hx hb dL_build_48 (by decide) ?_
    refine lv_iload hx hb dL_build_49 (lv_at hl 5 rfl) ?_
    refine lv_imul hx hb dL_build_51 ?_
    refine lv_ishr hx hb dL_build_52 ?_
    refine lv_bipush (v := 8) hx hb dL_build_53 (by decide) ?_
    refine g_callS0 (n := 2) (As := [.int (x3 >>> (((2 : Int32) * (nI i36)) &&& 31)), .int (nI 8)]) (rest := [.int (1 : Int32)]) hc hw (k_L_below l D cI cZ cL (x3 >>> (((2 : Int32) * (nI i36)) &&& 31)) 8 (by omega) (by omega)) gL_build_L_below rfl (by decide +kernel) ⟨Nat.le_of_ble_eq_true rfl, Nat.le_of_ble_eq_true rfl⟩ rfl rfl hl.1 (Nat.le_of_ble_eq_true rfl) (st1 := [.int (nI (bl (x3 >>> (((2 : Int32) * (nI i36)) &&& 31)) 8)), .int (1 : Int32)]) rfl dL_build_55 (k2 := 4 + 4 * i36) (s2 := 6 + 50 * i36) (by show 4 + 4 * i36 + 0 = 4 + 4 * i36; omega) (by show 6 + 50 * i36 + 0 = 6 + 50 * i36; omega) ⟨(Nat.le_trans (show 4 + 4 * i36 ≤ 260 by omega) (Nat.le_of_ble_eq_true rfl)), (Nat.le_trans (show 6 + 50 * i36 ≤ 2800 by omega) (Nat.le_of_ble_eq_true rfl))⟩ (fun H locs hw => ?_)
    obtain ⟨y3, hy3, ey3⟩ : ∃ v, v < 8 ∧ bl (x3 >>> (((2 : Int32) * (nI i36)) &&& 31)) 8 = v := ⟨_, bl_lt _ (by omega), rfl⟩
    rw [ey3]
    refine lv_iadd hx hb dL_build_58 ?_
    rw [show ((1 : Int32) + (nI y3)) = (nI (1 + y3)) from nI_add 1 y3]
    refine lv_istore (lv' := [(6, .int (nI (1 + y3))), (0, .ref h), (1, .ref b0), (2, .ref (zh Z)), (3, .int (nI (1 + y1))), (4, .int (nI (1 + y2))), (5, .int (nI i36))]) hx hb dL_build_59 hl (by decide) rfl (fun ls hl => ?_)
    refine lv_aload_n hx hb dL_build_61 rfl (lv_at hl 1 rfl) ?_
    refine lv_iload hx hb dL_build_62 (lv_at hl 0 rfl) ?_
    obtain ⟨e1, e2, hD2, hF2⟩ := op_ward (r := (upd (upd (fun _ => (0 : Int32)) 0 (nI ((1 + y3)))) 1 (0 : Int32))) (w2 := 0) (b2 := 0) (n2 := 0) (T2 := ct_0) (by omega) hD hB (show 1 ≤ (1 + y3) by omega) (show (1 + y3) ≤ 8 by omega) rfl rfl
    refine G_callT (n := 1) (q0 := 0) (rest := []) hc hT hw.2.2 (Pt.front hw hA) ((k_X1_addWard hst D cI cZ cL h a a2 i36 0 0 T 0 0 0 ct_0 (by omega) (by omega) (by omega) (by omega) (by omega) (by omega) (nI ((1 + y3)))).to e1 (congrArg (fun v : Int32 => some (Value.int v)) e2)) gL_build_X1_addWard rfl (by decide +kernel) ⟨Nat.le_of_ble_eq_true rfl, Nat.le_of_ble_eq_true rfl⟩ rfl rfl rfl rfl rfl hl.1 (Nat.le_of_ble_eq_true rfl) (st1 := [.int (nI i36)]) rfl dL_build_64 (k2 := 5 + 4 * i36) (s2 := 12 + 50 * i36) (by show 4 + 4 * i36 + 1 = 5 + 4 * i36; omega) (by show 6 + 50 * i36 + 6 = 12 + 50 * i36; omega) ⟨(Nat.le_trans (show 5 + 4 * i36 ≤ 260 by omega) (Nat.le_of_ble_eq_true rfl)), (Nat.le_trans (show 12 + 50 * i36 ≤ 2800 by omega) (Nat.le_of_ble_eq_true rfl))⟩ (fun H locs hw => ?_)
    refine lv_iload hx hb dL_build_67 (lv_at hl 6 rfl) ?_
    refine lv_icmp_eq (tgt := 74) hx hb dL_build_69 (by decide) (fun _ => ?_) (fun z => absurd rfl z)
    refine lv_aload_n hx hb dL_build_74 rfl (lv_at hl 3 rfl) ?_
    refine lv_aload_n hx hb dL_build_75 rfl (lv_at hl 3 rfl) ?_
    refine g_get (v := .ref (zy Z 3)) hc hw hi2 (23 + (0)) 3 (two_get s_H) rfl (by decide) (List.mem_of_getElem? (i := 4) rfl) sv_3 dL_build_76 ?_
    refine lv_iconst (v := 2) hx hb dL_build_79 (by decide) ?_
    refine g_newI hc hw (N := 2) (List.mem_of_getElem? (i := 5) rfl) (by decide) (by decide) (by show 2 * 4 ≤ 536870912; omega) (Nat.le_trans (show 5 + 4 * i36 + 1 ≤ 260 by omega) (Nat.le_of_ble_eq_true rfl)) (Nat.le_trans (show 12 + 50 * i36 + 2 ≤ 2800 by omega) (Nat.le_of_ble_eq_true rfl)) dL_build_80 (fun q1 H locs hw => ?_)
    replace hw : Wo D A s.heap (wb_c h a a2 cI cZ (i36 + 1) 0 0 (s_X1_addWard i36 0 0 T 0 0 0 ct_0 (nI ((1 + y3)))) 0 0 0 ct_0 ++ ws_s Z cI cL i36 0 0 (0 : Int32) (nI 20) (0 : Int32) Wr zz0 zz0 [(q1, .inl (cI, 2, .inl (fun _ => (0 : Int32))))]) H locs := by have h9 := hw; rw [List.append_assoc, s_push] at h9; exact h9
    refine W.widen (show _ ≤ 6 + 4 * i36 by omega) (show 12 + 50 * i36 + 2 ≤ 14 + 50 * i36 by omega) ?_
    refine lv_dup hx hb dL_build_82 rfl ?_
    refine lv_iconst (v := 0) hx hb dL_build_83 (by decide) ?_
    refine lv_iload hx hb dL_build_84 (lv_at hl 0 rfl) ?_
    refine r_st (f := (fun _ => (0 : Int32))) (k := 0) hc hw (23 + (4 + (i36 + (0 + (0 + 0))))) (two_get (s_E.trans rfl)) (by unfold vp_in; decide) (by decide) (w' := (wb_c h a a2 cI cZ (i36 + 1) 0 0 (s_X1_addWard i36 0 0 T 0 0 0 ct_0 (nI ((1 + y3)))) 0 0 0 ct_0 ++ ws_s Z cI cL i36 0 0 (0 : Int32) (nI 20) (0 : Int32) Wr zz0 zz0 [(q1, .inl (cI, 2, .inl (upd (fun _ => (0 : Int32)) 0 (nI (1 + y3)))))])) (two_set (su_E rfl)) dL_build_86 (fun H locs hw => ?_)
    refine lv_dup hx hb dL_build_87 rfl ?_
    refine lv_iconst (v := 1) hx hb dL_build_88 (by decide) ?_
    refine lv_iconst (v := 0) hx hb dL_build_89 (by decide) ?_
    refine r_st (f := (upd (fun _ => (0 : Int32)) 0 (nI (1 + y3)))) (k := 1) hc hw (23 + (4 + (i36 + (0 + (0 + 0))))) (two_get (s_E.trans rfl)) (by unfold vp_in; decide) (by decide) (w' := (wb_c h a a2 cI cZ (i36 + 1) 0 0 (s_X1_addWard i36 0 0 T 0 0 0 ct_0 (nI ((1 + y3)))) 0 0 0 ct_0 ++ ws_s Z cI cL i36 0 0 (0 : Int32) (nI 20) (0 : Int32) Wr zz0 zz0 [(q1, .inl (cI, 2, .inl (upd (upd (fun _ => (0 : Int32)) 0 (nI (1 + y3))) 1 (0 : Int32))))])) (two_set (su_E rfl)) dL_build_90 (fun H locs hw => ?_)
    refine G_callS (n := 2) (As := [.ref (zy Z 3), .ref q1]) (rest := [.ref (zh Z)]) hc hT hw.2.2 (Pt.all hw hA) (k_X2_with l D cI cZ cL (k := i36) (w0 := (wb_c h a a2 cI cZ (i36 + 1) 0 0 (s_X1_addWard i36 0 0 T 0 0 0 ct_0 (nI ((1 + y3)))) 0 0 0 ct_0 ++ ws_s Z cI cL i36 0 0 (0 : Int32) (nI 20) (0 : Int32) Wr zz0 zz0 [(q1, .inl (cI, 2, .inl (upd (upd (fun _ => (0 : Int32)) 0 (nI (1 + y3))) 1 (0 : Int32))))])) (23 + (1)) (23 + (4 + (i36 + (0 + (0 + 0))))) (by omega) (two_get s_Y3) (fun i hi => ⟨_, _, _, two_get (s_W hi)⟩) (two_get (s_E.trans rfl))) gL_build_X2_with rfl (by decide +kernel) ⟨Nat.le_of_ble_eq_true rfl, Nat.le_of_ble_eq_true rfl⟩ rfl rfl hl.1 (Nat.le_of_ble_eq_true rfl) dL_build_91 (k2 := 7 + 4 * i36) (s2 := 45 + 50 * i36) (by show 6 + 4 * i36 + 1 = 7 + 4 * i36; omega) (by show 14 + 50 * i36 + 31 = 45 + 50 * i36; omega) ⟨(Nat.le_trans (show 7 + 4 * i36 ≤ 260 by omega) (Nat.le_of_ble_eq_true rfl)), (Nat.le_trans (show 45 + 50 * i36 ≤ 2800 by omega) (Nat.le_of_ble_eq_true rfl))⟩ (fun res w1 H locs hG hw => ?_)
    obtain ⟨q2, rfl, rfl⟩ := hG
    replace hw : Wo D A s.heap (wb_c h a a2 cI cZ (i36 + 1) 0 0 (s_X1_addWard i36 0 0 T 0 0 0 ct_0 (nI ((1 + y3)))) 0 0 0 ct_0 ++ ws_s Z cI cL i36 0 0 (0 : Int32) (nI 20) (0 : Int32) Wr zz0 zz0 [(q1, .inl (cI, 2, .inl (upd (upd (fun _ => (0 : Int32)) 0 (nI (1 + y3))) 1 (0 : Int32)))), (q2, .inl (cL, i36 + 1, rf_s (ax (zw Z) i36 q1)))]) H locs := by have h9 := hw; rw [List.append_assoc, s_push] at h9; exact h9
    show W p l e rm_L_build s m args below meth c H locs (7 + 4 * i36) (45 + 50 * i36) (GE below args s D A (gb h a a2 cI cZ cL) rm_L_build) (F0 m 94 ls [.ref q2, .ref (zh Z)])
    refine g_put hc hw hi2 tyX2 tyX2_ok nmX2 (23 + (0)) 3 (two_get s_H) rfl (by decide) (List.mem_of_getElem? (i := 4) rfl) (by decide) rfl rfl (Nat.le_of_ble_eq_true rfl) (w' := (wb_c h a a2 cI cZ (i36 + 1) 0 0 (s_X1_addWard i36 0 0 T 0 0 0 ct_0 (nI ((1 + y3)))) 0 0 0 ct_0 ++ (ws_s Z cI cL i36 0 0 (0 : Int32) (nI 20) (0 : Int32) Wr zz0 zz0 [(q1, .inl (cI, 2, .inl (upd (upd (fun _ => (0 : Int32)) 0 (nI (1 + y3))) 1 (0 : Int32)))), (q2, .inl (cL, i36 + 1, rf_s (ax (zw Z) i36 q1)))]).set 0 (zh Z, .inr (2, (wf_s Z (0 : Int32) (nI 20) (0 : Int32)).set 3 (.ref q2))))) (two_set rfl) dL_build_94 (fun H locs hw => ?_)
    replace hw := sh_W hw
    refine lv_iinc (v := (nI (i36 + 1))) (lv' := [(5, .int (nI (i36 + 1))), (6, .int (nI (1 + y3))), (0, .ref h), (1, .ref b0), (2, .ref (zh Z)), (3, .int (nI (1 + y1))), (4, .int (nI (1 + y2)))]) hx hb dL_build_97 hl (k := 6) rfl (inc_n i36) (by decide) rfl (fun ls hl => ?_)
    refine lv_goto (tgt := 36) hx hb dL_build_100 (by decide) ?_
    refine W.widen (show 7 + 4 * i36 ≤ 4 + 4 * (i36 + 1) by omega) (show 45 + 50 * i36 ≤ 6 + 50 * (i36 + 1) by omega) ?_
    exact k36 (s_X1_addWard i36 0 0 T 0 0 0 ct_0 (nI ((1 + y3)))) (sr Wr i36 (upd (upd (fun _ => (0 : Int32)) 0 (nI (1 + y3))) 1 (0 : Int32))) (zW Z i36 q1 q2) hD2 hF2 H locs ls hw (lv_sub hl [2, 3, 4, 5, 6, 0] rfl)
  · intro T Wr Z hD hB H locs ls hw hl
    refine lv_iload hx hb dL_build_36 (lv_at hl 5 rfl) ?_
    refine lv_iload_n hx hb dL_build_38 rfl (lv_at hl 3 rfl) ?_
    refine lv_icmp_ge (tgt := 103) hx hb dL_build_39 (by decide) (fun _ => ?_) (fun z => absurd (nI_le (Nat.le_refl _) (by omega)) z)
    refine W.widen (show 4 + 4 * (1 + y1) ≤ 24 by omega) (show 6 + 50 * (1 + y1) ≤ 256 by omega) ?_
    refine lv_iconst (v := 0) hx hb dL_build_103 (by decide) ?_
    refine lv_istore (lv' := [(5, .int (0 : Int32)), (0, .ref h), (1, .ref b0), (2, .ref (zh Z)), (3, .int (nI (1 + y1))), (4, .int (nI (1 + y2)))]) hx hb dL_build_104 hl (by decide) rfl (fun ls hl => ?_)
    refine lp_go0 (fun (i106 : Nat) => ∀ (T : ct_T) (Br : Nat → Nat → Int32) (Z : sA) (hD : DI (1 + y1) i106 0 20 T (0, 0, Wr, Br, zz0)) (hB : FB T) (hN : ∀ j, j < i106 → ¬ Br j 1 = 0) (H : Heap) (locs : List Loc) (ls : Array Slot), Wo D A s.heap (wb_c h a a2 cI cZ (1 + y1) i106 0 T 0 0 0 ct_0 ++ ws_s Z cI cL (1 + y1) i106 0 (0 : Int32) (nI 20) (0 : Int32) Wr Br zz0 []) H locs → lv_has ls 10 [(0, .ref h), (1, .ref b0), (2, .ref (zh Z)), (4, .int (nI (1 + y2))), (5, .int (nI i106))] → W p l e rm_L_build s m args below meth c H locs (24 + 4 * i106) (256 + 50 * i106) (GE below args s D A (gb h a a2 cI cZ cL) rm_L_build) (F0 m 106 ls [])) (1 + y2) ?_ ?_ T zz0 Z hD hB (fun j hj => absurd hj (Nat.not_lt_zero j)) H locs ls hw (lv_sub hl [1, 2, 3, 5, 0] rfl)
    · intro i106 hi106 k106 T Br Z hD hB hN H locs ls hw hl
      refine lv_iload hx hb dL_build_106 (lv_at hl 4 rfl) ?_
      refine lv_iload hx hb dL_build_108 (lv_at hl 3 rfl) ?_
      refine lv_icmp_ge (tgt := 175) hx hb dL_build_110 (by decide) (fun z => absurd z (nI_ge hi106 (by omega))) (fun _ => ?_)
      refine lv_iconst (v := 1) hx hb dL_build_113 (by decide) ?_
      refine lv_aload_n hx hb dL_build_114 rfl (lv_at hl 1 rfl) ?_
      refine lv_iconst (v := 3) hx hb dL_build_115 (by decide) ?_
      refine G_callSS (n := 2) (As := [.ref b0, .int (nI 3)]) (rest := [.int (1 : Int32)]) hc hT hw.2.2 hX hbl hbA (Pt.front (wc := []) (wr := (wb_c h a a2 cI cZ (1 + y1) i106 0 T 0 0 0 ct_0 ++ ws_s Z cI cL (1 + y1) i106 0 (0 : Int32) (nI 20) (0 : Int32) Wr Br zz0 [])) hw hA) (k_L_cell l D cI cZ cL b0 L xs 3 hL (by omega)) gL_build_L_cell rfl (by decide +kernel) ⟨Nat.le_of_ble_eq_true rfl, Nat.le_of_ble_eq_true rfl⟩ rfl rfl hl.1 (Nat.le_of_ble_eq_true rfl) dL_build_116 (k2 := 24 + 4 * i106) (s2 := 256 + 50 * i106) (by show 24 + 4 * i106 + 0 = 24 + 4 * i106; omega) (by show 256 + 50 * i106 + 0 = 256 + 50 * i106; omega) ⟨(Nat.le_trans (show 24 + 4 * i106 ≤ 260 by omega) (Nat.le_of_ble_eq_true rfl)), (Nat.le_trans (show 256 + 50 * i106 ≤ 2800 by omega) (Nat.le_of_ble_eq_true rfl))⟩ (fun res w1 H locs hG hw => ?_)
      obtain ⟨x4, rfl, rfl⟩ := hG
      replace hw : Wo D A s.heap (wb_c h a a2 cI cZ (1 + y1) i106 0 T 0 0 0 ct_0 ++ ws_s Z cI cL (1 + y1) i106 0 (0 : Int32) (nI 20) (0 : Int32) Wr Br zz0 []) H locs := hw
      show W p l e rm_L_build s m args below meth c H locs (24 + 4 * i106) (256 + 50 * i106) (GE below args s D A (gb h a a2 cI cZ cL) rm_L_build) (F0 m 119 ls [.int x4, .int (1 : Int32)])
      refine lv_iconst (v := 3) hx hb dL_build_119 (by decide) ?_
      refine lv_iload hx hb dL_build_120 (lv_at hl 4 rfl) ?_
      refine lv_imul hx hb dL_build_122 ?_
      refine lv_ishr hx hb dL_build_123 ?_
      refine lv_bipush (v := 9) hx hb dL_build_124 (by decide) ?_
      refine g_callS0 (n := 2) (As := [.int (x4 >>> (((3 : Int32) * (nI i106)) &&& 31)), .int (nI 9)]) (rest := [.int (1 : Int32)]) hc hw (k_L_below l D cI cZ cL (x4 >>> (((3 : Int32) * (nI i106)) &&& 31)) 9 (by omega) (by omega)) gL_build_L_below rfl (by decide +kernel) ⟨Nat.le_of_ble_eq_true rfl, Nat.le_of_ble_eq_true rfl⟩ rfl rfl hl.1 (Nat.le_of_ble_eq_true rfl) (st1 := [.int (nI (bl (x4 >>> (((3 : Int32) * (nI i106)) &&& 31)) 9)), .int (1 : Int32)]) rfl dL_build_126 (k2 := 24 + 4 * i106) (s2 := 256 + 50 * i106) (by show 24 + 4 * i106 + 0 = 24 + 4 * i106; omega) (by show 256 + 50 * i106 + 0 = 256 + 50 * i106; omega) ⟨(Nat.le_trans (show 24 + 4 * i106 ≤ 260 by omega) (Nat.le_of_ble_eq_true rfl)), (Nat.le_trans (show 256 + 50 * i106 ≤ 2800 by omega) (Nat.le_of_ble_eq_true rfl))⟩ (fun H locs hw => ?_)
      obtain ⟨y4, hy4, ey4⟩ : ∃ v, v < 9 ∧ bl (x4 >>> (((3 : Int32) * (nI i106)) &&& 31)) 9 = v := ⟨_, bl_lt _ (by omega), rfl⟩
      rw [ey4]
      refine lv_iadd hx hb dL_build_129 ?_
      rw [show ((1 : Int32) + (nI y4)) = (nI (1 + y4)) from nI_add 1 y4]
      refine lv_istore (lv' := [(6, .int (nI (1 + y4))), (0, .ref h), (1, .ref b0), (2, .ref (zh Z)), (4, .int (nI (1 + y2))), (5, .int (nI i106))]) hx hb dL_build_130 hl (by decide) rfl (fun ls hl => ?_)
      refine lv_aload_n hx hb dL_build_132 rfl (lv_at hl 1 rfl) ?_
      refine lv_iload hx hb dL_build_133 (lv_at hl 0 rfl) ?_
      obtain ⟨e1, e2, hD2, hF2⟩ := op_barge (r := (upd (upd (fun _ => (0 : Int32)) 0 (nI ((1 + y4)))) 1 (nI ((1 + y4))))) (w2 := 0) (b2 := 0) (n2 := 0) (T2 := ct_0) (by omega) hD hB (show 1 ≤ (1 + y4) by omega) (show (1 + y4) ≤ 9 by omega) rfl rfl
      refine G_callT (n := 1) (q0 := 0) (rest := []) hc hT hw.2.2 (Pt.front hw hA) ((k_X1_addBarge hst D cI cZ cL h a a2 (1 + y1) i106 0 T 0 0 0 ct_0 (by omega) (by omega) (by omega) (by omega) (by omega) (by omega) (nI ((1 + y4)))).to e1 (congrArg (fun v : Int32 => some (Value.int v)) e2)) gL_build_X1_addBarge rfl (by decide +kernel) ⟨Nat.le_of_ble_eq_true rfl, Nat.le_of_ble_eq_true rfl⟩ rfl rfl rfl rfl rfl hl.1 (Nat.le_of_ble_eq_true rfl) (st1 := [.int (nI i106)]) rfl dL_build_135 (k2 := 25 + 4 * i106) (s2 := 262 + 50 * i106) (by show 24 + 4 * i106 + 1 = 25 + 4 * i106; omega) (by show 256 + 50 * i106 + 6 = 262 + 50 * i106; omega) ⟨(Nat.le_trans (show 25 + 4 * i106 ≤ 260 by omega) (Nat.le_of_ble_eq_true rfl)), (Nat.le_trans (show 262 + 50 * i106 ≤ 2800 by omega) (Nat.le_of_ble_eq_true rfl))⟩ (fun H locs hw => ?_)
      refine lv_iload hx hb dL_build_138 (lv_at hl 5 rfl) ?_
      refine lv_icmp_eq (tgt := 145) hx hb dL_build_140 (by decide) (fun _ => ?_) (fun z => absurd rfl z)
      refine lv_aload_n hx hb dL_build_145 rfl (lv_at hl 3 rfl) ?_
      refine lv_aload_n hx hb dL_build_146 rfl (lv_at hl 3 rfl) ?_
      refine g_get (v := .ref (zy Z 4)) hc hw hi2 (23 + (0)) 4 (two_get s_H) rfl (by decide) (List.mem_of_getElem? (i := 6) rfl) sv_4 dL_build_147 ?_
      refine lv_iconst (v := 2) hx hb dL_build_150 (by decide) ?_
      refine g_newI hc hw (N := 2) (List.mem_of_getElem? (i := 5) rfl) (by decide) (by decide) (by show 2 * 4 ≤ 536870912; omega) (Nat.le_trans (show 25 + 4 * i106 + 1 ≤ 260 by omega) (Nat.le_of_ble_eq_true rfl)) (Nat.le_trans (show 262 + 50 * i106 + 2 ≤ 2800 by omega) (Nat.le_of_ble_eq_true rfl)) dL_build_151 (fun q3 H locs hw => ?_)
      replace hw : Wo D A s.heap (wb_c h a a2 cI cZ (1 + y1) (i106 + 1) 0 (s_X1_addBarge (1 + y1) i106 0 T 0 0 0 ct_0 (nI ((1 + y4)))) 0 0 0 ct_0 ++ ws_s Z cI cL (1 + y1) i106 0 (0 : Int32) (nI 20) (0 : Int32) Wr Br zz0 [(q3, .inl (cI, 2, .inl (fun _ => (0 : Int32))))]) H locs := by have h9 := hw; rw [List.append_assoc, s_push] at h9; exact h9
      refine W.widen (show _ ≤ 26 + 4 * i106 by omega) (show 262 + 50 * i106 + 2 ≤ 264 + 50 * i106 by omega) ?_
      refine lv_dup hx hb dL_build_153 rfl ?_
      refine lv_iconst (v := 0) hx hb dL_build_154 (by decide) ?_
      refine lv_iload hx hb dL_build_155 (lv_at hl 0 rfl) ?_
      refine r_st (f := (fun _ => (0 : Int32))) (k := 0) hc hw (23 + (4 + ((1 + y1) + (i106 + (0 + 0))))) (two_get (s_E.trans rfl)) (by unfold vp_in; decide) (by decide) (w' := (wb_c h a a2 cI cZ (1 + y1) (i106 + 1) 0 (s_X1_addBarge (1 + y1) i106 0 T 0 0 0 ct_0 (nI ((1 + y4)))) 0 0 0 ct_0 ++ ws_s Z cI cL (1 + y1) i106 0 (0 : Int32) (nI 20) (0 : Int32) Wr Br zz0 [(q3, .inl (cI, 2, .inl (upd (fun _ => (0 : Int32)) 0 (nI (1 + y4)))))])) (two_set (su_E rfl)) dL_build_157 (fun H locs hw => ?_)
      refine lv_dup hx hb dL_build_158 rfl ?_
      refine lv_iconst (v := 1) hx hb dL_build_159 (by decide) ?_
      refine lv_iload hx hb dL_build_160 (lv_at hl 0 rfl) ?_
      refine r_st (f := (upd (fun _ => (0 : Int32)) 0 (nI (1 + y4)))) (k := 1) hc hw (23 + (4 + ((1 + y1) + (i106 + (0 + 0))))) (two_get (s_E.trans rfl)) (by unfold vp_in; decide) (by decide) (w' := (wb_c h a a2 cI cZ (1 + y1) (i106 + 1) 0 (s_X1_addBarge (1 + y1) i106 0 T 0 0 0 ct_0 (nI ((1 + y4)))) 0 0 0 ct_0 ++ ws_s Z cI cL (1 + y1) i106 0 (0 : Int32) (nI 20) (0 : Int32) Wr Br zz0 [(q3, .inl (cI, 2, .inl (upd (upd (fun _ => (0 : Int32)) 0 (nI (1 + y4))) 1 (nI (1 + y4)))))])) (two_set (su_E rfl)) dL_build_162 (fun H locs hw => ?_)
      refine G_callS (n := 2) (As := [.ref (zy Z 4), .ref q3]) (rest := [.ref (zh Z)]) hc hT hw.2.2 (Pt.all hw hA) (k_X2_with l D cI cZ cL (k := i106) (w0 := (wb_c h a a2 cI cZ (1 + y1) (i106 + 1) 0 (s_X1_addBarge (1 + y1) i106 0 T 0 0 0 ct_0 (nI ((1 + y4)))) 0 0 0 ct_0 ++ ws_s Z cI cL (1 + y1) i106 0 (0 : Int32) (nI 20) (0 : Int32) Wr Br zz0 [(q3, .inl (cI, 2, .inl (upd (upd (fun _ => (0 : Int32)) 0 (nI (1 + y4))) 1 (nI (1 + y4)))))])) (23 + (2)) (23 + (4 + ((1 + y1) + (i106 + (0 + 0))))) (by omega) (two_get s_Y4) (fun i hi => ⟨_, _, _, two_get (s_B hi)⟩) (two_get (s_E.trans rfl))) gL_build_X2_with rfl (by decide +kernel) ⟨Nat.le_of_ble_eq_true rfl, Nat.le_of_ble_eq_true rfl⟩ rfl rfl hl.1 (Nat.le_of_ble_eq_true rfl) dL_build_163 (k2 := 27 + 4 * i106) (s2 := 295 + 50 * i106) (by show 26 + 4 * i106 + 1 = 27 + 4 * i106; omega) (by show 264 + 50 * i106 + 31 = 295 + 50 * i106; omega) ⟨(Nat.le_trans (show 27 + 4 * i106 ≤ 260 by omega) (Nat.le_of_ble_eq_true rfl)), (Nat.le_trans (show 295 + 50 * i106 ≤ 2800 by omega) (Nat.le_of_ble_eq_true rfl))⟩ (fun res w1 H locs hG hw => ?_)
      obtain ⟨q4, rfl, rfl⟩ := hG
      replace hw : Wo D A s.heap (wb_c h a a2 cI cZ (1 + y1) (i106 + 1) 0 (s_X1_addBarge (1 + y1) i106 0 T 0 0 0 ct_0 (nI ((1 + y4)))) 0 0 0 ct_0 ++ ws_s Z cI cL (1 + y1) i106 0 (0 : Int32) (nI 20) (0 : Int32) Wr Br zz0 [(q3, .inl (cI, 2, .inl (upd (upd (fun _ => (0 : Int32)) 0 (nI (1 + y4))) 1 (nI (1 + y4))))), (q4, .inl (cL, i106 + 1, rf_s (ax (zb Z) i106 q3)))]) H locs := by have h9 := hw; rw [List.append_assoc, s_push] at h9; exact h9
      show W p l e rm_L_build s m args below meth c H locs (27 + 4 * i106) (295 + 50 * i106) (GE below args s D A (gb h a a2 cI cZ cL) rm_L_build) (F0 m 166 ls [.ref q4, .ref (zh Z)])
      refine g_put hc hw hi2 tyX2 tyX2_ok nmX2 (23 + (0)) 4 (two_get s_H) rfl (by decide) (List.mem_of_getElem? (i := 6) rfl) (by decide) rfl rfl (Nat.le_of_ble_eq_true rfl) (w' := (wb_c h a a2 cI cZ (1 + y1) (i106 + 1) 0 (s_X1_addBarge (1 + y1) i106 0 T 0 0 0 ct_0 (nI ((1 + y4)))) 0 0 0 ct_0 ++ (ws_s Z cI cL (1 + y1) i106 0 (0 : Int32) (nI 20) (0 : Int32) Wr Br zz0 [(q3, .inl (cI, 2, .inl (upd (upd (fun _ => (0 : Int32)) 0 (nI (1 + y4))) 1 (nI (1 + y4))))), (q4, .inl (cL, i106 + 1, rf_s (ax (zb Z) i106 q3)))]).set 0 (zh Z, .inr (2, (wf_s Z (0 : Int32) (nI 20) (0 : Int32)).set 4 (.ref q4))))) (two_set rfl) dL_build_166 (fun H locs hw => ?_)
      replace hw := sh_B hw
      refine lv_iinc (v := (nI (i106 + 1))) (lv' := [(5, .int (nI (i106 + 1))), (6, .int (nI (1 + y4))), (0, .ref h), (1, .ref b0), (2, .ref (zh Z)), (4, .int (nI (1 + y2)))]) hx hb dL_build_169 hl (k := 5) rfl (inc_n i106) (by decide) rfl (fun ls hl => ?_)
      refine lv_goto (tgt := 106) hx hb dL_build_172 (by decide) ?_
      refine W.widen (show 27 + 4 * i106 ≤ 24 + 4 * (i106 + 1) by omega) (show 295 + 50 * i106 ≤ 256 + 50 * (i106 + 1) by omega) ?_
      exact k106 (s_X1_addBarge (1 + y1) i106 0 T 0 0 0 ct_0 (nI ((1 + y4)))) (sr Br i106 (upd (upd (fun _ => (0 : Int32)) 0 (nI (1 + y4))) 1 (nI (1 + y4)))) (zB Z i106 q3 q4) hD2 hF2 (fun j hj => hN_s hN (r := (upd (upd (fun _ => (0 : Int32)) 0 (nI ((1 + y4)))) 1 (nI ((1 + y4))))) rfl (by omega) j hj) H locs ls hw (lv_sub hl [2, 3, 4, 5, 0] rfl)
    · intro T Br Z hD hB hN H locs ls hw hl
      refine lv_iload hx hb dL_build_106 (lv_at hl 4 rfl) ?_
      refine lv_iload hx hb dL_build_108 (lv_at hl 3 rfl) ?_
      refine lv_icmp_ge (tgt := 175) hx hb dL_build_110 (by decide) (fun _ => ?_) (fun z => absurd (nI_le (Nat.le_refl _) (by omega)) z)
      refine W.widen (show 24 + 4 * (1 + y2) ≤ 40 by omega) (show 256 + 50 * (1 + y2) ≤ 456 by omega) ?_
      refine lv_aload_n hx hb dL_build_175 rfl (lv_at hl 1 rfl) ?_
      refine lv_iconst (v := 4) hx hb dL_build_176 (by decide) ?_
      refine G_callSS (n := 2) (As := [.ref b0, .int (nI 4)]) (rest := []) hc hT hw.2.2 hX hbl hbA (Pt.front (wc := []) (wr := (wb_c h a a2 cI cZ (1 + y1) (1 + y2) 0 T 0 0 0 ct_0 ++ ws_s Z cI cL (1 + y1) (1 + y2) 0 (0 : Int32) (nI 20) (0 : Int32) Wr Br zz0 [])) hw hA) (k_L_cell l D cI cZ cL b0 L xs 4 hL (by omega)) gL_build_L_cell rfl (by decide +kernel) ⟨Nat.le_of_ble_eq_true rfl, Nat.le_of_ble_eq_true rfl⟩ rfl rfl hl.1 (Nat.le_of_ble_eq_true rfl) dL_build_177 (k2 := 40) (s2 := 456) (by show 40 + 0 = 40; omega) (by show 456 + 0 = 456; omega) ⟨(Nat.le_trans (show 40 ≤ 260 by omega) (Nat.le_of_ble_eq_true rfl)), (Nat.le_trans (show 456 ≤ 2800 by omega) (Nat.le_of_ble_eq_true rfl))⟩ (fun res w1 H locs hG hw => ?_)
      obtain ⟨x5, rfl, rfl⟩ := hG
      replace hw : Wo D A s.heap (wb_c h a a2 cI cZ (1 + y1) (1 + y2) 0 T 0 0 0 ct_0 ++ ws_s Z cI cL (1 + y1) (1 + y2) 0 (0 : Int32) (nI 20) (0 : Int32) Wr Br zz0 []) H locs := hw
      show W p l e rm_L_build s m args below meth c H locs 40 456 (GE below args s D A (gb h a a2 cI cZ cL) rm_L_build) (F0 m 180 ls [.int x5])
      refine lv_bipush (v := 25) hx hb dL_build_180 (by decide) ?_
      refine g_callS0 (n := 2) (As := [.int x5, .int (nI 25)]) (rest := []) hc hw (k_L_below l D cI cZ cL x5 25 (by omega) (by omega)) gL_build_L_below rfl (by decide +kernel) ⟨Nat.le_of_ble_eq_true rfl, Nat.le_of_ble_eq_true rfl⟩ rfl rfl hl.1 (Nat.le_of_ble_eq_true rfl) (st1 := [.int (nI (bl x5 25))]) rfl dL_build_182 (k2 := 40) (s2 := 456) (by show 40 + 0 = 40; omega) (by show 456 + 0 = 456; omega) ⟨(Nat.le_trans (show 40 ≤ 260 by omega) (Nat.le_of_ble_eq_true rfl)), (Nat.le_trans (show 456 ≤ 2800 by omega) (Nat.le_of_ble_eq_true rfl))⟩ (fun H locs hw => ?_)
      obtain ⟨y5, hy5, ey5⟩ : ∃ v, v < 25 ∧ bl x5 25 = v := ⟨_, bl_lt _ (by omega), rfl⟩
      rw [ey5]
      refine lv_istore (lv' := [(5, .int (nI y5)), (0, .ref h), (1, .ref b0), (2, .ref (zh Z)), (4, .int (nI (1 + y2)))]) hx hb dL_build_185 hl (by decide) rfl (fun ls hl => ?_)
      refine lv_iconst (v := 0) hx hb dL_build_187 (by decide) ?_
      refine lv_istore (lv' := [(6, .int (0 : Int32)), (5, .int (nI y5)), (0, .ref h), (1, .ref b0), (2, .ref (zh Z)), (4, .int (nI (1 + y2)))]) hx hb dL_build_188 hl (by decide) rfl (fun ls hl => ?_)
      refine lp_go0 (fun (i190 : Nat) => ∀ (T : ct_T) (Pr : Nat → Nat → Int32) (Z : sA) (hD : DI (1 + y1) (1 + y2) i190 20 T (0, 0, Wr, Br, Pr)) (hF : FH i190 T) (H : Heap) (locs : List Loc) (ls : Array Slot), Wo D A s.heap (wb_c h a a2 cI cZ (1 + y1) (1 + y2) i190 T 0 0 0 ct_0 ++ ws_s Z cI cL (1 + y1) (1 + y2) i190 (0 : Int32) (nI 20) (0 : Int32) Wr Br Pr []) H locs → lv_has ls 10 [(0, .ref h), (1, .ref b0), (2, .ref (zh Z)), (4, .int (nI (1 + y2))), (5, .int (nI y5)), (6, .int (nI i190))] → W p l e rm_L_build s m args below meth c H locs (40 + 6 * i190) (456 + 64 * i190) (GE below args s D A (gb h a a2 cI cZ cL) rm_L_build) (F0 m 190 ls [])) y5 ?_ ?_ T zz0 Z hD (fun q _ _ => hB.2 q) H locs ls hw (lv_sub hl [2, 3, 4, 5, 1, 0] rfl)
      · intro i190 hi190 k190 T Pr Z hD hF H locs ls hw hl
        refine lv_iload hx hb dL_build_190 (lv_at hl 5 rfl) ?_
        refine lv_iload hx hb dL_build_192 (lv_at hl 4 rfl) ?_
        refine lv_icmp_ge (tgt := 315) hx hb dL_build_194 (by decide) (fun z => absurd z (nI_ge hi190 (by omega))) (fun _ => ?_)
        refine lv_aload_n hx hb dL_build_197 rfl (lv_at hl 1 rfl) ?_
        refine lv_iconst (v := 5) hx hb dL_build_198 (by decide) ?_
        refine lv_iload hx hb dL_build_199 (lv_at hl 5 rfl) ?_
        refine lv_bipush (v := 10) hx hb dL_build_201 (by decide) ?_
        refine lv_irem hx hb dL_build_203 (by decide) ?_
        rw [show ((nI i190) - (nI i190) / (10 : Int32) * (10 : Int32)) = (nI (i190 % 10)) from i_rem (show i190 < 2 ^ 31 by omega) (by decide) (by decide)]
        refine lv_iadd hx hb dL_build_204 ?_
        rw [show ((5 : Int32) + (nI (i190 % 10))) = (nI (5 + (i190 % 10))) from nI_add 5 (i190 % 10)]
        refine G_callSS (n := 2) (As := [.ref b0, .int (nI (5 + (i190 % 10)))]) (rest := []) hc hT hw.2.2 hX hbl hbA (Pt.front (wc := []) (wr := (wb_c h a a2 cI cZ (1 + y1) (1 + y2) i190 T 0 0 0 ct_0 ++ ws_s Z cI cL (1 + y1) (1 + y2) i190 (0 : Int32) (nI 20) (0 : Int32) Wr Br Pr [])) hw hA) (k_L_cell l D cI cZ cL b0 L xs (5 + (i190 % 10)) hL (by omega)) gL_build_L_cell rfl (by decide +kernel) ⟨Nat.le_of_ble_eq_true rfl, Nat.le_of_ble_eq_true rfl⟩ rfl rfl hl.1 (Nat.le_of_ble_eq_true rfl) dL_build_205 (k2 := 40 + 6 * i190) (s2 := 456 + 64 * i190) (by show 40 + 6 * i190 + 0 = 40 + 6 * i190; omega) (by show 456 + 64 * i190 + 0 = 456 + 64 * i190; omega) ⟨(Nat.le_trans (show 40 + 6 * i190 ≤ 260 by omega) (Nat.le_of_ble_eq_true rfl)), (Nat.le_trans (show 456 + 64 * i190 ≤ 2800 by omega) (Nat.le_of_ble_eq_true rfl))⟩ (fun res w1 H locs hG hw => ?_)
        obtain ⟨x6, rfl, rfl⟩ := hG
        replace hw : Wo D A s.heap (wb_c h a a2 cI cZ (1 + y1) (1 + y2) i190 T 0 0 0 ct_0 ++ ws_s Z cI cL (1 + y1) (1 + y2) i190 (0 : Int32) (nI 20) (0 : Int32) Wr Br Pr []) H locs := hw
        show W p l e rm_L_build s m args below meth c H locs (40 + 6 * i190) (456 + 64 * i190) (GE below args s D A (gb h a a2 cI cZ cL) rm_L_build) (F0 m 208 ls [.int x6])
        refine lv_iload hx hb dL_build_208 (lv_at hl 5 rfl) ?_
        refine lv_bipush (v := 10) hx hb dL_build_210 (by decide) ?_
        refine lv_idiv hx hb dL_build_212 (by decide) ?_
        refine lv_iconst (v := 4) hx hb dL_build_213 (by decide) ?_
        refine lv_imul hx hb dL_build_214 ?_
        refine lv_ishr hx hb dL_build_215 ?_
        refine lv_istore (lv' := [(7, .int (x6 >>> ((((nI i190) / (10 : Int32)) * (4 : Int32)) &&& 31))), (0, .ref h), (1, .ref b0), (2, .ref (zh Z)), (4, .int (nI (1 + y2))), (5, .int (nI y5)), (6, .int (nI i190))]) hx hb dL_build_216 hl (by decide) rfl (fun ls hl => ?_)
        refine lv_iload hx hb dL_build_218 (lv_at hl 0 rfl) ?_
        refine lv_iconst (v := 3) hx hb dL_build_220 (by decide) ?_
        refine g_callS0 (n := 2) (As := [.int (x6 >>> ((((nI i190) / (10 : Int32)) * (4 : Int32)) &&& 31)), .int (nI 3)]) (rest := []) hc hw (k_L_below l D cI cZ cL (x6 >>> ((((nI i190) / (10 : Int32)) * (4 : Int32)) &&& 31)) 3 (by omega) (by omega)) gL_build_L_below rfl (by decide +kernel) ⟨Nat.le_of_ble_eq_true rfl, Nat.le_of_ble_eq_true rfl⟩ rfl rfl hl.1 (Nat.le_of_ble_eq_true rfl) (st1 := [.int (nI (bl (x6 >>> ((((nI i190) / (10 : Int32)) * (4 : Int32)) &&& 31)) 3))]) rfl dL_build_221 (k2 := 40 + 6 * i190) (s2 := 456 + 64 * i190) (by show 40 + 6 * i190 + 0 = 40 + 6 * i190; omega) (by show 456 + 64 * i190 + 0 = 456 + 64 * i190; omega) ⟨(Nat.le_trans (show 40 + 6 * i190 ≤ 260 by omega) (Nat.le_of_ble_eq_true rfl)), (Nat.le_trans (show 456 + 64 * i190 ≤ 2800 by omega) (Nat.le_of_ble_eq_true rfl))⟩ (fun H locs hw => ?_)
        obtain ⟨y6, hy6, ey6⟩ : ∃ v, v < 3 ∧ bl (x6 >>> ((((nI i190) / (10 : Int32)) * (4 : Int32)) &&& 31)) 3 = v := ⟨_, bl_lt _ (by omega), rfl⟩
        rw [ey6]
        refine lv_if_ne (tgt := 231) hx hb dL_build_224 (by decide) (fun c1 => ?_) (fun c1 => ?_)
        · refine lv_iload hx hb dL_build_231 (lv_at hl 0 rfl) ?_
          refine lv_iconst (v := 2) hx hb dL_build_233 (by decide) ?_
          refine lv_ishr hx hb dL_build_234 ?_
          refine lv_bipush (v := 10) hx hb dL_build_235 (by decide) ?_
          refine g_callS0 (n := 2) (As := [.int ((x6 >>> ((((nI i190) / (10 : Int32)) * (4 : Int32)) &&& 31)) >>> ((2 : Int32) &&& 31)), .int (nI 10)]) (rest := []) hc hw (k_L_below l D cI cZ cL ((x6 >>> ((((nI i190) / (10 : Int32)) * (4 : Int32)) &&& 31)) >>> ((2 : Int32) &&& 31)) 10 (by omega) (by omega)) gL_build_L_below rfl (by decide +kernel) ⟨Nat.le_of_ble_eq_true rfl, Nat.le_of_ble_eq_true rfl⟩ rfl rfl hl.1 (Nat.le_of_ble_eq_true rfl) (st1 := [.int (nI (bl ((x6 >>> ((((nI i190) / (10 : Int32)) * (4 : Int32)) &&& 31)) >>> ((2 : Int32) &&& 31)) 10))]) rfl dL_build_237 (k2 := 40 + 6 * i190) (s2 := 456 + 64 * i190) (by show 40 + 6 * i190 + 0 = 40 + 6 * i190; omega) (by show 456 + 64 * i190 + 0 = 456 + 64 * i190; omega) ⟨(Nat.le_trans (show 40 + 6 * i190 ≤ 260 by omega) (Nat.le_of_ble_eq_true rfl)), (Nat.le_trans (show 456 + 64 * i190 ≤ 2800 by omega) (Nat.le_of_ble_eq_true rfl))⟩ (fun H locs hw => ?_)
          obtain ⟨y7, hy7, ey7⟩ : ∃ v, v < 10 ∧ bl ((x6 >>> ((((nI i190) / (10 : Int32)) * (4 : Int32)) &&& 31)) >>> ((2 : Int32) &&& 31)) 10 = v := ⟨_, bl_lt _ (by omega), rfl⟩
          rw [ey7]
          refine lv_istore (lv' := [(8, .int (nI y7)), (7, .int (x6 >>> ((((nI i190) / (10 : Int32)) * (4 : Int32)) &&& 31))), (0, .ref h), (1, .ref b0), (2, .ref (zh Z)), (4, .int (nI (1 + y2))), (5, .int (nI y5)), (6, .int (nI i190))]) hx hb dL_build_240 hl (by decide) rfl (fun ls hl => ?_)
          refine lv_iload hx hb dL_build_242 (lv_at hl 1 rfl) ?_
          refine lv_iconst (v := 5) hx hb dL_build_244 (by decide) ?_
          refine lv_ishr hx hb dL_build_245 ?_
          refine lv_iload hx hb dL_build_246 (lv_at hl 5 rfl) ?_
          refine g_callS0 (n := 2) (As := [.int ((x6 >>> ((((nI i190) / (10 : Int32)) * (4 : Int32)) &&& 31)) >>> ((5 : Int32) &&& 31)), .int (nI (1 + y2))]) (rest := []) hc hw (k_L_below l D cI cZ cL ((x6 >>> ((((nI i190) / (10 : Int32)) * (4 : Int32)) &&& 31)) >>> ((5 : Int32) &&& 31)) (1 + y2) (by omega) (by omega)) gL_build_L_below rfl (by decide +kernel) ⟨Nat.le_of_ble_eq_true rfl, Nat.le_of_ble_eq_true rfl⟩ rfl rfl hl.1 (Nat.le_of_ble_eq_true rfl) (st1 := [.int (nI (bl ((x6 >>> ((((nI i190) / (10 : Int32)) * (4 : Int32)) &&& 31)) >>> ((5 : Int32) &&& 31)) (1 + y2)))]) rfl dL_build_248 (k2 := 40 + 6 * i190) (s2 := 456 + 64 * i190) (by show 40 + 6 * i190 + 0 = 40 + 6 * i190; omega) (by show 456 + 64 * i190 + 0 = 456 + 64 * i190; omega) ⟨(Nat.le_trans (show 40 + 6 * i190 ≤ 260 by omega) (Nat.le_of_ble_eq_true rfl)), (Nat.le_trans (show 456 + 64 * i190 ≤ 2800 by omega) (Nat.le_of_ble_eq_true rfl))⟩ (fun H locs hw => ?_)
          obtain ⟨y8, hy8, ey8⟩ : ∃ v, v < (1 + y2) ∧ bl ((x6 >>> ((((nI i190) / (10 : Int32)) * (4 : Int32)) &&& 31)) >>> ((5 : Int32) &&& 31)) (1 + y2) = v := ⟨_, bl_lt _ (by omega), rfl⟩
          rw [ey8]
          refine lv_istore (lv' := [(9, .int (nI y8)), (8, .int (nI y7)), (7, .int (x6 >>> ((((nI i190) / (10 : Int32)) * (4 : Int32)) &&& 31))), (0, .ref h), (1, .ref b0), (2, .ref (zh Z)), (4, .int (nI (1 + y2))), (5, .int (nI y5)), (6, .int (nI i190))]) hx hb dL_build_251 hl (by decide) rfl (fun ls hl => ?_)
          refine lv_aload_n hx hb dL_build_253 rfl (lv_at hl 3 rfl) ?_
          refine lv_iload hx hb dL_build_254 (lv_at hl 0 rfl) ?_
          refine lv_iload hx hb dL_build_256 (lv_at hl 1 rfl) ?_
          obtain ⟨e1, e2, hD2, hF2⟩ := op_board (r := (upd (upd (upd (upd (upd (upd (fun _ => (0 : Int32)) 0 (nI y7)) 1 (-1 : Int32)) 2 (nI y8)) 3 (0 : Int32)) 4 (0 : Int32)) 5 (0 : Int32))) (w2 := 0) (b2 := 0) (n2 := 0) (T2 := ct_0) (by omega) (by omega) hD hF (show y8 < (1 + y2) by omega) (show y7 ≤ 9 by omega) rfl rfl rfl rfl rfl rfl
          refine G_callT (n := 2) (q0 := 0) (rest := []) hc hT hw.2.2 (Pt.front hw hA) ((k_X1_board hst D cI cZ cL h a a2 (1 + y1) (1 + y2) i190 T 0 0 0 ct_0 (by omega) (by omega) (by omega) (by omega) (by omega) (by omega) (nI y8) (nI y7)).to e1 (congrArg (fun v : Int32 => some (Value.int v)) e2)) gL_build_X1_board rfl (by decide +kernel) ⟨Nat.le_of_ble_eq_true rfl, Nat.le_of_ble_eq_true rfl⟩ rfl rfl rfl rfl rfl hl.1 (Nat.le_of_ble_eq_true rfl) (st1 := [.int (nI i190)]) rfl dL_build_258 (k2 := 42 + 6 * i190) (s2 := 468 + 64 * i190) (by show 40 + 6 * i190 + 2 = 42 + 6 * i190; omega) (by show 456 + 64 * i190 + 12 = 468 + 64 * i190; omega) ⟨(Nat.le_trans (show 42 + 6 * i190 ≤ 260 by omega) (Nat.le_of_ble_eq_true rfl)), (Nat.le_trans (show 468 + 64 * i190 ≤ 2800 by omega) (Nat.le_of_ble_eq_true rfl))⟩ (fun H locs hw => ?_)
          rw [if_neg (show ¬ (sm_B (0, 0, Wr, Br, Pr) y8 1 = 0) from hN y8 (by omega))] at hD2
          refine lv_iload hx hb dL_build_261 (lv_at hl 8 rfl) ?_
          refine lv_icmp_eq (tgt := 268) hx hb dL_build_263 (by decide) (fun _ => ?_) (fun z => absurd rfl z)
          refine lv_aload_n hx hb dL_build_268 rfl (lv_at hl 5 rfl) ?_
          refine lv_aload_n hx hb dL_build_269 rfl (lv_at hl 5 rfl) ?_
          refine g_get (v := .ref (zy Z 5)) hc hw hi2 (23 + (0)) 5 (two_get s_H) rfl (by decide) (List.mem_of_getElem? (i := 7) rfl) sv_5 dL_build_270 ?_
          refine lv_bipush (v := 6) hx hb dL_build_273 (by decide) ?_
          refine g_newI hc hw (N := 6) (List.mem_of_getElem? (i := 5) rfl) (by decide) (by decide) (by show 6 * 4 ≤ 536870912; omega) (Nat.le_trans (show 42 + 6 * i190 + 1 ≤ 260 by omega) (Nat.le_of_ble_eq_true rfl)) (Nat.le_trans (show 468 + 64 * i190 + 6 ≤ 2800 by omega) (Nat.le_of_ble_eq_true rfl)) dL_build_275 (fun q5 H locs hw => ?_)
          replace hw : Wo D A s.heap (wb_c h a a2 cI cZ (1 + y1) (1 + y2) (i190 + 1) (s_X1_board (1 + y1) (1 + y2) i190 T 0 0 0 ct_0 (nI y8) (nI y7)) 0 0 0 ct_0 ++ ws_s Z cI cL (1 + y1) (1 + y2) i190 (0 : Int32) (nI 20) (0 : Int32) Wr Br Pr [(q5, .inl (cI, 6, .inl (fun _ => (0 : Int32))))]) H locs := by have h9 := hw; rw [List.append_assoc, s_push] at h9; exact h9
          refine W.widen (show _ ≤ 43 + 6 * i190 by omega) (show 468 + 64 * i190 + 6 ≤ 474 + 64 * i190 by omega) ?_
          refine lv_dup hx hb dL_build_277 rfl ?_
          refine lv_iconst (v := 0) hx hb dL_build_278 (by decide) ?_
          refine lv_iload hx hb dL_build_279 (lv_at hl 1 rfl) ?_
          refine r_st (f := (fun _ => (0 : Int32))) (k := 0) hc hw (23 + (4 + ((1 + y1) + ((1 + y2) + (i190 + 0))))) (two_get (s_E.trans rfl)) (by unfold vp_in; decide) (by decide) (w' := (wb_c h a a2 cI cZ (1 + y1) (1 + y2) (i190 + 1) (s_X1_board (1 + y1) (1 + y2) i190 T 0 0 0 ct_0 (nI y8) (nI y7)) 0 0 0 ct_0 ++ ws_s Z cI cL (1 + y1) (1 + y2) i190 (0 : Int32) (nI 20) (0 : Int32) Wr Br Pr [(q5, .inl (cI, 6, .inl (upd (fun _ => (0 : Int32)) 0 (nI y7))))])) (two_set (su_E rfl)) dL_build_281 (fun H locs hw => ?_)
          refine lv_dup hx hb dL_build_282 rfl ?_
          refine lv_iconst (v := 1) hx hb dL_build_283 (by decide) ?_
          refine lv_iconst (v := -1) hx hb dL_build_284 (by decide) ?_
          refine r_st (f := (upd (fun _ => (0 : Int32)) 0 (nI y7))) (k := 1) hc hw (23 + (4 + ((1 + y1) + ((1 + y2) + (i190 + 0))))) (two_get (s_E.trans rfl)) (by unfold vp_in; decide) (by decide) (w' := (wb_c h a a2 cI cZ (1 + y1) (1 + y2) (i190 + 1) (s_X1_board (1 + y1) (1 + y2) i190 T 0 0 0 ct_0 (nI y8) (nI y7)) 0 0 0 ct_0 ++ ws_s Z cI cL (1 + y1) (1 + y2) i190 (0 : Int32) (nI 20) (0 : Int32) Wr Br Pr [(q5, .inl (cI, 6, .inl (upd (upd (fun _ => (0 : Int32)) 0 (nI y7)) 1 (-1 : Int32))))])) (two_set (su_E rfl)) dL_build_285 (fun H locs hw => ?_)
          refine lv_dup hx hb dL_build_286 rfl ?_
          refine lv_iconst (v := 2) hx hb dL_build_287 (by decide) ?_
          refine lv_iload hx hb dL_build_288 (lv_at hl 0 rfl) ?_
          refine r_st (f := (upd (upd (fun _ => (0 : Int32)) 0 (nI y7)) 1 (-1 : Int32))) (k := 2) hc hw (23 + (4 + ((1 + y1) + ((1 + y2) + (i190 + 0))))) (two_get (s_E.trans rfl)) (by unfold vp_in; decide) (by decide) (w' := (wb_c h a a2 cI cZ (1 + y1) (1 + y2) (i190 + 1) (s_X1_board (1 + y1) (1 + y2) i190 T 0 0 0 ct_0 (nI y8) (nI y7)) 0 0 0 ct_0 ++ ws_s Z cI cL (1 + y1) (1 + y2) i190 (0 : Int32) (nI 20) (0 : Int32) Wr Br Pr [(q5, .inl (cI, 6, .inl (upd (upd (upd (fun _ => (0 : Int32)) 0 (nI y7)) 1 (-1 : Int32)) 2 (nI y8))))])) (two_set (su_E rfl)) dL_build_290 (fun H locs hw => ?_)
          refine lv_dup hx hb dL_build_291 rfl ?_
          refine lv_iconst (v := 3) hx hb dL_build_292 (by decide) ?_
          refine lv_iconst (v := 0) hx hb dL_build_293 (by decide) ?_
          refine r_st (f := (upd (upd (upd (fun _ => (0 : Int32)) 0 (nI y7)) 1 (-1 : Int32)) 2 (nI y8))) (k := 3) hc hw (23 + (4 + ((1 + y1) + ((1 + y2) + (i190 + 0))))) (two_get (s_E.trans rfl)) (by unfold vp_in; decide) (by decide) (w' := (wb_c h a a2 cI cZ (1 + y1) (1 + y2) (i190 + 1) (s_X1_board (1 + y1) (1 + y2) i190 T 0 0 0 ct_0 (nI y8) (nI y7)) 0 0 0 ct_0 ++ ws_s Z cI cL (1 + y1) (1 + y2) i190 (0 : Int32) (nI 20) (0 : Int32) Wr Br Pr [(q5, .inl (cI, 6, .inl (upd (upd (upd (upd (fun _ => (0 : Int32)) 0 (nI y7)) 1 (-1 : Int32)) 2 (nI y8)) 3 (0 : Int32))))])) (two_set (su_E rfl)) dL_build_294 (fun H locs hw => ?_)
          refine lv_dup hx hb dL_build_295 rfl ?_
          refine lv_iconst (v := 4) hx hb dL_build_296 (by decide) ?_
          refine lv_iconst (v := 0) hx hb dL_build_297 (by decide) ?_
          refine r_st (f := (upd (upd (upd (upd (fun _ => (0 : Int32)) 0 (nI y7)) 1 (-1 : Int32)) 2 (nI y8)) 3 (0 : Int32))) (k := 4) hc hw (23 + (4 + ((1 + y1) + ((1 + y2) + (i190 + 0))))) (two_get (s_E.trans rfl)) (by unfold vp_in; decide) (by decide) (w' := (wb_c h a a2 cI cZ (1 + y1) (1 + y2) (i190 + 1) (s_X1_board (1 + y1) (1 + y2) i190 T 0 0 0 ct_0 (nI y8) (nI y7)) 0 0 0 ct_0 ++ ws_s Z cI cL (1 + y1) (1 + y2) i190 (0 : Int32) (nI 20) (0 : Int32) Wr Br Pr [(q5, .inl (cI, 6, .inl (upd (upd (upd (upd (upd (fun _ => (0 : Int32)) 0 (nI y7)) 1 (-1 : Int32)) 2 (nI y8)) 3 (0 : Int32)) 4 (0 : Int32))))])) (two_set (su_E rfl)) dL_build_298 (fun H locs hw => ?_)
          refine lv_dup hx hb dL_build_299 rfl ?_
          refine lv_iconst (v := 5) hx hb dL_build_300 (by decide) ?_
          refine lv_iconst (v := 0) hx hb dL_build_301 (by decide) ?_
          refine r_st (f := (upd (upd (upd (upd (upd (fun _ => (0 : Int32)) 0 (nI y7)) 1 (-1 : Int32)) 2 (nI y8)) 3 (0 : Int32)) 4 (0 : Int32))) (k := 5) hc hw (23 + (4 + ((1 + y1) + ((1 + y2) + (i190 + 0))))) (two_get (s_E.trans rfl)) (by unfold vp_in; decide) (by decide) (w' := (wb_c h a a2 cI cZ (1 + y1) (1 + y2) (i190 + 1) (s_X1_board (1 + y1) (1 + y2) i190 T 0 0 0 ct_0 (nI y8) (nI y7)) 0 0 0 ct_0 ++ ws_s Z cI cL (1 + y1) (1 + y2) i190 (0 : Int32) (nI 20) (0 : Int32) Wr Br Pr [(q5, .inl (cI, 6, .inl (upd (upd (upd (upd (upd (upd (fun _ => (0 : Int32)) 0 (nI y7)) 1 (-1 : Int32)) 2 (nI y8)) 3 (0 : Int32)) 4 (0 : Int32)) 5 (0 : Int32))))])) (two_set (su_E rfl)) dL_build_302 (fun H locs hw => ?_)
          refine G_callS (n := 2) (As := [.ref (zy Z 5), .ref q5]) (rest := [.ref (zh Z)]) hc hT hw.2.2 (Pt.all hw hA) (k_X2_with l D cI cZ cL (k := i190) (w0 := (wb_c h a a2 cI cZ (1 + y1) (1 + y2) (i190 + 1) (s_X1_board (1 + y1) (1 + y2) i190 T 0 0 0 ct_0 (nI y8) (nI y7)) 0 0 0 ct_0 ++ ws_s Z cI cL (1 + y1) (1 + y2) i190 (0 : Int32) (nI 20) (0 : Int32) Wr Br Pr [(q5, .inl (cI, 6, .inl (upd (upd (upd (upd (upd (upd (fun _ => (0 : Int32)) 0 (nI y7)) 1 (-1 : Int32)) 2 (nI y8)) 3 (0 : Int32)) 4 (0 : Int32)) 5 (0 : Int32))))])) (23 + (3)) (23 + (4 + ((1 + y1) + ((1 + y2) + (i190 + 0))))) (by omega) (two_get s_Y5) (fun i hi => ⟨_, _, _, two_get (s_P hi)⟩) (two_get (s_E.trans rfl))) gL_build_X2_with rfl (by decide +kernel) ⟨Nat.le_of_ble_eq_true rfl, Nat.le_of_ble_eq_true rfl⟩ rfl rfl hl.1 (Nat.le_of_ble_eq_true rfl) dL_build_303 (k2 := 44 + 6 * i190) (s2 := 505 + 64 * i190) (by show 43 + 6 * i190 + 1 = 44 + 6 * i190; omega) (by show 474 + 64 * i190 + 31 = 505 + 64 * i190; omega) ⟨(Nat.le_trans (show 44 + 6 * i190 ≤ 260 by omega) (Nat.le_of_ble_eq_true rfl)), (Nat.le_trans (show 505 + 64 * i190 ≤ 2800 by omega) (Nat.le_of_ble_eq_true rfl))⟩ (fun res w1 H locs hG hw => ?_)
          obtain ⟨q6, rfl, rfl⟩ := hG
          replace hw : Wo D A s.heap (wb_c h a a2 cI cZ (1 + y1) (1 + y2) (i190 + 1) (s_X1_board (1 + y1) (1 + y2) i190 T 0 0 0 ct_0 (nI y8) (nI y7)) 0 0 0 ct_0 ++ ws_s Z cI cL (1 + y1) (1 + y2) i190 (0 : Int32) (nI 20) (0 : Int32) Wr Br Pr [(q5, .inl (cI, 6, .inl (upd (upd (upd (upd (upd (upd (fun _ => (0 : Int32)) 0 (nI y7)) 1 (-1 : Int32)) 2 (nI y8)) 3 (0 : Int32)) 4 (0 : Int32)) 5 (0 : Int32)))), (q6, .inl (cL, i190 + 1, rf_s (ax (zp Z) i190 q5)))]) H locs := by have h9 := hw; rw [List.append_assoc, s_push] at h9; exact h9
          show W p l e rm_L_build s m args below meth c H locs (44 + 6 * i190) (505 + 64 * i190) (GE below args s D A (gb h a a2 cI cZ cL) rm_L_build) (F0 m 306 ls [.ref q6, .ref (zh Z)])
          refine g_put hc hw hi2 tyX2 tyX2_ok nmX2 (23 + (0)) 5 (two_get s_H) rfl (by decide) (List.mem_of_getElem? (i := 7) rfl) (by decide) rfl rfl (Nat.le_of_ble_eq_true rfl) (w' := (wb_c h a a2 cI cZ (1 + y1) (1 + y2) (i190 + 1) (s_X1_board (1 + y1) (1 + y2) i190 T 0 0 0 ct_0 (nI y8) (nI y7)) 0 0 0 ct_0 ++ (ws_s Z cI cL (1 + y1) (1 + y2) i190 (0 : Int32) (nI 20) (0 : Int32) Wr Br Pr [(q5, .inl (cI, 6, .inl (upd (upd (upd (upd (upd (upd (fun _ => (0 : Int32)) 0 (nI y7)) 1 (-1 : Int32)) 2 (nI y8)) 3 (0 : Int32)) 4 (0 : Int32)) 5 (0 : Int32)))), (q6, .inl (cL, i190 + 1, rf_s (ax (zp Z) i190 q5)))]).set 0 (zh Z, .inr (2, (wf_s Z (0 : Int32) (nI 20) (0 : Int32)).set 5 (.ref q6))))) (two_set rfl) dL_build_306 (fun H locs hw => ?_)
          replace hw := sh_P hw
          refine lv_iinc (v := (nI (i190 + 1))) (lv' := [(6, .int (nI (i190 + 1))), (9, .int (nI y8)), (8, .int (nI y7)), (7, .int (x6 >>> ((((nI i190) / (10 : Int32)) * (4 : Int32)) &&& 31))), (0, .ref h), (1, .ref b0), (2, .ref (zh Z)), (4, .int (nI (1 + y2))), (5, .int (nI y5))]) hx hb dL_build_309 hl (k := 8) rfl (inc_n i190) (by decide) rfl (fun ls hl => ?_)
          refine lv_goto (tgt := 190) hx hb dL_build_312 (by decide) ?_
          refine W.widen (show 44 + 6 * i190 ≤ 40 + 6 * (i190 + 1) by omega) (show 505 + 64 * i190 ≤ 456 + 64 * (i190 + 1) by omega) ?_
          exact k190 (s_X1_board (1 + y1) (1 + y2) i190 T 0 0 0 ct_0 (nI y8) (nI y7)) (sr Pr i190 (upd (upd (upd (upd (upd (upd (fun _ => (0 : Int32)) 0 (nI y7)) 1 (-1 : Int32)) 2 (nI y8)) 3 (0 : Int32)) 4 (0 : Int32)) 5 (0 : Int32))) (zP Z i190 q5 q6) hD2 hF2 H locs ls hw (lv_sub hl [4, 5, 6, 7, 8, 0] rfl)
        · refine lv_iconst (v := 0) hx hb dL_build_227 (by decide) ?_
          refine lv_goto (tgt := 240) hx hb dL_build_228 (by decide) ?_
          refine lv_istore (lv' := [(8, .int (0 : Int32)), (7, .int (x6 >>> ((((nI i190) / (10 : Int32)) * (4 : Int32)) &&& 31))), (0, .ref h), (1, .ref b0), (2, .ref (zh Z)), (4, .int (nI (1 + y2))), (5, .int (nI y5)), (6, .int (nI i190))]) hx hb dL_build_240 hl (by decide) rfl (fun ls hl => ?_)
          refine lv_iload hx hb dL_build_242 (lv_at hl 1 rfl) ?_
          refine lv_iconst (v := 5) hx hb dL_build_244 (by decide) ?_
          refine lv_ishr hx hb dL_build_245 ?_
          refine lv_iload hx hb dL_build_246 (lv_at hl 5 rfl) ?_
          refine g_callS0 (n := 2) (As := [.int ((x6 >>> ((((nI i190) / (10 : Int32)) * (4 : Int32)) &&& 31)) >>> ((5 : Int32) &&& 31)), .int (nI (1 + y2))]) (rest := []) hc hw (k_L_below l D cI cZ cL ((x6 >>> ((((nI i190) / (10 : Int32)) * (4 : Int32)) &&& 31)) >>> ((5 : Int32) &&& 31)) (1 + y2) (by omega) (by omega)) gL_build_L_below rfl (by decide +kernel) ⟨Nat.le_of_ble_eq_true rfl, Nat.le_of_ble_eq_true rfl⟩ rfl rfl hl.1 (Nat.le_of_ble_eq_true rfl) (st1 := [.int (nI (bl ((x6 >>> ((((nI i190) / (10 : Int32)) * (4 : Int32)) &&& 31)) >>> ((5 : Int32) &&& 31)) (1 + y2)))]) rfl dL_build_248 (k2 := 40 + 6 * i190) (s2 := 456 + 64 * i190) (by show 40 + 6 * i190 + 0 = 40 + 6 * i190; omega) (by show 456 + 64 * i190 + 0 = 456 + 64 * i190; omega) ⟨(Nat.le_trans (show 40 + 6 * i190 ≤ 260 by omega) (Nat.le_of_ble_eq_true rfl)), (Nat.le_trans (show 456 + 64 * i190 ≤ 2800 by omega) (Nat.le_of_ble_eq_true rfl))⟩ (fun H locs hw => ?_)
          obtain ⟨y9, hy9, ey9⟩ : ∃ v, v < (1 + y2) ∧ bl ((x6 >>> ((((nI i190) / (10 : Int32)) * (4 : Int32)) &&& 31)) >>> ((5 : Int32) &&& 31)) (1 + y2) = v := ⟨_, bl_lt _ (by omega), rfl⟩
          rw [ey9]
          refine lv_istore (lv' := [(9, .int (nI y9)), (8, .int (0 : Int32)), (7, .int (x6 >>> ((((nI i190) / (10 : Int32)) * (4 : Int32)) &&& 31))), (0, .ref h), (1, .ref b0), (2, .ref (zh Z)), (4, .int (nI (1 + y2))), (5, .int (nI y5)), (6, .int (nI i190))]) hx hb dL_build_251 hl (by decide) rfl (fun ls hl => ?_)
          refine lv_aload_n hx hb dL_build_253 rfl (lv_at hl 3 rfl) ?_
          refine lv_iload hx hb dL_build_254 (lv_at hl 0 rfl) ?_
          refine lv_iload hx hb dL_build_256 (lv_at hl 1 rfl) ?_
          obtain ⟨e1, e2, hD2, hF2⟩ := op_board (r := (upd (upd (upd (upd (upd (upd (fun _ => (0 : Int32)) 0 (0 : Int32)) 1 (-1 : Int32)) 2 (nI y9)) 3 (0 : Int32)) 4 (0 : Int32)) 5 (0 : Int32))) (w2 := 0) (b2 := 0) (n2 := 0) (T2 := ct_0) (by omega) (by omega) hD hF (show y9 < (1 + y2) by omega) (show 0 ≤ 9 by omega) rfl rfl rfl rfl rfl rfl
          refine G_callT (n := 2) (q0 := 0) (rest := []) hc hT hw.2.2 (Pt.front hw hA) ((k_X1_board hst D cI cZ cL h a a2 (1 + y1) (1 + y2) i190 T 0 0 0 ct_0 (by omega) (by omega) (by omega) (by omega) (by omega) (by omega) (nI y9) (nI 0)).to e1 (congrArg (fun v : Int32 => some (Value.int v)) e2)) gL_build_X1_board rfl (by decide +kernel) ⟨Nat.le_of_ble_eq_true rfl, Nat.le_of_ble_eq_true rfl⟩ rfl rfl rfl rfl rfl hl.1 (Nat.le_of_ble_eq_true rfl) (st1 := [.int (nI i190)]) rfl dL_build_258 (k2 := 42 + 6 * i190) (s2 := 468 + 64 * i190) (by show 40 + 6 * i190 + 2 = 42 + 6 * i190; omega) (by show 456 + 64 * i190 + 12 = 468 + 64 * i190; omega) ⟨(Nat.le_trans (show 42 + 6 * i190 ≤ 260 by omega) (Nat.le_of_ble_eq_true rfl)), (Nat.le_trans (show 468 + 64 * i190 ≤ 2800 by omega) (Nat.le_of_ble_eq_true rfl))⟩ (fun H locs hw => ?_)
          rw [if_neg (show ¬ (sm_B (0, 0, Wr, Br, Pr) y9 1 = 0) from hN y9 (by omega))] at hD2
          refine lv_iload hx hb dL_build_261 (lv_at hl 8 rfl) ?_
          refine lv_icmp_eq (tgt := 268) hx hb dL_build_263 (by decide) (fun _ => ?_) (fun z => absurd rfl z)
          refine lv_aload_n hx hb dL_build_268 rfl (lv_at hl 5 rfl) ?_
          refine lv_aload_n hx hb dL_build_269 rfl (lv_at hl 5 rfl) ?_
          refine g_get (v := .ref (zy Z 5)) hc hw hi2 (23 + (0)) 5 (two_get s_H) rfl (by decide) (List.mem_of_getElem? (i := 7) rfl) sv_5 dL_build_270 ?_
          refine lv_bipush (v := 6) hx hb dL_build_273 (by decide) ?_
          refine g_newI hc hw (N := 6) (List.mem_of_getElem? (i := 5) rfl) (by decide) (by decide) (by show 6 * 4 ≤ 536870912; omega) (Nat.le_trans (show 42 + 6 * i190 + 1 ≤ 260 by omega) (Nat.le_of_ble_eq_true rfl)) (Nat.le_trans (show 468 + 64 * i190 + 6 ≤ 2800 by omega) (Nat.le_of_ble_eq_true rfl)) dL_build_275 (fun q7 H locs hw => ?_)
          replace hw : Wo D A s.heap (wb_c h a a2 cI cZ (1 + y1) (1 + y2) (i190 + 1) (s_X1_board (1 + y1) (1 + y2) i190 T 0 0 0 ct_0 (nI y9) (nI 0)) 0 0 0 ct_0 ++ ws_s Z cI cL (1 + y1) (1 + y2) i190 (0 : Int32) (nI 20) (0 : Int32) Wr Br Pr [(q7, .inl (cI, 6, .inl (fun _ => (0 : Int32))))]) H locs := by have h9 := hw; rw [List.append_assoc, s_push] at h9; exact h9
          refine W.widen (show _ ≤ 43 + 6 * i190 by omega) (show 468 + 64 * i190 + 6 ≤ 474 + 64 * i190 by omega) ?_
          refine lv_dup hx hb dL_build_277 rfl ?_
          refine lv_iconst (v := 0) hx hb dL_build_278 (by decide) ?_
          refine lv_iload hx hb dL_build_279 (lv_at hl 1 rfl) ?_
          refine r_st (f := (fun _ => (0 : Int32))) (k := 0) hc hw (23 + (4 + ((1 + y1) + ((1 + y2) + (i190 + 0))))) (two_get (s_E.trans rfl)) (by unfold vp_in; decide) (by decide) (w' := (wb_c h a a2 cI cZ (1 + y1) (1 + y2) (i190 + 1) (s_X1_board (1 + y1) (1 + y2) i190 T 0 0 0 ct_0 (nI y9) (nI 0)) 0 0 0 ct_0 ++ ws_s Z cI cL (1 + y1) (1 + y2) i190 (0 : Int32) (nI 20) (0 : Int32) Wr Br Pr [(q7, .inl (cI, 6, .inl (upd (fun _ => (0 : Int32)) 0 (0 : Int32))))])) (two_set (su_E rfl)) dL_build_281 (fun H locs hw => ?_)
          refine lv_dup hx hb dL_build_282 rfl ?_
          refine lv_iconst (v := 1) hx hb dL_build_283 (by decide) ?_
          refine lv_iconst (v := -1) hx hb dL_build_284 (by decide) ?_
          refine r_st (f := (upd (fun _ => (0 : Int32)) 0 (0 : Int32))) (k := 1) hc hw (23 + (4 + ((1 + y1) + ((1 + y2) + (i190 + 0))))) (two_get (s_E.trans rfl)) (by unfold vp_in; decide) (by decide) (w' := (wb_c h a a2 cI cZ (1 + y1) (1 + y2) (i190 + 1) (s_X1_board (1 + y1) (1 + y2) i190 T 0 0 0 ct_0 (nI y9) (nI 0)) 0 0 0 ct_0 ++ ws_s Z cI cL (1 + y1) (1 + y2) i190 (0 : Int32) (nI 20) (0 : Int32) Wr Br Pr [(q7, .inl (cI, 6, .inl (upd (upd (fun _ => (0 : Int32)) 0 (0 : Int32)) 1 (-1 : Int32))))])) (two_set (su_E rfl)) dL_build_285 (fun H locs hw => ?_)
          refine lv_dup hx hb dL_build_286 rfl ?_
          refine lv_iconst (v := 2) hx hb dL_build_287 (by decide) ?_
          refine lv_iload hx hb dL_build_288 (lv_at hl 0 rfl) ?_
          refine r_st (f := (upd (upd (fun _ => (0 : Int32)) 0 (0 : Int32)) 1 (-1 : Int32))) (k := 2) hc hw (23 + (4 + ((1 + y1) + ((1 + y2) + (i190 + 0))))) (two_get (s_E.trans rfl)) (by unfold vp_in; decide) (by decide) (w' := (wb_c h a a2 cI cZ (1 + y1) (1 + y2) (i190 + 1) (s_X1_board (1 + y1) (1 + y2) i190 T 0 0 0 ct_0 (nI y9) (nI 0)) 0 0 0 ct_0 ++ ws_s Z cI cL (1 + y1) (1 + y2) i190 (0 : Int32) (nI 20) (0 : Int32) Wr Br Pr [(q7, .inl (cI, 6, .inl (upd (upd (upd (fun _ => (0 : Int32)) 0 (0 : Int32)) 1 (-1 : Int32)) 2 (nI y9))))])) (two_set (su_E rfl)) dL_build_290 (fun H locs hw => ?_)
          refine lv_dup hx hb dL_build_291 rfl ?_
          refine lv_iconst (v := 3) hx hb dL_build_292 (by decide) ?_
          refine lv_iconst (v := 0) hx hb dL_build_293 (by decide) ?_
          refine r_st (f := (upd (upd (upd (fun _ => (0 : Int32)) 0 (0 : Int32)) 1 (-1 : Int32)) 2 (nI y9))) (k := 3) hc hw (23 + (4 + ((1 + y1) + ((1 + y2) + (i190 + 0))))) (two_get (s_E.trans rfl)) (by unfold vp_in; decide) (by decide) (w' := (wb_c h a a2 cI cZ (1 + y1) (1 + y2) (i190 + 1) (s_X1_board (1 + y1) (1 + y2) i190 T 0 0 0 ct_0 (nI y9) (nI 0)) 0 0 0 ct_0 ++ ws_s Z cI cL (1 + y1) (1 + y2) i190 (0 : Int32) (nI 20) (0 : Int32) Wr Br Pr [(q7, .inl (cI, 6, .inl (upd (upd (upd (upd (fun _ => (0 : Int32)) 0 (0 : Int32)) 1 (-1 : Int32)) 2 (nI y9)) 3 (0 : Int32))))])) (two_set (su_E rfl)) dL_build_294 (fun H locs hw => ?_)
          refine lv_dup hx hb dL_build_295 rfl ?_
          refine lv_iconst (v := 4) hx hb dL_build_296 (by decide) ?_
          refine lv_iconst (v := 0) hx hb dL_build_297 (by decide) ?_
          refine r_st (f := (upd (upd (upd (upd (fun _ => (0 : Int32)) 0 (0 : Int32)) 1 (-1 : Int32)) 2 (nI y9)) 3 (0 : Int32))) (k := 4) hc hw (23 + (4 + ((1 + y1) + ((1 + y2) + (i190 + 0))))) (two_get (s_E.trans rfl)) (by unfold vp_in; decide) (by decide) (w' := (wb_c h a a2 cI cZ (1 + y1) (1 + y2) (i190 + 1) (s_X1_board (1 + y1) (1 + y2) i190 T 0 0 0 ct_0 (nI y9) (nI 0)) 0 0 0 ct_0 ++ ws_s Z cI cL (1 + y1) (1 + y2) i190 (0 : Int32) (nI 20) (0 : Int32) Wr Br Pr [(q7, .inl (cI, 6, .inl (upd (upd (upd (upd (upd (fun _ => (0 : Int32)) 0 (0 : Int32)) 1 (-1 : Int32)) 2 (nI y9)) 3 (0 : Int32)) 4 (0 : Int32))))])) (two_set (su_E rfl)) dL_build_298 (fun H locs hw => ?_)
          refine lv_dup hx hb dL_build_299 rfl ?_
          refine lv_iconst (v := 5) hx hb dL_build_300 (by decide) ?_
          refine lv_iconst (v := 0) hx hb dL_build_301 (by decide) ?_
          refine r_st (f := (upd (upd (upd (upd (upd (fun _ => (0 : Int32)) 0 (0 : Int32)) 1 (-1 : Int32)) 2 (nI y9)) 3 (0 : Int32)) 4 (0 : Int32))) (k := 5) hc hw (23 + (4 + ((1 + y1) + ((1 + y2) + (i190 + 0))))) (two_get (s_E.trans rfl)) (by unfold vp_in; decide) (by decide) (w' := (wb_c h a a2 cI cZ (1 + y1) (1 + y2) (i190 + 1) (s_X1_board (1 + y1) (1 + y2) i190 T 0 0 0 ct_0 (nI y9) (nI 0)) 0 0 0 ct_0 ++ ws_s Z cI cL (1 + y1) (1 + y2) i190 (0 : Int32) (nI 20) (0 : Int32) Wr Br Pr [(q7, .inl (cI, 6, .inl (upd (upd (upd (upd (upd (upd (fun _ => (0 : Int32)) 0 (0 : Int32)) 1 (-1 : Int32)) 2 (nI y9)) 3 (0 : Int32)) 4 (0 : Int32)) 5 (0 : Int32))))])) (two_set (su_E rfl)) dL_build_302 (fun H locs hw => ?_)
          refine G_callS (n := 2) (As := [.ref (zy Z 5), .ref q7]) (rest := [.ref (zh Z)]) hc hT hw.2.2 (Pt.all hw hA) (k_X2_with l D cI cZ cL (k := i190) (w0 := (wb_c h a a2 cI cZ (1 + y1) (1 + y2) (i190 + 1) (s_X1_board (1 + y1) (1 + y2) i190 T 0 0 0 ct_0 (nI y9) (nI 0)) 0 0 0 ct_0 ++ ws_s Z cI cL (1 + y1) (1 + y2) i190 (0 : Int32) (nI 20) (0 : Int32) Wr Br Pr [(q7, .inl (cI, 6, .inl (upd (upd (upd (upd (upd (upd (fun _ => (0 : Int32)) 0 (0 : Int32)) 1 (-1 : Int32)) 2 (nI y9)) 3 (0 : Int32)) 4 (0 : Int32)) 5 (0 : Int32))))])) (23 + (3)) (23 + (4 + ((1 + y1) + ((1 + y2) + (i190 + 0))))) (by omega) (two_get s_Y5) (fun i hi => ⟨_, _, _, two_get (s_P hi)⟩) (two_get (s_E.trans rfl))) gL_build_X2_with rfl (by decide +kernel) ⟨Nat.le_of_ble_eq_true rfl, Nat.le_of_ble_eq_true rfl⟩ rfl rfl hl.1 (Nat.le_of_ble_eq_true rfl) dL_build_303 (k2 := 44 + 6 * i190) (s2 := 505 + 64 * i190) (by show 43 + 6 * i190 + 1 = 44 + 6 * i190; omega) (by show 474 + 64 * i190 + 31 = 505 + 64 * i190; omega) ⟨(Nat.le_trans (show 44 + 6 * i190 ≤ 260 by omega) (Nat.le_of_ble_eq_true rfl)), (Nat.le_trans (show 505 + 64 * i190 ≤ 2800 by omega) (Nat.le_of_ble_eq_true rfl))⟩ (fun res w1 H locs hG hw => ?_)
          obtain ⟨q8, rfl, rfl⟩ := hG
          replace hw : Wo D A s.heap (wb_c h a a2 cI cZ (1 + y1) (1 + y2) (i190 + 1) (s_X1_board (1 + y1) (1 + y2) i190 T 0 0 0 ct_0 (nI y9) (nI 0)) 0 0 0 ct_0 ++ ws_s Z cI cL (1 + y1) (1 + y2) i190 (0 : Int32) (nI 20) (0 : Int32) Wr Br Pr [(q7, .inl (cI, 6, .inl (upd (upd (upd (upd (upd (upd (fun _ => (0 : Int32)) 0 (0 : Int32)) 1 (-1 : Int32)) 2 (nI y9)) 3 (0 : Int32)) 4 (0 : Int32)) 5 (0 : Int32)))), (q8, .inl (cL, i190 + 1, rf_s (ax (zp Z) i190 q7)))]) H locs := by have h9 := hw; rw [List.append_assoc, s_push] at h9; exact h9
          show W p l e rm_L_build s m args below meth c H locs (44 + 6 * i190) (505 + 64 * i190) (GE below args s D A (gb h a a2 cI cZ cL) rm_L_build) (F0 m 306 ls [.ref q8, .ref (zh Z)])
          refine g_put hc hw hi2 tyX2 tyX2_ok nmX2 (23 + (0)) 5 (two_get s_H) rfl (by decide) (List.mem_of_getElem? (i := 7) rfl) (by decide) rfl rfl (Nat.le_of_ble_eq_true rfl) (w' := (wb_c h a a2 cI cZ (1 + y1) (1 + y2) (i190 + 1) (s_X1_board (1 + y1) (1 + y2) i190 T 0 0 0 ct_0 (nI y9) (nI 0)) 0 0 0 ct_0 ++ (ws_s Z cI cL (1 + y1) (1 + y2) i190 (0 : Int32) (nI 20) (0 : Int32) Wr Br Pr [(q7, .inl (cI, 6, .inl (upd (upd (upd (upd (upd (upd (fun _ => (0 : Int32)) 0 (0 : Int32)) 1 (-1 : Int32)) 2 (nI y9)) 3 (0 : Int32)) 4 (0 : Int32)) 5 (0 : Int32)))), (q8, .inl (cL, i190 + 1, rf_s (ax (zp Z) i190 q7)))]).set 0 (zh Z, .inr (2, (wf_s Z (0 : Int32) (nI 20) (0 : Int32)).set 5 (.ref q8))))) (two_set rfl) dL_build_306 (fun H locs hw => ?_)
          replace hw := sh_P hw
          refine lv_iinc (v := (nI (i190 + 1))) (lv' := [(6, .int (nI (i190 + 1))), (9, .int (nI y9)), (8, .int (0 : Int32)), (7, .int (x6 >>> ((((nI i190) / (10 : Int32)) * (4 : Int32)) &&& 31))), (0, .ref h), (1, .ref b0), (2, .ref (zh Z)), (4, .int (nI (1 + y2))), (5, .int (nI y5))]) hx hb dL_build_309 hl (k := 8) rfl (inc_n i190) (by decide) rfl (fun ls hl => ?_)
          refine lv_goto (tgt := 190) hx hb dL_build_312 (by decide) ?_
          refine W.widen (show 44 + 6 * i190 ≤ 40 + 6 * (i190 + 1) by omega) (show 505 + 64 * i190 ≤ 456 + 64 * (i190 + 1) by omega) ?_
          exact k190 (s_X1_board (1 + y1) (1 + y2) i190 T 0 0 0 ct_0 (nI y9) (nI 0)) (sr Pr i190 (upd (upd (upd (upd (upd (upd (fun _ => (0 : Int32)) 0 (0 : Int32)) 1 (-1 : Int32)) 2 (nI y9)) 3 (0 : Int32)) 4 (0 : Int32)) 5 (0 : Int32))) (zP Z i190 q7 q8) hD2 hF2 H locs ls hw (lv_sub hl [4, 5, 6, 7, 8, 0] rfl)
      · intro T Pr Z hD hF H locs ls hw hl
        refine lv_iload hx hb dL_build_190 (lv_at hl 5 rfl) ?_
        refine lv_iload hx hb dL_build_192 (lv_at hl 4 rfl) ?_
        refine lv_icmp_ge (tgt := 315) hx hb dL_build_194 (by decide) (fun _ => ?_) (fun z => absurd (nI_le (Nat.le_refl _) (by omega)) z)
        refine W.widen (show 40 + 6 * y5 ≤ 184 by omega) (show 456 + 64 * y5 ≤ 1992 by omega) ?_
        refine lv_aload_n hx hb dL_build_315 rfl (lv_at hl 2 rfl) ?_
        exact G_aret (Or.inl ⟨_, rfl⟩) hc hw ⟨1 + y1, 1 + y2, y5, T, (0, 0, Wr, Br, Pr), Z, by omega, by omega, by omega, by omega, by omega, hD, hF, rfl, rfl⟩ (Nat.le_trans (show 184 ≤ 260 by omega) (Nat.le_of_ble_eq_true rfl)) (Nat.le_trans (show 1992 ≤ 2800 by omega) (Nat.le_of_ble_eq_true rfl)) dL_build_316
