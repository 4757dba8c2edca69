/-! 12.h1: with, the constructor, below, cell; contracts of methods that are given the script -/
section SM
theorem at_app {w0 X : va_W} {k : Nat} {x : Nat × va_E} (h : w0[k]? = some x) : (w0 ++ X)[k]? = some x := by
  rw [List.getElem?_append_left (List.getElem?_eq_some_iff.mp h).1]; exact h
theorem at_last {w0 : va_W} {x : Nat × va_E} : (w0 ++ [x])[w0.length]? = some x := by simp
theorem set_last {w0 : va_W} {x y : Nat × va_E} : (w0 ++ [x]).set w0.length y = w0 ++ [y] := by simp
theorem Wo.cong {D : va_G} {A : Nat → Prop} {H0 H : Heap} {X Y : va_W} {q : Nat} {cA : ClassId} {x y : vp_A} {locs : List Loc} (h : vp_cell cA x = vp_cell cA y) (hw : Wo D A H0 (X ++ ((q, .inl (cA, x)) :: Y)) H locs) : Wo D A H0 (X ++ ((q, .inl (cA, y)) :: Y)) H locs := by
  obtain ⟨hP, hD, hS⟩ := hw
  have hP1 := va_P_iff.mp hP
  obtain ⟨d1, d2⟩ := va_D_iff.mp hD
  have e0 : H[q]? = some (vp_cell cA x) := hP1 (q, .inl (cA, x)) (by simp)
  refine ⟨va_P_iff.mpr (fun z hz => ?_), va_D_iff.mpr ⟨?_, fun z hz => ?_⟩, hS⟩
  · rcases List.mem_append.mp hz with h1 | h1
    · exact hP1 z (List.mem_append_left _ h1)
    · rcases List.mem_cons.mp h1 with rfl | h2
      · show H[q]? = some (vp_cell cA y)
        rw [← h]; exact e0
      · exact hP1 z (List.mem_append_right _ (List.mem_cons_of_mem _ h2))
  · rw [List.pairwise_append, List.pairwise_cons] at d1 ⊢
    obtain ⟨a1, ⟨a2, a3⟩, a4⟩ := d1
    refine ⟨a1, ⟨a2, a3⟩, fun p hp z hz => ?_⟩
    rcases List.mem_cons.mp hz with rfl | h2
    · exact a4 p hp (q, .inl (cA, x)) List.mem_cons_self
    · exact a4 p hp z (List.mem_cons_of_mem _ h2)
  · rcases List.mem_append.mp hz with h1 | h1
    · exact d2 z (List.mem_append_left _ h1)
    · rcases List.mem_cons.mp h1 with rfl | h2
      · exact d2 (q, .inl (cA, x)) (by simp)
      · exact d2 z (List.mem_append_right _ (List.mem_cons_of_mem _ h2))
theorem Pt.all {D : va_G} {A : Nat → Prop} {H0 H : Heap} {ws : va_W} {locs : List Loc} (hw : Wo D A H0 ws H locs) (hA : ∀ q, H0.size ≤ q → A q) : Pt D A H0 H ws (fun w1 => w1) := by
  have h := Pt.front (wc := ws) (wr := []) (by rw [List.append_nil]; exact hw) hA
  exact ⟨h.1, h.2.1, h.2.2.1, fun w1 H1 l1 h1 h2 h3 h4 => by have h9 : Wo D A H0 (w1 ++ []) H1 l1 := h.2.2.2 w1 H1 l1 h1 h2 h3 h4; rw [List.append_nil] at h9; exact h9⟩
/-- the addresses with one more at the end -/
def ax (a : Nat → Nat) (k o : Nat) : Nat → Nat := fun i => if i = k then o else a i
def bx (a : Nat → Nat) (i : Nat) : Nat → Option Nat := fun j => if j < i then some (a j) else none
theorem bx_0 (a : Nat → Nat) : bx a 0 = fun _ => none := by funext j; exact if_neg (Nat.not_lt_zero j)
theorem bx_s (a : Nat → Nat) (i : Nat) : va_up (bx a i) i (some (a i)) = bx a (i + 1) := by
  funext j
  unfold va_up bx
  by_cases h : j = i
  · subst h; rw [if_pos rfl, if_pos (Nat.lt_succ_self j)]
  · rw [if_neg h]
    by_cases h2 : j < i
    · rw [if_pos h2, if_pos (by omega)]
    · rw [if_neg h2, if_neg (by omega)]
theorem bx_o (a : Nat → Nat) (k o : Nat) : ∀ i, i < k + 1 → va_up (bx a k) k (some o) i = some (ax a k o i) := by
  intro i hi
  unfold va_up bx ax
  by_cases h : i = k
  · rw [if_pos h, if_pos h]
  · rw [if_neg h, if_neg h, if_pos (by omega)]
abbrev rm_X2_with : Room := { frames := 0, cells := 1, slots := 31, locals := 0 }
set_option maxHeartbeats 4000000 in
set_option maxRecDepth 100000 in
theorem k_X2_with (l : Launch) (D : va_G) (cI cZ cL : ClassId) {r o k m1 : Nat} {a : Nat → Nat} {g : Nat → Int32} {w0 : va_W} (q0 q1 : Nat) (hk : k ≤ 30) (h0 : w0[q0]? = some (r, .inl (cL, k, rf_s a))) (hrow : ∀ i, i < k → ∃ (qi mi : Nat) (f : Nat → Int32), w0[qi]? = some (a i, .inl (cI, mi, .inl f))) (ho : w0[q1]? = some (o, .inl (cI, m1, .inl g))) : MG l yX2_with wsX2_with rm_X2_with D cI cZ cL [.ref r, .ref o] w0 (fun res w1 => ∃ q, res = some (.ref q) ∧ w1 = w0 ++ [(q, .inl (cL, k + 1, rf_s (ax a k o)))]) := by
  refine MG.of (own := RX2) (cc := cX2_with) (maxL := 4) (ret := some (.array (.array .int))) (lv0 := [(0, .ref r), (1, .ref o)]) (by decide) rfl rfl (Nat.le_of_ble_eq_true rfl) rfl ?_
  intro p e s m args below meth c A hc hT hnm hw ls hl
  obtain ⟨hx, hb, hr, hml, hown, hts, hlk, hK, hA⟩ := id hc
  refine lv_aload_n hx hb dX2_with_0 rfl (lv_at hl 0 rfl) ?_
  refine va_alen (v := nI k) hx hb hK.1 hw.1 q0 2 h0 rfl rfl dX2_with_1 ?_
  refine lv_iconst (v := 1) hx hb dX2_with_2 (by decide) ?_
  refine lv_iadd hx hb dX2_with_3 ?_
  rw [nI_1 k]
  refine g_anew hc hw (N := k + 1) (List.mem_of_getElem? (i := 1) rfl) (nI_pos (by omega)) (nI_clamp (by omega)) (by omega) (Nat.le_of_ble_eq_true rfl) (Nat.le_trans (show 0 + (k + 1) ≤ 31 by omega) (Nat.le_of_ble_eq_true rfl)) dX2_with_4 (fun q H locs hw => ?_)
  refine lv_astore_n (lv' := [(2, .ref q), (0, .ref r), (1, .ref o)]) hx hb dX2_with_7 rfl hl (by decide) rfl (fun ls hl => ?_)
  refine lv_iconst (v := 0) hx hb dX2_with_8 (by decide) ?_
  refine lv_istore_n (lv' := [(3, .int 0), (2, .ref q), (0, .ref r), (1, .ref o)]) hx hb dX2_with_9 rfl hl (by decide) rfl (fun ls hl => ?_)
  rw [← bx_0 a] at hw
  refine lp_go0 (fun i => ∀ (H : Heap) (locs : List Loc) (ls : Array Slot), Wo D A s.heap (w0 ++ [(q, .inl (cL, k + 1, .inr (.inr (.inr (.inr (bx a i))))))]) H locs → lv_has ls 4 [(0, .ref r), (1, .ref o), (2, .ref q), (3, .int (nI i))] → W p l e rm_X2_with s m args below meth c H locs (0 + 1) (0 + (k + 1)) (GE below args s D A (fun res w1 => ∃ q, res = some (.ref q) ∧ w1 = w0 ++ [(q, .inl (cL, k + 1, rf_s (ax a k o)))]) rm_X2_with) (F0 m 10 ls [])) k ?_ ?_ H locs ls hw (lv_sub hl [2, 3, 1, 0] rfl)
  · intro i hi kk H locs ls hw hl
    refine lv_iload_n hx hb dX2_with_10 rfl (lv_at hl 3 rfl) ?_
    refine lv_aload_n hx hb dX2_with_11 rfl (lv_at hl 0 rfl) ?_
    refine va_alen (v := nI k) hx hb hK.1 hw.1 q0 2 (at_app h0) rfl rfl dX2_with_12 ?_
    refine lv_icmp_ge (tgt := 28) hx hb dX2_with_13 (by decide) (fun z => absurd z (nI_ge hi (by omega))) (fun _ => ?_)
    refine lv_aload_n hx hb dX2_with_16 rfl (lv_at hl 2 rfl) ?_
    refine lv_iload_n hx hb dX2_with_17 rfl (lv_at hl 3 rfl) ?_
    refine lv_aload_n hx hb dX2_with_18 rfl (lv_at hl 0 rfl) ?_
    refine lv_iload_n hx hb dX2_with_19 rfl (lv_at hl 3 rfl) ?_
    refine g_aald (v := a i) hc hw q0 (at_app h0) (vp_in_nI hi (by omega)) (congrArg (fun q => some (a q)) (nI_clamp (show i < 2 ^ 31 by omega))) dX2_with_20 ?_
    obtain ⟨qi, mi, f, hf⟩ := hrow i hi
    refine g_aast (w' := w0 ++ [(q, .inl (cL, k + 1, .inr (.inr (.inr (.inr (bx a (i + 1)))))))]) hc hw w0.length qi at_last (at_app hf) (vp_in_nI (show i < k + 1 by omega) (by omega)) (by rw [nI_clamp (show i < 2 ^ 31 by omega), bx_s]; exact set_last) dX2_with_21 (fun H locs hw => ?_)
    refine lv_iinc (v := (nI (i + 1))) (lv' := [(3, .int (nI (i + 1))), (0, .ref r), (1, .ref o), (2, .ref q)]) hx hb dX2_with_22 hl (k := 3) rfl (inc_n i) (by decide) rfl (fun ls hl => ?_)
    refine lv_goto (tgt := 10) hx hb dX2_with_25 (by decide) ?_
    exact kk H locs ls hw (lv_sub hl [1, 2, 3, 0] rfl)
  · intro H locs ls hw hl
    refine lv_iload_n hx hb dX2_with_10 rfl (lv_at hl 3 rfl) ?_
    refine lv_aload_n hx hb dX2_with_11 rfl (lv_at hl 0 rfl) ?_
    refine va_alen (v := nI k) hx hb hK.1 hw.1 q0 2 (at_app h0) rfl rfl dX2_with_12 ?_
    refine lv_icmp_ge (tgt := 28) hx hb dX2_with_13 (by decide) (fun _ => ?_) (fun z => absurd (nI_le (Nat.le_refl _) (by omega)) z)
    refine lv_aload_n hx hb dX2_with_28 rfl (lv_at hl 2 rfl) ?_
    refine lv_aload_n hx hb dX2_with_29 rfl (lv_at hl 0 rfl) ?_
    refine va_alen (v := nI k) hx hb hK.1 hw.1 q0 2 (at_app h0) rfl rfl dX2_with_30 ?_
    refine lv_aload_n hx hb dX2_with_31 rfl (lv_at hl 1 rfl) ?_
    refine g_aast (w' := w0 ++ [(q, .inl (cL, k + 1, .inr (.inr (.inr (.inr (va_up (bx a k) k (some o)))))))]) hc hw w0.length q1 at_last (at_app ho) (vp_in_nI (show k < k + 1 by omega) (by omega)) (by rw [nI_clamp (show k < 2 ^ 31 by omega)]; exact set_last) dX2_with_32 (fun H locs hw => ?_)
    refine lv_aload_n hx hb dX2_with_33 rfl (lv_at hl 2 rfl) ?_
    have hw2 := Wo.cong (X := w0) (Y := []) (va_cellq (bx_o a k o)) hw
    exact G_aret (Or.inr ⟨_, rfl⟩) hc hw2 ⟨q, rfl, rfl⟩ (Nat.le_of_ble_eq_true rfl) (Nat.le_trans (show 0 + (k + 1) ≤ 31 by omega) (Nat.le_of_ble_eq_true rfl)) dX2_with_34
abbrev gx_f2 : List Value := [.int 0, .int 0, .int 0, .null, .null, .null]
def zz0 : Nat → Nat → Int32 := fun _ _ => 0
abbrev rm_X2_init : Room := { frames := 1, cells := 3, slots := 0, locals := 20 }
set_option maxHeartbeats 4000000 in
set_option maxRecDepth 100000 in
theorem k_X2_init (l : Launch) (D : va_G) (cI cZ cL : ClassId) (h : Nat) : MG l yX2_init wsX2_init rm_X2_init D cI cZ cL [.ref h] [(h, .inr (2, gx_f2))] (fun res w1 => ∃ Z : sA, zh Z = h ∧ res = none ∧ w1 = ws_s Z cI cL 0 0 0 0 20 0 zz0 zz0 zz0 []) := by
  refine MG.of (own := RX2) (cc := cX2_init) (maxL := 1) (ret := none) (lv0 := [(0, .ref h)]) (by decide) rfl rfl (Nat.le_of_ble_eq_true rfl) rfl ?_
  intro p e s m args below meth c A hc hT hnm hw ls hl
  obtain ⟨hx, hb, hr, hml, hown, hts, hlk, hK, hA⟩ := id hc
  have hi2 : ∀ w ∈ u_ws RX2 TX2 6, w ∈ wsX2_init := fun _ h => List.mem_cons_of_mem _ (List.mem_append_right _ h)
  refine lv_aload_n hx hb dX2_init_0 rfl (lv_at hl 0 rfl) ?_
  refine g_obj hc hl.1 (List.mem_of_getElem? (i := 1) rfl) (List.mem_of_getElem? (i := 2) rfl) (List.mem_of_getElem? (i := 3) rfl) (Nat.le_of_ble_eq_true rfl) (Nat.le_of_ble_eq_true rfl) dX2_init_1 ?_
  refine lv_aload_n hx hb dX2_init_4 rfl (lv_at hl 0 rfl) ?_
  refine lv_bipush (v := 20) hx hb dX2_init_5 (by decide) ?_
  refine g_put hc hw hi2 tyX2 tyX2_ok nmX2 0 1 rfl rfl (by decide) (List.mem_of_getElem? (i := 4) rfl) (by decide) rfl rfl (Nat.le_of_ble_eq_true rfl) (w' := [(h, .inr (2, [.int 0, .int 20, .int 0, .null, .null, .null]))]) rfl dX2_init_7 (fun H locs hw => ?_)
  refine lv_aload_n hx hb dX2_init_10 rfl (lv_at hl 0 rfl) ?_
  refine lv_iconst (v := 0) hx hb dX2_init_11 (by decide) ?_
  refine g_anew hc hw (N := 0) (List.mem_of_getElem? (i := 5) rfl) (by decide) (by decide) (by decide) (Nat.le_of_ble_eq_true rfl) (Nat.le_of_ble_eq_true rfl) dX2_init_12 (fun q3 H locs hw => ?_)
  refine g_put hc hw hi2 tyX2 tyX2_ok nmX2 0 3 rfl rfl (by decide) (List.mem_of_getElem? (i := 6) rfl) (by decide) rfl rfl (Nat.le_of_ble_eq_true rfl) (w' := [(h, .inr (2, [.int 0, .int 20, .int 0, .ref q3, .null, .null])), (q3, .inl (cL, 0, .inr (.inr (.inr (.inr (fun _ => none))))))]) rfl dX2_init_15 (fun H locs hw => ?_)
  refine lv_aload_n hx hb dX2_init_18 rfl (lv_at hl 0 rfl) ?_
  refine lv_iconst (v := 0) hx hb dX2_init_19 (by decide) ?_
  refine g_anew hc hw (N := 0) (List.mem_of_getElem? (i := 5) rfl) (by decide) (by decide) (by decide) (Nat.le_of_ble_eq_true rfl) (Nat.le_of_ble_eq_true rfl) dX2_init_20 (fun q4 H locs hw => ?_)
  refine g_put hc hw hi2 tyX2 tyX2_ok nmX2 0 4 rfl rfl (by decide) (List.mem_of_getElem? (i := 7) rfl) (by decide) rfl rfl (Nat.le_of_ble_eq_true rfl) (w' := [(h, .inr (2, [.int 0, .int 20, .int 0, .ref q3, .ref q4, .null])), (q3, .inl (cL, 0, .inr (.inr (.inr (.inr (fun _ => none)))))), (q4, .inl (cL, 0, .inr (.inr (.inr (.inr (fun _ => none))))))]) rfl dX2_init_23 (fun H locs hw => ?_)
  refine lv_aload_n hx hb dX2_init_26 rfl (lv_at hl 0 rfl) ?_
  refine lv_iconst (v := 0) hx hb dX2_init_27 (by decide) ?_
  refine g_anew hc hw (N := 0) (List.mem_of_getElem? (i := 5) rfl) (by decide) (by decide) (by decide) (Nat.le_of_ble_eq_true rfl) (Nat.le_of_ble_eq_true rfl) dX2_init_28 (fun q5 H locs hw => ?_)
  refine g_put hc hw hi2 tyX2 tyX2_ok nmX2 0 5 rfl rfl (by decide) (List.mem_of_getElem? (i := 8) rfl) (by decide) rfl rfl (Nat.le_of_ble_eq_true rfl) (w' := [(h, .inr (2, [.int 0, .int 20, .int 0, .ref q3, .ref q4, .ref q5])), (q3, .inl (cL, 0, .inr (.inr (.inr (.inr (fun _ => none)))))), (q4, .inl (cL, 0, .inr (.inr (.inr (.inr (fun _ => none)))))), (q5, .inl (cL, 0, .inr (.inr (.inr (.inr (fun _ => none))))))]) rfl dX2_init_31 (fun H locs hw => ?_)
  have e0 : ∀ a : Nat → Nat, vp_cell cL (0, .inr (.inr (.inr (.inr (fun _ => none))))) = vp_cell cL (0, rf_s a) := fun a => va_cellq (fun i hi => absurd hi (Nat.not_lt_zero i))
  have h1 := Wo.cong (X := [(h, .inr (2, [.int 0, .int 20, .int 0, .ref q3, .ref q4, .ref q5]))]) (e0 (fun _ => 0)) hw
  have h2 := Wo.cong (X := [(h, .inr (2, [.int 0, .int 20, .int 0, .ref q3, .ref q4, .ref q5])), (q3, .inl (cL, 0, rf_s (fun _ => 0)))]) (e0 (fun _ => 0)) h1
  have h3 := Wo.cong (X := [(h, .inr (2, [.int 0, .int 20, .int 0, .ref q3, .ref q4, .ref q5])), (q3, .inl (cL, 0, rf_s (fun _ => 0))), (q4, .inl (cL, 0, rf_s (fun _ => 0)))]) (e0 (fun _ => 0)) h2
  exact G_vret hc h3 ⟨(h, (fun k => match k with | 3 => q3 | 4 => q4 | _ => q5), (fun _ => 0), (fun _ => 0), (fun _ => 0)), rfl, rfl, rfl⟩ (Nat.le_of_ble_eq_true rfl) (Nat.le_of_ble_eq_true rfl) dX2_init_34
/-- what below answers: a number under k -/
def bl (x : Int32) (k : Nat) : Nat := (x &&& 2147483647).toNatClampNeg % k
theorem bl_lt (x : Int32) {k : Nat} (h : 0 < k) : bl x k < k := Nat.mod_lt _ h
theorem i_sub' {a c : Nat} (h : c ≤ a) : nI a - nI c = nI (a - c) := by
  have h1 : nI (a - c) + nI c = nI a := by rw [nI_add]; congr 1; omega
  rw [← h1]; grind
theorem bl_rem (x : Int32) {k : Nat} (h : 0 < k) (hk : k < 2 ^ 31) : (x &&& 2147483647) - (x &&& 2147483647) / nI k * nI k = nI (bl x k) := by
  obtain ⟨j, hj, e⟩ := pk_andE x (m := 2147483647) 31 (by decide)
  unfold bl
  rw [e, nI_clamp hj]
  have e1 : nI j / nI k = nI (j / k) := (Int32.ofNat_div hj hk).symm
  have e2 : nI (j / k) * nI k = nI (j / k * k) := (Int32.ofNat_mul (j / k) k).symm
  have hle : j / k * k ≤ j := Nat.div_mul_le_self j k
  rw [e1, e2, i_sub' hle]
  congr 1
  have := Nat.div_add_mod' j k
  omega
abbrev rm_L_below : Room := { frames := 0, cells := 0, slots := 0, locals := 0 }
theorem k_L_below (l : Launch) (D : va_G) (cI cZ cL : ClassId) (x1 : Int32) (k : Nat) (h0 : 0 < k) (hk : k < 2 ^ 31) : MX l yL_below wsL_below rm_L_below D cI cZ cL [.int x1, .int (nI k)] [] (some (.int (nI (bl x1 k)))) [] := by
  refine MX.of (own := RL) (cc := cL_below) (maxL := 2) (ret := (some .int)) (lv0 := [(0, .int x1), (1, .int (nI k))]) (by decide) rfl rfl (Nat.le_of_ble_eq_true rfl) rfl ?_
  intro p e s m args below meth c A hc hnm hw ls hl
  obtain ⟨hx, hb, hr, hml, hown, hts, hlk, hK, hA⟩ := id hc
  refine lv_iload_n hx hb dL_below_0 rfl (lv_at hl 0 rfl) ?_
  refine lv_ldc hx hb hown (hts _ (List.mem_of_getElem? (i := 1) rfl)) dL_below_1 ?_
  refine lv_iand hx hb dL_below_3 ?_
  refine lv_iload_n hx hb dL_below_4 rfl (lv_at hl 1 rfl) ?_
  refine lv_irem hx hb dL_below_5 (nI_ne0 h0 hk) ?_
  exact g_ret hc hw (by rw [bl_rem x1 h0 hk]) (Nat.le_of_ble_eq_true rfl) (Nat.le_of_ble_eq_true rfl) dL_below_6
/-- what a method is asked for that is given the script too -/
def PS (D : va_G) (cI cZ cL : ClassId) (b0 L : Nat) (xs : Nat → Int32) (av : List Value) (w0 : va_W) (sz : Nat) : Array Value → State → Prop := va_Pc av (fun U => U.heap.size = sz ∧ va_P D vwCl w0 U.heap ∧ Kx D cI cZ cL U ∧ va_D (fun _ => True) w0 ∧ gx_T U ∧ gx_S U ∧ gx_Z (va_A w0 sz) U U.heap ∧ va_X b0 L xs U U.heap ∧ ∀ q ∈ w0, q.1 ≠ b0)
theorem PS.blind {D : va_G} {cI cZ cL : ClassId} {b0 L : Nat} {xs : Nat → Int32} {av : List Value} {w0 : va_W} {sz : Nat} : FrameBlind (PS D cI cZ cL b0 L xs av w0 sz) := by
  intro a U g mk q
  obtain ⟨q0, q1, q2, q3, q4, q5, q6, q7, q9, q10⟩ := q
  exact ⟨q0, q1, q2, Kx.same (s := U) (U := U.calling g mk a) rfl q3, q4, gx_T.same (s := U) (U := U.calling g mk a) rfl q5, gx_S.same (s := U) (U := U.calling g mk a) rfl q6, ⟨vx_Zq.moved (u := U) (U := U.calling g mk a) (Vm.Alike.refl U.vm) q7.1, vx_Zq.moved (u := U) (U := U.calling g mk a) (Vm.Alike.refl U.vm) q7.2⟩, va_X.moved (u := U) (U := U.calling g mk a) (Vm.Alike.refl U.vm) q9, q10⟩
def MS (l : Launch) (y : MethodName) (ws : List Cond) (rm : Room) (D : va_G) (cI cZ cL : ClassId) (b0 L : Nat) (xs : Nat → Int32) (av : List Value) (w0 : va_W) (G : Option Value → va_W → Prop) : Prop :=
  ∀ sz : Nat, Met l y ws rm (PS D cI cZ cL b0 L xs av w0 sz) (QG D (va_A w0 sz) G) rm.cells rm.slots (va_A w0 sz)
theorem MS.of {l : Launch} {y : MethodName} {ws ws' : List Cond} {rm : Room} {D : va_G} {cI cZ cL : ClassId} {b0 L : Nat} {xs : Nat → Int32} {av : List Value} {w0 : va_W} {G : Option Value → va_W → Prop} {cc : ByteArray} {maxL : Nat} {ret : Option FieldType} {own : String} {lv0 : List (Nat × Value)}
    (hy : plainName y.cls = true) (hw : ws = Cond.code y cc maxL ret :: ws') (ho : y.cls = own) (hlen : (lg_sl av).length ≤ maxL) (hlv : lv_args 0 av = lv0)
    (body : ∀ (p : Program) (e : Env) (s : State) (m : MethodId) (args : Array Value) (below : List Frame) (meth : Method) (c : Code) (A : Nat → Prop), Cx p s m args meth c cc maxL ws own ret D cI cZ cL A → Tx A s → va_X b0 L xs s s.heap → b0 < s.heap.size → ¬ A b0 → Wo D A s.heap w0 s.heap [] → ∀ ls : Array Slot, lv_has ls maxL lv0 →
      W p l e rm s m args below meth c s.heap [] 0 0 (GE below args s D A G rm) (F0 m 0 ls [])) : MS l y ws rm D cI cZ cL b0 L xs av w0 G := by
  intro sz
  refine Met.ofW (cc := cc) (maxL := maxL) (ret := ret) hy hw ?_
  intro p e s m args below meth c s₁ B hml hv
  obtain ⟨rfl, hsz, hP, hK, hD0, hT1, hT2, hT3, hX, hne⟩ := hv
  subst hsz
  rw [lg_entry_eq]
  have hbl : b0 < s.heap.size := by
    obtain ⟨scr, h1, -⟩ := hX
    exact (Array.getElem?_eq_some_iff.mp h1).1
  refine body p e s m _ below meth c (va_A w0 s.heap.size) ⟨B.exec, B.bytes, B.returns, hml, ?_, atoms_spec (ws := ws) B.pre, B.notSynchronized, hK, fun q h => Or.inr h⟩ ⟨hT1, hT2, hT3⟩ hX hbl ?_ ⟨hP, hD0.self, va_S.rf⟩ _ ?_
  · rw [← ho]; exact findClass_of_methodNamed B.named
  · intro h
    rcases va_A_mem.mp h with ⟨q, hq, hqb⟩ | h
    · exact hne q hq hqb
    · omega
  · rw [← hlv]; exact lv_entry av hlen
section SS
variable {p : Program} {l : Launch} {e : Env} {R : Room} {s : State} {m : MethodId} {args : Array Value} {below : List Frame} {meth : Method} {c : Code} {H H0 : Heap} {locs : List Loc} {cells slots : Nat} {Q : State → Prop}
variable {cc : ByteArray} {nL : Nat} {Ts : List Cond} {own : String} {ret : Option FieldType} {D : va_G} {cI cZ cL : ClassId} {A : Nat → Prop} {ws : va_W} {pc : Nat} {ls : Array Slot} {rest : List Value}
theorem G_callSS (hc : Cx p s m args meth c cc nL Ts own ret D cI cZ cL A) (hT : Tx A s) (hS : va_S A s.heap H locs) {J : va_W → va_W} {y : MethodName} {wsm wsm' : List Cond} {rm : Room} {index n maxL b0 L : Nat} {xs : Nat → Int32} {As : List Value} {wc : va_W} {G : Option Value → va_W → Prop} {bytes : ByteArray} {rt : Option FieldType}
    (hX : va_X b0 L xs s s.heap) (hbl : b0 < s.heap.size) (hbA : ¬ A b0)
    (hpt : Pt D A s.heap H wc J) (hM : MS l y wsm rm D cI cZ cL b0 L xs As wc G) (hG : GoodIn Ts (va_wsS own index y wsm)) (hcode : wsm = Cond.code y bytes maxL rt :: wsm') (hd : y.cls ≠ "java/lang/invoke/MethodHandle" ∧ y.cls ≠ "java/lang/invoke/VarHandle" ∧ (parseMethodDescriptor y.desc).map (fun d => d.parameters.length) = some n) (hRm : rm.frames + 1 ≤ R.frames ∧ 8 + (maxL + 11) + rm.locals ≤ R.locals)
    (hlen : As.length = n) {st0 : List Value} (hst : st0 = As.reverse ++ rest) (hsz : ls.size = nL) (hcat : (rest.map fun v => v.category).sum ≤ 8) (hdg : decode cc pc = .ok (.invokestatic index, 3)) {k2 s2 : Nat} (hk2 : cells + rm.cells = k2) (hs2 : slots + rm.slots = s2) (hcs : k2 ≤ R.cells ∧ s2 ≤ R.slots)
    (kk : ∀ (res : Option Value) (w1 : va_W) (H1 : Heap) (locs1 : List Loc), G res w1 → Wo D A s.heap (J w1) H1 locs1 → W p l e R s m args below meth c H1 locs1 k2 s2 Q (F0 m (pc + 3) ls (res.toList ++ rest))) : W p l e R s m args below meth c H locs cells slots Q (F0 m pc ls st0) := by
  obtain ⟨hx, hb, -, hml, hown, hts, -, hK, hA⟩ := hc
  obtain ⟨hF, hPc, hDc, hj⟩ := hpt
  subst hst
  have ok : ∀ w ∈ va_wsS own index y wsm, w.before args s = true := fun w h => hts w (hG w h).1
  refine G_goes (va_runS (As := As) (rest := rest) ⟨hx, hb, hml, hown, hts⟩ (hM H.size) ⟨callB_of n hts (fun w h => hG w (by unfold va_wsS; exact List.mem_append_right _ h)) hcode rfl rfl (ok _ (by simp [va_wsS])) (ok _ (by simp [va_wsS])) hd hRm, ok _ (by simp [va_wsS])⟩ ⟨PS.blind, fun U hU hW => ⟨rfl, by rw [hU], by rw [hU]; exact hPc, Kx.warm hW hK, hDc, (hT.sent hS hF hU hW).1, (hT.sent hS hF hU hW).2.1, (hT.sent hS hF hU hW).2.2, ?_, fun q hq hqb => ?_⟩⟩ rfl hlen hsz rfl (lv_room hcat) hdg (by rw [hk2, hs2]; exact hcs)) hS (fun q _ h => hF q h) hF hk2 hs2 (fun res w1 H1 l1 hg h1 h2 h3 h4 => kk res w1 H1 l1 hg (hj w1 H1 l1 h1 h2 h3 h4))
  · rw [hU]
    exact va_X.moved hW.alike (hX.kept (hS.2.1 b0 hbl hbA))
  · exact hbA (hqb ▸ hF q.1 (va_A_mem.mpr (Or.inl ⟨q, hq, rfl⟩)))
end SS
abbrev rm_L_cell : Room := { frames := 0, cells := 0, slots := 0, locals := 0 }
set_option maxHeartbeats 4000000 in
theorem k_L_cell (l : Launch) (D : va_G) (cI cZ cL : ClassId) (b0 L : Nat) (xs : Nat → Int32) (k : Nat) (hL : L < 2 ^ 31) (hk : k < 2 ^ 30) : MS l yL_cell wsL_cell rm_L_cell D cI cZ cL b0 L xs [.ref b0, .int (nI k)] [] (fun res w1 => ∃ v : Int32, res = some (.int v) ∧ w1 = []) := by
  refine MS.of (own := RL) (cc := cL_cell) (maxL := 2) (ret := (some .int)) (lv0 := [(0, .ref b0), (1, .int (nI k))]) (by decide) rfl rfl (Nat.le_of_ble_eq_true rfl) rfl ?_
  intro p e s m args below meth c A hc hT hX hbl hbA hw ls hl
  obtain ⟨hx, hb, hr, hml, hown, hts, hlk, hK, hA⟩ := id hc
  refine lv_iload_n hx hb dL_cell_0 rfl (lv_at hl 1 rfl) ?_
  refine lv_aload_n hx hb dL_cell_1 rfl (lv_at hl 0 rfl) ?_
  refine va_slen hx hb hX hbl hbA hw.2.2 dL_cell_2 ?_
  refine lv_icmp_ge (tgt := 12) hx hb dL_cell_3 (by decide) (fun c1 => ?_) (fun c1 => ?_)
  · refine lv_ldc hx hb hown (hts _ (List.mem_of_getElem? (i := 1) rfl)) dL_cell_12 ?_
    refine lv_iload_n hx hb dL_cell_14 rfl (lv_at hl 1 rfl) ?_
    refine lv_iconst (v := 3) hx hb dL_cell_15 (by decide) ?_
    refine lv_iadd hx hb dL_cell_16 ?_
    refine lv_imul hx hb dL_cell_17 ?_
    exact G_iret hc hw ⟨_, rfl, rfl⟩ (Nat.le_of_ble_eq_true rfl) (Nat.le_of_ble_eq_true rfl) dL_cell_18
  · have hkL : k < L := by
      rcases Nat.lt_or_ge k L with h | h
      · exact h
      · exact absurd (nI_le h (by omega)) c1
    refine lv_aload_n hx hb dL_cell_6 rfl (lv_at hl 0 rfl) ?_
    refine lv_iload_n hx hb dL_cell_7 rfl (lv_at hl 1 rfl) ?_
    refine va_sld hx hb hX hbl hbA hw.2.2 (vp_in_nI hkL hL) dL_cell_8 ?_
    refine lv_goto (tgt := 18) hx hb dL_cell_9 (by decide) ?_
    exact G_iret hc hw ⟨_, rfl, rfl⟩ (Nat.le_of_ble_eq_true rfl) (Nat.le_of_ble_eq_true rfl) dL_cell_18
end SM
