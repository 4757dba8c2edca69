/-! 14.f: pure: what is done, one by one -/
section PF
theorem cn_zero {P : Nat → Bool} : ∀ {n : Nat}, (∀ q, q < n → P q = false) → cn P n = 0
  | 0, _ => rfl
  | n + 1, h => by
    show cn P n + (if P n then 1 else 0) = 0
    rw [cn_zero (fun q hq => h q (by omega)), h n (by omega)]; rfl
theorem Wr_w {w b : Nat} {x y z : Int32} (h : Wr w b x y z) : Wr (w + 1) b x y z := by
  rcases h with ⟨e, k, hk, e1, e2⟩ | h
  · exact Or.inl ⟨e, k, by omega, e1, e2⟩
  · exact Or.inr h
theorem Wr_b {w b : Nat} {x y z : Int32} (h : Wr w b x y z) : Wr w (b + 1) x y z := by
  rcases h with h | ⟨e, k, hk, e1, e2⟩ | h
  · exact Or.inl h
  · exact Or.inr (Or.inl ⟨e, k, by omega, e1, e2⟩)
  · exact Or.inr (Or.inr h)
theorem RR_ward {w b n : Nat} {T : ct_T} {M : mt_T} (hw : w < 5) (hn : n ≤ 30) (hb : b ≤ 4) (h : RR w b n T M) {x : Int32} {k : Nat} (hx : x = nI k) (hk : k ≤ 8) : RR (w + 1) b n (s_X0_openWard w b n T x) (ms_pl M (upd (mt_pl M) (nI w).toNatClampNeg x)) := by
  unfold s_X0_openWard
  rw [cl (show w < 30 by omega)]
  obtain ⟨h1, ⟨h2, h3, h4⟩, h5, ⟨h6, h7, h8⟩⟩ := h
  refine ⟨h1, ⟨fun i hi => ⟨?_, (h2 i hi).2⟩, h3, h4⟩, fun q hq => Wr_w (h5 q hq), ⟨fun i hi => ?_, h7, h8⟩⟩
  · show upd (ct_pl T) w x i = upd (mt_pl M) w x i
    by_cases hp : i = w
    · subst hp; rw [u_eq, u_eq]
    · rw [u_ne _ hp, u_ne _ hp]; exact (h2 i hi).1
  · show ∃ k, upd (ct_pl T) w x i = nI k ∧ k ≤ 8 ∧ cn (iw T i) n ≤ k
    by_cases hp : i = w
    · subst hp
      rw [u_eq, cn_zero (P := iw T i) (fun q hq => decide_eq_false (fun z => by
        have z2 := (Wr_in (w := i) (b := b) (by omega) hb (h5 q hq)).mp z.1
        rcases h5 q hq with ⟨-, kk, hkk, e1, -⟩ | ⟨e, -⟩ | ⟨e, -⟩ | ⟨e, -⟩
        · have e9 := (nI_eq (a := i) (b := kk) (by omega) (by omega)).mp (z.2.symm.trans e1)
          omega
        · exact absurd (z.1.symm.trans e) (by decide)
        · exact absurd (z.1.symm.trans e) (by decide)
        · exact absurd (z.1.symm.trans e) (by decide)))]
      exact ⟨k, hx, hk, Nat.zero_le k⟩
    · rw [u_ne _ hp]; exact h6 i (by omega)
theorem RR_barge {w b n : Nat} {T : ct_T} {M : mt_T} (hb : b < 4) (h : RR w b n T M) {x : Int32} {k : Nat} (hx : x = nI k) (hk : k ≤ 9) : RR w (b + 1) n (s_X0_openBarge w b n T x) (ms_to (ms_ke M (upd (mt_ke M) (nI b).toNatClampNeg x)) (upd (mt_to (ms_ke M (upd (mt_ke M) (nI b).toNatClampNeg x))) (nI b).toNatClampNeg x)) := by
  unfold s_X0_openBarge
  rw [cl (show b < 30 by omega)]
  obtain ⟨h1, ⟨h2, h3, h4⟩, h5, ⟨h6, h7, h8⟩⟩ := h
  refine ⟨h1, ⟨h2, fun i hi => ⟨?_, ?_⟩, h4⟩, fun q hq => Wr_b (h5 q hq), ⟨h6, fun i hi => ?_, fun i hi => ?_⟩⟩
  · show upd (ct_ke T) b x i = upd (mt_ke M) b x i
    by_cases hp : i = b
    · subst hp; rw [u_eq, u_eq]
    · rw [u_ne _ hp, u_ne _ hp]; exact (h3 i hi).1
  · show upd (ct_to T) b x i = upd (mt_to M) b x i
    by_cases hp : i = b
    · subst hp; rw [u_eq, u_eq]
    · rw [u_ne _ hp, u_ne _ hp]; exact (h3 i hi).2
  · show ∃ k, upd (ct_ke T) b x i = nI k ∧ k ≤ 9
    by_cases hp : i = b
    · subst hp; rw [u_eq]; exact ⟨k, hx, hk⟩
    · rw [u_ne _ hp]; exact h7 i (by omega)
  · show ∃ k, upd (ct_to T) b x i = nI k ∧ k ≤ 9
    by_cases hp : i = b
    · subst hp; rw [u_eq]; exact ⟨k, hx, hk⟩
    · rw [u_ne _ hp]; exact h8 i (by omega)
theorem RR_new {w b n : Nat} {T : ct_T} {M : mt_T} (hn : n < 30) (h : RR w b n T M) {i : Nat} (hi : i < b) (v : Int32) : RR w b (n + 1) (s_X0_move w b n (cs_fe T (upd (ct_fe T) n v)) (nI n) 0 (nI i)) (ms_wh (ms_fe M (upd (mt_fe M) n v)) (upd (mt_wh (ms_fe M (upd (mt_fe M) n v))) n ((10 : Int32) + nI i))) := by
  unfold s_X0_move
  rw [cl hn, i_10]
  obtain ⟨h1, ⟨h2, h3, h4⟩, h5, ⟨h6, h7, h8⟩⟩ := h
  refine ⟨h1, ⟨h2, h3, fun q hq => ⟨?_, (h4 q hq).2⟩⟩, fun q hq => ?_, ⟨fun j hj => ?_, h7, h8⟩⟩
  · show upd (ct_fe T) n v q = upd (mt_fe M) n v q
    by_cases hp : q = n
    · subst hp; rw [u_eq, u_eq]
    · rw [u_ne _ hp, u_ne _ hp]; exact (h4 q hq).1
  · show Wr w b (upd (ct_wh T) n 0 q) (upd (ct_nu T) n (nI i) q) (upd (mt_wh M) n (nI (10 + i)) q)
    by_cases hp : q = n
    · subst hp; rw [u_eq, u_eq, u_eq]; exact Or.inr (Or.inl ⟨rfl, i, hi, rfl, rfl⟩)
    · rw [u_ne _ hp, u_ne _ hp, u_ne _ hp]; exact h5 q (by omega)
  · obtain ⟨k, e1, e2, e3⟩ := h6 j hj
    refine ⟨k, e1, e2, ?_⟩
    show cn (fun q => decide (upd (ct_wh T) n 0 q = 1 ∧ upd (ct_nu T) n (nI i) q = nI j)) n + (if decide (upd (ct_wh T) n 0 n = 1 ∧ upd (ct_nu T) n (nI i) n = nI j) then 1 else 0) ≤ k
    rw [u_eq, decide_eq_false (fun z => absurd z.1 (by decide)), cn_congr (Q := iw T j) (fun q hq => by
      show decide (upd (ct_wh T) n 0 q = 1 ∧ upd (ct_nu T) n (nI i) q = nI j) = decide (ct_wh T q = 1 ∧ ct_nu T q = nI j)
      rw [u_ne _ (by omega), u_ne _ (by omega)])]
    exact e3
theorem isIn_r {x lo hi : Int32} (h1 : ¬ x < lo) (h2 : x ≤ hi) : ¬ r_X3_isIn x lo hi = 0 := fun z => isIn_iff.mp z ⟨h1, Int32.not_lt.mpr h2⟩
theorem isIn_l {x lo hi : Int32} (h1 : x < lo) : r_X3_isIn x lo hi = 0 := isIn_iff.mpr (fun z => z.1 h1)
theorem isIn_h {x lo hi : Int32} (h1 : ¬ x ≤ hi) : r_X3_isIn x lo hi = 0 := isIn_iff.mpr (fun z => z.2 (Int32.not_le.mp h1))
theorem i_rng {x hi : Int32} {N : Nat} (hM : hi.toInt = N) (h1 : ¬ x < 1) (h2 : x ≤ hi) : ∃ k, x = nI k ∧ k ≤ N := by
  have h0 : ¬ x < 0 := fun z => h1 (by
    rw [Int32.lt_iff_toInt_lt] at z ⊢
    have e0 : (0 : Int32).toInt = 0 := by decide
    have e1 : (1 : Int32).toInt = 1 := by decide
    omega)
  obtain ⟨j, e1, e2⟩ := nI_of2 hM h0 h2
  exact ⟨j, e2, e1⟩
theorem op_addWard {w b n w2 b2 n2 w3 b3 n3 : Nat} {T T2 : ct_T} {M M2 : mt_T} {th : Int32} (hw : w ≤ 5) (hb : b ≤ 4) (hn : n ≤ 30) (h : RR w b n T M) (x1 : Int32) : (e_X1_addWard w b n T w2 b2 n2 T2 x1 = 0 ∨ e_X1_addWard w b n T w2 b2 n2 T2 x1 = 1 ∨ e_X1_addWard w b n T w2 b2 n2 T2 x1 = 2) ∧
    (if e_X1_addWard w b n T w2 b2 n2 T2 x1 = 0 then (0 : Int32) else (if e_X1_addWard w b n T w2 b2 n2 T2 x1 = 1 then (1 : Int32) else (2 : Int32))) = t_X3_addWard th w b n M w3 b3 n3 M2 x1 ∧ (e_X1_addWard w b n T w2 b2 n2 T2 x1 = 0 → r_X1_addWard w b n T w2 b2 n2 T2 x1 = r_X3_addWard th w b n M w3 b3 n3 M2 x1) ∧
    (e_X1_addWard w b n T w2 b2 n2 T2 x1 = 0 → nw_X3_addWard th w b n M w3 b3 n3 M2 x1 = w + 1 ∧ w + 1 ≤ 5 ∧ RR (w + 1) b n (s_X1_addWard w b n T w2 b2 n2 T2 x1) (s_X3_addWard th w b n M w3 b3 n3 M2 x1)) ∧
    (¬ e_X1_addWard w b n T w2 b2 n2 T2 x1 = 0 → nw_X3_addWard th w b n M w3 b3 n3 M2 x1 = w ∧ RR w b n T (s_X3_addWard th w b n M w3 b3 n3 M2 x1)) := by
  unfold e_X1_addWard r_X1_addWard s_X1_addWard t_X3_addWard r_X3_addWard s_X3_addWard nw_X3_addWard t_X3_no r_X3_no
  by_cases h1 : x1 < 1
  · simp only [if_pos h1, if_pos (isIn_l h1 (hi := 8))]
    exact ⟨by simp, by simp, fun z => absurd z (by decide), fun z => absurd z (by decide), fun _ => ⟨by simp, h⟩⟩
  · by_cases h2 : x1 ≤ 8
    · by_cases h3 : w = 5
      · subst h3
        simp only [if_neg h1, if_pos h2, if_neg (isIn_r h1 h2), if_neg (show ¬ nI 5 < 5 by decide), if_pos (show nI 5 = 5 by decide)]
        exact ⟨by simp, by simp, fun z => absurd z (by decide), fun z => absurd z (by decide), fun _ => ⟨by simp, h⟩⟩
      · simp only [if_neg h1, if_pos h2, if_neg (isIn_r h1 h2), if_pos (show nI w < 5 from (nI_ltI (b := 5) (by omega) (by decide)).mpr (by omega)), if_neg (show ¬ nI w = 5 from fun z => h3 ((nI_eq (b := 5) (by omega) (by decide)).mp z))]
        obtain ⟨k, hk1, hk2⟩ := i_rng (N := 8) (by decide) h1 h2
        exact ⟨by simp, by simp, fun _ => (nI_pred w).symm, fun _ => ⟨by simp, by omega, RR_ward (by omega) hn hb h hk1 hk2⟩, fun z => by simp at z⟩
    · simp only [if_neg h1, if_neg h2, if_pos (isIn_h h2 (lo := 1))]
      exact ⟨by simp, by simp, fun z => absurd z (by decide), fun z => absurd z (by decide), fun _ => ⟨by simp, h⟩⟩
theorem op_addBarge {w b n w2 b2 n2 w3 b3 n3 : Nat} {T T2 : ct_T} {M M2 : mt_T} {th : Int32} (hw : w ≤ 5) (hb : b ≤ 4) (hn : n ≤ 30) (h : RR w b n T M) (x1 : Int32) : (e_X1_addBarge w b n T w2 b2 n2 T2 x1 = 0 ∨ e_X1_addBarge w b n T w2 b2 n2 T2 x1 = 1 ∨ e_X1_addBarge w b n T w2 b2 n2 T2 x1 = 2) ∧
    (if e_X1_addBarge w b n T w2 b2 n2 T2 x1 = 0 then (0 : Int32) else (if e_X1_addBarge w b n T w2 b2 n2 T2 x1 = 1 then (1 : Int32) else (2 : Int32))) = t_X3_addBarge th w b n M w3 b3 n3 M2 x1 ∧ (e_X1_addBarge w b n T w2 b2 n2 T2 x1 = 0 → r_X1_addBarge w b n T w2 b2 n2 T2 x1 = r_X3_addBarge th w b n M w3 b3 n3 M2 x1) ∧
    (e_X1_addBarge w b n T w2 b2 n2 T2 x1 = 0 → nb_X3_addBarge th w b n M w3 b3 n3 M2 x1 = b + 1 ∧ b + 1 ≤ 4 ∧ RR w (b + 1) n (s_X1_addBarge w b n T w2 b2 n2 T2 x1) (s_X3_addBarge th w b n M w3 b3 n3 M2 x1)) ∧
    (¬ e_X1_addBarge w b n T w2 b2 n2 T2 x1 = 0 → nb_X3_addBarge th w b n M w3 b3 n3 M2 x1 = b ∧ RR w b n T (s_X3_addBarge th w b n M w3 b3 n3 M2 x1)) := by
  unfold e_X1_addBarge r_X1_addBarge s_X1_addBarge t_X3_addBarge r_X3_addBarge s_X3_addBarge nb_X3_addBarge t_X3_no r_X3_no
  by_cases h1 : x1 < 1
  · simp only [if_pos h1, if_pos (isIn_l h1 (hi := 9))]
    exact ⟨by simp, by simp, fun z => absurd z (by decide), fun z => absurd z (by decide), fun _ => ⟨by simp, h⟩⟩
  · by_cases h2 : x1 ≤ 9
    · by_cases h3 : b = 4
      · subst h3
        simp only [if_neg h1, if_pos h2, if_neg (isIn_r h1 h2), if_neg (show ¬ nI 4 < 4 by decide), if_pos (show nI 4 = 4 by decide)]
        exact ⟨by simp, by simp, fun z => absurd z (by decide), fun z => absurd z (by decide), fun _ => ⟨by simp, h⟩⟩
      · simp only [if_neg h1, if_pos h2, if_neg (isIn_r h1 h2), if_pos (show nI b < 4 from (nI_ltI (b := 4) (by omega) (by decide)).mpr (by omega)), if_neg (show ¬ nI b = 4 from fun z => h3 ((nI_eq (b := 4) (by omega) (by decide)).mp z))]
        obtain ⟨k, hk1, hk2⟩ := i_rng (N := 9) (by decide) h1 h2
        exact ⟨by simp, by simp, fun _ => (nI_pred b).symm, fun _ => ⟨by simp, by omega, RR_barge (by omega) h hk1 hk2⟩, fun z => by simp at z⟩
    · simp only [if_neg h1, if_neg h2, if_pos (isIn_h h2 (lo := 1))]
      exact ⟨by simp, by simp, fun z => absurd z (by decide), fun z => absurd z (by decide), fun _ => ⟨by simp, h⟩⟩
theorem op_setBowls {w b n w2 b2 n2 w3 b3 n3 : Nat} {T T2 : ct_T} {M M2 : mt_T} {th : Int32} (hw : w ≤ 5) (hb : b ≤ 4) (hn : n ≤ 30) (h : RR w b n T M) (x1 : Int32) : (e_X1_setBowls w b n T w2 b2 n2 T2 x1 = 0 ∨ e_X1_setBowls w b n T w2 b2 n2 T2 x1 = 1) ∧
    (if e_X1_setBowls w b n T w2 b2 n2 T2 x1 = 0 then (0 : Int32) else (1 : Int32)) = t_X3_setBowls th w b n M w3 b3 n3 M2 x1 ∧ (e_X1_setBowls w b n T w2 b2 n2 T2 x1 = 0 → r_X1_setBowls w b n T w2 b2 n2 T2 x1 = r_X3_setBowls th w b n M w3 b3 n3 M2 x1) ∧
    (e_X1_setBowls w b n T w2 b2 n2 T2 x1 = 0 → RR w b n (s_X1_setBowls w b n T w2 b2 n2 T2 x1) (s_X3_setBowls th w b n M w3 b3 n3 M2 x1)) ∧
    (¬ e_X1_setBowls w b n T w2 b2 n2 T2 x1 = 0 → RR w b n T (s_X3_setBowls th w b n M w3 b3 n3 M2 x1)) := by
  unfold e_X1_setBowls r_X1_setBowls s_X1_setBowls t_X3_setBowls r_X3_setBowls s_X3_setBowls t_X3_no r_X3_no
  by_cases h1 : x1 < 0
  · simp only [if_pos h1, if_pos (isIn_l h1 (hi := 60))]
    exact ⟨by simp, by simp, fun z => absurd z (by decide), fun z => absurd z (by decide), fun _ => h⟩
  · by_cases h2 : x1 ≤ 60
    · simp only [if_neg h1, if_pos h2, if_neg (isIn_r h1 h2)]
      exact ⟨by simp, by simp, fun _ => h.1.2.1, fun _ => ⟨⟨h.1.1, rfl, h.1.2.2⟩, h.2.1, h.2.2.1, h.2.2.2⟩, fun z => by simp at z⟩
    · simp only [if_neg h1, if_neg h2, if_pos (isIn_h h2 (lo := 0))]
      exact ⟨by simp, by simp, fun z => absurd z (by decide), fun z => absurd z (by decide), fun _ => h⟩
theorem op_layStraw {w b n w2 b2 n2 w3 b3 n3 : Nat} {T T2 : ct_T} {M M2 : mt_T} {th : Int32} (hw : w ≤ 5) (hb : b ≤ 4) (hn : n ≤ 30) (h : RR w b n T M) (x1 : Int32) : (e_X1_layStraw w b n T w2 b2 n2 T2 x1 = 0 ∨ e_X1_layStraw w b n T w2 b2 n2 T2 x1 = 3) ∧
    (if e_X1_layStraw w b n T w2 b2 n2 T2 x1 = 0 then (0 : Int32) else (1 : Int32)) = t_X3_layStraw th w b n M w3 b3 n3 M2 x1 ∧ (e_X1_layStraw w b n T w2 b2 n2 T2 x1 = 0 → r_X1_layStraw w b n T w2 b2 n2 T2 x1 = r_X3_layStraw th w b n M w3 b3 n3 M2 x1) ∧
    (e_X1_layStraw w b n T w2 b2 n2 T2 x1 = 0 → RR w b n (s_X1_layStraw w b n T w2 b2 n2 T2 x1) (s_X3_layStraw th w b n M w3 b3 n3 M2 x1)) ∧
    (¬ e_X1_layStraw w b n T w2 b2 n2 T2 x1 = 0 → RR w b n T (s_X3_layStraw th w b n M w3 b3 n3 M2 x1)) := by
  have hq := isIn_n (x := x1) (n := w) (by omega)
  unfold e_X1_layStraw r_X1_layStraw s_X1_layStraw t_X3_layStraw r_X3_layStraw s_X3_layStraw r_X3_isWard t_X3_no r_X3_no
  rw [chkW hw]
  generalize r_X3_isIn x1 0 (nI w - 1) = q at hq ⊢
  by_cases h0 : q = 0
  · subst h0; simp; exact h
  · obtain ⟨j, hj, rfl⟩ := hq.mp h0
    simp only [if_neg h0, ↓reduceIte]
    rw [cl (show j < 30 by omega)]
    exact ⟨by simp, by simp, fun _ => (h.2.1.1 j (by omega)).2, fun _ => RR_st h j 0, fun z => by simp at z⟩
end PF
