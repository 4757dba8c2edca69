/-! 14.g: pure: boarding, carrying, days to come -/
section PG
theorem op_board {w b n w2 b2 n2 w3 b3 n3 : Nat} {T T2 : ct_T} {M M2 : mt_T} {th : Int32} (hw : w ≤ 5) (hb : b ≤ 4) (hn : n ≤ 30) (h : RR w b n T M) (x1 x2 : Int32) : (e_X1_board w b n T w2 b2 n2 T2 x1 x2 = 0 ∨ e_X1_board w b n T w2 b2 n2 T2 x1 x2 = 3 ∨ e_X1_board w b n T w2 b2 n2 T2 x1 x2 = 1 ∨ e_X1_board w b n T w2 b2 n2 T2 x1 x2 = 2) ∧
    (if e_X1_board w b n T w2 b2 n2 T2 x1 x2 = 0 then (0 : Int32) else (if e_X1_board w b n T w2 b2 n2 T2 x1 x2 = 3 then (1 : Int32) else (if e_X1_board w b n T w2 b2 n2 T2 x1 x2 = 1 then (2 : Int32) else (3 : Int32)))) = t_X3_board th w b n M w3 b3 n3 M2 x1 x2 ∧ (e_X1_board w b n T w2 b2 n2 T2 x1 x2 = 0 → r_X1_board w b n T w2 b2 n2 T2 x1 x2 = r_X3_board th w b n M w3 b3 n3 M2 x1 x2) ∧
    (e_X1_board w b n T w2 b2 n2 T2 x1 x2 = 0 → nn_X3_board th w b n M w3 b3 n3 M2 x1 x2 = n + 1 ∧ n + 1 ≤ 30 ∧ RR w b (n + 1) (s_X1_board w b n T w2 b2 n2 T2 x1 x2) (s_X3_board th w b n M w3 b3 n3 M2 x1 x2)) ∧
    (¬ e_X1_board w b n T w2 b2 n2 T2 x1 x2 = 0 → nn_X3_board th w b n M w3 b3 n3 M2 x1 x2 = n ∧ RR w b n T (s_X3_board th w b n M w3 b3 n3 M2 x1 x2)) := by
  have hq := isIn_n (x := x1) (n := b) (by omega)
  unfold e_X1_board r_X1_board s_X1_board t_X3_board r_X3_board s_X3_board nn_X3_board r_X3_isBarge t_X3_no r_X3_no
  rw [chkB hb]
  generalize r_X3_isIn x1 0 (nI b - 1) = q at hq ⊢
  by_cases h0 : q = 0
  · subst h0
    simp only [↓reduceIte]
    exact ⟨by simp, by simp, fun z => by simp at z, fun z => by simp at z, fun _ => ⟨by simp, h⟩⟩
  · obtain ⟨i, hi, rfl⟩ := hq.mp h0
    simp only [if_neg h0, ↓reduceIte]
    by_cases h1 : x2 < 0
    · simp only [if_pos h1, if_pos (isIn_l h1 (hi := 9))]
      exact ⟨by simp, by simp, fun z => by simp at z, fun z => by simp at z, fun _ => ⟨by simp, h⟩⟩
    · by_cases h2 : x2 ≤ 9
      · by_cases h3 : n = 30
        · subst h3
          simp only [if_neg h1, if_pos h2, if_neg (isIn_r h1 h2), if_neg (show ¬ nI 30 < 30 by decide), if_pos (show nI 30 = 30 by decide)]
          exact ⟨by simp, by simp, fun z => by simp at z, fun z => by simp at z, fun _ => ⟨by simp, h⟩⟩
        · simp only [if_neg h1, if_pos h2, if_neg (isIn_r h1 h2), if_pos (show nI n < 30 from (nI_ltI (b := 30) (by omega) (by decide)).mpr (by omega)), if_neg (show ¬ nI n = 30 from fun z => h3 ((nI_eq (b := 30) (by omega) (by decide)).mp z)), ite_self]
          have hS : RR w b (n + 1) (s_X0_takeAboard w b n T (nI i) x2) (if mt_to M i = 0 then ms_to (ms_wh (ms_fe M (upd (mt_fe M) n x2)) (upd (mt_wh (ms_fe M (upd (mt_fe M) n x2))) n ((10 : Int32) + nI i))) (upd (mt_to M) i (mt_ke M i)) else ms_wh (ms_fe M (upd (mt_fe M) n x2)) (upd (mt_wh (ms_fe M (upd (mt_fe M) n x2))) n ((10 : Int32) + nI i))) := by
            unfold s_X0_takeAboard
            rw [cl (show n < 30 by omega), cl (show i < 30 by omega)]
            have hN := RR_new (by omega) h hi x2
            generalize hQ : s_X0_move w b n (cs_fe T (upd (ct_fe T) n x2)) (nI n) 0 (nI i) = Q at hN ⊢
            generalize hB : ms_wh (ms_fe M (upd (mt_fe M) n x2)) (upd (mt_wh (ms_fe M (upd (mt_fe M) n x2))) n ((10 : Int32) + nI i)) = B at hN ⊢
            have e1 : mt_to M = mt_to B := by rw [← hB]; rfl
            have e2 : mt_ke M = mt_ke B := by rw [← hB]; rfl
            rw [e1, e2, (hN.2.1.2.1 i (by omega)).2]
            by_cases h4 : mt_to B i = 0
            · rw [if_pos h4, if_pos h4, (hN.2.1.2.1 i (by omega)).1]
              obtain ⟨k, g1, g2⟩ := hN.2.2.2.2.1 i hi
              exact RR_to hN i (k := k) (by rw [← (hN.2.1.2.1 i (by omega)).1]; exact g1) g2
            · rw [if_neg h4, if_neg h4]; exact hN
          refine ⟨by simp, by simp, fun _ => ?_, fun _ => ⟨by simp, by omega, ?_⟩, fun z => by simp at z⟩
          · rw [nI_pred]; unfold r_X0_takeAboard; rw [ite_self]
          · rw [cl (show n < 30 by omega), cl (show i < 30 by omega)]
            exact hS
      · simp only [if_neg h1, if_neg h2, if_pos (isIn_h h2 (lo := 0))]
        exact ⟨by simp, by simp, fun z => by simp at z, fun z => by simp at z, fun _ => ⟨by simp, h⟩⟩
theorem op_carry {w b n w2 b2 n2 w3 b3 n3 : Nat} {T T2 : ct_T} {M M2 : mt_T} {th : Int32} (hw : w ≤ 5) (hb : b ≤ 4) (hn : n ≤ 30) (h : RR w b n T M) (x1 x2 : Int32) : (e_X1_carry w b n T w2 b2 n2 T2 x1 x2 = 0 ∨ e_X1_carry w b n T w2 b2 n2 T2 x1 x2 = 3 ∨ e_X1_carry w b n T w2 b2 n2 T2 x1 x2 = 2) ∧
    (if e_X1_carry w b n T w2 b2 n2 T2 x1 x2 = 0 then (0 : Int32) else (if e_X1_carry w b n T w2 b2 n2 T2 x1 x2 = 3 then (1 : Int32) else (2 : Int32))) = t_X3_carry th w b n M w3 b3 n3 M2 x1 x2 ∧ (e_X1_carry w b n T w2 b2 n2 T2 x1 x2 = 0 → r_X1_carry w b n T w2 b2 n2 T2 x1 x2 = r_X3_carry th w b n M w3 b3 n3 M2 x1 x2) ∧
    (e_X1_carry w b n T w2 b2 n2 T2 x1 x2 = 0 → RR w b n (s_X1_carry w b n T w2 b2 n2 T2 x1 x2) (s_X3_carry th w b n M w3 b3 n3 M2 x1 x2)) ∧
    (¬ e_X1_carry w b n T w2 b2 n2 T2 x1 x2 = 0 → RR w b n T (s_X3_carry th w b n M w3 b3 n3 M2 x1 x2)) := by
  have hq1 := isIn_n (x := x1) (n := n) hn
  have hq2 := isIn_n (x := x2) (n := w) (by omega)
  unfold e_X1_carry r_X1_carry s_X1_carry t_X3_carry r_X3_carry s_X3_carry r_X3_isPerson r_X3_isWard t_X3_no r_X3_no
  rw [chkP hn, chkW hw]
  generalize r_X3_isIn x1 0 (nI n - 1) = q1 at hq1 ⊢
  generalize r_X3_isIn x2 0 (nI w - 1) = q2 at hq2 ⊢
  by_cases h0 : q1 = 0
  · subst h0
    simp only [↓reduceIte]
    exact ⟨by simp, by simp, fun z => by simp at z, fun z => by simp at z, fun _ => h⟩
  · obtain ⟨j, hj, rfl⟩ := hq1.mp h0
    simp only [if_neg h0, ↓reduceIte]
    by_cases h00 : q2 = 0
    · subst h00
      simp only [↓reduceIte]
      exact ⟨by simp, by simp, fun z => by simp at z, fun z => by simp at z, fun _ => h⟩
    · obtain ⟨i, hi, rfl⟩ := hq2.mp h00
      simp only [if_neg h00, ↓reduceIte]
      have hj30 : j < 30 := by omega
      rw [cl hj30, cl (show i < 30 by omega)]
      have L := Wr_in hw hb (h.2.2.1 j hj)
      unfold r_X0_numberOf
      rw [cl hj30]
      by_cases h1 : ct_wh T j = 1
      · have h2 : ∃ k, k < w ∧ ct_nu T j = nI k ∧ mt_wh M j = nI k := by
          rcases h.2.2.1 j hj with ⟨-, k, hk, e1, e2⟩ | ⟨e, -⟩ | ⟨e, -⟩ | ⟨e, -⟩
          · exact ⟨k, hk, e1, e2⟩
          · exact absurd (h1.symm.trans e) (by decide)
          · exact absurd (h1.symm.trans e) (by decide)
          · exact absurd (h1.symm.trans e) (by decide)
        obtain ⟨k, hk, e1, e2⟩ := h2
        have hne : ¬ (nI k = -1) := fun z => by
          have z2 := congrArg Int32.toInt z
          rw [nI_toInt (by omega)] at z2
          have z3 : (-1 : Int32).toInt = -1 := by decide
          omega
        simp only [if_pos h1, e1, e2, if_neg hne, if_neg (show ¬ nI w ≤ nI k from fun z => absurd ((nI_leI (by omega) (by omega)).mp z) (by omega))]
        by_cases h3 : k = i
        · subst h3
          simp only [↓reduceIte]
          exact ⟨by simp, by simp, fun z => by simp at z, fun z => by simp at z, fun _ => h⟩
        · simp only [if_neg (show ¬ nI k = nI i from fun z => h3 ((nI_eq (by omega) (by omega)).mp z))]
          unfold r_X0_freeIn
          rw [cl (show i < 30 by omega), r_countAt hn, r_at hw hb hn h hi, ← (h.2.1.1 i (by omega)).1]
          obtain ⟨c, g1, g2, g3⟩ := h.2.2.2.1 i hi
          rw [g1, i_sub g3]
          by_cases h4 : cn (iw T i) n < c
          · simp only [if_neg (show ¬ nI (c - cn (iw T i) n) = 0 from fun z => absurd ((i_eq0 (by omega)).mp z) (by omega)), if_pos (show nI (cn (iw T i) n) < nI c from (nI_ltI (by omega) (by omega)).mpr h4)]
            refine ⟨by simp, by simp, fun _ => by simp, fun _ => ?_, fun z => by simp at z⟩
            exact RR_mv h hj30 (Or.inl ⟨rfl, i, hi, rfl, rfl⟩) (fun i' hi' _ hy => by
              have e9 : i = i' := (nI_eq (by omega) (by omega)).mp hy
              subst e9
              exact ⟨c, g1, g2, h4⟩)
          · simp only [if_pos (show nI (c - cn (iw T i) n) = 0 from (i_eq0 (by omega)).mpr (by omega)), if_neg (show ¬ nI (cn (iw T i) n) < nI c from fun z => h4 ((nI_ltI (by omega) (by omega)).mp z))]
            exact ⟨by simp, by simp, fun z => by simp at z, fun z => by simp at z, fun _ => h⟩
      · simp only [if_neg h1, if_pos (show nI w ≤ mt_wh M j from Decidable.not_not.mp (fun z => h1 (L.mpr z))), ↓reduceIte]
        exact ⟨by simp, by simp, fun z => by simp at z, fun z => by simp at z, fun _ => h⟩
theorem op_pass {w b n w2 b2 n2 w3 b3 n3 : Nat} {T T2 : ct_T} {M M2 : mt_T} {th : Int32} (hw : w ≤ 5) (hb : b ≤ 4) (hn : n ≤ 30) (h : RR w b n T M) (x1 : Int32) : (e_X1_pass w b n T w2 b2 n2 T2 x1 = 0 ∨ e_X1_pass w b n T w2 b2 n2 T2 x1 = 1) ∧
    (if e_X1_pass w b n T w2 b2 n2 T2 x1 = 0 then (0 : Int32) else (1 : Int32)) = t_X3_pass th w b n M w3 b3 n3 M2 x1 ∧ (e_X1_pass w b n T w2 b2 n2 T2 x1 = 0 → r_X1_pass w b n T w2 b2 n2 T2 x1 = r_X3_pass th w b n M w3 b3 n3 M2 x1) ∧
    (e_X1_pass w b n T w2 b2 n2 T2 x1 = 0 → RR w b n (s_X1_pass w b n T w2 b2 n2 T2 x1) (s_X3_pass th w b n M w3 b3 n3 M2 x1)) ∧
    (¬ e_X1_pass w b n T w2 b2 n2 T2 x1 = 0 → RR w b n T (s_X3_pass th w b n M w3 b3 n3 M2 x1)) := by
  unfold e_X1_pass r_X1_pass s_X1_pass t_X3_pass r_X3_pass s_X3_pass t_X3_no r_X3_no
  rw [chkD]
  generalize r_X3_isIn x1 1 40 = q
  by_cases h0 : q = 0
  · subst h0
    simp only [↓reduceIte]
    exact ⟨by simp, by simp, fun z => by simp at z, fun z => by simp at z, fun _ => h⟩
  · simp only [if_neg h0, ↓reduceIte]
    have h2 := r_days hw hb hn x1.toNatClampNeg h
    exact ⟨by simp, by simp, fun _ => by rw [r_home hw hb hn h2, r_home hw hb hn h], fun _ => h2, fun z => by simp at z⟩
theorem r_cb {w b n w2 b2 n2 w3 b3 n3 : Nat} {T T2 : ct_T} {M M2 : mt_T} (hw : w ≤ 5) (hb : b ≤ 4) (hn : n ≤ 30) (h : RR w b n T M) (x : Nat) : RR w b n (s_X0_liveDays w b n (s_X0_copyFrom w2 b2 n2 T2 w b n T) x) (s_X2_passOn w b n (s_X2_become w3 b3 n3 M2 w b n M) x) := r_days hw hb hn x (r_copy hw hb hn h)
theorem bnd2 {q : Int32} {w b n w3 b3 n3 : Nat} (hw : w ≤ 5) (hb : b ≤ 4) (hn : n ≤ 30) (hw3 : w3 ≤ 5) (hb3 : b3 ≤ 4) (hn3 : n3 ≤ 30) : (if q = 0 then w3 else w) ≤ 5 ∧ (if q = 0 then b3 else b) ≤ 4 ∧ (if q = 0 then n3 else n) ≤ 30 := by
  by_cases h : q = 0
  · rw [if_pos h, if_pos h, if_pos h]; exact ⟨hw3, hb3, hn3⟩
  · rw [if_neg h, if_neg h, if_neg h]; exact ⟨hw, hb, hn⟩
theorem op_homeAfter {w b n w2 b2 n2 w3 b3 n3 : Nat} {T T2 : ct_T} {M M2 : mt_T} {th : Int32} (hw : w ≤ 5) (hb : b ≤ 4) (hn : n ≤ 30) (hw3 : w3 ≤ 5) (hb3 : b3 ≤ 4) (hn3 : n3 ≤ 30) (h : RR w b n T M) (x1 : Int32) : (e_X1_homeAfter w b n T w2 b2 n2 T2 x1 = 0 ∨ e_X1_homeAfter w b n T w2 b2 n2 T2 x1 = 1) ∧
    (if e_X1_homeAfter w b n T w2 b2 n2 T2 x1 = 0 then (0 : Int32) else (1 : Int32)) = t_X3_homeAfter th w b n M w3 b3 n3 M2 x1 ∧ (e_X1_homeAfter w b n T w2 b2 n2 T2 x1 = 0 → r_X1_homeAfter w b n T w2 b2 n2 T2 x1 = r_X3_homeAfter th w b n M w3 b3 n3 M2 x1) ∧
    (nw2_X3_homeAfter th w b n M w3 b3 n3 M2 x1 ≤ 5 ∧ nb2_X3_homeAfter th w b n M w3 b3 n3 M2 x1 ≤ 4 ∧ nn2_X3_homeAfter th w b n M w3 b3 n3 M2 x1 ≤ 30) := by
  unfold e_X1_homeAfter r_X1_homeAfter r_X1_countBehind t_X3_homeAfter r_X3_homeAfter nw2_X3_homeAfter nb2_X3_homeAfter nn2_X3_homeAfter t_X3_after r_X3_after nw2_X3_after nb2_X3_after nn2_X3_after t_X3_no r_X3_no
  rw [chkD]
  generalize r_X3_isIn x1 1 40 = q
  have hB := bnd2 (q := q) hw hb hn hw3 hb3 hn3
  by_cases h0 : q = 0
  · subst h0
    simp only [↓reduceIte]
    exact ⟨by simp, by simp, fun z => absurd z (by decide), hB⟩
  · simp only [if_neg h0, ↓reduceIte]
    exact ⟨by simp, by simp, fun _ => r_home hw hb hn (r_cb hw hb hn h _), hw, hb, hn⟩
theorem op_greatHouseAfter {w b n w2 b2 n2 w3 b3 n3 : Nat} {T T2 : ct_T} {M M2 : mt_T} {th : Int32} (hw : w ≤ 5) (hb : b ≤ 4) (hn : n ≤ 30) (hw3 : w3 ≤ 5) (hb3 : b3 ≤ 4) (hn3 : n3 ≤ 30) (h : RR w b n T M) (x1 : Int32) : (e_X1_greatHouseAfter w b n T w2 b2 n2 T2 x1 = 0 ∨ e_X1_greatHouseAfter w b n T w2 b2 n2 T2 x1 = 1) ∧
    (if e_X1_greatHouseAfter w b n T w2 b2 n2 T2 x1 = 0 then (0 : Int32) else (1 : Int32)) = t_X3_greatHouseAfter th w b n M w3 b3 n3 M2 x1 ∧ (e_X1_greatHouseAfter w b n T w2 b2 n2 T2 x1 = 0 → r_X1_greatHouseAfter w b n T w2 b2 n2 T2 x1 = r_X3_greatHouseAfter th w b n M w3 b3 n3 M2 x1) ∧
    (nw2_X3_greatHouseAfter th w b n M w3 b3 n3 M2 x1 ≤ 5 ∧ nb2_X3_greatHouseAfter th w b n M w3 b3 n3 M2 x1 ≤ 4 ∧ nn2_X3_greatHouseAfter th w b n M w3 b3 n3 M2 x1 ≤ 30) := by
  unfold e_X1_greatHouseAfter r_X1_greatHouseAfter r_X1_countBehind t_X3_greatHouseAfter r_X3_greatHouseAfter nw2_X3_greatHouseAfter nb2_X3_greatHouseAfter nn2_X3_greatHouseAfter t_X3_after r_X3_after nw2_X3_after nb2_X3_after nn2_X3_after t_X3_no r_X3_no
  rw [chkD]
  generalize r_X3_isIn x1 1 40 = q
  have hB := bnd2 (q := q) hw hb hn hw3 hb3 hn3
  by_cases h0 : q = 0
  · subst h0
    simp only [↓reduceIte]
    exact ⟨by simp, by simp, fun z => absurd z (by decide), hB⟩
  · simp only [if_neg h0, ↓reduceIte]
    exact ⟨by simp, by simp, fun _ => r_gh hw hb hn (r_cb hw hb hn h _), hw, hb, hn⟩
theorem op_bestStraw {w b n w2 b2 n2 w3 b3 n3 : Nat} {T T2 : ct_T} {M M2 : mt_T} {th : Int32} (hw : w ≤ 5) (hb : b ≤ 4) (hn : n ≤ 30) (hw3 : w3 ≤ 5) (hb3 : b3 ≤ 4) (hn3 : n3 ≤ 30) (h : RR w b n T M) (x1 : Int32) : (e_X1_bestStraw w b n T w2 b2 n2 T2 x1 = 0 ∨ e_X1_bestStraw w b n T w2 b2 n2 T2 x1 = 1) ∧
    (if e_X1_bestStraw w b n T w2 b2 n2 T2 x1 = 0 then (0 : Int32) else (1 : Int32)) = t_X3_bestStraw th w b n M w3 b3 n3 M2 x1 ∧ (e_X1_bestStraw w b n T w2 b2 n2 T2 x1 = 0 → r_X1_bestStraw w b n T w2 b2 n2 T2 x1 = r_X3_bestStraw th w b n M w3 b3 n3 M2 x1) ∧
    (nw2_X3_bestStraw th w b n M w3 b3 n3 M2 x1 ≤ 5 ∧ nb2_X3_bestStraw th w b n M w3 b3 n3 M2 x1 ≤ 4 ∧ nn2_X3_bestStraw th w b n M w3 b3 n3 M2 x1 ≤ 30) := by
  have hL : ¬ r_X3_isIn x1 1 40 = 0 → (lpf (f_X1_bestStraw_16 w b n T w2 b2 n2 T2 x1) w 0 (z_X1_countBehind w b n T w2 b2 n2 T2 x1.toNatClampNeg 2, r_X1_countBehind w b n T w2 b2 n2 T2 x1.toNatClampNeg 2, -1)).2 = (lpf (f_X3_bestStraw_34 th w b n M w3 b3 n3 M2 x1) w 0 (z_X3_after 0 w b n M w3 b3 n3 M2 x1 20, r_X3_after 0 w b n M w3 b3 n3 M2 x1 20, -1)).2 := by
    intro h0
    refine lpf_two (fun _ (A : ct_T × Int32 × Int32) (B : mt_T × Int32 × Int32) => A.2 = B.2) _ _ w _ _ ?_ (fun j A B hj hAB => ?_)
    · show (r_X1_countBehind w b n T w2 b2 n2 T2 x1.toNatClampNeg 2, (-1 : Int32)) = (r_X3_after 0 w b n M w3 b3 n3 M2 x1 20, (-1 : Int32))
      unfold r_X1_countBehind r_X3_after
      rw [if_neg h0, r_home hw hb hn (r_cb hw hb hn h _)]
    · obtain ⟨A1, A2, A3⟩ := A
      obtain ⟨B1, B2, B3⟩ := B
      have e1 : A2 = B2 := congrArg Prod.fst hAB
      have e2 : A3 = B3 := congrArg Prod.snd hAB
      subst e1; subst e2
      have hh : r_X1_homeWithFreshStraw w b n T w b n A1 (nI j) x1.toNatClampNeg = r_X2_at w b n (s_X2_passOn w b n (ms_st (s_X2_become w b n B1 w b n M) (upd (mt_st (s_X2_become w b n B1 w b n M)) (nI j).toNatClampNeg 0)) x1.toNatClampNeg) 20 := by
        unfold r_X1_homeWithFreshStraw
        exact r_home hw hb hn (r_days hw hb hn _ (RR_st (r_copy hw hb hn h) _ 0))
      unfold f_X1_bestStraw_16 f_X3_bestStraw_34
      dsimp only
      rw [hh]
      generalize r_X2_at w b n (s_X2_passOn w b n (ms_st (s_X2_become w b n B1 w b n M) (upd (mt_st (s_X2_become w b n B1 w b n M)) (nI j).toNatClampNeg 0)) x1.toNatClampNeg) 20 = r
      by_cases hr : r ≤ A2
      · rw [if_pos hr, if_neg (Int32.not_lt.mpr hr)]
      · rw [if_neg hr, if_pos (Int32.not_le.mp hr)]
  unfold e_X1_bestStraw r_X1_bestStraw t_X3_bestStraw r_X3_bestStraw nw2_X3_bestStraw nb2_X3_bestStraw nn2_X3_bestStraw t_X3_after t_X3_no r_X3_no
  rw [chkD]
  generalize r_X3_isIn x1 1 40 = q at hL ⊢
  have hB := bnd2 (q := q) hw hb hn hw3 hb3 hn3
  by_cases h0 : q = 0
  · subst h0
    simp only [↓reduceIte]
    exact ⟨by simp, by simp, fun z => absurd z (by decide), hB⟩
  · simp only [if_neg h0, ↓reduceIte]
    exact ⟨by simp, by simp, fun _ => congrArg Prod.snd (hL h0), hw, hb, hn⟩
theorem op_daysUntilHome {w b n w2 b2 n2 w3 b3 n3 : Nat} {T T2 : ct_T} {M M2 : mt_T} {th : Int32} (hw : w ≤ 5) (hb : b ≤ 4) (hn : n ≤ 30) (hw3 : w3 ≤ 5) (hb3 : b3 ≤ 4) (hn3 : n3 ≤ 30) (h : RR w b n T M) (x1 : Int32) : (e_X1_daysUntilHome w b n T w2 b2 n2 T2 x1 = 0 ∨ e_X1_daysUntilHome w b n T w2 b2 n2 T2 x1 = 3) ∧
    (if e_X1_daysUntilHome w b n T w2 b2 n2 T2 x1 = 0 then (0 : Int32) else (1 : Int32)) = t_X3_daysUntilHome th w b n M w3 b3 n3 M2 x1 ∧ (e_X1_daysUntilHome w b n T w2 b2 n2 T2 x1 = 0 → r_X1_daysUntilHome w b n T w2 b2 n2 T2 x1 = r_X3_daysUntilHome th w b n M w3 b3 n3 M2 x1) ∧
    (nw2_X3_daysUntilHome th w b n M w3 b3 n3 M2 x1 ≤ 5 ∧ nb2_X3_daysUntilHome th w b n M w3 b3 n3 M2 x1 ≤ 4 ∧ nn2_X3_daysUntilHome th w b n M w3 b3 n3 M2 x1 ≤ 30) := by
  have hq := isIn_n (x := x1) (n := n) hn
  unfold e_X1_daysUntilHome r_X1_daysUntilHome t_X3_daysUntilHome r_X3_daysUntilHome nw2_X3_daysUntilHome nb2_X3_daysUntilHome nn2_X3_daysUntilHome r_X3_isPerson t_X3_no r_X3_no
  rw [chkP hn]
  generalize r_X3_isIn x1 0 (nI n - 1) = q at hq ⊢
  by_cases h0 : q = 0
  · subst h0
    simp only [↓reduceIte]
    exact ⟨by simp, by simp, fun z => absurd z (by decide), hw3, hb3, hn3⟩
  · obtain ⟨j, hj, rfl⟩ := hq.mp h0
    simp only [if_neg h0, ↓reduceIte]
    have H := lpx_two (fun (x : Int32 × ct_T) (y : Int32 × Int32 × mt_T × Nat × Nat × Nat) => x.1 = y.1 ∧ y.2.1 = 0 ∧ y.2.2.2.1 = w ∧ y.2.2.2.2.1 = b ∧ y.2.2.2.2.2 = n) (fun _ Q B => RR w b n Q B) (f_X1_daysUntilHome_18 w b n T w2 b2 n2 T2 (nI j)) (f_X3_daysUntilHome_32 th w b n M w3 b3 n3 M2 (nI j)) 61 _ _ (r_copy (w2 := w2) (b2 := b2) (n2 := n2) (w3 := w3) (b3 := b3) (n3 := n3) (T2 := T2) (M2 := M2) hw hb hn h) (fun i Q B hi hQ => by
      unfold f_X1_daysUntilHome_18 f_X3_daysUntilHome_32
      rw [cl (show j < 30 by omega)]
      have L := Wr_home hw hb (hQ.2.2.1 j hj)
      by_cases h1 : ct_wh Q j = 2
      · rw [if_pos h1, if_pos (L.mp h1)]; exact ⟨rfl, rfl, rfl, rfl, rfl⟩
      · rw [if_neg h1, if_neg (fun z => h1 (L.mpr z))]
        exact r_live1 hw hb hn hQ)
    cases hx : lpx (f_X1_daysUntilHome_18 w b n T w2 b2 n2 T2 (nI j)) 61 0 (s_X0_copyFrom w2 b2 n2 T2 w b n T) with
    | inl x =>
      cases hy : lpx (f_X3_daysUntilHome_32 th w b n M w3 b3 n3 M2 (nI j)) 61 0 (s_X2_become w3 b3 n3 M2 w b n M) with
      | inl y =>
        rw [hx, hy] at H
        obtain ⟨a1, a2, a3, a4, a5⟩ := H
        dsimp only
        exact ⟨by simp, by rw [a2], fun _ => a1, by rw [a3]; exact hw, by rw [a4]; exact hb, by rw [a5]; exact hn⟩
      | inr y => rw [hx, hy] at H; exact H.elim
    | inr x =>
      cases hy : lpx (f_X3_daysUntilHome_32 th w b n M w3 b3 n3 M2 (nI j)) 61 0 (s_X2_become w3 b3 n3 M2 w b n M) with
      | inl y => rw [hx, hy] at H; exact H.elim
      | inr y => exact ⟨by simp, rfl, fun _ => rfl, hw, hb, hn⟩
end PG
