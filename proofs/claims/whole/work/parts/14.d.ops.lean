/-! 14.d: pure: what is asked and done, one by one -/
section PD
theorem cpy_lt {f g : Nat → Int32} {N i : Nat} (h : i < N) : va_cpy f g 0 0 N i = f i := by
  unfold va_cpy
  rw [if_pos ⟨Nat.zero_le _, by omega⟩]
  congr 1
  omega
/-- a town of which one knows that it looks the same -/
theorem RR_ext {w b n : Nat} {T T' : ct_T} {M M' : mt_T} (hw : w ≤ 5) (hb : b ≤ 4) (hn : n ≤ 30) (h : RR w b n T M) (s1 : ct_day T' = ct_day T ∧ ct_bo T' = ct_bo T ∧ ct_ea T' = ct_ea T) (s2 : mt_day M' = mt_day M ∧ mt_bo M' = mt_bo M ∧ mt_ea M' = mt_ea M)
    (c1 : ∀ i, i < 5 → ct_pl T' i = ct_pl T i ∧ ct_st T' i = ct_st T i) (c2 : ∀ i, i < 4 → ct_ke T' i = ct_ke T i ∧ ct_to T' i = ct_to T i) (c3 : ∀ q, q < 30 → ct_fe T' q = ct_fe T q ∧ ct_hd T' q = ct_hd T q ∧ ct_wh T' q = ct_wh T q ∧ ct_nu T' q = ct_nu T q)
    (m1 : ∀ i, i < 5 → mt_pl M' i = mt_pl M i ∧ mt_st M' i = mt_st M i) (m2 : ∀ i, i < 4 → mt_ke M' i = mt_ke M i ∧ mt_to M' i = mt_to M i) (m3 : ∀ q, q < 30 → mt_fe M' q = mt_fe M q ∧ mt_hu M' q = mt_hu M q ∧ mt_wh M' q = mt_wh M q) : RR w b n T' M' := by
  obtain ⟨⟨a1, a2, a3⟩, ⟨h2, h3, h4⟩, h5, ⟨h6, h7, h8⟩⟩ := h
  refine ⟨⟨by rw [s1.1, s2.1, a1], by rw [s1.2.1, s2.2.1, a2], by rw [s1.2.2, s2.2.2, a3]⟩, ⟨fun i hi => ?_, fun i hi => ?_, fun q hq => ?_⟩, fun q hq => ?_, ⟨fun i hi => ?_, fun i hi => ?_, fun i hi => ?_⟩⟩
  · rw [(c1 i hi).1, (c1 i hi).2, (m1 i hi).1, (m1 i hi).2]; exact h2 i hi
  · rw [(c2 i hi).1, (c2 i hi).2, (m2 i hi).1, (m2 i hi).2]; exact h3 i hi
  · rw [(c3 q hq).1, (c3 q hq).2.1, (m3 q hq).1, (m3 q hq).2.1]; exact h4 q hq
  · have hq' : q < 30 := by omega
    rw [(c3 q hq').2.2.1, (c3 q hq').2.2.2, (m3 q hq').2.2]; exact h5 q hq
  · rw [(c1 i (by omega)).1]
    obtain ⟨k, e1, e2, e3⟩ := h6 i hi
    refine ⟨k, e1, e2, ?_⟩
    rw [cn_congr (P := iw T' i) (Q := iw T i) (fun q hq => by
      have hq' : q < 30 := by omega
      unfold iw
      rw [(c3 q hq').2.2.1, (c3 q hq').2.2.2])]
    exact e3
  · rw [(c2 i (by omega)).1]; exact h7 i hi
  · rw [(c2 i (by omega)).2]; exact h8 i hi
theorem r_copy {w b n w2 b2 n2 w3 b3 n3 : Nat} {T T2 : ct_T} {M M2 : mt_T} (hw : w ≤ 5) (hb : b ≤ 4) (hn : n ≤ 30) (h : RR w b n T M) : RR w b n (s_X0_copyFrom w2 b2 n2 T2 w b n T) (s_X2_become w3 b3 n3 M2 w b n M) := by
  refine RR_ext hw hb hn h ⟨rfl, rfl, rfl⟩ ⟨rfl, rfl, rfl⟩ (fun i hi => ⟨cpy_lt hi, cpy_lt hi⟩) (fun i hi => ⟨cpy_lt hi, cpy_lt hi⟩) (fun q hq => ⟨cpy_lt hq, cpy_lt hq, cpy_lt hq, cpy_lt hq⟩) (fun i hi => ⟨cpy_lt hi, cpy_lt hi⟩) (fun i hi => ⟨cpy_lt hi, cpy_lt hi⟩) (fun q hq => ⟨cpy_lt hq, cpy_lt hq, cpy_lt hq⟩)
/-- counts -/
theorem r_count {w b n : Nat} {T : ct_T} {M : mt_T} (hn : n ≤ 30) {x z : Int32} (hz : ∀ q, q < n → (ct_wh T q = x ↔ mt_wh M q = z)) : r_X0_count w b n T x = r_X2_at w b n M z := by
  unfold r_X0_count r_X2_at
  refine lpf_congr _ _ n 0 (fun j a hj => ?_)
  unfold f_X0_count_4 f_X2_at_4
  rw [cl (show j < 30 by omega)]
  by_cases h1 : ct_wh T j = x
  · rw [if_pos h1, if_pos ((hz j hj).mp h1)]
  · rw [if_neg h1, if_neg (fun q => h1 ((hz j hj).mpr q))]; exact (Int32.add_zero a).symm
theorem r_home {w b n : Nat} {T : ct_T} {M : mt_T} (hw : w ≤ 5) (hb : b ≤ 4) (hn : n ≤ 30) (h : RR w b n T M) : r_X0_count w b n T 2 = r_X2_at w b n M 20 := r_count hn (fun q hq => Wr_home hw hb (h.2.2.1 q hq))
theorem r_gh {w b n : Nat} {T : ct_T} {M : mt_T} (hw : w ≤ 5) (hb : b ≤ 4) (hn : n ≤ 30) (h : RR w b n T M) : r_X0_count w b n T 3 = r_X2_at w b n M 21 := r_count hn (fun q hq => Wr_gh hw hb (h.2.2.1 q hq))
theorem r_inw {w b n : Nat} {T : ct_T} {M : mt_T} (hw : w ≤ 5) (hb : b ≤ 4) (hn : n ≤ 30) (h : RR w b n T M) : r_X0_count w b n T 1 = r_X2_inWards w b n M := by
  unfold r_X0_count r_X2_inWards
  refine lpf_congr _ _ n 0 (fun j a hj => ?_)
  unfold f_X0_count_4 f_X2_inWards_4
  rw [cl (show j < 30 by omega)]
  have L := Wr_in hw hb (h.2.2.1 j hj)
  by_cases h1 : ct_wh T j = 1
  · rw [if_pos h1, if_neg (L.mp h1)]
  · rw [if_neg h1, if_pos (Decidable.not_not.mp (fun z => h1 (L.mpr z)))]; exact (Int32.add_zero a).symm
theorem r_ca1 {w b n : Nat} {T : ct_T} {M : mt_T} (hw : w ≤ 5) (hb : b ≤ 4) (hn : n ≤ 30) (h : RR w b n T M) {i : Nat} (hi : i < w) : r_X0_countAt w b n T 1 (nI i) = r_X2_at w b n M (nI i) := by
  rw [r_countAt hn, r_at hw hb hn h hi]
theorem r_ca0 {w b n : Nat} {T : ct_T} {M : mt_T} (hw : w ≤ 5) (hb : b ≤ 4) (hn : n ≤ 30) (h : RR w b n T M) {i : Nat} (hi : i < b) : r_X0_countAt w b n T 0 (nI i) = r_X2_at w b n M ((10 : Int32) + nI i) := by
  unfold r_X0_countAt r_X2_at
  refine lpf_congr _ _ n 0 (fun j a hj => ?_)
  unfold f_X0_countAt_5 f_X2_at_4
  rw [ite_at (show j < 30 by omega), cl (show j < 30 by omega)]
  have L := Wr_barge hw hb (h.2.2.1 j hj) hi
  by_cases h1 : ct_wh T j = 0 ∧ ct_nu T j = nI i
  · rw [if_pos h1, if_pos (L.mp h1)]
  · rw [if_neg h1, if_neg (fun z => h1 (L.mpr z))]; exact (Int32.add_zero a).symm
theorem r_fevers {w b n : Nat} {T : ct_T} {M M2 : mt_T} {th : Int32} {w2 b2 n2 : Nat} (hw : w ≤ 5) (hb : b ≤ 4) (hn : n ≤ 30) (h : RR w b n T M) {i : Nat} (hi : i < w) : r_X0_feversInWard w b n T (nI i) = r_X3_feversAt th w b n M w2 b2 n2 M2 (nI i) := by
  unfold r_X0_feversInWard r_X3_feversAt
  refine lpf_congr _ _ n 0 (fun j a hj => ?_)
  unfold f_X0_feversInWard_4 f_X3_feversAt_4
  rw [ite_at (show j < 30 by omega), cl (show j < 30 by omega), (h.2.1.2.2 j (by omega)).1]
  have L := Wr_ward hw hb (h.2.2.1 j hj) hi
  by_cases h1 : ct_wh T j = 1 ∧ ct_nu T j = nI i
  · rw [if_pos h1, if_pos (L.mp h1)]
  · rw [if_neg h1, if_neg (fun z => h1 (L.mpr z))]; exact (Int32.add_zero a).symm
theorem r_high {w b n : Nat} {T : ct_T} {M M2 : mt_T} {th : Int32} {w2 b2 n2 : Nat} (hw : w ≤ 5) (hb : b ≤ 4) (hn : n ≤ 30) (h : RR w b n T M) {i : Nat} (hi : i < b) : r_X0_highestFeverAboard w b n T (nI i) = lpf (f_X3_highestFeverOn_23 th w b n M w2 b2 n2 M2 (nI i)) n 0 0 := by
  unfold r_X0_highestFeverAboard
  refine lpf_congr _ _ n 0 (fun j a hj => ?_)
  unfold f_X0_highestFeverAboard_4 f_X3_highestFeverOn_23
  rw [ite_at (show j < 30 by omega), cl (show j < 30 by omega), (h.2.1.2.2 j (by omega)).1]
  have L := Wr_barge hw hb (h.2.2.1 j hj) hi
  by_cases h1 : ct_wh T j = 0 ∧ ct_nu T j = nI i
  · rw [if_pos h1, if_pos (L.mp h1)]
  · rw [if_neg h1, if_neg (fun z => h1 (L.mpr z))]
theorem r_wardTold {w b n : Nat} {T : ct_T} {M M2 : mt_T} {th : Int32} {w2 b2 n2 : Nat} (hw : w ≤ 5) (hb : b ≤ 4) (hn : n ≤ 30) (h : RR w b n T M) {j : Nat} (hj : j < n) : r_X0_numberOf w b n T (nI j) 1 = r_X3_wardTold th w b n M w2 b2 n2 M2 (nI j) := by
  unfold r_X0_numberOf r_X3_wardTold
  rw [cl (show j < 30 by omega)]
  have L := Wr_in hw hb (h.2.2.1 j hj)
  by_cases h1 : ct_wh T j = 1
  · rw [if_pos h1, if_neg (L.mp h1)]
    rcases h.2.2.1 j hj with ⟨-, k, hk, e1, e2⟩ | ⟨e, -⟩ | ⟨e, -⟩ | ⟨e, -⟩
    · rw [e1, e2]
    · exact absurd (h1.symm.trans e) (by decide)
    · exact absurd (h1.symm.trans e) (by decide)
    · exact absurd (h1.symm.trans e) (by decide)
  · rw [if_neg h1, if_pos (Decidable.not_not.mp (fun z => h1 (L.mpr z)))]
theorem isIn_iff {a lo hi : Int32} : r_X3_isIn a lo hi = 0 ↔ ¬ (¬ a < lo ∧ ¬ hi < a) := by
  unfold r_X3_isIn
  by_cases h1 : a < lo
  · rw [if_pos h1]; exact ⟨fun _ z => z.1 h1, fun _ => rfl⟩
  · rw [if_neg h1]
    by_cases h2 : hi < a
    · rw [if_pos h2]; exact ⟨fun _ z => z.2 h2, fun _ => rfl⟩
    · rw [if_neg h2]; exact ⟨fun z => absurd z (by decide), fun z => absurd ⟨h1, h2⟩ z⟩
theorem isIn_n {x : Int32} {n : Nat} (hn : n ≤ 30) : ¬ r_X3_isIn x 0 (nI n - 1) = 0 ↔ ∃ j, j < n ∧ x = nI j := by
  rw [isIn_iff, Decidable.not_not]
  constructor
  · rintro ⟨h1, h2⟩
    obtain ⟨j, hj, rfl⟩ := nI_of h1
    cases n with
    | zero =>
      exfalso
      have h3 : (nI 0 - 1 : Int32) < nI j := by
        rw [Int32.lt_iff_toInt_lt, nI_toInt hj]
        have e1 : (nI 0 - (1 : Int32)).toInt = -1 := by decide
        omega
      exact h2 h3
    | succ n =>
      rw [nI_pred] at h2
      have h3 := (nI_leI hj (show n < 2 ^ 31 by omega)).mp (Int32.not_lt.mp h2)
      exact ⟨j, by omega, rfl⟩
  · rintro ⟨j, hj, rfl⟩
    obtain ⟨m, rfl⟩ : ∃ m, n = m + 1 := ⟨n - 1, by omega⟩
    rw [nI_pred]
    exact ⟨nI_pos (by omega), fun z => absurd ((nI_ltI (by omega) (by omega)).mp z) (by omega)⟩
theorem chk {x : Int32} {n : Nat} (hn : n ≤ 30) : (if x < 0 then 3 else if x < nI n then 0 else 3 : Nat) = if r_X3_isIn x 0 (nI n - 1) = 0 then 3 else 0 := by
  by_cases h : r_X3_isIn x 0 (nI n - 1) = 0
  · rw [if_pos h]
    by_cases h1 : x < 0
    · rw [if_pos h1]
    · rw [if_neg h1, if_neg]
      intro h2
      obtain ⟨j, hj, rfl⟩ := nI_of h1
      exact (isIn_n hn).mpr ⟨j, (nI_ltI hj (by omega)).mp h2, rfl⟩ h
  · rw [if_neg h]
    obtain ⟨j, hj, rfl⟩ := (isIn_n hn).mp h
    rw [if_neg (nI_pos (by omega)), if_pos ((nI_ltI (by omega) (by omega)).mpr hj)]
theorem chkD {x : Int32} : e_X1_checkDays x = if r_X3_isIn x 1 40 = 0 then 1 else 0 := by
  unfold e_X1_checkDays r_X3_isIn
  by_cases h1 : x < 1
  · rw [if_pos h1, if_pos h1, if_pos rfl]
  · rw [if_neg h1, if_neg h1]
    by_cases h2 : x ≤ 40
    · rw [if_pos h2, if_neg (Int32.not_lt.mpr h2), if_neg (by decide)]
    · rw [if_neg h2, if_pos (Int32.not_le.mp h2), if_pos rfl]
end PD
