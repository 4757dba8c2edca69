/-! 14.h: pure: sums, the mean fever, the digest -/
section PH
theorem cn_add {P Q R : Nat → Bool} : ∀ {n : Nat}, (∀ q, q < n → (R q = true ↔ (P q = true ∨ Q q = true)) ∧ ¬ (P q = true ∧ Q q = true)) → cn R n = cn P n + cn Q n
  | 0, _ => rfl
  | n + 1, h => by
    show cn R n + (if R n then 1 else 0) = cn P n + (if P n then 1 else 0) + (cn Q n + (if Q n then 1 else 0))
    rw [cn_add (fun q hq => h q (by omega))]
    obtain ⟨h1, h2⟩ := h n (by omega)
    by_cases hp : P n = true
    · have hq : ¬ Q n = true := fun z => h2 ⟨hp, z⟩
      rw [if_pos hp, if_neg hq, if_pos (h1.mpr (Or.inl hp))]; omega
    · by_cases hq : Q n = true
      · rw [if_neg hp, if_pos hq, if_pos (h1.mpr (Or.inr hq))]; omega
      · rw [if_neg hp, if_neg hq, if_neg (fun z => (h1.mp z).elim hp hq)]; omega
theorem r_cnt1 {w b n : Nat} {T : ct_T} (hn : n ≤ 30) : r_X0_count w b n T 1 = nI (cn (fun q => decide (ct_wh T q = 1)) n) := by
  unfold r_X0_count
  refine lpf_cn (fun j a hj => ?_)
  unfold f_X0_count_4
  rw [cl (show j < 30 by omega)]
  by_cases h1 : ct_wh T j = 1
  · rw [if_pos h1, if_pos (decide_eq_true h1)]
  · rw [if_neg h1, if_neg (fun z => h1 (of_decide_eq_true z))]
theorem i_fp (S p : Int32) (d c : Nat) : S - nI d + (p - nI c) = S + p - nI (d + c) := by
  rw [← nI_add]; grind
theorem i_00 : (0 : Int32) = 0 - nI 0 := by decide
theorem op_freePlaces {w b n w2 b2 n2 w3 b3 n3 : Nat} {T T2 : ct_T} {M M2 : mt_T} {th : Int32} (hw : w ≤ 5) (hb : b ≤ 4) (hn : n ≤ 30) (h : RR w b n T M) : r_X1_freePlaces w b n T w2 b2 n2 T2 = r_X3_freePlaces th w b n M w3 b3 n3 M2 := by
  have hin : r_X2_inWards w b n M = nI (cn (fun q => decide (ct_wh T q = 1 ∧ (ct_nu T q).toNatClampNeg < w)) n) := by
    rw [← r_inw hw hb hn h, r_cnt1 hn]
    congr 1
    refine cn_congr (fun q hq => ?_)
    by_cases h1 : ct_wh T q = 1
    · rcases h.2.2.1 q hq with ⟨-, k, hk, e1, e2⟩ | ⟨e, -⟩ | ⟨e, -⟩ | ⟨e, -⟩
      · rw [decide_eq_true h1, e1, cl (show k < 30 by omega), decide_eq_true ⟨h1, hk⟩]
      · exact absurd (h1.symm.trans e) (by decide)
      · exact absurd (h1.symm.trans e) (by decide)
      · exact absurd (h1.symm.trans e) (by decide)
    · rw [decide_eq_false h1, decide_eq_false (fun z => h1 z.1)]
  unfold r_X1_freePlaces r_X3_freePlaces
  rw [hin]
  refine lpf_two (fun i a c => a = c - nI (cn (fun q => decide (ct_wh T q = 1 ∧ (ct_nu T q).toNatClampNeg < i)) n)) _ _ w _ _ ?_ (fun i a c hi hac => ?_)
  · rw [cn_zero (fun q _ => decide_eq_false (fun z => absurd z.2 (Nat.not_lt_zero _)))]; exact i_00
  · unfold f_X1_freePlaces_4 f_X3_freePlaces_9 r_X0_freeIn
    rw [cl (show i < 30 by omega), r_countAt hn, hac, (h.2.1.1 i (by omega)).1, i_fp]
    congr 2
    refine (cn_add (fun q hq => ?_)).symm
    by_cases h1 : ct_wh T q = 1
    · rcases h.2.2.1 q hq with ⟨-, k, hk, e1, e2⟩ | ⟨e, -⟩ | ⟨e, -⟩ | ⟨e, -⟩
      · unfold iw
        simp only [e1, cl (show k < 30 by omega), decide_eq_true_eq, nI_eq (show k < 2 ^ 31 by omega) (show i < 2 ^ 31 by omega), h1, true_and]
        omega
      · exact absurd (h1.symm.trans e) (by decide)
      · exact absurd (h1.symm.trans e) (by decide)
      · exact absurd (h1.symm.trans e) (by decide)
    · unfold iw
      simp [h1]
theorem op_bowlsShort {w b n w2 b2 n2 w3 b3 n3 : Nat} {T T2 : ct_T} {M M2 : mt_T} {th : Int32} (hw : w ≤ 5) (hb : b ≤ 4) (hn : n ≤ 30) (h : RR w b n T M) : r_X1_bowlsShort w b n T w2 b2 n2 T2 = r_X3_bowlsShort th w b n M w3 b3 n3 M2 := by
  unfold r_X1_bowlsShort r_X3_bowlsShort
  rw [r_inw hw hb hn h, h.1.2.1]
theorem op_day {w b n w2 b2 n2 w3 b3 n3 : Nat} {T T2 : ct_T} {M M2 : mt_T} {th : Int32} (hw : w ≤ 5) (hb : b ≤ 4) (hn : n ≤ 30) (h : RR w b n T M) : r_X1_day w b n T w2 b2 n2 T2 = r_X3_day th w b n M w3 b3 n3 M2 := h.1.1
theorem op_wards {w b n w2 b2 n2 w3 b3 n3 : Nat} {T T2 : ct_T} {M M2 : mt_T} {th : Int32} (hw : w ≤ 5) (hb : b ≤ 4) (hn : n ≤ 30) (h : RR w b n T M) : r_X1_wards w b n T w2 b2 n2 T2 = r_X3_wards th w b n M w3 b3 n3 M2 := rfl
theorem op_barges {w b n w2 b2 n2 w3 b3 n3 : Nat} {T T2 : ct_T} {M M2 : mt_T} {th : Int32} (hw : w ≤ 5) (hb : b ≤ 4) (hn : n ≤ 30) (h : RR w b n T M) : r_X1_barges w b n T w2 b2 n2 T2 = r_X3_barges th w b n M w3 b3 n3 M2 := rfl
theorem op_people {w b n w2 b2 n2 w3 b3 n3 : Nat} {T T2 : ct_T} {M M2 : mt_T} {th : Int32} (hw : w ≤ 5) (hb : b ≤ 4) (hn : n ≤ 30) (h : RR w b n T M) : r_X1_people w b n T w2 b2 n2 T2 = r_X3_people th w b n M w3 b3 n3 M2 := rfl
theorem op_bowls {w b n w2 b2 n2 w3 b3 n3 : Nat} {T T2 : ct_T} {M M2 : mt_T} {th : Int32} (hw : w ≤ 5) (hb : b ≤ 4) (hn : n ≤ 30) (h : RR w b n T M) : r_X1_bowls w b n T w2 b2 n2 T2 = r_X3_bowls th w b n M w3 b3 n3 M2 := h.1.2.1
theorem op_bowlsEaten {w b n w2 b2 n2 w3 b3 n3 : Nat} {T T2 : ct_T} {M M2 : mt_T} {th : Int32} (hw : w ≤ 5) (hb : b ≤ 4) (hn : n ≤ 30) (h : RR w b n T M) : r_X1_bowlsEaten w b n T w2 b2 n2 T2 = r_X3_bowlsEaten th w b n M w3 b3 n3 M2 := h.1.2.2
theorem op_peopleHome {w b n w2 b2 n2 w3 b3 n3 : Nat} {T T2 : ct_T} {M M2 : mt_T} {th : Int32} (hw : w ≤ 5) (hb : b ≤ 4) (hn : n ≤ 30) (h : RR w b n T M) : r_X1_peopleHome w b n T w2 b2 n2 T2 = r_X3_peopleHome th w b n M w3 b3 n3 M2 := r_home hw hb hn h
theorem op_peopleInGreatHouse {w b n w2 b2 n2 w3 b3 n3 : Nat} {T T2 : ct_T} {M M2 : mt_T} {th : Int32} (hw : w ≤ 5) (hb : b ≤ 4) (hn : n ≤ 30) (h : RR w b n T M) : r_X1_peopleInGreatHouse w b n T w2 b2 n2 T2 = r_X3_peopleInGreatHouse th w b n M w3 b3 n3 M2 := r_gh hw hb hn h
theorem op_bowlsNeeded {w b n w2 b2 n2 w3 b3 n3 : Nat} {T T2 : ct_T} {M M2 : mt_T} {th : Int32} (hw : w ≤ 5) (hb : b ≤ 4) (hn : n ≤ 30) (h : RR w b n T M) : r_X1_bowlsNeeded w b n T w2 b2 n2 T2 = r_X3_bowlsNeeded th w b n M w3 b3 n3 M2 := r_inw hw hb hn h
theorem op_meanFever {w b n w2 b2 n2 w3 b3 n3 : Nat} {T T2 : ct_T} {M M2 : mt_T} {th : Int32} (hw : w ≤ 5) (hb : b ≤ 4) (hn : n ≤ 30) (h : RR w b n T M) : r_X1_meanFever w b n T w2 b2 n2 T2 = r_X3_meanFever th w b n M w3 b3 n3 M2 := by
  unfold r_X1_meanFever r_X3_meanFever
  rw [r_inw hw hb hn h, lpf_congr (f_X1_meanFever_19 w b n T w2 b2 n2 T2) (f_X3_meanFever_9 th w b n M w3 b3 n3 M2) w 0 (fun i a hi => by
    unfold f_X1_meanFever_19 f_X3_meanFever_9
    rw [r_fevers (th := 0) (w2 := w3) (b2 := b3) (n2 := n3) (M2 := M2) hw hb hn h hi])]
theorem op_digest {w b n w2 b2 n2 w3 b3 n3 : Nat} {T T2 : ct_T} {M M2 : mt_T} {th : Int32} (hw : w ≤ 5) (hb : b ≤ 4) (hn : n ≤ 30) (h : RR w b n T M) : r_X1_digest w b n T w2 b2 n2 T2 = r_X3_digest th w b n M w3 b3 n3 M2 := by
  unfold r_X1_digest r_X1_digestWithPeople r_X1_digestWithBarges r_X1_digestWithWards r_X3_digest
  have e1 : ∀ x y, lpf (f_X1_digestWithWards_5 w b n T w2 b2 n2 T2 x) w 0 y = lpf (f_X3_digest_118 th w b n M w3 b3 n3 M2) w 0 y := fun x y => lpf_congr _ _ w y (fun i a hi => by
    unfold f_X1_digestWithWards_5 f_X3_digest_118 r_X1_digestWith
    rw [r_fevers (th := 0) (w2 := w3) (b2 := b3) (n2 := n3) (M2 := M2) hw hb hn h hi, r_ca1 hw hb hn h hi, cl (show i < 30 by omega), (h.2.1.1 i (by omega)).1, (h.2.1.1 i (by omega)).2])
  have e2 : ∀ x y, lpf (f_X1_digestWithBarges_5 w b n T w2 b2 n2 T2 x) b 0 y = lpf (f_X3_digest_202 th w b n M w3 b3 n3 M2) b 0 y := fun x y => lpf_congr _ _ b y (fun i a hi => by
    unfold f_X1_digestWithBarges_5 f_X3_digest_202 r_X1_digestWith
    rw [r_ca0 hw hb hn h hi, cl (show i < 30 by omega), (h.2.1.2.1 i (by omega)).1, (h.2.1.2.1 i (by omega)).2])
  have e3 : ∀ x y, lpf (f_X1_digestWithPeople_5 w b n T w2 b2 n2 T2 x) n 0 y = lpf (f_X3_digest_277 th w b n M w3 b3 n3 M2) n 0 y := fun x y => lpf_congr _ _ n y (fun i a hi => by
    unfold f_X1_digestWithPeople_5 f_X3_digest_277 r_X1_digestWith
    rw [r_wardTold (th := 0) (w2 := w3) (b2 := b3) (n2 := n3) (M2 := M2) hw hb hn h hi, r_bargeTold (th := 0) (w2 := w3) (b2 := b3) (n2 := n3) (M2 := M2) hw hb hn h hi, cl (show i < 30 by omega), (h.2.1.2.2 i (by omega)).1, (h.2.1.2.2 i (by omega)).2]
    have L1 := Wr_home hw hb (h.2.2.1 i hi)
    have L2 := Wr_gh hw hb (h.2.2.1 i hi)
    by_cases h1 : ct_wh T i = 2
    · have h2 : ¬ ct_wh T i = 3 := fun z => absurd (h1.symm.trans z) (by decide)
      rw [if_pos h1, if_pos (L1.mp h1), if_neg h2, if_neg (fun z => h2 (L2.mpr z))]
    · rw [if_neg h1, if_neg (fun z => h1 (L1.mpr z))]
      by_cases h2 : ct_wh T i = 3
      · rw [if_pos h2, if_pos (L2.mp h2)]
      · rw [if_neg h2, if_neg (fun z => h2 (L2.mpr z))])
  rw [e1, e2, e3, h.1.1, h.1.2.1, h.1.2.2]
  rfl
end PH
