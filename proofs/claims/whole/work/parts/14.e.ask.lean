/-! 14.e: pure: the questions, one by one -/
section PE
theorem chkP {w b n : Nat} {T : ct_T} {w2 b2 n2 : Nat} {T2 : ct_T} {x : Int32} (hn : n ≤ 30) : e_X1_checkPerson w b n T w2 b2 n2 T2 x = if r_X3_isIn x 0 (nI n - 1) = 0 then 3 else 0 := by unfold e_X1_checkPerson; exact chk hn
theorem chkW {w b n : Nat} {T : ct_T} {w2 b2 n2 : Nat} {T2 : ct_T} {x : Int32} (hn : w ≤ 5) : e_X1_checkWard w b n T w2 b2 n2 T2 x = if r_X3_isIn x 0 (nI w - 1) = 0 then 3 else 0 := by unfold e_X1_checkWard; exact chk (by omega)
theorem chkB {w b n : Nat} {T : ct_T} {w2 b2 n2 : Nat} {T2 : ct_T} {x : Int32} (hn : b ≤ 4) : e_X1_checkBarge w b n T w2 b2 n2 T2 x = if r_X3_isIn x 0 (nI b - 1) = 0 then 3 else 0 := by unfold e_X1_checkBarge; exact chk (by omega)
theorem r_bargeTold {w b n : Nat} {T : ct_T} {M M2 : mt_T} {th : Int32} {w2 b2 n2 : Nat} (hw : w ≤ 5) (hb : b ≤ 4) (hn : n ≤ 30) (h : RR w b n T M) {j : Nat} (hj : j < n) : r_X0_numberOf w b n T (nI j) 0 = r_X3_bargeTold th w b n M w2 b2 n2 M2 (nI j) := by
  unfold r_X0_numberOf r_X3_bargeTold
  rw [cl (show j < 30 by omega)]
  rcases h.2.2.1 j hj with ⟨e, k, hk, -, e2⟩ | ⟨e, k, hk, e1, e2⟩ | ⟨e, e2⟩ | ⟨e, e2⟩
  · rw [e, e2, if_neg (by decide), if_pos]
    rw [isIn_iff]
    exact fun z => z.1 ((nI_ltI (a := k) (b := 10) (by omega) (by decide)).mpr (by omega))
  · rw [e, e1, e2, if_pos rfl, if_neg]
    · have e9 : nI (10 + k) = (10 : Int32) + nI k := (i_10 k).symm
      rw [e9]; grind
    · rw [isIn_iff, Decidable.not_not]
      exact ⟨fun z => absurd ((nI_ltI (a := 10 + k) (b := 10) (by omega) (by decide)).mp z) (by omega), fun z => absurd ((nI_ltI (a := 19) (b := 10 + k) (by decide) (by omega)).mp z) (by omega)⟩
  · rw [e, e2]; rfl
  · rw [e, e2]; rfl

theorem op_feverOf {w b n w2 b2 n2 w3 b3 n3 : Nat} {T T2 : ct_T} {M M2 : mt_T} {th : Int32} (hw : w ≤ 5) (hb : b ≤ 4) (hn : n ≤ 30) (h : RR w b n T M) (x1 : Int32) : (e_X1_feverOf w b n T w2 b2 n2 T2 x1 = 0 ∨ e_X1_feverOf w b n T w2 b2 n2 T2 x1 = 3) ∧ (if e_X1_feverOf w b n T w2 b2 n2 T2 x1 = 0 then (0 : Int32) else 1) = t_X3_feverOf th w b n M w3 b3 n3 M2 x1 ∧ (e_X1_feverOf w b n T w2 b2 n2 T2 x1 = 0 → r_X1_feverOf w b n T w2 b2 n2 T2 x1 = r_X3_feverOf th w b n M w3 b3 n3 M2 x1) := by
  have hq := isIn_n (x := x1) (n := n) hn
  unfold e_X1_feverOf r_X1_feverOf t_X3_feverOf r_X3_feverOf r_X3_isPerson
  try unfold t_X3_no
  rw [chkP hn]
  generalize r_X3_isIn x1 0 (nI n - 1) = q at hq ⊢
  by_cases h0 : q = 0
  · subst h0; simp
  · obtain ⟨j, hj, rfl⟩ := hq.mp h0
    have hj30 : j < 30 := by omega
    refine ⟨Or.inl ?_, ?_, fun _ => ?_⟩
    · simp [h0]
    · simp [h0]
    · simp only [if_neg h0, ↓reduceIte]
      rw [cl hj30]; exact (h.2.1.2.2 j hj30).1
theorem op_wardOf {w b n w2 b2 n2 w3 b3 n3 : Nat} {T T2 : ct_T} {M M2 : mt_T} {th : Int32} (hw : w ≤ 5) (hb : b ≤ 4) (hn : n ≤ 30) (h : RR w b n T M) (x1 : Int32) : (e_X1_wardOf w b n T w2 b2 n2 T2 x1 = 0 ∨ e_X1_wardOf w b n T w2 b2 n2 T2 x1 = 3) ∧ (if e_X1_wardOf w b n T w2 b2 n2 T2 x1 = 0 then (0 : Int32) else 1) = t_X3_wardOf th w b n M w3 b3 n3 M2 x1 ∧ (e_X1_wardOf w b n T w2 b2 n2 T2 x1 = 0 → r_X1_wardOf w b n T w2 b2 n2 T2 x1 = r_X3_wardOf th w b n M w3 b3 n3 M2 x1) := by
  have hq := isIn_n (x := x1) (n := n) hn
  unfold e_X1_wardOf r_X1_wardOf t_X3_wardOf r_X3_wardOf r_X3_isPerson
  try unfold t_X3_no
  rw [chkP hn]
  generalize r_X3_isIn x1 0 (nI n - 1) = q at hq ⊢
  by_cases h0 : q = 0
  · subst h0; simp
  · obtain ⟨j, hj, rfl⟩ := hq.mp h0
    have hj30 : j < 30 := by omega
    refine ⟨Or.inl ?_, ?_, fun _ => ?_⟩
    · simp [h0]
    · simp [h0]
    · simp only [if_neg h0, ↓reduceIte]
      exact r_wardTold hw hb hn h hj
theorem op_bargeOf {w b n w2 b2 n2 w3 b3 n3 : Nat} {T T2 : ct_T} {M M2 : mt_T} {th : Int32} (hw : w ≤ 5) (hb : b ≤ 4) (hn : n ≤ 30) (h : RR w b n T M) (x1 : Int32) : (e_X1_bargeOf w b n T w2 b2 n2 T2 x1 = 0 ∨ e_X1_bargeOf w b n T w2 b2 n2 T2 x1 = 3) ∧ (if e_X1_bargeOf w b n T w2 b2 n2 T2 x1 = 0 then (0 : Int32) else 1) = t_X3_bargeOf th w b n M w3 b3 n3 M2 x1 ∧ (e_X1_bargeOf w b n T w2 b2 n2 T2 x1 = 0 → r_X1_bargeOf w b n T w2 b2 n2 T2 x1 = r_X3_bargeOf th w b n M w3 b3 n3 M2 x1) := by
  have hq := isIn_n (x := x1) (n := n) hn
  unfold e_X1_bargeOf r_X1_bargeOf t_X3_bargeOf r_X3_bargeOf r_X3_isPerson
  try unfold t_X3_no
  rw [chkP hn]
  generalize r_X3_isIn x1 0 (nI n - 1) = q at hq ⊢
  by_cases h0 : q = 0
  · subst h0; simp
  · obtain ⟨j, hj, rfl⟩ := hq.mp h0
    have hj30 : j < 30 := by omega
    refine ⟨Or.inl ?_, ?_, fun _ => ?_⟩
    · simp [h0]
    · simp [h0]
    · simp only [if_neg h0, ↓reduceIte]
      exact r_bargeTold hw hb hn h hj
theorem op_isHome {w b n w2 b2 n2 w3 b3 n3 : Nat} {T T2 : ct_T} {M M2 : mt_T} {th : Int32} (hw : w ≤ 5) (hb : b ≤ 4) (hn : n ≤ 30) (h : RR w b n T M) (x1 : Int32) : (e_X1_isHome w b n T w2 b2 n2 T2 x1 = 0 ∨ e_X1_isHome w b n T w2 b2 n2 T2 x1 = 3) ∧ (if e_X1_isHome w b n T w2 b2 n2 T2 x1 = 0 then (0 : Int32) else 1) = t_X3_isHome th w b n M w3 b3 n3 M2 x1 ∧ (e_X1_isHome w b n T w2 b2 n2 T2 x1 = 0 → r_X1_isHome w b n T w2 b2 n2 T2 x1 = r_X3_isHome th w b n M w3 b3 n3 M2 x1) := by
  have hq := isIn_n (x := x1) (n := n) hn
  unfold e_X1_isHome r_X1_isHome t_X3_isHome r_X3_isHome r_X3_isPerson
  try unfold t_X3_no
  rw [chkP hn]
  generalize r_X3_isIn x1 0 (nI n - 1) = q at hq ⊢
  by_cases h0 : q = 0
  · subst h0; simp
  · obtain ⟨j, hj, rfl⟩ := hq.mp h0
    have hj30 : j < 30 := by omega
    refine ⟨Or.inl ?_, ?_, fun _ => ?_⟩
    · simp [h0]
    · simp [h0]
    · simp only [if_neg h0, ↓reduceIte]
      rw [cl hj30]
      have L := Wr_home hw hb (h.2.2.1 j hj)
      by_cases h1 : ct_wh T j = 2
      · rw [if_pos h1, if_pos (L.mp h1)]
      · rw [if_neg h1, if_neg (fun z => h1 (L.mpr z))]
theorem op_isInGreatHouse {w b n w2 b2 n2 w3 b3 n3 : Nat} {T T2 : ct_T} {M M2 : mt_T} {th : Int32} (hw : w ≤ 5) (hb : b ≤ 4) (hn : n ≤ 30) (h : RR w b n T M) (x1 : Int32) : (e_X1_isInGreatHouse w b n T w2 b2 n2 T2 x1 = 0 ∨ e_X1_isInGreatHouse w b n T w2 b2 n2 T2 x1 = 3) ∧ (if e_X1_isInGreatHouse w b n T w2 b2 n2 T2 x1 = 0 then (0 : Int32) else 1) = t_X3_isInGreatHouse th w b n M w3 b3 n3 M2 x1 ∧ (e_X1_isInGreatHouse w b n T w2 b2 n2 T2 x1 = 0 → r_X1_isInGreatHouse w b n T w2 b2 n2 T2 x1 = r_X3_isInGreatHouse th w b n M w3 b3 n3 M2 x1) := by
  have hq := isIn_n (x := x1) (n := n) hn
  unfold e_X1_isInGreatHouse r_X1_isInGreatHouse t_X3_isInGreatHouse r_X3_isInGreatHouse r_X3_isPerson
  try unfold t_X3_no
  rw [chkP hn]
  generalize r_X3_isIn x1 0 (nI n - 1) = q at hq ⊢
  by_cases h0 : q = 0
  · subst h0; simp
  · obtain ⟨j, hj, rfl⟩ := hq.mp h0
    have hj30 : j < 30 := by omega
    refine ⟨Or.inl ?_, ?_, fun _ => ?_⟩
    · simp [h0]
    · simp [h0]
    · simp only [if_neg h0, ↓reduceIte]
      rw [cl hj30]
      have L := Wr_gh hw hb (h.2.2.1 j hj)
      by_cases h1 : ct_wh T j = 3
      · rw [if_pos h1, if_pos (L.mp h1)]
      · rw [if_neg h1, if_neg (fun z => h1 (L.mpr z))]
theorem op_hungryDaysOf {w b n w2 b2 n2 w3 b3 n3 : Nat} {T T2 : ct_T} {M M2 : mt_T} {th : Int32} (hw : w ≤ 5) (hb : b ≤ 4) (hn : n ≤ 30) (h : RR w b n T M) (x1 : Int32) : (e_X1_hungryDaysOf w b n T w2 b2 n2 T2 x1 = 0 ∨ e_X1_hungryDaysOf w b n T w2 b2 n2 T2 x1 = 3) ∧ (if e_X1_hungryDaysOf w b n T w2 b2 n2 T2 x1 = 0 then (0 : Int32) else 1) = t_X3_hungryDaysOf th w b n M w3 b3 n3 M2 x1 ∧ (e_X1_hungryDaysOf w b n T w2 b2 n2 T2 x1 = 0 → r_X1_hungryDaysOf w b n T w2 b2 n2 T2 x1 = r_X3_hungryDaysOf th w b n M w3 b3 n3 M2 x1) := by
  have hq := isIn_n (x := x1) (n := n) hn
  unfold e_X1_hungryDaysOf r_X1_hungryDaysOf t_X3_hungryDaysOf r_X3_hungryDaysOf r_X3_isPerson
  try unfold t_X3_no
  rw [chkP hn]
  generalize r_X3_isIn x1 0 (nI n - 1) = q at hq ⊢
  by_cases h0 : q = 0
  · subst h0; simp
  · obtain ⟨j, hj, rfl⟩ := hq.mp h0
    have hj30 : j < 30 := by omega
    refine ⟨Or.inl ?_, ?_, fun _ => ?_⟩
    · simp [h0]
    · simp [h0]
    · simp only [if_neg h0, ↓reduceIte]
      rw [cl hj30]; exact (h.2.1.2.2 j hj30).2
theorem op_placesOf {w b n w2 b2 n2 w3 b3 n3 : Nat} {T T2 : ct_T} {M M2 : mt_T} {th : Int32} (hw : w ≤ 5) (hb : b ≤ 4) (hn : n ≤ 30) (h : RR w b n T M) (x1 : Int32) : (e_X1_placesOf w b n T w2 b2 n2 T2 x1 = 0 ∨ e_X1_placesOf w b n T w2 b2 n2 T2 x1 = 3) ∧ (if e_X1_placesOf w b n T w2 b2 n2 T2 x1 = 0 then (0 : Int32) else 1) = t_X3_placesOf th w b n M w3 b3 n3 M2 x1 ∧ (e_X1_placesOf w b n T w2 b2 n2 T2 x1 = 0 → r_X1_placesOf w b n T w2 b2 n2 T2 x1 = r_X3_placesOf th w b n M w3 b3 n3 M2 x1) := by
  have hq := isIn_n (x := x1) (n := w) (by omega)
  unfold e_X1_placesOf r_X1_placesOf t_X3_placesOf r_X3_placesOf r_X3_isWard
  try unfold t_X3_no
  rw [chkW hw]
  generalize r_X3_isIn x1 0 (nI w - 1) = q at hq ⊢
  by_cases h0 : q = 0
  · subst h0; simp
  · obtain ⟨j, hj, rfl⟩ := hq.mp h0
    have hj30 : j < 30 := by omega
    refine ⟨Or.inl ?_, ?_, fun _ => ?_⟩
    · simp [h0]
    · simp [h0]
    · simp only [if_neg h0, ↓reduceIte]
      rw [cl hj30]; exact (h.2.1.1 j (by omega)).1
theorem op_peopleIn {w b n w2 b2 n2 w3 b3 n3 : Nat} {T T2 : ct_T} {M M2 : mt_T} {th : Int32} (hw : w ≤ 5) (hb : b ≤ 4) (hn : n ≤ 30) (h : RR w b n T M) (x1 : Int32) : (e_X1_peopleIn w b n T w2 b2 n2 T2 x1 = 0 ∨ e_X1_peopleIn w b n T w2 b2 n2 T2 x1 = 3) ∧ (if e_X1_peopleIn w b n T w2 b2 n2 T2 x1 = 0 then (0 : Int32) else 1) = t_X3_peopleIn th w b n M w3 b3 n3 M2 x1 ∧ (e_X1_peopleIn w b n T w2 b2 n2 T2 x1 = 0 → r_X1_peopleIn w b n T w2 b2 n2 T2 x1 = r_X3_peopleIn th w b n M w3 b3 n3 M2 x1) := by
  have hq := isIn_n (x := x1) (n := w) (by omega)
  unfold e_X1_peopleIn r_X1_peopleIn t_X3_peopleIn r_X3_peopleIn r_X3_isWard
  try unfold t_X3_no
  rw [chkW hw]
  generalize r_X3_isIn x1 0 (nI w - 1) = q at hq ⊢
  by_cases h0 : q = 0
  · subst h0; simp
  · obtain ⟨j, hj, rfl⟩ := hq.mp h0
    have hj30 : j < 30 := by omega
    refine ⟨Or.inl ?_, ?_, fun _ => ?_⟩
    · simp [h0]
    · simp [h0]
    · simp only [if_neg h0, ↓reduceIte]
      exact r_ca1 hw hb hn h hj
theorem op_strawOf {w b n w2 b2 n2 w3 b3 n3 : Nat} {T T2 : ct_T} {M M2 : mt_T} {th : Int32} (hw : w ≤ 5) (hb : b ≤ 4) (hn : n ≤ 30) (h : RR w b n T M) (x1 : Int32) : (e_X1_strawOf w b n T w2 b2 n2 T2 x1 = 0 ∨ e_X1_strawOf w b n T w2 b2 n2 T2 x1 = 3) ∧ (if e_X1_strawOf w b n T w2 b2 n2 T2 x1 = 0 then (0 : Int32) else 1) = t_X3_strawOf th w b n M w3 b3 n3 M2 x1 ∧ (e_X1_strawOf w b n T w2 b2 n2 T2 x1 = 0 → r_X1_strawOf w b n T w2 b2 n2 T2 x1 = r_X3_strawOf th w b n M w3 b3 n3 M2 x1) := by
  have hq := isIn_n (x := x1) (n := w) (by omega)
  unfold e_X1_strawOf r_X1_strawOf t_X3_strawOf r_X3_strawOf r_X3_isWard
  try unfold t_X3_no
  rw [chkW hw]
  generalize r_X3_isIn x1 0 (nI w - 1) = q at hq ⊢
  by_cases h0 : q = 0
  · subst h0; simp
  · obtain ⟨j, hj, rfl⟩ := hq.mp h0
    have hj30 : j < 30 := by omega
    refine ⟨Or.inl ?_, ?_, fun _ => ?_⟩
    · simp [h0]
    · simp [h0]
    · simp only [if_neg h0, ↓reduceIte]
      rw [cl hj30]; exact (h.2.1.1 j (by omega)).2
theorem op_feversIn {w b n w2 b2 n2 w3 b3 n3 : Nat} {T T2 : ct_T} {M M2 : mt_T} {th : Int32} (hw : w ≤ 5) (hb : b ≤ 4) (hn : n ≤ 30) (h : RR w b n T M) (x1 : Int32) : (e_X1_feversIn w b n T w2 b2 n2 T2 x1 = 0 ∨ e_X1_feversIn w b n T w2 b2 n2 T2 x1 = 3) ∧ (if e_X1_feversIn w b n T w2 b2 n2 T2 x1 = 0 then (0 : Int32) else 1) = t_X3_feversIn th w b n M w3 b3 n3 M2 x1 ∧ (e_X1_feversIn w b n T w2 b2 n2 T2 x1 = 0 → r_X1_feversIn w b n T w2 b2 n2 T2 x1 = r_X3_feversIn th w b n M w3 b3 n3 M2 x1) := by
  have hq := isIn_n (x := x1) (n := w) (by omega)
  unfold e_X1_feversIn r_X1_feversIn t_X3_feversIn r_X3_feversIn r_X3_isWard
  try unfold t_X3_no
  rw [chkW hw]
  generalize r_X3_isIn x1 0 (nI w - 1) = q at hq ⊢
  by_cases h0 : q = 0
  · subst h0; simp
  · obtain ⟨j, hj, rfl⟩ := hq.mp h0
    have hj30 : j < 30 := by omega
    refine ⟨Or.inl ?_, ?_, fun _ => ?_⟩
    · simp [h0]
    · simp [h0]
    · simp only [if_neg h0, ↓reduceIte]
      exact r_fevers hw hb hn h hj
theorem op_daysToGo {w b n w2 b2 n2 w3 b3 n3 : Nat} {T T2 : ct_T} {M M2 : mt_T} {th : Int32} (hw : w ≤ 5) (hb : b ≤ 4) (hn : n ≤ 30) (h : RR w b n T M) (x1 : Int32) : (e_X1_daysToGo w b n T w2 b2 n2 T2 x1 = 0 ∨ e_X1_daysToGo w b n T w2 b2 n2 T2 x1 = 3) ∧ (if e_X1_daysToGo w b n T w2 b2 n2 T2 x1 = 0 then (0 : Int32) else 1) = t_X3_daysToGo th w b n M w3 b3 n3 M2 x1 ∧ (e_X1_daysToGo w b n T w2 b2 n2 T2 x1 = 0 → r_X1_daysToGo w b n T w2 b2 n2 T2 x1 = r_X3_daysToGo th w b n M w3 b3 n3 M2 x1) := by
  have hq := isIn_n (x := x1) (n := b) (by omega)
  unfold e_X1_daysToGo r_X1_daysToGo t_X3_daysToGo r_X3_daysToGo r_X3_isBarge
  try unfold t_X3_no
  rw [chkB hb]
  generalize r_X3_isIn x1 0 (nI b - 1) = q at hq ⊢
  by_cases h0 : q = 0
  · subst h0; simp
  · obtain ⟨j, hj, rfl⟩ := hq.mp h0
    have hj30 : j < 30 := by omega
    refine ⟨Or.inl ?_, ?_, fun _ => ?_⟩
    · simp [h0]
    · simp [h0]
    · simp only [if_neg h0, ↓reduceIte]
      rw [cl hj30]; exact (h.2.1.2.1 j (by omega)).2
theorem op_keptFor {w b n w2 b2 n2 w3 b3 n3 : Nat} {T T2 : ct_T} {M M2 : mt_T} {th : Int32} (hw : w ≤ 5) (hb : b ≤ 4) (hn : n ≤ 30) (h : RR w b n T M) (x1 : Int32) : (e_X1_keptFor w b n T w2 b2 n2 T2 x1 = 0 ∨ e_X1_keptFor w b n T w2 b2 n2 T2 x1 = 3) ∧ (if e_X1_keptFor w b n T w2 b2 n2 T2 x1 = 0 then (0 : Int32) else 1) = t_X3_keptFor th w b n M w3 b3 n3 M2 x1 ∧ (e_X1_keptFor w b n T w2 b2 n2 T2 x1 = 0 → r_X1_keptFor w b n T w2 b2 n2 T2 x1 = r_X3_keptFor th w b n M w3 b3 n3 M2 x1) := by
  have hq := isIn_n (x := x1) (n := b) (by omega)
  unfold e_X1_keptFor r_X1_keptFor t_X3_keptFor r_X3_keptFor r_X3_isBarge
  try unfold t_X3_no
  rw [chkB hb]
  generalize r_X3_isIn x1 0 (nI b - 1) = q at hq ⊢
  by_cases h0 : q = 0
  · subst h0; simp
  · obtain ⟨j, hj, rfl⟩ := hq.mp h0
    have hj30 : j < 30 := by omega
    refine ⟨Or.inl ?_, ?_, fun _ => ?_⟩
    · simp [h0]
    · simp [h0]
    · simp only [if_neg h0, ↓reduceIte]
      rw [cl hj30]; exact (h.2.1.2.1 j (by omega)).1
theorem op_peopleOn {w b n w2 b2 n2 w3 b3 n3 : Nat} {T T2 : ct_T} {M M2 : mt_T} {th : Int32} (hw : w ≤ 5) (hb : b ≤ 4) (hn : n ≤ 30) (h : RR w b n T M) (x1 : Int32) : (e_X1_peopleOn w b n T w2 b2 n2 T2 x1 = 0 ∨ e_X1_peopleOn w b n T w2 b2 n2 T2 x1 = 3) ∧ (if e_X1_peopleOn w b n T w2 b2 n2 T2 x1 = 0 then (0 : Int32) else 1) = t_X3_peopleOn th w b n M w3 b3 n3 M2 x1 ∧ (e_X1_peopleOn w b n T w2 b2 n2 T2 x1 = 0 → r_X1_peopleOn w b n T w2 b2 n2 T2 x1 = r_X3_peopleOn th w b n M w3 b3 n3 M2 x1) := by
  have hq := isIn_n (x := x1) (n := b) (by omega)
  unfold e_X1_peopleOn r_X1_peopleOn t_X3_peopleOn r_X3_peopleOn r_X3_isBarge
  try unfold t_X3_no
  rw [chkB hb]
  generalize r_X3_isIn x1 0 (nI b - 1) = q at hq ⊢
  by_cases h0 : q = 0
  · subst h0; simp
  · obtain ⟨j, hj, rfl⟩ := hq.mp h0
    have hj30 : j < 30 := by omega
    refine ⟨Or.inl ?_, ?_, fun _ => ?_⟩
    · simp [h0]
    · simp [h0]
    · simp only [if_neg h0, ↓reduceIte]
      exact r_ca0 hw hb hn h hj
theorem op_highestFeverOn {w b n w2 b2 n2 w3 b3 n3 : Nat} {T T2 : ct_T} {M M2 : mt_T} {th : Int32} (hw : w ≤ 5) (hb : b ≤ 4) (hn : n ≤ 30) (h : RR w b n T M) (x1 : Int32) : (e_X1_highestFeverOn w b n T w2 b2 n2 T2 x1 = 0 ∨ e_X1_highestFeverOn w b n T w2 b2 n2 T2 x1 = 3) ∧ (if e_X1_highestFeverOn w b n T w2 b2 n2 T2 x1 = 0 then (0 : Int32) else 1) = t_X3_highestFeverOn th w b n M w3 b3 n3 M2 x1 ∧ (e_X1_highestFeverOn w b n T w2 b2 n2 T2 x1 = 0 → r_X1_highestFeverOn w b n T w2 b2 n2 T2 x1 = r_X3_highestFeverOn th w b n M w3 b3 n3 M2 x1) := by
  have hq := isIn_n (x := x1) (n := b) (by omega)
  unfold e_X1_highestFeverOn r_X1_highestFeverOn t_X3_highestFeverOn r_X3_highestFeverOn r_X3_isBarge
  try unfold t_X3_no
  rw [chkB hb]
  generalize r_X3_isIn x1 0 (nI b - 1) = q at hq ⊢
  by_cases h0 : q = 0
  · subst h0; simp
  · obtain ⟨j, hj, rfl⟩ := hq.mp h0
    have hj30 : j < 30 := by omega
    refine ⟨Or.inl ?_, ?_, fun _ => ?_⟩
    · simp [h0]
    · simp [h0]
    · simp only [if_neg h0, ↓reduceIte]
      exact r_high hw hb hn h hj
end PE