/-! 14.h: pure: what holds between the days; days on end; copies -/
section PH
theorem ward_sum {w b n : Nat} {T : ct_T} {W B P : Nat → Nat → Int32} (hw : w ≤ 5) (hX : RX w b n T W B P) : sN (fun i => cn (iw T i) n) w = ch T 1 n := by
  refine sum_cn (fun i => iw T i) _ (fun q hq => ⟨fun hR => ?_, fun hR i hi => ?_⟩)
  · have h1 : ct_wh T q = 1 := of_decide_eq_true hR
    rcases (hX.2.2 q hq).2.2 with ⟨-, k, hk, e2, -⟩ | ⟨e1, -⟩ | ⟨e1, -⟩ | ⟨e1, -⟩
    · refine ⟨k, hk, fun i hi => ?_⟩
      show decide (ct_wh T q = 1 ∧ ct_nu T q = nI i) = true ↔ _
      rw [decide_eq_true_iff, e2, nI_eq (by omega) (by omega)]
      exact ⟨fun z => z.2.symm, fun z => ⟨h1, z.symm⟩⟩
    · exact absurd (h1.symm.trans e1) (by decide)
    · exact absurd (h1.symm.trans e1) (by decide)
    · exact absurd (h1.symm.trans e1) (by decide)
  · exact decide_eq_false (fun z => of_decide_eq_false hR z.1)
theorem barge_sum {w b n : Nat} {T : ct_T} {W B P : Nat → Nat → Int32} (hb : b ≤ 4) (hX : RX w b n T W B P) : sN (fun i => cn (ob T i) n) b = ch T 0 n := by
  refine sum_cn (fun i => ob T i) _ (fun q hq => ⟨fun hR => ?_, fun hR i hi => ?_⟩)
  · have h1 : ct_wh T q = 0 := of_decide_eq_true hR
    rcases (hX.2.2 q hq).2.2 with ⟨e1, -⟩ | ⟨-, k, hk, e2, -⟩ | ⟨e1, -⟩ | ⟨e1, -⟩
    · exact absurd (h1.symm.trans e1) (by decide)
    · refine ⟨k, hk, fun i hi => ?_⟩
      show decide (ct_wh T q = 0 ∧ ct_nu T q = nI i) = true ↔ _
      rw [decide_eq_true_iff, e2, nI_eq (by omega) (by omega)]
      exact ⟨fun z => z.2.symm, fun z => ⟨h1, z.symm⟩⟩
    · exact absurd (h1.symm.trans e1) (by decide)
    · exact absurd (h1.symm.trans e1) (by decide)
  · exact decide_eq_false (fun z => of_decide_eq_false hR z.1)
theorem all_sum {T : ct_T} : ∀ {n : Nat}, (∀ q, q < n → ct_wh T q = 1 ∨ ct_wh T q = 0 ∨ ct_wh T q = 2 ∨ ct_wh T q = 3) → ch T 1 n + ch T 0 n + ch T 2 n + ch T 3 n = n
  | 0, _ => rfl
  | n + 1, h => by
    have h1 := all_sum (T := T) (n := n) (fun q hq => h q (by omega))
    show (ch T 1 n + (if decide (ct_wh T n = 1) = true then 1 else 0)) + (ch T 0 n + (if decide (ct_wh T n = 0) = true then 1 else 0)) + (ch T 2 n + (if decide (ct_wh T n = 2) = true then 1 else 0)) + (ch T 3 n + (if decide (ct_wh T n = 3) = true then 1 else 0)) = n + 1
    rcases h n (by omega) with e | e | e | e <;> rw [e] <;> simp <;> omega
theorem sum_all {w b n : Nat} {T : ct_T} {W B P : Nat → Nat → Int32} (hX : RX w b n T W B P) : ch T 1 n + ch T 0 n + ch T 2 n + ch T 3 n = n := all_sum (fun q hq => PL_x (hX.2.2 q hq).2.2)
theorem sI_cw {w b n : Nat} {T : ct_T} {W B P : Nat → Nat → Int32} (hw : w ≤ 5) (hX : RX w b n T W B P) : sI (fun i => nI (cn (iw T i) n)) w = nI (ch T 1 n) := by
  rw [sI_nI (g := fun i => cn (iw T i) n) (fun j _ => rfl), ward_sum hw hX]
theorem sI_cb {w b n : Nat} {T : ct_T} {W B P : Nat → Nat → Int32} (hb : b ≤ 4) (hX : RX w b n T W B P) : sI (fun i => nI (cn (ob T i) n)) b = nI (ch T 0 n) := by
  rw [sI_nI (g := fun i => cn (ob T i) n) (fun j _ => rfl), barge_sum hb hX]
theorem sN_k {P : Nat → Bool} {k : Nat} : ∀ {n : Nat}, sN (fun q => if P q = true then k else 0) n = k * cn P n
  | 0 => rfl
  | n + 1 => by
    show sN (fun q => if P q = true then k else 0) n + (if P n = true then k else 0) = k * (cn P n + (if P n = true then 1 else 0))
    rw [sN_k, Nat.mul_add]
    congr 1
    split <;> simp
/-- the fevers in a ward, added -/
theorem fI_bd {n : Nat} {T : ct_T} (hn : n ≤ 30) (hF : FE n T) (hK : KF n T) (i : Nat) : ∃ f, fI T i n = nI f ∧ cn (iw T i) n ≤ f ∧ f ≤ 10 * cn (iw T i) n := by
  refine ⟨sN (fun q => if iw T i q = true then (ct_fe T q).toNatClampNeg else 0) n, sI_nI (fun j hj => ?_), ?_, ?_⟩
  · obtain ⟨k, hk, e⟩ := hF j hj
    show (if iw T i j = true then ct_fe T j else 0) = nI (if iw T i j = true then (ct_fe T j).toNatClampNeg else 0)
    rw [e, nI_clamp (by omega)]
    split
    · rfl
    · exact nI_0.symm
  · rw [cn_sN]
    refine sN_le (fun j hj => ?_)
    show (if iw T i j = true then 1 else 0) ≤ (if iw T i j = true then (ct_fe T j).toNatClampNeg else 0)
    split
    · next h =>
      obtain ⟨k, hk, e⟩ := hF j hj
      have h0 := (hK j hj).1 (of_decide_eq_true h).1
      rw [e, nI_clamp (by omega)]
      rw [e] at h0
      rcases Nat.eq_zero_or_pos k with q | q
      · rw [q] at h0; exact absurd nI_0 h0
      · exact q
    · exact Nat.le_refl 0
  · rw [← sN_k]
    refine sN_le (fun j hj => ?_)
    show (if iw T i j = true then (ct_fe T j).toNatClampNeg else 0) ≤ (if iw T i j = true then 10 else 0)
    split
    · obtain ⟨k, hk, e⟩ := hF j hj
      rw [e, nI_clamp (by omega)]; exact hk
    · exact Nat.le_refl 0
theorem hT_0 {n : Nat} {T : ct_T} {i : Nat} (h : cn (ob T i) n = 0) : hT T i n = 0 := by
  have hno : ∀ q, q < n → ¬ ob T i q = true := fun q hq z => by
    have := cn_pos.mpr ⟨q, hq, z⟩
    omega
  unfold hT
  refine lpf_inv (fun _ (a : Int32) => a = 0) _ n 0 rfl (fun j a hj ha => ?_)
  rw [if_neg (hno j hj)]; exact ha
theorem on_to {b n : Nat} {T : ct_T} (hb : b ≤ 4) (hG : BG b T) (hQ : BQ b n T) {i : Nat} (hi : i < b) (h : 0 < cn (ob T i) n) : ¬ ct_to T i = 0 := by
  intro z
  obtain ⟨q, hq, e⟩ := cn_pos.mp h
  have e2 := of_decide_eq_true e
  exact hQ i hi z q hq e2.1 e2.2
/-- a town that looks the same -/
theorem DI_ext {w b n k : Nat} {T T' : ct_T} {S : sm_T} (hw : w ≤ 5) (hb : b ≤ 4) (hn : n ≤ 30) (h : DI w b n k T S) (s1 : ct_day T' = ct_day T ∧ ct_bo T' = ct_bo T ∧ ct_ea T' = ct_ea T)
    (c1 : ∀ i, i < 5 → ct_pl T' i = ct_pl T i ∧ ct_st T' i = ct_st T i) (c2 : ∀ i, i < 4 → ct_ke T' i = ct_ke T i ∧ ct_to T' i = ct_to T i) (c3 : ∀ q, q < 30 → ct_fe T' q = ct_fe T q ∧ ct_hd T' q = ct_hd T q ∧ ct_wh T' q = ct_wh T q ∧ ct_nu T' q = ct_nu T q) : DI w b n k T' S := by
  obtain ⟨⟨⟨x1, x2, x3⟩, hF, hC, hG⟩, hK, hQ, d1, d2, d3⟩ := h
  refine ⟨⟨⟨fun i hi => ?_, fun i hi => ?_, fun p hp => ?_⟩, fun p hp => ?_, fun i hi => ?_, fun i hi => ?_⟩, fun p hp => ?_, fun i hi ht p hp => ?_, s1.1.trans d1, s1.2.1.trans d2, s1.2.2.trans d3⟩
  · rw [(c1 i (by omega)).1, (c1 i (by omega)).2]; exact x1 i hi
  · rw [(c2 i (by omega)).1, (c2 i (by omega)).2]; exact x2 i hi
  · obtain ⟨e1, e2, e3, e4⟩ := c3 p (by omega)
    rw [e1, e2, e3, e4]; exact x3 p hp
  · rw [(c3 p (by omega)).1]; exact hF p hp
  · rw [(c1 i (by omega)).1]
    obtain ⟨c, e1, e2, e3⟩ := hC i hi
    refine ⟨c, e1, e2, ?_⟩
    rw [cn_congr (P := iw T' i) (Q := iw T i) (fun q hq => by
      obtain ⟨-, -, e3, e4⟩ := c3 q (by omega)
      unfold iw; rw [e3, e4])]
    exact e3
  · rw [(c2 i (by omega)).1, (c2 i (by omega)).2]; exact hG i hi
  · obtain ⟨e1, e2, e3, e4⟩ := c3 p (by omega)
    rw [e1, e3]; exact hK p hp
  · rw [(c2 i (by omega)).2] at ht
    obtain ⟨e1, e2, e3, e4⟩ := c3 p (by omega)
    rw [e3, e4]; exact hQ i hi ht p hp
theorem DI_copy {w b n k w2 b2 n2 : Nat} {T T2 : ct_T} {S : sm_T} (hw : w ≤ 5) (hb : b ≤ 4) (hn : n ≤ 30) (h : DI w b n k T S) : DI w b n k (s_X0_copyFrom w2 b2 n2 T2 w b n T) S :=
  DI_ext hw hb hn h ⟨rfl, rfl, rfl⟩ (fun i hi => ⟨cpy_lt hi, cpy_lt hi⟩) (fun i hi => ⟨cpy_lt hi, cpy_lt hi⟩) (fun q hq => ⟨cpy_lt hq, cpy_lt hq, cpy_lt hq, cpy_lt hq⟩)
theorem DI_days {w b n k : Nat} {T : ct_T} {S : sm_T} (hw : w ≤ 5) (hb : b ≤ 4) (hn : n ≤ 30) (hk : k ≤ 60) (h : DI w b n k T S) (d : Nat) : DI w b n k (s_X0_liveDays w b n T d) (sp_it w b n (nI k) S d) ∧ ∀ p, p < n → ct_wh T p = 2 → ct_wh (s_X0_liveDays w b n T d) p = 2 := by
  unfold s_X0_liveDays
  exact lpf_inv (fun i Q => DI w b n k Q (sp_it w b n (nI k) S i) ∧ ∀ p, p < n → ct_wh T p = 2 → ct_wh Q p = 2) (f_X0_liveDays_2 w b n T d) d T ⟨h, fun _ _ z => z⟩ (fun j Q hj hQ => by
    have H := day_ok (T0 := T) (x := d) (i := j) hw hb hn hk hQ.1 _ rfl
    exact ⟨H.1, fun p hp z => H.2.2.2.2 p hp (hQ.2 p hp z)⟩)
theorem DI_in {w b n k : Nat} {T : ct_T} {S : sm_T} (hw : w ≤ 5) (h : DI w b n k T S) : sp_in w n S := fun p hp => PL_vp hw (h.1.1.2.2 p hp).2.2
theorem DI_ins {w b n k : Nat} {T : ct_T} {S : sm_T} (hw : w ≤ 5) (hb : b ≤ 4) (hn : n ≤ 30) (hk : k ≤ 60) (h : DI w b n k T S) (i : Nat) : sp_in w n (sp_it w b n (nI k) S i) := DI_in hw (DI_days hw hb hn hk h i).1
/-- at home, in the great house, told by the law's town -/
def hc (S : sm_T) (m n : Nat) : Nat := cn (fun p => decide (sm_P S p m = 1)) n
theorem DI_home {w b n k : Nat} {T : ct_T} {S : sm_T} (h : DI w b n k T S) {p : Nat} (hp : p < n) : ct_wh T p = 2 ↔ sm_P S p 3 = 1 := (PL_home (h.1.1.2.2 p hp).2.2).1
theorem DI_h2 {w b n k : Nat} {T : ct_T} {S : sm_T} (h : DI w b n k T S) : ch T 2 n = hc S 3 n := cn_congr (fun q hq => decide_eq_decide.mpr (PL_home (h.1.1.2.2 q hq).2.2).1)
theorem DI_h3 {w b n k : Nat} {T : ct_T} {S : sm_T} (h : DI w b n k T S) : ch T 3 n = hc S 4 n := cn_congr (fun q hq => decide_eq_decide.mpr (PL_gh (h.1.1.2.2 q hq).2.2).1)
theorem v_home {w b n k : Nat} {T : ct_T} {S : sm_T} {w2 b2 n2 : Nat} {T2 : ct_T} (hw : w ≤ 5) (hb : b ≤ 4) (hn : n ≤ 30) (hk : k ≤ 60) (h : DI w b n k T S) {d : Nat} (h1 : 1 ≤ d) (h2 : d ≤ 40) : r_X1_homeAfter w b n T w2 b2 n2 T2 (nI d) = nI (hc (sp_it w b n (nI k) S d) 3 n) := by
  unfold r_X1_homeAfter r_X1_countBehind
  rw [ckD h1 h2, if_pos rfl, nI_clamp (by omega), v_count hn, DI_h2 (DI_days hw hb hn hk (DI_copy hw hb hn h) d).1]
theorem v_house {w b n k : Nat} {T : ct_T} {S : sm_T} {w2 b2 n2 : Nat} {T2 : ct_T} (hw : w ≤ 5) (hb : b ≤ 4) (hn : n ≤ 30) (hk : k ≤ 60) (h : DI w b n k T S) {d : Nat} (h1 : 1 ≤ d) (h2 : d ≤ 40) : r_X1_greatHouseAfter w b n T w2 b2 n2 T2 (nI d) = nI (hc (sp_it w b n (nI k) S d) 4 n) := by
  unfold r_X1_greatHouseAfter r_X1_countBehind
  rw [ckD h1 h2, if_pos rfl, nI_clamp (by omega), v_count hn, DI_h3 (DI_days hw hb hn hk (DI_copy hw hb hn h) d).1]
/-- behind how many days p is at home -/
def UH (w b n k : Nat) (S : sm_T) (p : Nat) (u : Int32) : Prop := u = -1 ∨ ∃ d, d ≤ 60 ∧ u = nI d ∧ sm_P (sp_it w b n (nI k) S d) p 3 = 1 ∧ ∀ j, j < d → ¬ sm_P (sp_it w b n (nI k) S j) p 3 = 1
theorem v_until {w b n k : Nat} {T : ct_T} {S : sm_T} {w2 b2 n2 : Nat} {T2 : ct_T} (hw : w ≤ 5) (hb : b ≤ 4) (hn : n ≤ 30) (hk : k ≤ 60) (h : DI w b n k T S) {p : Nat} (hp : p < n) : UH w b n k S p (r_X1_daysUntilHome w b n T w2 b2 n2 T2 (nI p)) := by
  have H := lpx_inv (fun i (Q : ct_T) => DI w b n k Q (sp_it w b n (nI k) S i) ∧ ∀ j, j < i → ¬ sm_P (sp_it w b n (nI k) S j) p 3 = 1) (fun x : Int32 × ct_T => ∃ d, d ≤ 60 ∧ x.1 = nI d ∧ sm_P (sp_it w b n (nI k) S d) p 3 = 1 ∧ ∀ j, j < d → ¬ sm_P (sp_it w b n (nI k) S j) p 3 = 1) (f_X1_daysUntilHome_18 w b n T w2 b2 n2 T2 (nI p)) 61 (s_X0_copyFrom w2 b2 n2 T2 w b n T) ⟨DI_copy hw hb hn h, fun j hj => absurd hj (Nat.not_lt_zero j)⟩ (fun j Q hj hQ => by
    unfold f_X1_daysUntilHome_18
    rw [cl (show p < 30 by omega)]
    by_cases h2 : ct_wh Q p = 2
    · rw [if_pos h2]
      refine ⟨fun x hx => ?_, fun a' ha => ?_⟩
      · cases hx
        exact ⟨j, by omega, rfl, (DI_home hQ.1 hp).mp h2, hQ.2⟩
      · cases ha
    · rw [if_neg h2]
      refine ⟨fun x hx => ?_, fun a' ha => ?_⟩
      · cases hx
      · cases ha
        refine ⟨(day_ok (T0 := Q) (x := 1) (i := 0) hw hb hn hk hQ.1 _ rfl).1, fun i hi => ?_⟩
        by_cases hij : i = j
        · subst hij; exact fun z => h2 ((DI_home hQ.1 hp).mpr z)
        · exact hQ.2 i (by omega))
  unfold r_X1_daysUntilHome
  rw [ckP hn hp, if_pos rfl]
  cases hx : lpx (f_X1_daysUntilHome_18 w b n T w2 b2 n2 T2 (nI p)) 61 0 (s_X0_copyFrom w2 b2 n2 T2 w b n T) with
  | inl x => exact Or.inr (H.1 x hx)
  | inr x => exact Or.inl rfl
theorem home_stays {w b n k : Nat} {T : ct_T} {S : sm_T} (hw : w ≤ 5) (hb : b ≤ 4) (hn : n ≤ 30) (hk : k ≤ 60) (h : DI w b n k T S) {p : Nat} (hp : p < n) : ∀ {i j : Nat}, i ≤ j → sm_P (sp_it w b n (nI k) S i) p 3 = 1 → sm_P (sp_it w b n (nI k) S j) p 3 = 1 := by
  have step : ∀ i, sm_P (sp_it w b n (nI k) S i) p 3 = 1 → sm_P (sp_it w b n (nI k) S (i + 1)) p 3 = 1 := by
    intro i hi
    have h1 := (DI_days hw hb hn hk h i).1
    have h2 := day_ok (T0 := T) (x := 0) (i := 0) hw hb hn hk h1 _ rfl
    exact (DI_home h2.1 hp).mp (h2.2.2.2.2 p hp ((DI_home h1 hp).mpr hi))
  intro i j hij hi
  obtain ⟨m, rfl⟩ : ∃ m, j = i + m := ⟨j - i, by omega⟩
  clear hij
  induction m with
  | zero => exact hi
  | succ m ih => exact step (i + m) ih
theorem dig_same {w b n : Nat} {T : ct_T} {w2 b2 n2 : Nat} {T2 : ct_T} {w3 b3 n3 : Nat} {T3 : ct_T} : r_X1_digest w b n T w2 b2 n2 T2 = r_X1_digest w b n T w3 b3 n3 T3 := rfl
end PH
