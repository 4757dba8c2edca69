/-! 14.a: pure: loops in step, counts (as in the proof of whole) -/
section PA
theorem lpf_inv {α : Type} (P : Nat → α → Prop) (f : Nat → α → α) (N : Nat) (a : α) (h0 : P 0 a) (hs : ∀ j a, j < N → P j a → P (j + 1) (f j a)) : P N (lpf f N 0 a) := by
  have H : ∀ (n i : Nat) (a : α), i + n = N → P i a → P N (lpf f n i a) := by
    intro n
    induction n with
    | zero => intro i a h g; rw [Nat.add_zero] at h; subst h; exact g
    | succ n ih => intro i a h g; exact ih (i + 1) (f i a) (by omega) (hs i a (by omega) g)
  exact H N 0 a (by omega) h0
theorem lpf_two {α β : Type} (P : Nat → α → β → Prop) (f : Nat → α → α) (g : Nat → β → β) (N : Nat) (a : α) (b : β) (h0 : P 0 a b) (hs : ∀ j a b, j < N → P j a b → P (j + 1) (f j a) (g j b)) : P N (lpf f N 0 a) (lpf g N 0 b) := by
  have H : ∀ (n i : Nat) (a : α) (b : β), i + n = N → P i a b → P N (lpf f n i a) (lpf g n i b) := by
    intro n
    induction n with
    | zero => intro i a b h g; rw [Nat.add_zero] at h; subst h; exact g
    | succ n ih => intro i a b h q; exact ih (i + 1) (f i a) (g i b) (by omega) (hs i a b (by omega) q)
  exact H N 0 a b (by omega) h0
theorem lpf_congr {α : Type} (f g : Nat → α → α) (N : Nat) (a : α) (hs : ∀ j a, j < N → f j a = g j a) : lpf f N 0 a = lpf g N 0 a :=
  lpf_two (fun _ x y => x = y) f g N a a rfl (fun j x y hj h => by rw [h]; exact hs j y hj)
/-- two loops that may be left, in step -/
def rs2 {α α' β β' : Type} (E : β → β' → Prop) (P : α → α' → Prop) : β ⊕ α → β' ⊕ α' → Prop
  | .inl x, .inl y => E x y
  | .inr x, .inr y => P x y
  | _, _ => False
theorem lpx_two {α α' β β' : Type} (E : β → β' → Prop) (P : Nat → α → α' → Prop) (f : Nat → α → β ⊕ α) (g : Nat → α' → β' ⊕ α') (N : Nat) (a : α) (b : α') (h0 : P 0 a b) (hs : ∀ j a b, j < N → P j a b → rs2 E (P (j + 1)) (f j a) (g j b)) : rs2 E (P N) (lpx f N 0 a) (lpx g N 0 b) := by
  have H : ∀ (n i : Nat) (a : α) (b : α'), i + n = N → P i a b → rs2 E (P N) (lpx f n i a) (lpx g n i b) := by
    intro n
    induction n with
    | zero => intro i a b h g; rw [Nat.add_zero] at h; subst h; exact g
    | succ n ih =>
      intro i a b h q
      have h1 := hs i a b (by omega) q
      show rs2 E (P N) (match f i a with | .inl b => .inl b | .inr a' => lpx f n (i + 1) a') (match g i b with | .inl b => .inl b | .inr a' => lpx g n (i + 1) a')
      cases hf : f i a with
      | inl x =>
        cases hg : g i b with
        | inl y => rw [hf, hg] at h1; exact h1
        | inr y => rw [hf, hg] at h1; exact h1.elim
      | inr x =>
        cases hg : g i b with
        | inl y => rw [hf, hg] at h1; exact h1.elim
        | inr y => rw [hf, hg] at h1; exact ih (i + 1) x y (by omega) h1
  exact H N 0 a b (by omega) h0
def cn (P : Nat → Bool) : Nat → Nat
  | 0 => 0
  | n + 1 => cn P n + (if P n then 1 else 0)
theorem cn_le (P : Nat → Bool) : ∀ n, cn P n ≤ n
  | 0 => Nat.le_refl 0
  | n + 1 => by
    have h := cn_le P n
    show cn P n + (if P n then 1 else 0) ≤ n + 1
    split <;> omega
theorem cn_mono {P Q : Nat → Bool} : ∀ {n : Nat}, (∀ q, q < n → Q q = true → P q = true) → cn Q n ≤ cn P n
  | 0, _ => Nat.le_refl 0
  | n + 1, h => by
    have h1 := cn_mono (n := n) (fun q hq => h q (by omega))
    show cn Q n + (if Q n then 1 else 0) ≤ cn P n + (if P n then 1 else 0)
    by_cases hq : Q n = true
    · rw [if_pos hq, if_pos (h n (by omega) hq)]; omega
    · rw [if_neg hq]; omega
theorem cn_congr {P Q : Nat → Bool} {n : Nat} (h : ∀ q, q < n → P q = Q q) : cn P n = cn Q n :=
  Nat.le_antisymm (cn_mono (fun q hq z => by rw [← h q hq]; exact z)) (cn_mono (fun q hq z => by rw [h q hq]; exact z))
theorem cn_one {P Q : Nat → Bool} {p : Nat} : ∀ {n : Nat}, (∀ q, q < n → q ≠ p → Q q = true → P q = true) → cn Q n ≤ cn P n + 1
  | 0, _ => Nat.zero_le _
  | n + 1, h => by
    show cn Q n + (if Q n then 1 else 0) ≤ cn P n + (if P n then 1 else 0) + 1
    by_cases hp : n = p
    · have h1 := cn_mono (P := P) (Q := Q) (n := n) (fun q hq => h q (by omega) (by omega))
      split <;> split <;> omega
    · have h1 := cn_one (P := P) (Q := Q) (p := p) (n := n) (fun q hq => h q (by omega))
      by_cases hq : Q n = true
      · rw [if_pos hq, if_pos (h n (by omega) hp hq)]; omega
      · rw [if_neg hq]; omega
theorem lpf_cn {f : Nat → Int32 → Int32} {P : Nat → Bool} {n : Nat} (h : ∀ j a, j < n → f j a = if P j then a + 1 else a) : lpf f n 0 0 = nI (cn P n) := by
  refine lpf_inv (fun j a => a = nI (cn P j)) f n 0 nI_0.symm (fun j a hj ha => ?_)
  rw [h j a hj, ha]
  show _ = nI (cn P j + (if P j then 1 else 0))
  by_cases hp : P j = true
  · rw [if_pos hp, if_pos hp]; exact nI_1 _
  · rw [if_neg hp, if_neg hp]; rfl
theorem cl {j : Nat} (h : j < 30) : (nI j).toNatClampNeg = j := nI_clamp (by omega)
theorem u_eq (f : Nat → Int32) (k : Nat) (x : Int32) : upd f k x k = x := if_pos rfl
theorem u_ne (f : Nat → Int32) {j k : Nat} (h : j ≠ k) (x : Int32) : upd f k x j = f j := if_neg h
theorem u_uu (f : Nat → Int32) (k : Nat) (x y : Int32) : upd (upd f k x) k y = upd f k y := by
  funext j
  by_cases h : j = k
  · subst h; rw [u_eq, u_eq]
  · rw [u_ne _ h, u_ne _ h, u_ne _ h]
def up1 (x : Int32) : Int32 := if x + 1 < 10 then x + 1 else 10
def dn1 (x : Int32) : Int32 := if 0 < x - 1 then x - 1 else 0
def GG (s h f : Int32) : Int32 := if s < 5 then (if h = 0 then dn1 f else up1 f) else up1 f
theorem GG_1 (s f : Int32) : GG s 1 f = up1 f := by
  unfold GG
  split
  · rw [if_neg (by decide)]
  · rfl
theorem GG_0 (s f : Int32) : GG s 0 f = if s < 5 then dn1 f else up1 f := by
  unfold GG
  rw [if_pos rfl]
theorem i_ea (a b l : Int32) : a + (b - l) + 1 = a + (b - (l + (-1))) := by grind
theorem i_ea0 (a b : Int32) : a + (b - b) = a := by grind
theorem isAt0 {w b n : Nat} {T : ct_T} {j : Nat} {x y : Int32} (h : j < 30) : r_X0_isAt w b n T (nI j) x y = 0 ↔ ¬ (ct_wh T j = x ∧ ct_nu T j = y) := by
  unfold r_X0_isAt
  rw [cl h]
  by_cases h1 : ct_wh T j = x
  · rw [if_pos h1]
    by_cases h2 : ct_nu T j = y
    · rw [if_pos h2]; exact ⟨fun z => absurd z (by decide), fun z => absurd ⟨h1, h2⟩ z⟩
    · rw [if_neg h2]; exact ⟨fun _ z => h2 z.2, fun _ => rfl⟩
  · rw [if_neg h1]; exact ⟨fun _ z => h1 z.1, fun _ => rfl⟩
theorem ite_at {α : Type} {w b n : Nat} {T : ct_T} {j : Nat} {x y : Int32} (h : j < 30) (p q : α) : (if r_X0_isAt w b n T (nI j) x y = 0 then p else q) = if ct_wh T j = x ∧ ct_nu T j = y then q else p := by
  by_cases h1 : ct_wh T j = x ∧ ct_nu T j = y
  · rw [if_pos h1, if_neg (fun z => (isAt0 h).mp z h1)]
  · rw [if_neg h1, if_pos ((isAt0 h).mpr h1)]
/-- who is in ward i -/
def iw (T : ct_T) (i : Nat) : Nat → Bool := fun q => decide (ct_wh T q = 1 ∧ ct_nu T q = nI i)
theorem q_gb {w b n : Nat} {T0 : ct_T} {i : Nat} {q7 : ct_T × Int32} {j : Nat} {A : ct_T} {l : Int32} (hj : j < 30) : f_X0_giveBowls_17 w b n T0 i q7 j (A, l) = if ct_wh A j = 1 ∧ ct_nu A j = nI i then (if l = 0 then (cs_hd (cs_ht A (upd (ct_ht A) j 1)) (upd (ct_hd A) j (ct_hd A j + 1)), l) else (cs_ht A (upd (ct_ht A) j 0), l + (-1))) else (A, l) := by
  unfold f_X0_giveBowls_17
  dsimp only
  rw [ite_at hj, cl hj]
  rfl
theorem q_cf {w b n : Nat} {T0 Q0 : ct_T} {i j : Nat} {Q : ct_T} (hj : j < 30) (hi : i < 30) : f_X0_changeFeversInWards_28 w b n T0 i Q0 j Q = if ct_wh Q j = 1 ∧ ct_nu Q j = nI i then cs_fe Q (upd (ct_fe Q) j (GG (ct_st Q0 i) (ct_ht Q j) (ct_fe Q j))) else Q := by
  unfold f_X0_changeFeversInWards_28 s_X0_raiseFever
  rw [ite_at hj, cl hj, cl hi]
  by_cases h1 : ct_wh Q j = 1 ∧ ct_nu Q j = nI i
  · rw [if_pos h1, if_pos h1]
    unfold GG
    by_cases h2 : ct_st Q0 i < 5
    · rw [if_pos h2, if_pos h2, if_pos rfl]
      by_cases h3 : ct_ht Q j = 0
      · rw [if_pos h3, if_pos h3]; rfl
      · rw [if_neg h3, if_neg h3]; rfl
    · rw [if_neg h2, if_neg h2, if_neg (by decide)]; rfl
  · rw [if_neg h1, if_neg h1]
def cAg (A T : ct_T) : Prop := ct_day A = ct_day T ∧ ct_bo A = ct_bo T ∧ ct_ea A = ct_ea T ∧ ct_pl A = ct_pl T ∧ ct_st A = ct_st T ∧ ct_ke A = ct_ke T ∧ ct_to A = ct_to T ∧ ct_wh A = ct_wh T ∧ ct_nu A = ct_nu T
/-- who has been served when ward i stands at person p -/
def Dn (T : ct_T) (n i p q : Nat) : Prop := q < n ∧ ct_wh T q = 1 ∧ ∃ k, ct_nu T q = nI k ∧ k < 5 ∧ (k < i ∨ (k = i ∧ q < p))
theorem Dn_in {T : ct_T} {n i p q : Nat} (hq : q < n) (hi : i < 5) (h : ct_wh T q = 1 ∧ ct_nu T q = nI i) : Dn T n i p q ↔ q < p := by
  constructor
  · rintro ⟨-, -, k, e1, e2, e3⟩
    have e4 : i = k := (nI_eq (by omega) (by omega)).mp (h.2.symm.trans e1)
    omega
  · intro z
    exact ⟨hq, h.1, i, h.2, hi, Or.inr ⟨rfl, z⟩⟩
theorem Dn_succ {T : ct_T} {n i j q : Nat} (hi : i < 5) (hj : j < n) : Dn T n i (j + 1) q ↔ Dn T n i j q ∨ (q = j ∧ ct_wh T j = 1 ∧ ct_nu T j = nI i) := by
  constructor
  · rintro ⟨h1, h2, k, e1, e2, e3⟩
    by_cases hqj : q = j
    · by_cases hk : k = i
      · subst hqj; subst hk; exact Or.inr ⟨rfl, h2, e1⟩
      · exact Or.inl ⟨h1, h2, k, e1, e2, by omega⟩
    · exact Or.inl ⟨h1, h2, k, e1, e2, by omega⟩
  · rintro (⟨h1, h2, k, e1, e2, e3⟩ | ⟨rfl, h2, e1⟩)
    · exact ⟨h1, h2, k, e1, e2, by omega⟩
    · exact ⟨hj, h2, i, e1, hi, by omega⟩
theorem Dn_next {T : ct_T} {n i q : Nat} : Dn T n (i + 1) 0 q ↔ Dn T n i n q := by
  constructor
  · rintro ⟨h1, h2, k, e1, e2, e3⟩
    exact ⟨h1, h2, k, e1, e2, by omega⟩
  · rintro ⟨h1, h2, k, e1, e2, e3⟩
    exact ⟨h1, h2, k, e1, e2, by omega⟩
theorem Dn_0 {T : ct_T} {n q : Nat} : ¬ Dn T n 0 0 q := by
  rintro ⟨h1, h2, k, e1, e2, e3⟩
  omega
def I2 (n : Nat) (T T1 : ct_T) (i p : Nat) (Q : ct_T) : Prop :=
  cAg Q T1 ∧ ct_hd Q = ct_hd T1 ∧ ct_ht Q = ct_ht T1 ∧ (∀ q, q < 30 → Dn T n i p q → ct_fe Q q = GG (ct_st T (ct_nu T q).toNatClampNeg) (ct_ht T1 q) (ct_fe T q)) ∧ (∀ q, q < 30 → ¬ Dn T n i p q → ct_fe Q q = ct_fe T q)
theorem I2_step {w b n : Nat} {T T1 : ct_T} (hw : w ≤ 5) (hn : n ≤ 30) (hwh : ct_wh T1 = ct_wh T) (hnu : ct_nu T1 = ct_nu T) {i j : Nat} (hi : i < w) (hj : j < n) {T0 Q0 Q : ct_T} (hs : ct_st Q0 = ct_st T) (hI : I2 n T T1 i j Q) : I2 n T T1 i (j + 1) (f_X0_changeFeversInWards_28 w b n T0 i Q0 j Q) := by
  obtain ⟨h1, h2, h3, h4, h5⟩ := hI
  have hj30 : j < 30 := by omega
  rw [q_cf hj30 (by omega)]
  have wQ : ct_wh Q = ct_wh T := (h1.2.2.2.2.2.2.2.1).trans hwh
  have nQ : ct_nu Q = ct_nu T := (h1.2.2.2.2.2.2.2.2).trans hnu
  by_cases hin : ct_wh T j = 1 ∧ ct_nu T j = nI i
  · have hnd : ¬ Dn T n i j j := fun z => absurd ((Dn_in hj (by omega) hin).mp z) (Nat.lt_irrefl j)
    have hn2 : (ct_nu T j).toNatClampNeg = i := by rw [hin.2]; exact cl (by omega)
    rw [if_pos (by rw [wQ, nQ]; exact hin)]
    refine ⟨h1, h2, h3, fun q hq hd => ?_, fun q hq hd => ?_⟩
    · show upd (ct_fe Q) j (GG (ct_st Q0 i) (ct_ht Q j) (ct_fe Q j)) q = _
      by_cases hqj : q = j
      · subst hqj; rw [u_eq, hn2, hs, h3, h5 q hq hnd]
      · rw [u_ne _ hqj]; exact h4 q hq (((Dn_succ (by omega) hj).mp hd).resolve_right (fun z => hqj z.1))
    · show upd (ct_fe Q) j (GG (ct_st Q0 i) (ct_ht Q j) (ct_fe Q j)) q = _
      have hqj : q ≠ j := fun z => hd ((Dn_succ (by omega) hj).mpr (Or.inr ⟨z, hin⟩))
      rw [u_ne _ hqj]
      exact h5 q hq (fun z => hd ((Dn_succ (by omega) hj).mpr (Or.inl z)))
  · rw [if_neg (by rw [wQ, nQ]; exact hin)]
    have hdn : ∀ q, Dn T n i (j + 1) q ↔ Dn T n i j q := fun q => (Dn_succ (by omega) hj).trans ⟨fun z => z.resolve_right (fun y => hin y.2), Or.inl⟩
    exact ⟨h1, h2, h3, fun q hq hd => h4 q hq ((hdn q).mp hd), fun q hq hd => h5 q hq (fun z => hd ((hdn q).mpr z))⟩
theorem I2_all {w b n : Nat} {T T1 : ct_T} (hw : w ≤ 5) (hn : n ≤ 30) (hst : ct_st T1 = ct_st T) (hwh : ct_wh T1 = ct_wh T) (hnu : ct_nu T1 = ct_nu T) (hfe : ct_fe T1 = ct_fe T) : I2 n T T1 w 0 (s_X0_changeFeversInWards w b n T1) := by
  unfold s_X0_changeFeversInWards
  refine lpf_inv (fun i Q => I2 n T T1 i 0 Q) _ w _ ?_ (fun i Q hi hI => ?_)
  · exact ⟨⟨rfl, rfl, rfl, rfl, rfl, rfl, rfl, rfl, rfl⟩, rfl, rfl, fun q _ hd => absurd hd Dn_0, fun q _ _ => by rw [hfe]⟩
  · have h9 := lpf_inv (fun j Q => I2 n T T1 i j Q) (f_X0_changeFeversInWards_28 w b n T1 i Q) n Q hI (fun j Q2 hj hI2 => I2_step hw hn hwh hnu hi hj ((hI.1.2.2.2.2.1).trans hst) hI2)
    obtain ⟨h1, h2, h3, h4, h5⟩ := h9
    exact ⟨h1, h2, h3, fun q hq hd => h4 q hq (Dn_next.mp hd), fun q hq hd => h5 q hq (fun z => hd (Dn_next.mpr z))⟩
theorem i_le0 {k : Nat} (hk : k < 2 ^ 31) : nI k ≤ 0 ↔ k = 0 := by
  rw [← nI_0, nI_leI hk (by decide)]; omega
theorem i_eq0 {k : Nat} (hk : k < 2 ^ 31) : nI k = 0 ↔ k = 0 := by
  rw [← nI_0, nI_eq hk (by decide)]
theorem r_countAt {w b n : Nat} {T : ct_T} (hn : n ≤ 30) {i : Nat} : r_X0_countAt w b n T 1 (nI i) = nI (cn (iw T i) n) := by
  unfold r_X0_countAt
  refine lpf_cn (fun j a hj => ?_)
  unfold f_X0_countAt_5
  rw [ite_at (show j < 30 by omega)]
  by_cases h1 : ct_wh T j = 1 ∧ ct_nu T j = nI i
  · rw [if_pos h1, if_pos (show iw T i j = true from decide_eq_true h1)]
  · rw [if_neg h1, if_neg (show ¬ iw T i j = true from fun z => h1 (of_decide_eq_true z))]
/-- the free places that the landing has noted are the free places -/
def RF (w n : Nat) (T : ct_T) : Prop := ∀ i, i < w → ct_fr T i = ct_pl T i - nI (cn (iw T i) n)
theorem i_sub {a c : Nat} (h : c ≤ a) : nI a - nI c = nI (a - c) := by
  have h1 : nI (a - c) + nI c = nI a := by rw [nI_add]; congr 1; omega
  rw [← h1]; grind
theorem cn_in {P Q : Nat → Bool} {p : Nat} (hp : P p = false) (hq : Q p = true) : ∀ {n : Nat}, p < n → (∀ q, q < n → q ≠ p → Q q = P q) → cn Q n = cn P n + 1
  | 0, h, _ => absurd h (Nat.not_lt_zero p)
  | n + 1, h, hs => by
    show cn Q n + (if Q n then 1 else 0) = cn P n + (if P n then 1 else 0) + 1
    by_cases hn : n = p
    · subst hn
      rw [hp, hq, cn_congr (P := Q) (Q := P) (fun q hq => hs q (by omega) (by omega))]; rfl
    · have h1 := cn_in hp hq (n := n) (by omega) (fun q hq => hs q (by omega))
      rw [hs n (by omega) hn, h1]; omega
/-- a barge of which somebody couldn't land is kept again -/
def fx (x : Nat) (q : ct_T × Int32) : ct_T := if q.2 = 0 then cs_to q.1 (upd (ct_to q.1) x (ct_ke q.1 x)) else q.1
theorem fx_0 (x : Nat) (Q : ct_T) : fx x (Q, 0) = cs_to Q (upd (ct_to Q) x (ct_ke Q x)) := if_pos rfl
theorem fx_1 (x : Nat) {Q : ct_T} {f : Int32} (hf : ¬ f = 0) : fx x (Q, f) = Q := if_neg hf
theorem cpy_lt {f g : Nat → Int32} {N i : Nat} (h : i < N) : va_cpy f g 0 0 N i = f i := by
  unfold va_cpy
  rw [if_pos ⟨Nat.zero_le _, by omega⟩]
  congr 1
  omega
end PA
