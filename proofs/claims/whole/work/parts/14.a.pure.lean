/-! 14.a: pure: loops in step, counts, the relation of the two towns -/
section PA
theorem lpf_inv {α : Type} (P : Nat → α → Prop) (f : Nat → α → α) (N : Nat) (a : α) (h0 : P 0 a) (hs : ∀ j a, j < N → P j a → P (j + 1) (f j a)) : P N (lpf f N 0 a) := by
  have H : ∀ (n i : Nat) (a : α), i + n = N → P i a → P N (lpf f n i a) := by
    intro n
    induction n with
    | zero => intro i a h g; rw [Nat.add_zero] at h; subst h; exact g
    | succ n ih => intro i a h g; exact ih (i + 1) (f i a) (by omega) (hs i a (by omega) g)
  exact H N 0 a (by omega) h0
theorem lpf_two {α β : Type} (P : Nat → α → β → Prop) (f : Nat → α → α) (g : Nat → β → β) (N : Nat) (a : α) (b : β) (h0 : P 0 a b) (hs : ∀ j a b, j < N → P j a b → P (j + 1) (f j a) (g j b)) : P N (lpf f N 0 a) (lpf g N 0 b) := by
  have H : ∀ (n i : Nat) (a : α) (b : β), i + n = N → P i a b → P N (lpf f n i a) (lpf g n i b) := by
    intro n
    induction n with
    | zero => intro i a b h g; rw [Nat.add_zero] at h; subst h; exact g
    | succ n ih => intro i a b h q; exact ih (i + 1) (f i a) (g i b) (by omega) (hs i a b (by omega) q)
  exact H N 0 a b (by omega) h0
theorem lpf_congr {α : Type} (f g : Nat → α → α) (N : Nat) (a : α) (hs : ∀ j a, j < N → f j a = g j a) : lpf f N 0 a = lpf g N 0 a :=
  lpf_two (fun _ x y => x = y) f g N a a rfl (fun j x y hj h => by rw [h]; exact hs j y hj)
/-- two loops that may be left, in step -/
def rs2 {α α' β β' : Type} (E : β → β' → Prop) (P : α → α' → Prop) : β ⊕ α → β' ⊕ α' → Prop
  | .inl x, .inl y => E x y
  | .inr x, .inr y => P x y
  | _, _ => False
theorem lpx_two {α α' β β' : Type} (E : β → β' → Prop) (P : Nat → α → α' → Prop) (f : Nat → α → β ⊕ α) (g : Nat → α' → β' ⊕ α') (N : Nat) (a : α) (b : α') (h0 : P 0 a b) (hs : ∀ j a b, j < N → P j a b → rs2 E (P (j + 1)) (f j a) (g j b)) : rs2 E (P N) (lpx f N 0 a) (lpx g N 0 b) := by
  have H : ∀ (n i : Nat) (a : α) (b : α'), i + n = N → P i a b → rs2 E (P N) (lpx f n i a) (lpx g n i b) := by
    intro n
    induction n with
    | zero => intro i a b h g; rw [Nat.add_zero] at h; subst h; exact g
    | succ n ih =>
      intro i a b h q
      have h1 := hs i a b (by omega) q
      show rs2 E (P N) (match f i a with | .inl b => .inl b | .inr a' => lpx f n (i + 1) a') (match g i b with | .inl b => .inl b | .inr a' => lpx g n (i + 1) a')
      cases hf : f i a with
      | inl x =>
        cases hg : g i b with
        | inl y => rw [hf, hg] at h1; exact h1
        | inr y => rw [hf, hg] at h1; exact h1.elim
      | inr x =>
        cases hg : g i b with
        | inl y => rw [hf, hg] at h1; exact h1.elim
        | inr y => rw [hf, hg] at h1; exact ih (i + 1) x y (by omega) h1
  exact H N 0 a b (by omega) h0
def cn (P : Nat → Bool) : Nat → Nat
  | 0 => 0
  | n + 1 => cn P n + (if P n then 1 else 0)
theorem cn_le (P : Nat → Bool) : ∀ n, cn P n ≤ n
  | 0 => Nat.le_refl 0
  | n + 1 => by
    have h := cn_le P n
    show cn P n + (if P n then 1 else 0) ≤ n + 1
    split <;> omega
theorem cn_mono {P Q : Nat → Bool} : ∀ {n : Nat}, (∀ q, q < n → Q q = true → P q = true) → cn Q n ≤ cn P n
  | 0, _ => Nat.le_refl 0
  | n + 1, h => by
    have h1 := cn_mono (n := n) (fun q hq => h q (by omega))
    show cn Q n + (if Q n then 1 else 0) ≤ cn P n + (if P n then 1 else 0)
    by_cases hq : Q n = true
    · rw [if_pos hq, if_pos (h n (by omega) hq)]; omega
    · rw [if_neg hq]; omega
theorem cn_congr {P Q : Nat → Bool} {n : Nat} (h : ∀ q, q < n → P q = Q q) : cn P n = cn Q n :=
  Nat.le_antisymm (cn_mono (fun q hq z => by rw [← h q hq]; exact z)) (cn_mono (fun q hq z => by rw [h q hq]; exact z))
theorem cn_one {P Q : Nat → Bool} {p : Nat} : ∀ {n : Nat}, (∀ q, q < n → q ≠ p → Q q = true → P q = true) → cn Q n ≤ cn P n + 1
  | 0, _ => Nat.zero_le _
  | n + 1, h => by
    show cn Q n + (if Q n then 1 else 0) ≤ cn P n + (if P n then 1 else 0) + 1
    by_cases hp : n = p
    · have h1 := cn_mono (P := P) (Q := Q) (n := n) (fun q hq => h q (by omega) (by omega))
      split <;> split <;> omega
    · have h1 := cn_one (P := P) (Q := Q) (p := p) (n := n) (fun q hq => h q (by omega))
      by_cases hq : Q n = true
      · rw [if_pos hq, if_pos (h n (by omega) hp hq)]; omega
      · rw [if_neg hq]; omega
theorem lpf_cn {f : Nat → Int32 → Int32} {P : Nat → Bool} {n : Nat} (h : ∀ j a, j < n → f j a = if P j then a + 1 else a) : lpf f n 0 0 = nI (cn P n) := by
  refine lpf_inv (fun j a => a = nI (cn P j)) f n 0 nI_0.symm (fun j a hj ha => ?_)
  rw [h j a hj, ha]
  show _ = nI (cn P j + (if P j then 1 else 0))
  by_cases hp : P j = true
  · rw [if_pos hp, if_pos hp]; exact nI_1 _
  · rw [if_neg hp, if_neg hp]; rfl
theorem cl {j : Nat} (h : j < 30) : (nI j).toNatClampNeg = j := nI_clamp (by omega)
theorem u_eq (f : Nat → Int32) (k : Nat) (x : Int32) : upd f k x k = x := if_pos rfl
theorem u_ne (f : Nat → Int32) {j k : Nat} (h : j ≠ k) (x : Int32) : upd f k x j = f j := if_neg h
theorem u_uu (f : Nat → Int32) (k : Nat) (x y : Int32) : upd (upd f k x) k y = upd f k y := by
  funext j
  by_cases h : j = k
  · subst h; rw [u_eq, u_eq]
  · rw [u_ne _ h, u_ne _ h, u_ne _ h]
def up1 (x : Int32) : Int32 := if x + 1 < 10 then x + 1 else 10
def dn1 (x : Int32) : Int32 := if 0 < x - 1 then x - 1 else 0
def GG (s h f : Int32) : Int32 := if s < 5 then (if h = 0 then dn1 f else up1 f) else up1 f
theorem GG_1 (s f : Int32) : GG s 1 f = up1 f := by
  unfold GG
  split
  · rw [if_neg (by decide)]
  · rfl
theorem GG_0 (s f : Int32) : GG s 0 f = if s < 5 then dn1 f else up1 f := by
  unfold GG
  rw [if_pos rfl]
theorem i_ea (a b l : Int32) : a + (b - l) + 1 = a + (b - (l + (-1))) := by grind
theorem i_ea0 (a b : Int32) : a + (b - b) = a := by grind
/-- where a person is, told in both ways -/
def Wr (w b : Nat) (x y z : Int32) : Prop := (x = 1 ∧ ∃ k, k < w ∧ y = nI k ∧ z = nI k) ∨ (x = 0 ∧ ∃ k, k < b ∧ y = nI k ∧ z = nI (10 + k)) ∨ (x = 2 ∧ z = nI 20) ∨ (x = 3 ∧ z = nI 21)
theorem Wr_ward {w b : Nat} {x y z : Int32} (hw : w ≤ 5) (hb : b ≤ 4) (h : Wr w b x y z) {i : Nat} (hi : i < w) : (x = 1 ∧ y = nI i) ↔ z = nI i := by
  rcases h with ⟨rfl, k, hk, rfl, rfl⟩ | ⟨rfl, k, hk, rfl, rfl⟩ | ⟨rfl, rfl⟩ | ⟨rfl, rfl⟩
  · exact ⟨fun h => h.2, fun h => ⟨rfl, h⟩⟩
  · rw [nI_eq (a := 10 + k) (b := i) (by omega) (by omega)]; exact ⟨fun h => absurd h.1 (by decide), fun h => by omega⟩
  · rw [nI_eq (by omega) (by omega)]; exact ⟨fun h => absurd h.1 (by decide), fun h => by omega⟩
  · rw [nI_eq (by omega) (by omega)]; exact ⟨fun h => absurd h.1 (by decide), fun h => by omega⟩
theorem i_10 (i : Nat) : (10 : Int32) + nI i = nI (10 + i) := nI_add 10 i
theorem Wr_barge {w b : Nat} {x y z : Int32} (hw : w ≤ 5) (hb : b ≤ 4) (h : Wr w b x y z) {i : Nat} (hi : i < b) : (x = 0 ∧ y = nI i) ↔ z = (10 : Int32) + nI i := by
  rw [i_10]
  rcases h with ⟨rfl, k, hk, rfl, rfl⟩ | ⟨rfl, k, hk, rfl, rfl⟩ | ⟨rfl, rfl⟩ | ⟨rfl, rfl⟩
  · rw [nI_eq (a := k) (b := 10 + i) (by omega) (by omega)]; exact ⟨fun h => absurd h.1 (by decide), fun h => by omega⟩
  · rw [nI_eq (by omega) (by omega), nI_eq (by omega) (by omega)]; exact ⟨fun h => by omega, fun h => ⟨rfl, by omega⟩⟩
  · rw [nI_eq (by omega) (by omega)]; exact ⟨fun h => absurd h.1 (by decide), fun h => by omega⟩
  · rw [nI_eq (by omega) (by omega)]; exact ⟨fun h => absurd h.1 (by decide), fun h => by omega⟩
theorem Wr_in {w b : Nat} {x y z : Int32} (hw : w ≤ 5) (hb : b ≤ 4) (h : Wr w b x y z) : x = 1 ↔ ¬ nI w ≤ z := by
  rcases h with ⟨rfl, k, hk, rfl, rfl⟩ | ⟨rfl, k, hk, rfl, rfl⟩ | ⟨rfl, rfl⟩ | ⟨rfl, rfl⟩
  · rw [nI_leI (by omega) (by omega)]; exact ⟨fun _ => by omega, fun _ => rfl⟩
  · rw [nI_leI (by omega) (by omega)]; exact ⟨fun h => absurd h (by decide), fun h => by omega⟩
  · rw [nI_leI (by omega) (by omega)]; exact ⟨fun h => absurd h (by decide), fun h => by omega⟩
  · rw [nI_leI (by omega) (by omega)]; exact ⟨fun h => absurd h (by decide), fun h => by omega⟩
theorem Wr_home {w b : Nat} {x y z : Int32} (hw : w ≤ 5) (hb : b ≤ 4) (h : Wr w b x y z) : x = 2 ↔ z = 20 := by
  rw [show (20 : Int32) = nI 20 from rfl]
  rcases h with ⟨rfl, k, hk, rfl, rfl⟩ | ⟨rfl, k, hk, rfl, rfl⟩ | ⟨rfl, rfl⟩ | ⟨rfl, rfl⟩
  · rw [nI_eq (by omega) (by omega)]; exact ⟨fun h => absurd h (by decide), fun h => by omega⟩
  · rw [nI_eq (by omega) (by omega)]; exact ⟨fun h => absurd h (by decide), fun h => by omega⟩
  · exact ⟨fun _ => rfl, fun _ => rfl⟩
  · rw [nI_eq (by omega) (by omega)]; exact ⟨fun h => absurd h (by decide), fun h => by omega⟩
theorem Wr_gh {w b : Nat} {x y z : Int32} (hw : w ≤ 5) (hb : b ≤ 4) (h : Wr w b x y z) : x = 3 ↔ z = 21 := by
  rw [show (21 : Int32) = nI 21 from rfl]
  rcases h with ⟨rfl, k, hk, rfl, rfl⟩ | ⟨rfl, k, hk, rfl, rfl⟩ | ⟨rfl, rfl⟩ | ⟨rfl, rfl⟩
  · rw [nI_eq (by omega) (by omega)]; exact ⟨fun h => absurd h (by decide), fun h => by omega⟩
  · rw [nI_eq (by omega) (by omega)]; exact ⟨fun h => absurd h (by decide), fun h => by omega⟩
  · rw [nI_eq (by omega) (by omega)]; exact ⟨fun h => absurd h (by decide), fun h => by omega⟩
  · exact ⟨fun _ => rfl, fun _ => rfl⟩
theorem isAt0 {w b n : Nat} {T : ct_T} {j : Nat} {x y : Int32} (h : j < 30) : r_X0_isAt w b n T (nI j) x y = 0 ↔ ¬ (ct_wh T j = x ∧ ct_nu T j = y) := by
  unfold r_X0_isAt
  rw [cl h]
  by_cases h1 : ct_wh T j = x
  · rw [if_pos h1]
    by_cases h2 : ct_nu T j = y
    · rw [if_pos h2]; exact ⟨fun z => absurd z (by decide), fun z => absurd ⟨h1, h2⟩ z⟩
    · rw [if_neg h2]; exact ⟨fun _ z => h2 z.2, fun _ => rfl⟩
  · rw [if_neg h1]; exact ⟨fun _ z => h1 z.1, fun _ => rfl⟩
theorem ite_at {α : Type} {w b n : Nat} {T : ct_T} {j : Nat} {x y : Int32} (h : j < 30) (p q : α) : (if r_X0_isAt w b n T (nI j) x y = 0 then p else q) = if ct_wh T j = x ∧ ct_nu T j = y then q else p := by
  by_cases h1 : ct_wh T j = x ∧ ct_nu T j = y
  · rw [if_pos h1, if_neg (fun z => (isAt0 h).mp z h1)]
  · rw [if_neg h1, if_pos ((isAt0 h).mpr h1)]
/-- who is in ward i -/
def iw (T : ct_T) (i : Nat) : Nat → Bool := fun q => decide (ct_wh T q = 1 ∧ ct_nu T q = nI i)
def RI (w b n : Nat) (T : ct_T) : Prop := (∀ i, i < w → ∃ k, ct_pl T i = nI k ∧ k ≤ 8 ∧ cn (iw T i) n ≤ k) ∧ (∀ i, i < b → ∃ k, ct_ke T i = nI k ∧ k ≤ 9) ∧ (∀ i, i < b → ∃ k, ct_to T i = nI k ∧ k ≤ 9)
def RA (T : ct_T) (M : mt_T) : Prop := (∀ i, i < 5 → ct_pl T i = mt_pl M i ∧ ct_st T i = mt_st M i) ∧ (∀ i, i < 4 → ct_ke T i = mt_ke M i ∧ ct_to T i = mt_to M i) ∧ (∀ q, q < 30 → ct_fe T q = mt_fe M q ∧ ct_hd T q = mt_hu M q)
/-- THE RELATION of the class's town and the model's -/
def RR (w b n : Nat) (T : ct_T) (M : mt_T) : Prop := (ct_day T = mt_day M ∧ ct_bo T = mt_bo M ∧ ct_ea T = mt_ea M) ∧ RA T M ∧ (∀ q, q < n → Wr w b (ct_wh T q) (ct_nu T q) (mt_wh M q)) ∧ RI w b n T
theorem RR_0 : RR 0 0 0 ct_0 mt_0 := ⟨⟨rfl, rfl, rfl⟩, ⟨fun _ _ => ⟨rfl, rfl⟩, fun _ _ => ⟨rfl, rfl⟩, fun _ _ => ⟨rfl, rfl⟩⟩, fun q h => absurd h (Nat.not_lt_zero q), ⟨fun i h => absurd h (Nat.not_lt_zero i), fun i h => absurd h (Nat.not_lt_zero i), fun i h => absurd h (Nat.not_lt_zero i)⟩⟩
theorem RR_fe {w b n : Nat} {T : ct_T} {M : mt_T} (h : RR w b n T M) (p : Nat) (v : Int32) : RR w b n (cs_fe T (upd (ct_fe T) p v)) (ms_fe M (upd (mt_fe M) p v)) := by
  obtain ⟨h1, ⟨h2, h3, h4⟩, h5, h6⟩ := h
  refine ⟨h1, ⟨h2, h3, fun q hq => ⟨?_, (h4 q hq).2⟩⟩, h5, h6⟩
  show upd (ct_fe T) p v q = upd (mt_fe M) p v q
  by_cases hp : q = p
  · subst hp; rw [u_eq, u_eq]
  · rw [u_ne _ hp, u_ne _ hp]; exact (h4 q hq).1
theorem RR_st {w b n : Nat} {T : ct_T} {M : mt_T} (h : RR w b n T M) (p : Nat) (v : Int32) : RR w b n (cs_st T (upd (ct_st T) p v)) (ms_st M (upd (mt_st M) p v)) := by
  obtain ⟨h1, ⟨h2, h3, h4⟩, h5, h6⟩ := h
  refine ⟨h1, ⟨fun q hq => ⟨(h2 q hq).1, ?_⟩, h3, h4⟩, h5, h6⟩
  show upd (ct_st T) p v q = upd (mt_st M) p v q
  by_cases hp : q = p
  · subst hp; rw [u_eq, u_eq]
  · rw [u_ne _ hp, u_ne _ hp]; exact (h2 q hq).2
theorem RR_to {w b n : Nat} {T : ct_T} {M : mt_T} (h : RR w b n T M) (p : Nat) {v : Int32} {k : Nat} (hv : v = nI k) (hk : k ≤ 9) : RR w b n (cs_to T (upd (ct_to T) p v)) (ms_to M (upd (mt_to M) p v)) := by
  obtain ⟨h1, ⟨h2, h3, h4⟩, h5, ⟨h6, h7, h8⟩⟩ := h
  refine ⟨h1, ⟨h2, fun q hq => ⟨(h3 q hq).1, ?_⟩, h4⟩, h5, ⟨h6, h7, fun i hi => ?_⟩⟩
  · show upd (ct_to T) p v q = upd (mt_to M) p v q
    by_cases hp : q = p
    · subst hp; rw [u_eq, u_eq]
    · rw [u_ne _ hp, u_ne _ hp]; exact (h3 q hq).2
  · show ∃ k, upd (ct_to T) p v i = nI k ∧ k ≤ 9
    by_cases hp : i = p
    · subst hp; rw [u_eq]; exact ⟨k, hv, hk⟩
    · rw [u_ne _ hp]; exact h8 i hi
theorem RR_mv {w b n : Nat} {T : ct_T} {M : mt_T} (h : RR w b n T M) {p : Nat} (hp : p < 30) {x y z : Int32} (hz : Wr w b x y z) (hcap : ∀ i, i < w → x = 1 → y = nI i → ∃ k, ct_pl T i = nI k ∧ k ≤ 8 ∧ cn (iw T i) n < k) : RR w b n (s_X0_move w b n T (nI p) x y) (ms_wh M (upd (mt_wh M) p z)) := by
  obtain ⟨h1, ⟨h2, h3, h4⟩, h5, ⟨h6, h7, h8⟩⟩ := h
  unfold s_X0_move
  rw [cl hp]
  have hiw : ∀ i q, q ≠ p → iw (cs_nu (cs_wh T (upd (ct_wh T) p x)) (upd (ct_nu (cs_wh T (upd (ct_wh T) p x))) p y)) i q = iw T i q := by
    intro i q hq
    show decide (upd (ct_wh T) p x q = 1 ∧ upd (ct_nu T) p y q = nI i) = decide (ct_wh T q = 1 ∧ ct_nu T q = nI i)
    rw [u_ne _ hq, u_ne _ hq]
  refine ⟨h1, ⟨h2, h3, h4⟩, fun q hq => ?_, ⟨fun i hi => ?_, h7, h8⟩⟩
  · show Wr w b (upd (ct_wh T) p x q) (upd (ct_nu T) p y q) (upd (mt_wh M) p z q)
    by_cases hqp : q = p
    · subst hqp; rw [u_eq, u_eq, u_eq]; exact hz
    · rw [u_ne _ hqp, u_ne _ hqp, u_ne _ hqp]; exact h5 q hq
  · show ∃ k, ct_pl T i = nI k ∧ k ≤ 8 ∧ cn (iw (cs_nu (cs_wh T (upd (ct_wh T) p x)) (upd (ct_nu (cs_wh T (upd (ct_wh T) p x))) p y)) i) n ≤ k
    by_cases hxy : x = 1 ∧ y = nI i
    · obtain ⟨k, e1, e2, e3⟩ := hcap i hi hxy.1 hxy.2
      have h9 := cn_one (P := iw T i) (Q := iw (cs_nu (cs_wh T (upd (ct_wh T) p x)) (upd (ct_nu (cs_wh T (upd (ct_wh T) p x))) p y)) i) (p := p) (n := n) (fun q hq hqp hz => by rw [← hiw i q hqp]; exact hz)
      exact ⟨k, e1, e2, by omega⟩
    · obtain ⟨k, e1, e2, e3⟩ := h6 i hi
      have h9 := cn_mono (P := iw T i) (Q := iw (cs_nu (cs_wh T (upd (ct_wh T) p x)) (upd (ct_nu (cs_wh T (upd (ct_wh T) p x))) p y)) i) (n := n) (fun q hq hz => by
        by_cases hqp : q = p
        · exfalso
          subst hqp
          have hz2 : upd (ct_wh T) q x q = 1 ∧ upd (ct_nu T) q y q = nI i := of_decide_eq_true hz
          rw [u_eq, u_eq] at hz2
          exact hxy hz2
        · rw [← hiw i q hqp]; exact hz)
      exact ⟨k, e1, e2, by omega⟩
end PA
