/-! 14.b: pure: sums, the relation of the class's town and the law's -/
section PB
/-- the sum of the first k -/
def sI (f : Nat → Int32) : Nat → Int32
  | 0 => 0
  | k + 1 => sI f k + f k
def sN (f : Nat → Nat) : Nat → Nat
  | 0 => 0
  | k + 1 => sN f k + f k
theorem lpf_sI {f : Nat → Int32 → Int32} {g : Nat → Int32} {n : Nat} (h : ∀ j a, j < n → f j a = a + g j) : lpf f n 0 0 = sI g n := by
  refine lpf_inv (fun j a => a = sI g j) f n 0 rfl (fun j a hj ha => ?_)
  rw [h j a hj, ha]; rfl
theorem sI_congr {f g : Nat → Int32} : ∀ {n : Nat}, (∀ j, j < n → f j = g j) → sI f n = sI g n
  | 0, _ => rfl
  | n + 1, h => by
    show sI f n + f n = sI g n + g n
    rw [sI_congr (n := n) (fun j hj => h j (by omega)), h n (by omega)]
theorem sI_nI {f : Nat → Int32} {g : Nat → Nat} : ∀ {n : Nat}, (∀ j, j < n → f j = nI (g j)) → sI f n = nI (sN g n)
  | 0, _ => nI_0.symm
  | n + 1, h => by
    show sI f n + f n = nI (sN g n + g n)
    rw [sI_nI (n := n) (fun j hj => h j (by omega)), h n (by omega), nI_add]
theorem sI_upd {f : Nat → Int32} {j : Nat} {v : Int32} : ∀ {n : Nat}, j < n → sI (upd f j v) n = sI f n + (v - f j)
  | 0, h => absurd h (Nat.not_lt_zero j)
  | n + 1, h => by
    show sI (upd f j v) n + upd f j v n = sI f n + f n + (v - f j)
    by_cases hn : n = j
    · subst hn
      rw [u_eq, sI_congr (f := upd f n v) (g := f) (fun q hq => u_ne _ (by omega) _)]; grind
    · rw [u_ne _ hn, sI_upd (n := n) (by omega)]; grind
theorem sI_sub {f g : Nat → Int32} : ∀ {n : Nat}, sI (fun j => f j - g j) n = sI f n - sI g n
  | 0 => by show (0 : Int32) = 0 - 0; decide
  | n + 1 => by
    show sI (fun j => f j - g j) n + (f n - g n) = sI f n + f n - (sI g n + g n)
    rw [sI_sub]; grind
theorem sN_le {f g : Nat → Nat} : ∀ {n : Nat}, (∀ j, j < n → f j ≤ g j) → sN f n ≤ sN g n
  | 0, _ => Nat.le_refl 0
  | n + 1, h => Nat.add_le_add (sN_le (n := n) (fun j hj => h j (by omega))) (h n (by omega))
theorem sN_congr {f g : Nat → Nat} : ∀ {n : Nat}, (∀ j, j < n → f j = g j) → sN f n = sN g n
  | 0, _ => rfl
  | n + 1, h => by
    show sN f n + f n = sN g n + g n
    rw [sN_congr (n := n) (fun j hj => h j (by omega)), h n (by omega)]
theorem sN_add {f g : Nat → Nat} : ∀ {n : Nat}, sN (fun j => f j + g j) n = sN f n + sN g n
  | 0 => rfl
  | n + 1 => by
    show sN (fun j => f j + g j) n + (f n + g n) = sN f n + f n + (sN g n + g n)
    rw [sN_add]; omega
theorem sN_0 : ∀ {n : Nat}, sN (fun _ => 0) n = 0
  | 0 => rfl
  | n + 1 => by show sN (fun _ => 0) n + 0 = 0; rw [sN_0]
theorem cn_sN (P : Nat → Bool) : ∀ n, cn P n = sN (fun q => if P q then 1 else 0) n
  | 0 => rfl
  | n + 1 => by
    show cn P n + (if P n then 1 else 0) = sN _ n + (if P n then 1 else 0)
    rw [cn_sN P n]
/-- persons told ward by ward are those told at once -/
theorem sum_cn {w : Nat} (Q : Nat → Nat → Bool) (R : Nat → Bool) : ∀ {n : Nat}, (∀ q, q < n → (R q = true → ∃ k, k < w ∧ ∀ i, i < w → (Q i q = true ↔ i = k)) ∧ (R q = false → ∀ i, i < w → Q i q = false)) → sN (fun i => cn (Q i) n) w = cn R n
  | 0, _ => by
    show sN (fun _ => 0) w = 0
    exact sN_0
  | n + 1, h => by
    show sN (fun i => cn (Q i) n + (if Q i n then 1 else 0)) w = cn R n + (if R n then 1 else 0)
    rw [sN_add, sum_cn Q R (n := n) (fun q hq => h q (by omega))]
    congr 1
    obtain ⟨h1, h2⟩ := h n (by omega)
    cases hR : R n with
    | false =>
      rw [sN_congr (g := fun _ => 0) (fun i hi => by rw [h2 hR i hi]; rfl), sN_0]; rfl
    | true =>
      obtain ⟨k, hk, hq⟩ := h1 hR
      have H : ∀ m, m ≤ w → sN (fun i => if Q i n then 1 else 0) m = if k < m then 1 else 0 := by
        intro m
        induction m with
        | zero => intro _; rw [if_neg (Nat.not_lt_zero k)]; rfl
        | succ m ih =>
          intro hm
          show sN (fun i => if Q i n then 1 else 0) m + (if Q m n then 1 else 0) = _
          rw [ih (by omega)]
          by_cases hmk : m = k
          · subst hmk
            rw [if_pos ((hq m (by omega)).mpr rfl), if_neg (Nat.lt_irrefl m), if_pos (Nat.lt_succ_self m)]
          · rw [if_neg (fun z => hmk ((hq m (by omega)).mp z))]
            by_cases hkm : k < m
            · rw [if_pos hkm, if_pos (by omega)]
            · rw [if_neg hkm, if_neg (by omega)]
      rw [H w (Nat.le_refl w), if_pos hk]; rfl
/-- where a person is, told in both ways: kind and number; ward, barge, at home, in the great house -/
def PL (w b : Nat) (x y u v s t : Int32) : Prop :=
  (x = 1 ∧ ∃ k, k < w ∧ y = nI k ∧ u = nI k ∧ v = -1 ∧ s = 0 ∧ t = 0) ∨ (x = 0 ∧ ∃ k, k < b ∧ y = nI k ∧ u = -1 ∧ v = nI k ∧ s = 0 ∧ t = 0) ∨ (x = 2 ∧ u = -1 ∧ v = -1 ∧ s = 1 ∧ t = 0) ∨ (x = 3 ∧ u = -1 ∧ v = -1 ∧ s = 0 ∧ t = 1)
theorem m1_ne {k : Nat} (h : k < 2 ^ 31) : ¬ ((-1 : Int32) = nI k) := fun z => by
  have z2 := congrArg Int32.toInt z
  rw [nI_toInt h] at z2
  have z3 : (-1 : Int32).toInt = -1 := by decide
  omega
theorem PL_ward {w b : Nat} {x y u v s t : Int32} (hw : w ≤ 5) (h : PL w b x y u v s t) {i : Nat} (hi : i < w) : (x = 1 ∧ y = nI i) ↔ u = nI i := by
  rcases h with ⟨rfl, k, hk, rfl, rfl, -⟩ | ⟨rfl, k, hk, rfl, rfl, -⟩ | ⟨rfl, rfl, -⟩ | ⟨rfl, rfl, -⟩
  · exact ⟨fun h => h.2, fun h => ⟨rfl, h⟩⟩
  · exact ⟨fun h => absurd h.1 (by decide), fun h => absurd h (m1_ne (by omega))⟩
  · exact ⟨fun h => absurd h.1 (by decide), fun h => absurd h (m1_ne (by omega))⟩
  · exact ⟨fun h => absurd h.1 (by decide), fun h => absurd h (m1_ne (by omega))⟩
theorem PL_barge {w b : Nat} {x y u v s t : Int32} (hb : b ≤ 4) (h : PL w b x y u v s t) {i : Nat} (hi : i < b) : (x = 0 ∧ y = nI i) ↔ v = nI i := by
  rcases h with ⟨rfl, k, hk, rfl, rfl, rfl, -⟩ | ⟨rfl, k, hk, rfl, rfl, rfl, -⟩ | ⟨rfl, rfl, rfl, -⟩ | ⟨rfl, rfl, rfl, -⟩
  · exact ⟨fun h => absurd h.1 (by decide), fun h => absurd h (m1_ne (by omega))⟩
  · exact ⟨fun h => h.2, fun h => ⟨rfl, h⟩⟩
  · exact ⟨fun h => absurd h.1 (by decide), fun h => absurd h (m1_ne (by omega))⟩
  · exact ⟨fun h => absurd h.1 (by decide), fun h => absurd h (m1_ne (by omega))⟩
theorem PL_in {w b : Nat} {x y u v s t : Int32} (hw : w ≤ 5) (h : PL w b x y u v s t) : x = 1 ↔ 0 ≤ u := by
  rcases h with ⟨rfl, k, hk, rfl, rfl, -⟩ | ⟨rfl, k, hk, rfl, rfl, -⟩ | ⟨rfl, rfl, -⟩ | ⟨rfl, rfl, -⟩
  · exact ⟨fun _ => nI_pos' (by omega), fun _ => rfl⟩
  · exact ⟨fun h => absurd h (by decide), fun h => absurd h (by decide)⟩
  · exact ⟨fun h => absurd h (by decide), fun h => absurd h (by decide)⟩
  · exact ⟨fun h => absurd h (by decide), fun h => absurd h (by decide)⟩
theorem PL_vp {w b : Nat} {x y u v s t : Int32} (hw : w ≤ 5) (h : PL w b x y u v s t) : ¬ u < 0 → vp_in u w := by
  intro hu
  rcases h with ⟨rfl, k, hk, rfl, rfl, -⟩ | ⟨rfl, k, hk, rfl, rfl, -⟩ | ⟨rfl, rfl, -⟩ | ⟨rfl, rfl, -⟩
  · exact vp_in_nI hk (by omega)
  · exact absurd (by decide) hu
  · exact absurd (by decide) hu
  · exact absurd (by decide) hu
theorem PL_on {w b : Nat} {x y u v s t : Int32} (hb : b ≤ 4) (h : PL w b x y u v s t) : x = 0 ↔ 0 ≤ v := by
  rcases h with ⟨rfl, k, hk, rfl, rfl, rfl, -⟩ | ⟨rfl, k, hk, rfl, rfl, rfl, -⟩ | ⟨rfl, rfl, rfl, -⟩ | ⟨rfl, rfl, rfl, -⟩
  · exact ⟨fun h => absurd h (by decide), fun h => absurd h (by decide)⟩
  · exact ⟨fun _ => nI_pos' (by omega), fun _ => rfl⟩
  · exact ⟨fun h => absurd h (by decide), fun h => absurd h (by decide)⟩
  · exact ⟨fun h => absurd h (by decide), fun h => absurd h (by decide)⟩
theorem PL_home {w b : Nat} {x y u v s t : Int32} (h : PL w b x y u v s t) : (x = 2 ↔ s = 1) ∧ (x = 2 ∨ s = 0) := by
  rcases h with ⟨rfl, k, hk, rfl, rfl, rfl, rfl, rfl⟩ | ⟨rfl, k, hk, rfl, rfl, rfl, rfl, rfl⟩ | ⟨rfl, rfl, rfl, rfl, rfl⟩ | ⟨rfl, rfl, rfl, rfl, rfl⟩
  · exact ⟨⟨fun h => absurd h (by decide), fun h => absurd h (by decide)⟩, Or.inr rfl⟩
  · exact ⟨⟨fun h => absurd h (by decide), fun h => absurd h (by decide)⟩, Or.inr rfl⟩
  · exact ⟨⟨fun _ => rfl, fun _ => rfl⟩, Or.inl rfl⟩
  · exact ⟨⟨fun h => absurd h (by decide), fun h => absurd h (by decide)⟩, Or.inr rfl⟩
theorem PL_gh {w b : Nat} {x y u v s t : Int32} (h : PL w b x y u v s t) : (x = 3 ↔ t = 1) ∧ (x = 3 ∨ t = 0) := by
  rcases h with ⟨rfl, k, hk, rfl, rfl, rfl, rfl, rfl⟩ | ⟨rfl, k, hk, rfl, rfl, rfl, rfl, rfl⟩ | ⟨rfl, rfl, rfl, rfl, rfl⟩ | ⟨rfl, rfl, rfl, rfl, rfl⟩
  · exact ⟨⟨fun h => absurd h (by decide), fun h => absurd h (by decide)⟩, Or.inr rfl⟩
  · exact ⟨⟨fun h => absurd h (by decide), fun h => absurd h (by decide)⟩, Or.inr rfl⟩
  · exact ⟨⟨fun h => absurd h (by decide), fun h => absurd h (by decide)⟩, Or.inr rfl⟩
  · exact ⟨⟨fun _ => rfl, fun _ => rfl⟩, Or.inl rfl⟩
theorem PL_x {w b : Nat} {x y u v s t : Int32} (h : PL w b x y u v s t) : x = 1 ∨ x = 0 ∨ x = 2 ∨ x = 3 := by
  rcases h with ⟨h, -⟩ | ⟨h, -⟩ | ⟨h, -⟩ | ⟨h, -⟩
  · exact Or.inl h
  · exact Or.inr (Or.inl h)
  · exact Or.inr (Or.inr (Or.inl h))
  · exact Or.inr (Or.inr (Or.inr h))
/-- the class's town against rows of rows -/
def RX (w b n : Nat) (T : ct_T) (W B P : Nat → Nat → Int32) : Prop :=
  (∀ i, i < w → ct_pl T i = W i 0 ∧ ct_st T i = W i 1) ∧ (∀ i, i < b → ct_ke T i = B i 0 ∧ ct_to T i = B i 1) ∧
    ∀ p, p < n → ct_fe T p = P p 0 ∧ ct_hd T p = P p 5 ∧ PL w b (ct_wh T p) (ct_nu T p) (P p 1) (P p 2) (P p 3) (P p 4)
/-- fevers are 0 to 10 -/
def FE (n : Nat) (T : ct_T) : Prop := ∀ p, p < n → ∃ k, k ≤ 10 ∧ ct_fe T p = nI k
/-- no more people than places -/
def CP (w n : Nat) (T : ct_T) : Prop := ∀ i, i < w → ∃ k, ct_pl T i = nI k ∧ k ≤ 8 ∧ cn (iw T i) n ≤ k
/-- barges' days -/
def BG (b : Nat) (T : ct_T) : Prop := ∀ i, i < b → ∃ k j, ct_ke T i = nI k ∧ 1 ≤ k ∧ k ≤ 9 ∧ ct_to T i = nI j ∧ j ≤ k
/-- who is on a barge: it is not at the quay -/
def BQ (b n : Nat) (T : ct_T) : Prop := ∀ i, i < b → ct_to T i = 0 → ∀ p, p < n → ct_wh T p = 0 → ¬ ct_nu T p = nI i
/-- fevers by place -/
def KF (n : Nat) (T : ct_T) : Prop := ∀ p, p < n → (ct_wh T p = 1 → ¬ ct_fe T p = 0) ∧ (ct_wh T p = 2 → ct_fe T p = 0) ∧ (ct_wh T p = 3 → ct_fe T p = 10)
def C3 (T' T : ct_T) : Prop := ct_day T' = ct_day T ∧ ct_bo T' = ct_bo T ∧ ct_ea T' = ct_ea T
theorem C3.rf (T : ct_T) : C3 T T := ⟨rfl, rfl, rfl⟩
theorem C3.tr {T T' T'' : ct_T} (h : C3 T'' T') (h2 : C3 T' T) : C3 T'' T := ⟨h.1.trans h2.1, h.2.1.trans h2.2.1, h.2.2.trans h2.2.2⟩
def RM (w b n : Nat) (T : ct_T) (W B P : Nat → Nat → Int32) : Prop := RX w b n T W B P ∧ FE n T ∧ CP w n T ∧ BG b T
theorem up_nI : ∀ k, k < 11 → up1 (nI k) = nI (if k + 1 < 10 then k + 1 else 10) := by decide +kernel
theorem dn_nI : ∀ k, k < 11 → dn1 (nI k) = nI (k - 1) := by decide +kernel
def cu (v : Int32) : Int32 := if v ≤ 10 then (if 0 ≤ v then v else 0) else 10
theorem cu_up : ∀ k, k < 11 → cu (nI k + 1) = up1 (nI k) := by decide +kernel
theorem cu_dn : ∀ k, k < 11 → cu (nI k + -1) = dn1 (nI k) := by decide +kernel
/-- one row set anew -/
def sr (q : Nat → Nat → Int32) (i : Nat) (r : Nat → Int32) : Nat → Nat → Int32 := fun j => if j = i then r else q j
theorem sr_eq (q : Nat → Nat → Int32) (i : Nat) (r : Nat → Int32) : sr q i r i = r := if_pos rfl
theorem sr_ne (q : Nat → Nat → Int32) {i j : Nat} (r : Nat → Int32) (h : j ≠ i) : sr q i r j = q j := if_neg h
theorem ur_sr (q : Nat → Nat → Int32) (i k : Nat) (v : Int32) : ur q i k v = sr q i (upd (q i) k v) := rfl
theorem sr_sr (q : Nat → Nat → Int32) (i : Nat) (r r' : Nat → Int32) : sr (sr q i r) i r' = sr q i r' := by
  funext j
  by_cases h : j = i
  · subst h; rw [sr_eq, sr_eq]
  · rw [sr_ne _ _ h, sr_ne _ _ h, sr_ne _ _ h]
/-- a loop that sets row after row by itself -/
theorem lp_rows {f : Nat → (Nat → Nat → Int32) → Nat → Nat → Int32} {F : Nat → (Nat → Int32) → Nat → Int32} {n : Nat} (h : ∀ i q, i < n → f i q = sr q i (F i (q i))) (P : Nat → Nat → Int32) : ∀ p, lpf f n 0 P p = if p < n then F p (P p) else P p := by
  have H := lpf_inv (fun j q => ∀ p, q p = if p < j then F p (P p) else P p) f n P (fun p => (if_neg (Nat.not_lt_zero p)).symm) (fun j q hj hq p => by
    rw [h j q hj]
    by_cases hp : p = j
    · subst hp; rw [sr_eq, hq p, if_neg (Nat.lt_irrefl p), if_pos (Nat.lt_succ_self p)]
    · rw [sr_ne _ _ hp, hq p]
      by_cases hl : p < j
      · rw [if_pos hl, if_pos (by omega)]
      · rw [if_neg hl, if_neg (by omega)])
  exact H
end PB
