/-! 14.e: pure: leaving the wards, landing -/
section PE
theorem RX_mv {w b n : Nat} {T : ct_T} {W B P : Nat → Nat → Int32} (h : RX w b n T W B P) {p : Nat} (hp : p < 30) {x y : Int32} {r : Nat → Int32} (h0 : r 0 = P p 0) (h5 : r 5 = P p 5) (hz : PL w b x y (r 1) (r 2) (r 3) (r 4)) : RX w b n (s_X0_move w b n T (nI p) x y) W B (sr P p r) := by
  unfold s_X0_move
  rw [cl hp]
  refine ⟨h.1, h.2.1, fun q hq => ?_⟩
  show ct_fe T q = _ ∧ ct_hd T q = _ ∧ PL w b (upd (ct_wh T) p x q) (upd (ct_nu T) p y q) _ _ _ _
  by_cases hqp : q = p
  · subst hqp
    rw [sr_eq, u_eq, u_eq, h0, h5]
    exact ⟨(h.2.2 q hq).1, (h.2.2 q hq).2.1, hz⟩
  · rw [sr_ne _ _ hqp, u_ne _ hqp, u_ne _ hqp]; exact h.2.2 q hq
theorem iw_mv {w b n : Nat} {T : ct_T} {p : Nat} (hp : p < 30) {x y : Int32} (i q : Nat) : iw (s_X0_move w b n T (nI p) x y) i q = if q = p then decide (x = 1 ∧ y = nI i) else iw T i q := by
  unfold s_X0_move
  rw [cl hp]
  show decide (upd (ct_wh T) p x q = 1 ∧ upd (ct_nu T) p y q = nI i) = _
  by_cases hq : q = p
  · subst hq; rw [u_eq, u_eq, if_pos rfl]
  · rw [u_ne _ hq, u_ne _ hq, if_neg hq]; rfl
theorem CP_mv {w b n : Nat} {T : ct_T} (h : CP w n T) {p : Nat} (hp : p < 30) {x y : Int32} (hcap : ∀ i, i < w → x = 1 → y = nI i → ∃ k, ct_pl T i = nI k ∧ k ≤ 8 ∧ cn (iw T i) n < k) : CP w n (s_X0_move w b n T (nI p) x y) := by
  intro i hi
  have hpl : ct_pl (s_X0_move w b n T (nI p) x y) = ct_pl T := rfl
  rw [hpl]
  by_cases hxy : x = 1 ∧ y = nI i
  · obtain ⟨k, e1, e2, e3⟩ := hcap i hi hxy.1 hxy.2
    have h9 := cn_one (P := iw T i) (Q := iw (s_X0_move w b n T (nI p) x y) i) (p := p) (n := n) (fun q hq hqp hz => by rw [iw_mv hp, if_neg hqp] at hz; exact hz)
    exact ⟨k, e1, e2, by omega⟩
  · obtain ⟨k, e1, e2, e3⟩ := h i hi
    have h9 := cn_mono (P := iw T i) (Q := iw (s_X0_move w b n T (nI p) x y) i) (n := n) (fun q hq hz => by
      rw [iw_mv hp] at hz
      by_cases hqp : q = p
      · rw [if_pos hqp] at hz; exact absurd (of_decide_eq_true hz) hxy
      · rw [if_neg hqp] at hz; exact hz)
    exact ⟨k, e1, e2, by omega⟩
theorem wh_mv {w b n : Nat} {T : ct_T} {p : Nat} (hp : p < 30) {x y : Int32} (q : Nat) : ct_wh (s_X0_move w b n T (nI p) x y) q = (if q = p then x else ct_wh T q) ∧ ct_nu (s_X0_move w b n T (nI p) x y) q = (if q = p then y else ct_nu T q) := by
  unfold s_X0_move
  rw [cl hp]
  exact ⟨rfl, rfl⟩
/-- home and the great house keep theirs -/
def KH (n : Nat) (T : ct_T) : Prop := ∀ p, p < n → (ct_wh T p = 2 → ct_fe T p = 0) ∧ (ct_wh T p = 3 → ct_fe T p = 10)
/-- the same but for places -/
def SW (Q T : ct_T) : Prop := C3 Q T ∧ ct_fe Q = ct_fe T ∧ ct_hd Q = ct_hd T ∧ ct_ke Q = ct_ke T
def LV (w b n : Nat) (T : ct_T) (W B : Nat → Nat → Int32) (j : Nat) (Q : ct_T) (q : Nat → Nat → Int32) : Prop :=
  RM w b n Q W B q ∧ SW Q T ∧ ct_to Q = ct_to T ∧ KH n Q ∧ (∀ p, p < n → p < j → ct_wh Q p = 1 → ¬ ct_fe Q p = 0) ∧ (∀ p, p < n → ct_wh T p = 2 → ct_wh Q p = 2)
theorem q_470 {w b n : Nat} {dy bo ea : Int32} {W0 B0 P0 : Nat → Nat → Int32} {i : Nat} {q : Nat → Nat → Int32} {k : Nat} (hk : k ≤ 10) (e : q i 0 = nI k) : f_X2_pass_5_470 w b n dy bo ea W0 B0 P0 i q = if q i 1 < 0 then q else (if k = 0 then sr q i (upd (upd (q i) 1 (-1)) 3 1) else (if k = 10 then sr q i (upd (upd (q i) 1 (-1)) 4 1) else q)) := by
  have u10 : ∀ (f : Nat → Int32) (x : Int32), upd f 1 x 0 = f 0 := fun f x => u_ne f (by decide) x
  unfold f_X2_pass_5_470
  simp only [ur_sr, sr_eq, sr_sr, u10, e]
  by_cases h1 : q i 1 < 0
  · rw [if_pos h1, if_pos h1]
  · rw [if_neg h1, if_neg h1]
    by_cases h2 : k = 0
    · subst h2
      rw [if_pos (by decide), if_pos (by decide), if_pos rfl]
    · rw [if_neg (fun z => h2 ((i_le0 (by omega)).mp z)), if_neg h2, if_neg (fun z => h2 ((i_eq0 (by omega)).mp z))]
      have h9 : (10 : Int32) ≤ nI k ↔ k = 10 := by
        rw [show (10 : Int32) = nI 10 from rfl, nI_leI (by decide) (by omega)]; omega
      by_cases h3 : k = 10
      · rw [if_pos (h9.mpr h3), if_pos h3]
      · rw [if_neg (fun z => h3 (h9.mp z)), if_neg h3]
theorem LV_step {w b n : Nat} {T : ct_T} {W B : Nat → Nat → Int32} (hw : w ≤ 5) (hn : n ≤ 30) {T0 : ct_T} {dy bo ea : Int32} {W0 B0 P0 : Nat → Nat → Int32} {j : Nat} (hj : j < n) {Q : ct_T} {q : Nat → Nat → Int32} (h : LV w b n T W B j Q q) : LV w b n T W B (j + 1) (f_X0_leaveWards_2 w b n T0 j Q) (f_X2_pass_5_470 w b n dy bo ea W0 B0 P0 j q) := by
  obtain ⟨⟨hX, hF, hC, hG⟩, hS, hto, hK, hW, hH⟩ := h
  obtain ⟨k, hk, ek⟩ := hF j hj
  have eq : q j 0 = nI k := by rw [← (hX.2.2 j hj).1]; exact ek
  have hj30 : j < 30 := by omega
  rw [q_470 hk eq]
  unfold f_X0_leaveWards_2
  rw [cl hj30, ek]
  have hin := PL_in hw (hX.2.2 j hj).2.2
  have hlt : ∀ (x y : Int32) (r : Nat → Int32), ct_wh Q j = 1 → r 0 = q j 0 → r 5 = q j 5 → PL w b x y (r 1) (r 2) (r 3) (r 4) → ¬ x = 1 → (x = 2 → nI k = 0) → (x = 3 → nI k = 10) → LV w b n T W B (j + 1) (s_X0_move w b n Q (nI j) x y) (sr q j r) := by
    intro x y r hwj h0 h5 hpl hx1 hx2 hx3
    refine ⟨⟨RX_mv hX hj30 h0 h5 hpl, hF, CP_mv hC hj30 (fun i hi z => absurd z hx1), hG⟩, hS, hto, fun p hp => ?_, fun p hp hpj hz => ?_, fun p hp hz => ?_⟩
    · rw [(wh_mv hj30 p).1]
      show (_ → ct_fe Q p = 0) ∧ (_ → ct_fe Q p = 10)
      by_cases hpj : p = j
      · subst hpj
        rw [if_pos rfl, ek]; exact ⟨hx2, hx3⟩
      · rw [if_neg hpj]; exact hK p hp
    · rw [(wh_mv hj30 p).1] at hz
      by_cases hpj2 : p = j
      · rw [if_pos hpj2] at hz; exact absurd hz hx1
      · rw [if_neg hpj2] at hz; exact hW p hp (by omega) hz
    · rw [(wh_mv hj30 p).1]
      by_cases hpj : p = j
      · subst hpj
        have := hH p hp hz
        rw [hwj] at this; exact absurd this (by decide)
      · rw [if_neg hpj]; exact hH p hp hz
  have u3 : ∀ (f : Nat → Int32) (a c : Int32) (m : Nat), upd (upd f 1 a) 3 c m = if m = 3 then c else if m = 1 then a else f m := fun f a c m => rfl
  have u4 : ∀ (f : Nat → Int32) (a c : Int32) (m : Nat), upd (upd f 1 a) 4 c m = if m = 4 then c else if m = 1 then a else f m := fun f a c m => rfl
  by_cases h1 : ct_wh Q j = 1
  · have hu := hin.mp h1
    rw [if_pos h1, if_neg (Int32.not_lt.mpr hu)]
    rcases (hX.2.2 j hj).2.2 with ⟨-, kk, hkk, e2, e3, e4, e5, e6⟩ | ⟨e1, -⟩ | ⟨e1, -⟩ | ⟨e1, -⟩
    · by_cases h2 : k = 0
      · subst h2
        rw [if_pos (show nI 0 = 0 by decide), if_pos rfl]
        refine hlt 2 (-1) _ h1 rfl rfl ?_ (by decide) (fun _ => by decide) (fun z => absurd z (by decide))
        simp only [u3]
        exact Or.inr (Or.inr (Or.inl ⟨rfl, rfl, e4, rfl, e6⟩))
      · rw [if_neg (fun z => h2 ((i_eq0 (by omega)).mp z)), if_neg h2]
        have h9 : nI k = 10 ↔ k = 10 := by rw [show (10 : Int32) = nI 10 from rfl, nI_eq (by omega) (by decide)]
        by_cases h3 : k = 10
        · subst h3
          rw [if_pos (show nI 10 = 10 by decide), if_pos rfl]
          refine hlt 3 (-1) _ h1 rfl rfl ?_ (by decide) (fun z => absurd z (by decide)) (fun _ => by decide)
          simp only [u4]
          exact Or.inr (Or.inr (Or.inr ⟨rfl, rfl, e4, e5, rfl⟩))
        · rw [if_neg (fun z => h3 (h9.mp z)), if_neg h3]
          refine ⟨⟨hX, hF, hC, hG⟩, hS, hto, hK, fun p hp hpj hz => ?_, hH⟩
          by_cases hpj2 : p = j
          · subst hpj2; rw [ek]; exact fun z => h2 ((i_eq0 (by omega)).mp z)
          · exact hW p hp (by omega) hz
    · exact absurd (h1.symm.trans e1) (by decide)
    · exact absurd (h1.symm.trans e1) (by decide)
    · exact absurd (h1.symm.trans e1) (by decide)
  · rw [if_neg h1, if_pos (Int32.not_le.mp (fun z => h1 (hin.mpr z)))]
    refine ⟨⟨hX, hF, hC, hG⟩, hS, hto, hK, fun p hp hpj hz => ?_, hH⟩
    by_cases hpj2 : p = j
    · subst hpj2; exact absurd hz h1
    · exact hW p hp (by omega) hz
theorem st4 {w b n : Nat} {T : ct_T} {W B P : Nat → Nat → Int32} (hw : w ≤ 5) (hn : n ≤ 30) (h : RM w b n T W B P) (hK : KH n T) {dy bo ea : Int32} {W0 B0 : Nat → Nat → Int32} :
    RM w b n (s_X0_leaveWards w b n T) W B (p5_P w b n dy bo ea W0 B0 P) ∧ SW (s_X0_leaveWards w b n T) T ∧ KF n (s_X0_leaveWards w b n T) ∧ ∀ p, p < n → ct_wh T p = 2 → ct_wh (s_X0_leaveWards w b n T) p = 2 := by
  have H : LV w b n T W B n (s_X0_leaveWards w b n T) (p5_P w b n dy bo ea W0 B0 P) := by
    unfold s_X0_leaveWards p5_P
    exact lpf_two (fun j Q q => LV w b n T W B j Q q) _ _ n _ _ ⟨h, ⟨C3.rf T, rfl, rfl, rfl⟩, rfl, hK, fun p hp hpj => absurd hpj (Nat.not_lt_zero p), fun _ _ z => z⟩ (fun j Q q hj hQ => LV_step hw hn hj hQ)
  obtain ⟨a1, a2, -, a4, a5, a6⟩ := H
  exact ⟨a1, a2, fun p hp => ⟨a5 p hp hp, (a4 p hp).1, (a4 p hp).2⟩, a6⟩
/-- ward k is full, told by the law's town -/
def full (w b n : Nat) (dy bo ea : Int32) (W B q : Nat → Nat → Int32) (k : Nat) : Prop := W k 0 ≤ r_X2_in w b n dy bo ea W B q (nI k)
/-- the first free ward, as the law finds it: from the last one back -/
theorem q_first {w b n : Nat} {dy bo ea : Int32} {W B P : Nat → Nat → Int32} {i j : Nat} {q0 : (Nat → Nat → Int32) × (Nat → Nat → Int32)} {q : (Nat → Nat → Int32) × Int32} :
    (lpf (f_X2_pass_6_615 w b n dy bo ea W B P i q0 j q) w 0 (-1) = -1 ∧ ∀ k, k < w → full w b n dy bo ea W q0.1 q.1 k) ∨ (∃ k, k < w ∧ lpf (f_X2_pass_6_615 w b n dy bo ea W B P i q0 j q) w 0 (-1) = nI k ∧ ¬ full w b n dy bo ea W q0.1 q.1 k ∧ ∀ m, m < k → full w b n dy bo ea W q0.1 q.1 m) := by
  have H := lpf_inv (fun t (a : Int32) => t ≤ w → (a = -1 ∧ ∀ k, w - t ≤ k → k < w → full w b n dy bo ea W q0.1 q.1 k) ∨ (∃ k, w - t ≤ k ∧ k < w ∧ a = nI k ∧ ¬ full w b n dy bo ea W q0.1 q.1 k ∧ ∀ m, w - t ≤ m → m < k → full w b n dy bo ea W q0.1 q.1 m)) (f_X2_pass_6_615 w b n dy bo ea W B P i q0 j q) w (-1) (fun _ => Or.inl ⟨rfl, fun k h1 h2 => by omega⟩) (fun t a ht ha htw => by
    have ha := ha (by omega)
    unfold f_X2_pass_6_615
    by_cases hf : W (w - 1 - t) 0 ≤ r_X2_in w b n dy bo ea W q0.1 q.1 (nI (w - 1 - t))
    · rw [if_pos hf]
      rcases ha with ⟨a1, a2⟩ | ⟨k, a1, a2, a3, a4, a5⟩
      · refine Or.inl ⟨a1, fun k h1 h2 => ?_⟩
        by_cases hk : k = w - 1 - t
        · subst hk; exact hf
        · exact a2 k (by omega) h2
      · refine Or.inr ⟨k, by omega, a2, a3, a4, fun m h1 h2 => ?_⟩
        by_cases hm : m = w - 1 - t
        · subst hm; exact hf
        · exact a5 m (by omega) h2
    · rw [if_neg hf]
      exact Or.inr ⟨w - 1 - t, by omega, by omega, rfl, hf, fun m h1 h2 => by omega⟩)
  rcases H (Nat.le_refl w) with ⟨a1, a2⟩ | ⟨k, a1, a2, a3, a4, a5⟩
  · exact Or.inl ⟨a1, fun k hk => a2 k (by omega) hk⟩
  · exact Or.inr ⟨k, a2, a3, a4, fun m hm => a5 m (by omega) hm⟩
theorem lpx_inv {α β : Type} (P : Nat → α → Prop) (E : β → Prop) (f : Nat → α → β ⊕ α) (N : Nat) (a : α) (h0 : P 0 a) (hs : ∀ j a, j < N → P j a → (∀ x, f j a = .inl x → E x) ∧ (∀ a', f j a = .inr a' → P (j + 1) a')) : (∀ x, lpx f N 0 a = .inl x → E x) ∧ (∀ a', lpx f N 0 a = .inr a' → P N a') := by
  have H : ∀ (n i : Nat) (a : α), i + n = N → P i a → (∀ x, lpx f n i a = .inl x → E x) ∧ (∀ a', lpx f n i a = .inr a' → P N a') := by
    intro n
    induction n with
    | zero =>
      intro i a h g
      rw [Nat.add_zero] at h; subst h
      rw [show lpx f 0 i a = .inr a from rfl]
      refine ⟨fun x hx => ?_, fun a' ha => ?_⟩
      · cases hx
      · cases ha; exact g
    | succ n ih =>
      intro i a h g
      obtain ⟨h1, h2⟩ := hs i a (by omega) g
      rw [show lpx f (n + 1) i a = (match f i a with | .inl b => .inl b | .inr a' => lpx f n (i + 1) a') from rfl]
      cases hf : f i a with
      | inl x =>
        refine ⟨fun y hy => ?_, fun a' ha => ?_⟩
        · cases hy; exact h1 x hf
        · cases ha
      | inr a' => exact ih (i + 1) a' (by omega) (h2 a' hf)
  exact H N 0 a (by omega) h0
/-- the first free ward, as the class finds it -/
theorem t_first {w b n : Nat} {T : ct_T} (hw : w ≤ 5) :
    (r_X0_takeFirstFreePlace w b n T = -1 ∧ s_X0_takeFirstFreePlace w b n T = T ∧ ∀ k, k < w → ct_fr T k ≤ 0) ∨
    (∃ k, k < w ∧ r_X0_takeFirstFreePlace w b n T = nI k ∧ s_X0_takeFirstFreePlace w b n T = cs_fr T (upd (ct_fr T) k (ct_fr T k - 1)) ∧ ¬ ct_fr T k ≤ 0 ∧ ∀ m, m < k → ct_fr T m ≤ 0) := by
  have H := lpx_inv (fun j (Q : ct_T) => Q = T ∧ ∀ k, k < j → ct_fr T k ≤ 0) (fun x : Int32 × ct_T => ∃ k, k < w ∧ x = (nI k, cs_fr T (upd (ct_fr T) k (ct_fr T k - 1))) ∧ ¬ ct_fr T k ≤ 0 ∧ ∀ m, m < k → ct_fr T m ≤ 0) (f_X0_takeFirstFreePlace_2 w b n T) w T ⟨rfl, fun k hk => absurd hk (Nat.not_lt_zero k)⟩ (fun j Q hj hQ => by
    obtain ⟨rfl, h2⟩ := hQ
    unfold f_X0_takeFirstFreePlace_2
    rw [cl (show j < 30 by omega)]
    by_cases h : ct_fr Q j ≤ 0
    · rw [if_pos h]
      refine ⟨fun x hx => ?_, fun a' ha => ?_⟩
      · cases hx
      · cases ha
        refine ⟨rfl, fun k hk => ?_⟩
        by_cases hkj : k = j
        · subst hkj; exact h
        · exact h2 k (by omega)
    · rw [if_neg h]
      refine ⟨fun x hx => ?_, fun a' ha => ?_⟩
      · cases hx; exact ⟨j, hj, rfl, h, h2⟩
      · cases ha)
  unfold r_X0_takeFirstFreePlace s_X0_takeFirstFreePlace
  cases hx : lpx (f_X0_takeFirstFreePlace_2 w b n T) w 0 T with
  | inl x =>
    obtain ⟨k, h1, h2, h3, h4⟩ := H.1 x hx
    subst h2
    exact Or.inr ⟨k, h1, rfl, rfl, h3, h4⟩
  | inr x =>
    obtain ⟨h1, h2⟩ := H.2 x hx
    exact Or.inl ⟨rfl, h1, h2⟩
theorem q_in {w b n : Nat} {dy bo ea : Int32} {W B q : Nat → Nat → Int32} {T : ct_T} {W1 B1 : Nat → Nat → Int32} (hw : w ≤ 5) (hX : RX w b n T W1 B1 q) {k : Nat} (hk : k < w) : r_X2_in w b n dy bo ea W B q (nI k) = nI (cn (iw T k) n) := by
  unfold r_X2_in
  refine lpf_cn (fun j a hj => ?_)
  unfold f_X2_in_14
  have L := PL_ward hw (hX.2.2 j hj).2.2 hk
  by_cases h1 : ct_wh T j = 1 ∧ ct_nu T j = nI k
  · rw [if_pos (L.mp h1), if_pos (show iw T k j = true from decide_eq_true h1)]
  · rw [if_neg (fun z => h1 (L.mpr z)), if_neg (show ¬ iw T k j = true from fun z => h1 (of_decide_eq_true z))]
    exact Int32.add_zero a
/-- both find the same -/
theorem same_first {w b n : Nat} {T : ct_T} {W B q : Nat → Nat → Int32} (hw : w ≤ 5) (hn : n ≤ 30) (hX : RX w b n T W B q) (hC : CP w n T) (hR : RF w n T) {dy bo ea : Int32} {B1 P0 B0 : Nat → Nat → Int32} {P1 : Nat → Nat → Int32} {i j : Nat} {st : Int32} :
    (r_X0_takeFirstFreePlace w b n T = -1 ∧ s_X0_takeFirstFreePlace w b n T = T ∧ lpf (f_X2_pass_6_615 w b n dy bo ea W B0 P0 i (B1, P1) j (q, st)) w 0 (-1) = -1) ∨
    (∃ k, k < w ∧ r_X0_takeFirstFreePlace w b n T = nI k ∧ s_X0_takeFirstFreePlace w b n T = cs_fr T (upd (ct_fr T) k (ct_fr T k - 1)) ∧ lpf (f_X2_pass_6_615 w b n dy bo ea W B0 P0 i (B1, P1) j (q, st)) w 0 (-1) = nI k ∧ ∃ c, ct_pl T k = nI c ∧ c ≤ 8 ∧ cn (iw T k) n < c) := by
  have hfull : ∀ k, k < w → (full w b n dy bo ea W B1 q k ↔ ct_fr T k ≤ 0) := by
    intro k hk
    unfold full
    obtain ⟨c, e1, e2, e3⟩ := hC k hk
    have hc30 := cn_le (iw T k) n
    rw [q_in hw hX hk, ← (hX.1 k hk).1, hR k hk, e1, i_sub e3, i_le0 (by omega), nI_leI (by omega) (by omega)]
    omega
  rcases t_first (b := b) (n := n) (T := T) hw with ⟨a1, a2, a3⟩ | ⟨k, a1, a2, a3, a4, a5⟩
  · rcases q_first (w := w) (b := b) (n := n) (dy := dy) (bo := bo) (ea := ea) (W := W) (B := B0) (P := P0) (i := i) (j := j) (q0 := (B1, P1)) (q := (q, st)) with ⟨b1, -⟩ | ⟨m, b1, -, b3, -⟩
    · exact Or.inl ⟨a1, a2, b1⟩
    · exact absurd ((hfull m b1).mpr (a3 m b1)) b3
  · rcases q_first (w := w) (b := b) (n := n) (dy := dy) (bo := bo) (ea := ea) (W := W) (B := B0) (P := P0) (i := i) (j := j) (q0 := (B1, P1)) (q := (q, st)) with ⟨-, b2⟩ | ⟨m, b1, b2, b3, b4⟩
    · exact absurd ((hfull k a1).mp (b2 k a1)) a4
    · have hmk : m = k := by
        rcases Nat.lt_trichotomy m k with h | h | h
        · exact absurd ((hfull m b1).mpr (a5 m h)) b3
        · exact h
        · exact absurd ((hfull k a1).mp (b4 k h)) a4
      subst hmk
      refine Or.inr ⟨m, a1, a2, a3, b2, ?_⟩
      obtain ⟨c, e1, e2, e3⟩ := hC m a1
      refine ⟨c, e1, e2, ?_⟩
      have hc30 := cn_le (iw T m) n
      rw [hR m a1, e1, i_sub e3, i_le0 (by omega)] at a4
      omega
end PE
