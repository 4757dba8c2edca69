/-! 14.k: pure: what the law asks after, day by day -/
section PK
theorem cap_ok {w b n k : Nat} {T : ct_T} {S : sm_T} (hn : n ≤ 30) (h : DI w b n k T S) {i : Nat} (hi : i < w) : ¬ ct_pl T i < nI (cn (iw T i) n) := by
  obtain ⟨c, e1, e2, e3⟩ := h.1.2.2.1 i hi
  rw [e1]
  exact fun z => absurd ((nI_ltI (by omega) (by have := cn_le (iw T i) n; omega)).mp z) (by omega)
theorem fv_lo {w b n k : Nat} {T : ct_T} {S : sm_T} (hn : n ≤ 30) (h : DI w b n k T S) (i : Nat) : ¬ fI T i n < nI (cn (iw T i) n) := by
  obtain ⟨f, e1, e2, e3⟩ := fI_bd hn h.1.2.1 h.2.1 i
  have := cn_le (iw T i) n
  rw [e1]
  exact fun z => absurd ((nI_ltI (by omega) (by omega)).mp z) (by omega)
theorem fv_hi {w b n k : Nat} {T : ct_T} {S : sm_T} (hn : n ≤ 30) (h : DI w b n k T S) (i : Nat) : fI T i n ≤ (10 : Int32) * nI (cn (iw T i) n) := by
  obtain ⟨f, e1, e2, e3⟩ := fI_bd hn h.1.2.1 h.2.1 i
  have := cn_le (iw T i) n
  rw [e1, show (10 : Int32) * nI (cn (iw T i) n) = nI (10 * cn (iw T i) n) from (Int32.ofNat_mul 10 (cn (iw T i) n)).symm]
  exact (nI_leI (by omega) (by omega)).mpr e3
theorem bt_0 {w b n k : Nat} {T : ct_T} {S : sm_T} (h : DI w b n k T S) {i : Nat} (hi : i < b) : ¬ ct_to T i < 0 := by
  obtain ⟨k9, j, e1, e2, e3, e4, e5⟩ := h.1.2.2.2 i hi
  rw [e4]; exact nI_pos (by omega)
theorem bt_k {w b n k : Nat} {T : ct_T} {S : sm_T} (h : DI w b n k T S) {i : Nat} (hi : i < b) : ¬ ct_ke T i < ct_to T i := by
  obtain ⟨k9, j, e1, e2, e3, e4, e5⟩ := h.1.2.2.2 i hi
  rw [e1, e4]
  exact fun z => absurd ((nI_ltI (by omega) (by omega)).mp z) (by omega)
theorem bt_n {w b n k : Nat} {T : ct_T} {S : sm_T} (hb : b ≤ 4) (hn : n ≤ 30) (h : DI w b n k T S) {i : Nat} (hi : i < b) (z : ¬ nI (cn (ob T i) n) ≤ 0) : ¬ ct_to T i = 0 := by
  refine on_to hb h.1.2.2.2 h.2.2.1 hi ?_
  have := cn_le (ob T i) n
  rcases Nat.eq_zero_or_pos (cn (ob T i) n) with q | q
  · rw [q] at z; exact absurd (by decide) z
  · exact q
theorem bt_z {n : Nat} {T : ct_T} (hn : n ≤ 30) {i : Nat} : (nI (cn (ob T i) n) ≤ 0 → nI (cn (ob T i) n) = 0 ∧ hTT T i n = 0) ∧ (¬ nI (cn (ob T i) n) ≤ 0 → ¬ nI (cn (ob T i) n) = 0) := by
  have := cn_le (ob T i) n
  refine ⟨fun z => ?_, fun z q => z (by rw [q]; decide)⟩
  have e := (i_le0 (k := cn (ob T i) n) (by omega)).mp z
  exact ⟨by rw [e]; rfl, hT_0 e⟩
/-- the row of fevers, as far as it is filled -/
def fR (T : ct_T) (i : Nat) : Nat → Int32 := fun o => if o < i then ct_fe T o else 0
theorem fR_0 (T : ct_T) : (fun _ => (0 : Int32)) = fR T 0 := by funext o; exact (if_neg (Nat.not_lt_zero o)).symm
theorem fR_s (T : ct_T) (i : Nat) : upd (fR T i) i (ct_fe T i) = fR T (i + 1) := by
  funext o
  unfold fR
  by_cases h : o = i
  · subst h; rw [u_eq, if_pos (Nat.lt_succ_self o)]
  · rw [u_ne _ h]
    by_cases h2 : o < i
    · rw [if_pos h2, if_pos (by omega)]
    · rw [if_neg h2, if_neg (by omega)]
theorem fR_at {T : ct_T} {i o : Nat} (h : o < i) : fR T i o = ct_fe T o := if_pos h
/-- one place each, told by the law's rows -/
theorem pl4 {w b n k : Nat} {T : ct_T} {S : sm_T} (hw : w ≤ 5) (hb : b ≤ 4) (h : DI w b n k T S) {o : Nat} (ho : o < n) :
    (¬ sm_P S o 1 < 0 ∧ sm_P S o 2 < 0 ∧ sm_P S o 3 = 0 ∧ sm_P S o 4 = 0 ∧ ¬ fR T (o + 1) o = 0) ∨ (sm_P S o 1 < 0 ∧ ¬ sm_P S o 2 < 0 ∧ sm_P S o 3 = 0 ∧ sm_P S o 4 = 0) ∨
      (sm_P S o 1 < 0 ∧ sm_P S o 2 < 0 ∧ ¬ sm_P S o 3 = 0 ∧ sm_P S o 4 = 0 ∧ fR T (o + 1) o = 0) ∨ (sm_P S o 1 < 0 ∧ sm_P S o 2 < 0 ∧ sm_P S o 3 = 0 ∧ ¬ sm_P S o 4 = 0 ∧ fR T (o + 1) o = 10) := by
  have h3 := (h.1.1.2.2 o ho).2.2
  have hK := h.2.1 o ho
  rw [fR_at (Nat.lt_succ_self o)]
  rcases h3 with ⟨e1, j, e2, e3, e4, e5, e6, e7⟩ | ⟨e1, j, e2, e3, e4, e5, e6, e7⟩ | ⟨e1, e2, e3, e4, e5⟩ | ⟨e1, e2, e3, e4, e5⟩
  · exact Or.inl ⟨by rw [e4]; exact nI_pos (by omega), by rw [e5]; decide, e6, e7, hK.1 e1⟩
  · exact Or.inr (Or.inl ⟨by rw [e4]; decide, by rw [e5]; exact nI_pos (by omega), e6, e7⟩)
  · exact Or.inr (Or.inr (Or.inl ⟨by rw [e2]; decide, by rw [e3]; decide, by rw [e4]; decide, e5, hK.2.1 e1⟩))
  · exact Or.inr (Or.inr (Or.inr ⟨by rw [e2]; decide, by rw [e3]; decide, e4, by rw [e5]; decide, hK.2.2 e1⟩))
theorem i_ad (a b : Int32) : b = a + (b - a) := by grind
/-- a single day done to both -/
theorem pass_1 {w b n k : Nat} {T : ct_T} {S : sm_T} (hw : w ≤ 5) (hb : b ≤ 4) (hn : n ≤ 30) (hk : k ≤ 60) (h : DI w b n k T S) (hH : FH n T) {w2 b2 n2 : Nat} {T2 : ct_T} :
    e_X1_pass w b n T w2 b2 n2 T2 (nI 1) = 0 ∧ ∃ T1, s_X1_pass w b n T w2 b2 n2 T2 (nI 1) = T1 ∧ r_X1_pass w b n T w2 b2 n2 T2 (nI 1) = nI (ch T1 2 n) - nI (ch T 2 n) ∧ DI w b n k T1 (sp_day w b n (nI k) S) ∧ FH n T1 ∧
      (∀ p, p < n → near (ct_fe T p) (ct_fe T1 p)) ∧ ct_ea T1 = ct_ea T + nI (min (ch T 1 n) k) ∧ sI (ct_hd T1) n - sI (ct_hd T) n = nI (ch T 1 n - k) := by
  have e1 := (op_pass (w2 := w2) (b2 := b2) (n2 := n2) (T2 := T2) hw hb hn hk h hH (Nat.le_refl 1) (by decide)).1
  have hF := FH_days hn hH (w := w) (b := b) 1
  have H := day_ok (T0 := T) (x := 1) (i := 0) hw hb hn hk h _ rfl
  have es : s_X1_pass w b n T w2 b2 n2 T2 (nI 1) = f_X0_liveDays_2 w b n T 1 0 T := by
    unfold s_X1_pass
    rw [ckD (Nat.le_refl 1) (by decide), if_pos rfl, nI_clamp (by decide)]
    rfl
  refine ⟨e1, f_X0_liveDays_2 w b n T 1 0 T, es, ?_, H.1, hF, H.2.1, H.2.2.1, ?_⟩
  · unfold r_X1_pass
    rw [ckD (Nat.le_refl 1) (by decide), if_pos rfl, nI_clamp (by decide), v_count hn, v_count hn]
    rfl
  · rw [H.2.2.2.1]
    show sI (ct_hd T) n + nI (c1 T n - k) - sI (ct_hd T) n = nI (ch T 1 n - k)
    rw [show c1 T n = ch T 1 n from rfl]
    grind
theorem ab_1 : ∀ a, a < 11 → ∀ c, c < 11 → a ≤ c + 1 → c ≤ a + 1 → (if (0 : Int32) ≤ nI a - nI c then nI a - nI c else 0 - (nI a - nI c)) ≤ 1 := by decide +kernel
theorem near_abs {x y : Int32} (h : near x y) : (if (0 : Int32) ≤ y - x then y - x else 0 - (y - x)) ≤ 1 := by
  obtain ⟨k, k', rfl, rfl, h1, h2, h3, h4⟩ := h
  exact ab_1 k' (by omega) k (by omega) h3 h4
theorem e_home {d : Nat} (h1 : 1 ≤ d) (h2 : d ≤ 40) {w b n : Nat} {T : ct_T} {w2 b2 n2 : Nat} {T2 : ct_T} : e_X1_homeAfter w b n T w2 b2 n2 T2 (nI d) = 0 ∧ e_X1_greatHouseAfter w b n T w2 b2 n2 T2 (nI d) = 0 := by
  unfold e_X1_homeAfter e_X1_greatHouseAfter
  rw [ckD h1 h2, if_pos rfl]
  exact ⟨rfl, rfl⟩
theorem e_until {w b n : Nat} (hn : n ≤ 30) {p : Nat} (hp : p < n) {T : ct_T} {w2 b2 n2 : Nat} {T2 : ct_T} : e_X1_daysUntilHome w b n T w2 b2 n2 T2 (nI p) = 0 := by
  unfold e_X1_daysUntilHome
  rw [ckP hn hp, if_pos rfl]
/-- whether somebody is at home, day by day -/
theorem uh_at {w b n k : Nat} {T : ct_T} {S : sm_T} {p : Nat} {u : Int32} (hw : w ≤ 5) (hb : b ≤ 4) (hn : n ≤ 30) (hk : k ≤ 60) (h : DI w b n k T S) (hp : p < n) (hu : UH w b n k S p u) : u = -1 ∨ ∃ d, d ≤ 60 ∧ u = nI d ∧ ∀ j, sm_P (sp_it w b n (nI k) S j) p 3 = 1 ↔ d ≤ j := by
  rcases hu with hu | ⟨d, hd, e, h1, h2⟩
  · exact Or.inl hu
  · refine Or.inr ⟨d, hd, e, fun j => ⟨fun z => ?_, fun z => home_stays hw hb hn hk h hp z h1⟩⟩
    rcases Nat.lt_or_ge j d with q | q
    · exact absurd z (h2 j q)
    · exact q
end PK
