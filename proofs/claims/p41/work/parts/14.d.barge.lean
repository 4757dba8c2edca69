/-! 14.d: pure: barges on their way, straw -/
section PD
theorem cn_pos {V : Nat → Bool} : ∀ {n : Nat}, 0 < cn V n ↔ ∃ o, o < n ∧ V o = true
  | 0 => ⟨fun h => absurd h (Nat.lt_irrefl 0), fun ⟨o, h, _⟩ => absurd h (Nat.not_lt_zero o)⟩
  | n + 1 => by
    show 0 < cn V n + (if V n then 1 else 0) ↔ _
    constructor
    · intro h
      by_cases hn : V n = true
      · exact ⟨n, Nat.lt_succ_self n, hn⟩
      · rw [if_neg hn] at h
        obtain ⟨o, h1, h2⟩ := cn_pos.mp (show 0 < cn V n by omega)
        exact ⟨o, by omega, h2⟩
    · rintro ⟨o, h1, h2⟩
      by_cases hn : o = n
      · subst hn; rw [if_pos h2]; omega
      · have := cn_pos.mpr ⟨o, (show o < n by omega), h2⟩
        omega
theorem cn_but {V : Nat → Bool} {j n : Nat} (hj : j < n) : cn V n = cn (fun q => V q && !decide (q = j)) n + (if V j = true then 1 else 0) := by
  by_cases h : V j = true
  · rw [if_pos h]
    exact cn_in (p := j) (by simp) h hj (fun q _ hq => by simp [hq])
  · rw [if_neg h, Nat.add_zero]
    refine cn_congr (fun q _ => ?_)
    by_cases hq : q = j
    · subst hq; simp [h]
    · simp [hq]
/-- who is feverish on barge i -/
def fv (T : ct_T) (i : Nat) : Nat → Bool := fun q => decide ((ct_wh T q = 0 ∧ ct_nu T q = nI i) ∧ ¬ ct_fe T q ≤ 0)
theorem r_cf {w b n : Nat} {T : ct_T} (hn : n ≤ 30) {i : Nat} : r_X0_countFeverish w b n T (nI i) = nI (cn (fv T i) n) := by
  unfold r_X0_countFeverish
  refine lpf_cn (fun j a hj => ?_)
  unfold f_X0_countFeverish_4
  rw [ite_at (show j < 30 by omega), cl (show j < 30 by omega)]
  by_cases h1 : ct_wh T j = 0 ∧ ct_nu T j = nI i
  · rw [if_pos h1]
    by_cases h2 : ct_fe T j ≤ 0
    · rw [if_pos h2, if_neg (show ¬ fv T i j = true from fun z => (of_decide_eq_true z).2 h2)]
    · rw [if_neg h2, if_pos (show fv T i j = true from decide_eq_true ⟨h1, h2⟩)]
  · rw [if_neg h1, if_neg (show ¬ fv T i j = true from fun z => h1 (of_decide_eq_true z).1)]
theorem i_lt1 {k : Nat} (hk : k < 2 ^ 31) : nI k < 1 ↔ k = 0 := by
  rw [show (1 : Int32) = nI 1 from rfl, nI_ltI hk (by decide)]; omega
theorem q_had {w b n : Nat} {dy bo ea : Int32} {W B P : Nat → Nat → Int32} {i : Nat} {q : (Nat → Nat → Int32) × (Nat → Nat → Int32)} : ∀ p, p < n → lpf (f_X2_pass_3_259 w b n dy bo ea W B P i q) n 0 (fun _ => 0) p = q.2 p 0 := by
  have H := lpf_inv (fun j (g : Nat → Int32) => ∀ p, p < j → g p = q.2 p 0) (f_X2_pass_3_259 w b n dy bo ea W B P i q) n (fun _ => 0) (fun p hp => absurd hp (Nat.not_lt_zero p)) (fun j g hj hg p hp => by
    show upd g j (q.2 j 0) p = q.2 p 0
    by_cases hpj : p = j
    · subst hpj; rw [u_eq]
    · rw [u_ne _ hpj]; exact hg p (by omega))
  exact H
/-- whether somebody feverish is near -/
theorem q_near {w b n : Nat} {dy bo ea : Int32} {W B P : Nat → Nat → Int32} {i : Nat} {q0 : (Nat → Nat → Int32) × (Nat → Nat → Int32)} {j : Nat} {q : Nat → Nat → Int32} (hn : n ≤ 30) (hj : j < n) {U : Nat → Bool} (hU : ∀ o, o < n → (U o = true ↔ o ≠ j ∧ q o 2 = nI i ∧ ¬ q0.2 o 0 < 1)) :
    lpf (f_X2_pass_3_324 w b n dy bo ea W B P i q0 j q) n 0 0 = if cn U n = 0 then 0 else 1 := by
  have hh := q_had (w := w) (b := b) (n := n) (dy := dy) (bo := bo) (ea := ea) (W := W) (B := B) (P := P) (i := i) (q := q0)
  refine lpf_inv (fun m (a : Int32) => a = if cn U m = 0 then 0 else 1) _ n 0 rfl (fun m a hm ha => ?_)
  have e0 : ∀ a : Int32, (a = 0 ∨ a = 1) → a ||| 0 = a ∧ a ||| 1 = 1 := by
    rintro a (rfl | rfl) <;> decide
  have ha2 : a = 0 ∨ a = 1 := by rw [ha]; split; exact Or.inl rfl; exact Or.inr rfl
  unfold f_X2_pass_3_324
  rw [hh m hm]
  show _ = if cn U m + (if U m = true then 1 else 0) = 0 then 0 else 1
  have hu := hU m hm
  by_cases h1 : nI m = nI j
  · have hmj : m = j := (nI_eq (by omega) (by omega)).mp h1
    rw [if_pos h1, if_neg (fun z => (hu.mp z).1 hmj), Nat.add_zero, (e0 a ha2).1]; exact ha
  · rw [if_neg h1]
    have hmj : m ≠ j := fun z => h1 (congrArg nI z)
    by_cases h2 : q m 2 = nI i
    · rw [if_pos h2]
      by_cases h3 : q0.2 m 0 < 1
      · rw [if_pos h3, if_neg (fun z => (hu.mp z).2.2 h3), Nat.add_zero, (e0 a ha2).1]; exact ha
      · rw [if_neg h3, if_pos (hu.mpr ⟨hmj, h2, h3⟩), if_neg (by omega), (e0 a ha2).2]
    · rw [if_neg h2, if_neg (fun z => h2 (hu.mp z).2.1), Nat.add_zero, (e0 a ha2).1]; exact ha
theorem RX_to {w b n : Nat} {T : ct_T} {W B P : Nat → Nat → Int32} (h : RX w b n T W B P) {i : Nat} {v : Int32} : RX w b n (cs_to T (upd (ct_to T) i v)) W (ur B i 1 v) P := by
  refine ⟨h.1, fun j hj => ?_, h.2.2⟩
  show ct_ke T j = _ ∧ upd (ct_to T) i v j = _
  by_cases hji : j = i
  · subst hji
    rw [ur_eq, u_eq, u_eq, u_ne _ (show (0 : Nat) ≠ 1 by decide)]
    exact ⟨(h.2.1 j hj).1, rfl⟩
  · rw [ur_ne _ _ _ hji, u_ne _ hji]; exact h.2.1 j hj
theorem BG_to {b : Nat} {T : ct_T} (h : BG b T) {i k j : Nat} (hk9 : k < 2 ^ 31) (hk : i < b → ct_ke T i = nI k) (hj : j ≤ k) : BG b (cs_to T (upd (ct_to T) i (nI j))) := by
  intro z hz
  by_cases hzi : z = i
  · subst hzi
    obtain ⟨k', j', e1, e2, e3, e4, e5⟩ := h z hz
    have : k' = k := (nI_eq (by omega) hk9).mp (e1.symm.trans (hk hz))
    subst this
    exact ⟨k', j, e1, e2, e3, u_eq _ _ _, hj⟩
  · obtain ⟨k', j', e1, e2, e3, e4, e5⟩ := h z hz
    exact ⟨k', j', e1, e2, e3, (u_ne _ hzi _).trans e4, e5⟩
/-- everything but the fevers -/
def SF (Q T : ct_T) : Prop := (ct_day Q = ct_day T ∧ ct_bo Q = ct_bo T ∧ ct_ea Q = ct_ea T) ∧ ct_pl Q = ct_pl T ∧ ct_st Q = ct_st T ∧ ct_ke Q = ct_ke T ∧ ct_to Q = ct_to T ∧ ct_wh Q = ct_wh T ∧ ct_nu Q = ct_nu T ∧ ct_hd Q = ct_hd T
theorem SF.rf (T : ct_T) : SF T T := ⟨⟨rfl, rfl, rfl⟩, rfl, rfl, rfl, rfl, rfl, rfl, rfl⟩
def SP (n i : Nat) (T : ct_T) (P : Nat → Nat → Int32) (j : Nat) (Q : ct_T) (q : Nat → Nat → Int32) : Prop :=
  SF Q T ∧ (∀ p, p < n → ct_fe Q p = q p 0) ∧ (∀ p m, m ≠ 0 → q p m = P p m) ∧ (∀ p, p < n → j ≤ p → ct_fe Q p = ct_fe T p) ∧
    ∀ p, p < n → ct_fe Q p = ct_fe T p ∨ (ct_wh T p = 0 ∧ ct_nu T p = nI i ∧ ct_fe Q p = up1 (ct_fe T p))
theorem SP_step {w b n : Nat} {T : ct_T} {W B P : Nat → Nat → Int32} (hb : b ≤ 4) (hn : n ≤ 30) (hX : RX w b n T W B P) (hF : FE n T) {i : Nat} (hi : i < b) {j : Nat} (hj : j < n) {dy bo ea : Int32} {W0 B0 P0 B1 : Nat → Nat → Int32} {Q : ct_T} {q : Nat → Nat → Int32} (h : SP n i T P j Q q) :
    SP n i T P (j + 1) (f_X0_spreadFever_8 w b n T (nI i) j Q) (f_X2_pass_3_292 w b n dy bo ea W0 B0 P0 i (B1, P) j q) := by
  obtain ⟨h1, h2, h3, h4, h5⟩ := h
  have hj30 : j < 30 := by omega
  have hwQ : ct_wh Q = ct_wh T := h1.2.2.2.2.2.1
  have hnQ : ct_nu Q = ct_nu T := h1.2.2.2.2.2.2.1
  have hadj : lpf (f_X2_pass_3_259 w b n dy bo ea W0 B0 P0 i (B1, P)) n 0 (fun _ => 0) j = ct_fe T j := by
    rw [q_had j hj]; exact (hX.2.2 j hj).1.symm
  obtain ⟨k, hk, ek⟩ := hF j hj
  have fQ : ct_fe Q j = ct_fe T j := h4 j hj (Nat.le_refl j)
  have hB := PL_barge hb (hX.2.2 j hj).2.2 hi
  have hU : ∀ o, o < n → ((fun o => fv T i o && !decide (o = j)) o = true ↔ o ≠ j ∧ q o 2 = nI i ∧ ¬ P o 0 < 1) := by
    intro o ho
    obtain ⟨k', hk', ek'⟩ := hF o ho
    have hBo := PL_barge hb (hX.2.2 o ho).2.2 hi
    have e1 : ct_fe T o ≤ 0 ↔ P o 0 < 1 := by
      rw [← (hX.2.2 o ho).1, ek', i_le0 (by omega), i_lt1 (by omega)]
    rw [h3 o 2 (by decide), ← hBo, ← e1]
    show (fv T i o && !decide (o = j)) = true ↔ _
    unfold fv
    simp only [Bool.and_eq_true, decide_eq_true_eq, Bool.not_eq_true', decide_eq_false_iff_not]
    constructor
    · rintro ⟨⟨z1, z2⟩, z3⟩; exact ⟨z3, z1, z2⟩
    · rintro ⟨z3, z1, z2⟩; exact ⟨⟨z1, z2⟩, z3⟩
  have hnear := q_near (w := w) (b := b) (dy := dy) (bo := bo) (ea := ea) (W := W0) (B := B0) (P := P0) (i := i) (q0 := (B1, P)) (j := j) (q := q) hn hj hU
  have hbut := cn_but (V := fv T i) hj
  generalize cn (fun o => fv T i o && !decide (o = j)) n = c at hnear hbut
  have hc30 := cn_le (fv T i) n
  unfold f_X0_spreadFever_8 f_X2_pass_3_292
  rw [r_cf hn, ite_at hj30, cl hj30, hnear, hadj, fQ, hwQ, hnQ, h3 j 2 (by decide)]
  by_cases hin : ct_wh T j = 0 ∧ ct_nu T j = nI i
  · rw [if_pos hin, if_pos (hB.mp hin)]
    -- the others that are feverish
    have hoth : (if ct_fe T j ≤ 0 then nI (cn (fv T i) n) else nI (cn (fv T i) n) - 1) = nI c := by
      by_cases h0 : ct_fe T j ≤ 0
      · rw [if_pos h0, hbut, if_neg (show ¬ fv T i j = true from fun z => (of_decide_eq_true z).2 h0), Nat.add_zero]
      · rw [if_neg h0, hbut, if_pos (show fv T i j = true from decide_eq_true ⟨hin, h0⟩), nI_pred]
    rw [hoth]
    by_cases hc0 : c = 0
    · subst hc0
      rw [if_pos (show nI 0 ≤ 0 by decide), if_pos rfl, if_pos rfl]
      exact ⟨h1, h2, h3, fun p hp hl => h4 p hp (by omega), h5⟩
    · rw [if_neg (fun z => hc0 ((i_le0 (by omega)).mp z)), if_neg (show ¬ (if c = 0 then (0 : Int32) else 1) = 0 by rw [if_neg hc0]; decide)]
      have hup : up1 (ct_fe T j) = if 10 ≤ ct_fe T j then ct_fe T j else ct_fe T j + 1 := by
        rw [ek]
        have : ∀ k, k < 11 → up1 (nI k) = if 10 ≤ nI k then nI k else nI k + 1 := by decide +kernel
        exact this k (by omega)
      have hraise : s_X0_raiseFever w b n Q (nI j) = cs_fe Q (upd (ct_fe Q) j (up1 (ct_fe T j))) := by
        unfold s_X0_raiseFever
        rw [cl hj30, fQ]; rfl
      rw [hraise]
      have main : ∀ q' : Nat → Nat → Int32, (∀ p, p < n → upd (ct_fe Q) j (up1 (ct_fe T j)) p = q' p 0) → (∀ p m, m ≠ 0 → q' p m = P p m) → SP n i T P (j + 1) (cs_fe Q (upd (ct_fe Q) j (up1 (ct_fe T j)))) q' := by
        intro q' g1 g2
        refine ⟨h1, g1, g2, fun p hp hl => ?_, fun p hp => ?_⟩
        · show upd (ct_fe Q) j (up1 (ct_fe T j)) p = _
          rw [u_ne _ (by omega)]; exact h4 p hp (by omega)
        · show upd (ct_fe Q) j (up1 (ct_fe T j)) p = _ ∨ (_ ∧ _ ∧ upd (ct_fe Q) j (up1 (ct_fe T j)) p = _)
          by_cases hpj : p = j
          · subst hpj
            rw [u_eq]; exact Or.inr ⟨hin.1, hin.2, rfl⟩
          · rw [u_ne _ hpj]; exact h5 p hp
      by_cases h10 : 10 ≤ ct_fe T j
      · rw [if_pos h10]
        refine main q (fun p hp => ?_) h3
        rw [hup, if_pos h10]
        by_cases hpj : p = j
        · subst hpj; rw [u_eq, ← fQ]; exact h2 p hp
        · rw [u_ne _ hpj]; exact h2 p hp
      · rw [if_neg h10]
        refine main _ (fun p hp => ?_) (fun p m hm => ?_)
        · rw [hup, if_neg h10]
          by_cases hpj : p = j
          · subst hpj; rw [ur_eq, u_eq, u_eq, ← h2 p hp, fQ]
          · rw [ur_ne _ _ _ hpj, u_ne _ hpj]; exact h2 p hp
        · by_cases hpj : p = j
          · subst hpj; rw [ur_eq, u_ne _ hm]; exact h3 p m hm
          · rw [ur_ne _ _ _ hpj]; exact h3 p m hm
  · rw [if_neg hin, if_neg (fun z => hin (hB.mpr z))]
    exact ⟨h1, h2, h3, fun p hp hl => h4 p hp (by omega), h5⟩
theorem SP_all {w b n : Nat} {T : ct_T} {W B P : Nat → Nat → Int32} (hb : b ≤ 4) (hn : n ≤ 30) (hX : RX w b n T W B P) (hF : FE n T) {i : Nat} (hi : i < b) {dy bo ea : Int32} {W0 B0 P0 B1 : Nat → Nat → Int32} :
    SP n i T P n (s_X0_spreadFever w b n T (nI i)) (lpf (f_X2_pass_3_292 w b n dy bo ea W0 B0 P0 i (B1, P)) n 0 P) := by
  unfold s_X0_spreadFever
  refine lpf_two (fun j Q q => SP n i T P j Q q) _ _ n _ _ ?_ (fun j Q q hj hQ => SP_step hb hn hX hF hi hj hQ)
  exact ⟨SF.rf T, fun p hp => (hX.2.2 p hp).1, fun _ _ _ => rfl, fun _ _ _ => rfl, fun _ _ => Or.inl rfl⟩
/-- the same but for fevers and days to go -/
def SB (Q T : ct_T) : Prop := C3 Q T ∧ ct_wh Q = ct_wh T ∧ ct_nu Q = ct_nu T ∧ ct_hd Q = ct_hd T
theorem q_198 {w b n : Nat} {dy bo ea : Int32} {W0 B0 P0 : Nat → Nat → Int32} {i : Nat} {B P : Nat → Nat → Int32} : f_X2_pass_3_198 w b n dy bo ea W0 B0 P0 i (B, P) = if B i 1 = 0 then (B, P) else (if ur B i 1 (B i 1 - 1) i 1 = 0 then (ur B i 1 (B i 1 - 1), P) else (ur B i 1 (B i 1 - 1), lpf (f_X2_pass_3_292 w b n dy bo ea W0 B0 P0 i (B, P)) n 0 P)) := rfl
theorem st2_step {w b n : Nat} {T : ct_T} {W B P : Nat → Nat → Int32} (hb : b ≤ 4) (hn : n ≤ 30) (h : RM w b n T W B P) {i : Nat} (hi : i < b) {T0 : ct_T} {dy bo ea : Int32} {W0 B0 P0 : Nat → Nat → Int32} (T' : ct_T) (hT' : T' = f_X0_bringBargesNearer_2 w b n T0 i T) :
    RM w b n T' W (f_X2_pass_3_198 w b n dy bo ea W0 B0 P0 i (B, P)).1 (f_X2_pass_3_198 w b n dy bo ea W0 B0 P0 i (B, P)).2 ∧ SB T' T ∧ ∀ p, p < n → ct_fe T' p = ct_fe T p ∨ (ct_wh T p = 0 ∧ ct_nu T p = nI i ∧ ct_fe T' p = up1 (ct_fe T p)) := by
  obtain ⟨hX, hF, hC, hG⟩ := h
  obtain ⟨k, j, g1, g2, g3, g4, g5⟩ := hG i hi
  have hB1 : B i 1 = nI j := by rw [← (hX.2.1 i hi).2]; exact g4
  subst hT'
  unfold f_X0_bringBargesNearer_2
  rw [cl (show i < 30 by omega), g4, q_198, hB1]
  by_cases hj0 : j = 0
  · subst hj0
    rw [if_pos (by decide), if_pos (by decide)]
    exact ⟨⟨hX, hF, hC, hG⟩, ⟨C3.rf T, rfl, rfl, rfl⟩, fun _ _ => Or.inl rfl⟩
  · rw [if_neg (fun z => hj0 ((i_le0 (by omega)).mp z)), if_neg (fun z => hj0 ((i_eq0 (by omega)).mp z))]
    obtain ⟨m, rfl⟩ : ∃ m, j = m + 1 := ⟨j - 1, by omega⟩
    rw [nI_pred]
    have hX2 := RX_to (v := nI m) hX (i := i)
    have hG2 := BG_to hG (i := i) (k := k) (j := m) (by omega) (fun _ => g1) (by omega)
    rw [show ct_to (cs_to T (upd (ct_to T) i (nI m))) i = nI m from u_eq _ _ _, ur_eq, u_eq]
    by_cases hm0 : m = 0
    · subst hm0
      rw [if_pos (by decide), if_pos (by decide)]
      exact ⟨⟨hX2, hF, hC, hG2⟩, ⟨C3.rf T, rfl, rfl, rfl⟩, fun _ _ => Or.inl rfl⟩
    · rw [if_neg (fun z => hm0 ((i_le0 (by omega)).mp z)), if_neg (fun z => hm0 ((i_eq0 (by omega)).mp z))]
      have H := SP_all (W0 := W0) (B0 := B0) (P0 := P0) (B1 := B) (dy := dy) (bo := bo) (ea := ea) hb hn hX2 (show FE n (cs_to T (upd (ct_to T) i (nI m))) from hF) hi
      generalize s_X0_spreadFever w b n (cs_to T (upd (ct_to T) i (nI m))) (nI i) = Q at H ⊢
      generalize lpf (f_X2_pass_3_292 w b n dy bo ea W0 B0 P0 i (B, P)) n 0 P = q at H ⊢
      obtain ⟨⟨⟨s1, s2, s3⟩, s4, s5, s6, s7, s8, s9, s10⟩, y2, y3, -, y5⟩ := H
      refine ⟨⟨⟨fun z hz => ?_, fun z hz => ?_, fun p hp => ?_⟩, fun p hp => ?_, fun z hz => ?_, fun z hz => ?_⟩, ⟨⟨s1, s2, s3⟩, s8, s9, s10⟩, y5⟩
      · rw [s4, s5]; exact hX2.1 z hz
      · show ct_ke Q z = ur B i 1 (nI m) z 0 ∧ ct_to Q z = ur B i 1 (nI m) z 1
        rw [s6, s7]; exact hX2.2.1 z hz
      · show ct_fe Q p = q p 0 ∧ ct_hd Q p = q p 5 ∧ PL w b (ct_wh Q p) (ct_nu Q p) (q p 1) (q p 2) (q p 3) (q p 4)
        rw [s10, s8, s9, y3 p 1 (by decide), y3 p 2 (by decide), y3 p 3 (by decide), y3 p 4 (by decide), y3 p 5 (by decide)]
        exact ⟨y2 p hp, (hX.2.2 p hp).2⟩
      · obtain ⟨kf, hkf, ef⟩ := hF p hp
        rcases y5 p hp with e | ⟨-, -, e⟩
        · exact ⟨kf, hkf, e.trans ef⟩
        · rw [show ct_fe (cs_to T (upd (ct_to T) i (nI m))) p = nI kf from ef] at e
          rw [e, up_nI kf (by omega)]
          exact ⟨_, by split <;> omega, rfl⟩
      · have ei : iw Q z = iw T z := by
          unfold iw; rw [s8, s9]; rfl
        rw [s4, ei]; exact hC z hz
      · rw [s6, s7]; exact hG2 z hz
theorem st2 {w b n : Nat} {T : ct_T} {W B P : Nat → Nat → Int32} (hb : b ≤ 4) (hn : n ≤ 30) (h : RM w b n T W B P) {dy bo ea : Int32} {W0 : Nat → Nat → Int32} :
    RM w b n (s_X0_bringBargesNearer w b n T) W (p3_B w b n dy bo ea W0 B P) (p3_P w b n dy bo ea W0 B P) ∧ SB (s_X0_bringBargesNearer w b n T) T ∧ ∀ p, p < n → ct_fe (s_X0_bringBargesNearer w b n T) p = ct_fe T p ∨ (ct_wh T p = 0 ∧ ct_fe (s_X0_bringBargesNearer w b n T) p = up1 (ct_fe T p)) := by
  have H := lpf_two (fun i Q (q : (Nat → Nat → Int32) × (Nat → Nat → Int32)) => RM w b n Q W q.1 q.2 ∧ SB Q T ∧ ∀ p, p < n → ct_fe Q p = ct_fe T p ∨ (ct_wh T p = 0 ∧ (∃ k, k < i ∧ ct_nu T p = nI k) ∧ ct_fe Q p = up1 (ct_fe T p))) (f_X0_bringBargesNearer_2 w b n T) (f_X2_pass_3_198 w b n dy bo ea W0 B P) b T (B, P) ⟨h, ⟨C3.rf T, rfl, rfl, rfl⟩, fun _ _ => Or.inl rfl⟩ (fun i Q q hi hQ => by
    obtain ⟨B1, P1⟩ := q
    obtain ⟨a1, ⟨a2, a3, a4, a5⟩, a6⟩ := hQ
    obtain ⟨b1, ⟨b2, b3, b4, b5⟩, b6⟩ := st2_step (T0 := T) (dy := dy) (bo := bo) (ea := ea) (W0 := W0) (B0 := B) (P0 := P) hb hn a1 hi _ rfl
    refine ⟨b1, ⟨b2.tr a2, b3.trans a3, b4.trans a4, b5.trans a5⟩, fun p hp => ?_⟩
    rcases a6 p hp with e | ⟨e1, ⟨k, hk, e2⟩, e3⟩
    · rcases b6 p hp with z | ⟨z1, z2, z3⟩
      · exact Or.inl (z.trans e)
      · rw [a3] at z1; rw [a4] at z2; rw [e] at z3
        exact Or.inr ⟨z1, ⟨i, Nat.lt_succ_self i, z2⟩, z3⟩
    · rcases b6 p hp with z | ⟨z1, z2, z3⟩
      · exact Or.inr ⟨e1, ⟨k, by omega, e2⟩, z.trans e3⟩
      · exfalso
        rw [a4] at z2
        have : k = i := (nI_eq (by omega) (by omega)).mp (e2.symm.trans z2)
        omega)
  obtain ⟨a1, a2, a3⟩ := H
  refine ⟨a1, a2, fun p hp => ?_⟩
  rcases a3 p hp with e | ⟨e1, -, e3⟩
  · exact Or.inl e
  · exact Or.inr ⟨e1, e3⟩
theorem st3 {w b n : Nat} {T : ct_T} {W B P : Nat → Nat → Int32} (hw : w ≤ 5) (h : RM w b n T W B P) {dy bo ea : Int32} {B0 P0 : Nat → Nat → Int32} :
    RM w b n (s_X0_ageStraw w b n T) (p4_W w b n dy bo ea W B0 P0) B P ∧ SB (s_X0_ageStraw w b n T) T ∧ ct_fe (s_X0_ageStraw w b n T) = ct_fe T := by
  unfold s_X0_ageStraw p4_W
  refine lpf_two (fun _ Q q => RM w b n Q q B P ∧ SB Q T ∧ ct_fe Q = ct_fe T) _ _ w _ _ ⟨h, ⟨C3.rf T, rfl, rfl, rfl⟩, rfl⟩ (fun j Q q hj hQ => ?_)
  obtain ⟨⟨a1, a2, a3, a4⟩, a5, a6⟩ := hQ
  unfold f_X0_ageStraw_2 f_X2_pass_4_431
  rw [cl (show j < 30 by omega)]
  refine ⟨⟨⟨fun i hi => ?_, a1.2.1, a1.2.2⟩, a2, a3, a4⟩, a5, a6⟩
  show ct_pl Q i = _ ∧ upd (ct_st Q) j (ct_st Q j + 1) i = _
  by_cases hij : i = j
  · subst hij
    rw [ur_eq, u_eq, u_eq, u_ne _ (show (0 : Nat) ≠ 1 by decide), (a1.1 i hi).2]
    exact ⟨(a1.1 i hi).1, rfl⟩
  · rw [ur_ne _ _ _ hij, u_ne _ hij]; exact a1.1 i hi
end PD
