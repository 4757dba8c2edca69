/-! 14.c: pure: bowls and the fevers in the wards, in the class and in the law -/
section PC
/-- who has been served or left hungry when ward i stands at person p -/
def dn (T : ct_T) (i p q : Nat) : Bool := decide (ct_wh T q = 1 ∧ ((ct_nu T q).toNatClampNeg < i ∨ ((ct_nu T q).toNatClampNeg = i ∧ q < p)))
theorem dn_iff {T : ct_T} {i p q : Nat} : dn T i p q = true ↔ ct_wh T q = 1 ∧ ((ct_nu T q).toNatClampNeg < i ∨ ((ct_nu T q).toNatClampNeg = i ∧ q < p)) := decide_eq_true_iff
theorem dn_not {T : ct_T} {i p q : Nat} : dn T i p q = false ↔ ¬ (ct_wh T q = 1 ∧ ((ct_nu T q).toNatClampNeg < i ∨ ((ct_nu T q).toNatClampNeg = i ∧ q < p))) := decide_eq_false_iff_not
theorem q_bw {w b n : Nat} {dy bo ea : Int32} {W B P : Nat → Nat → Int32} {i : Nat} {q0 : Int32 × (Nat → Int32) × Int32} {j : Nat} {e l : Int32} {et : Nat → Int32} : f_X2_pass_1_27 w b n dy bo ea W B P i q0 j (e, et, l) = if P j 1 = nI i then (if l = 0 then (e, et, l) else (e + 1, upd et j 1, l + (-1))) else (e, et, l) := rfl
def J1 (n k : Nat) (T : ct_T) (i p : Nat) (A : ct_T × Int32) (B : Int32 × (Nat → Int32) × Int32) : Prop :=
  A.2 = B.2.2 ∧ A.2 = nI (k - cn (dn T i p) n) ∧ cAg A.1 T ∧ ct_fe A.1 = ct_fe T ∧ B.1 = ct_ea T + nI (min (cn (dn T i p) n) k) ∧
  (∀ z, z < n → dn T i p z = true → (ct_ht A.1 z = 0 ∧ B.2.1 z = 1 ∧ ct_hd A.1 z = ct_hd T z) ∨ (ct_ht A.1 z = 1 ∧ B.2.1 z = 0 ∧ ct_hd A.1 z = ct_hd T z + 1)) ∧
  (∀ z, z < n → dn T i p z = false → B.2.1 z = 0 ∧ ct_hd A.1 z = ct_hd T z) ∧ sI (ct_hd A.1) n = sI (ct_hd T) n + nI (cn (dn T i p) n - k)
theorem J1_step {w b n k : Nat} {T : ct_T} {W B P : Nat → Nat → Int32} (hw : w ≤ 5) (hn : n ≤ 30) (hk : k ≤ 60) (h : RX w b n T W B P) {i j : Nat} (hi : i < w) (hj : j < n) {T0 : ct_T} {q7 : ct_T × Int32} {dy bo ea : Int32} {q0 : Int32 × (Nat → Int32) × Int32} {A : ct_T × Int32} {C : Int32 × (Nat → Int32) × Int32} (hI : J1 n k T i j A C) :
    J1 n k T i (j + 1) (f_X0_giveBowls_17 w b n T0 i q7 j A) (f_X2_pass_1_27 w b n dy bo ea W B P i q0 j C) := by
  obtain ⟨A, l⟩ := A
  obtain ⟨e, et, l'⟩ := C
  obtain ⟨h1, h2, h3, h4, h5, h6, h7, h8⟩ := hI
  have h1 : l = l' := h1
  subst h1
  have h2 : l = nI (k - cn (dn T i j) n) := h2
  rw [q_gb (show j < 30 by omega), q_bw]
  have wA : ct_wh A = ct_wh T := h3.2.2.2.2.2.2.2.1
  have nA : ct_nu A = ct_nu T := h3.2.2.2.2.2.2.2.2
  have L := PL_ward hw (h.2.2 j hj).2.2 hi
  have hc30 := cn_le (dn T i j) n
  by_cases hin : ct_wh T j = 1 ∧ ct_nu T j = nI i
  · have hnu : (ct_nu T j).toNatClampNeg = i := by rw [hin.2]; exact cl (by omega)
    have d0 : dn T i j j = false := dn_not.mpr (by rw [hnu]; omega)
    have d1 : dn T i (j + 1) j = true := dn_iff.mpr ⟨hin.1, Or.inr ⟨hnu, by omega⟩⟩
    have dq : ∀ q, q ≠ j → dn T i (j + 1) q = dn T i j q := fun q hq => by
      unfold dn
      exact decide_eq_decide.mpr (and_congr_right (fun _ => by omega))
    have hcn : cn (dn T i (j + 1)) n = cn (dn T i j) n + 1 := cn_in (p := j) d0 d1 hj (fun q _ hq => dq q hq)
    rw [if_pos (show ct_wh A j = 1 ∧ ct_nu A j = nI i by rw [wA, nA]; exact hin), if_pos (L.mp hin)]
    by_cases hl : l = 0
    · rw [if_pos hl, if_pos hl]
      have hkc : k - cn (dn T i j) n = 0 := by
        rw [h2] at hl
        exact (i_eq0 (by omega)).mp hl
      refine ⟨rfl, ?_, h3, h4, ?_, fun z hz hd => ?_, fun z hz hd => ?_, ?_⟩
      · show l = _; rw [h2, hcn]; congr 1; omega
      · show e = _; rw [show e = _ from h5, hcn]; congr 2; omega
      · by_cases hzj : z = j
        · subst hzj
          refine Or.inr ⟨u_eq _ _ _, (h7 z hz d0).1, ?_⟩
          show upd (ct_hd A) z (ct_hd A z + 1) z = _
          rw [u_eq, show ct_hd A z = ct_hd T z from (h7 z hz d0).2]
        · rw [dq z hzj] at hd
          have h9 := h6 z hz hd
          show (upd (ct_ht A) j 1 z = 0 ∧ et z = 1 ∧ upd (ct_hd A) j (ct_hd A j + 1) z = _) ∨ (upd (ct_ht A) j 1 z = 1 ∧ et z = 0 ∧ upd (ct_hd A) j (ct_hd A j + 1) z = _)
          rw [u_ne _ hzj, u_ne _ hzj]; exact h9
      · have hzj : z ≠ j := fun q => by subst q; rw [d1] at hd; exact absurd hd (by decide)
        rw [dq z hzj] at hd
        show et z = 0 ∧ upd (ct_hd A) j (ct_hd A j + 1) z = _
        rw [u_ne _ hzj]; exact h7 z hz hd
      · show sI (upd (ct_hd A) j (ct_hd A j + 1)) n = _
        rw [sI_upd hj, show sI (ct_hd A) n = _ from h8, hcn, show cn (dn T i j) n + 1 - k = (cn (dn T i j) n - k) + 1 by omega, nI_succ]
        grind
    · rw [if_neg hl, if_neg hl]
      have hkc : ¬ k - cn (dn T i j) n = 0 := fun z => by
        rw [h2, z] at hl
        exact hl nI_0
      refine ⟨rfl, ?_, h3, h4, ?_, fun z hz hd => ?_, fun z hz hd => ?_, ?_⟩
      · show l + -1 = _
        rw [h2, hcn, show k - cn (dn T i j) n = (k - (cn (dn T i j) n + 1)) + 1 by omega, nI_succ]
        grind
      · show e + 1 = _
        rw [show e = _ from h5, hcn, show min (cn (dn T i j) n + 1) k = min (cn (dn T i j) n) k + 1 by omega, nI_succ]
        grind
      · by_cases hzj : z = j
        · subst hzj
          exact Or.inl ⟨u_eq _ _ _, u_eq _ _ _, (h7 z hz d0).2⟩
        · rw [dq z hzj] at hd
          have h9 := h6 z hz hd
          show (upd (ct_ht A) j 0 z = 0 ∧ upd et j 1 z = 1 ∧ ct_hd A z = _) ∨ (upd (ct_ht A) j 0 z = 1 ∧ upd et j 1 z = 0 ∧ ct_hd A z = _)
          rw [u_ne _ hzj, u_ne _ hzj]; exact h9
      · have hzj : z ≠ j := fun q => by subst q; rw [d1] at hd; exact absurd hd (by decide)
        rw [dq z hzj] at hd
        show upd et j 1 z = 0 ∧ ct_hd A z = _
        rw [u_ne _ hzj]; exact h7 z hz hd
      · show sI (ct_hd A) n = _
        rw [show sI (ct_hd A) n = _ from h8, hcn]
        congr 2; omega
  · rw [if_neg (show ¬ (ct_wh A j = 1 ∧ ct_nu A j = nI i) by rw [wA, nA]; exact hin), if_neg (fun z => hin (L.mpr z))]
    have hval : ct_wh T j = 1 → ¬ (ct_nu T j).toNatClampNeg = i := fun z1 z2 => by
      rcases (h.2.2 j hj).2.2 with ⟨-, k', hk', e2, -⟩ | ⟨e1, -⟩ | ⟨e1, -⟩ | ⟨e1, -⟩
      · rw [e2, cl (show k' < 30 by omega)] at z2
        exact hin ⟨z1, by rw [e2, z2]⟩
      · exact absurd (z1.symm.trans e1) (by decide)
      · exact absurd (z1.symm.trans e1) (by decide)
      · exact absurd (z1.symm.trans e1) (by decide)
    have dq : ∀ q, dn T i (j + 1) q = dn T i j q := fun q => by
      unfold dn
      refine decide_eq_decide.mpr ⟨fun z => ⟨z.1, ?_⟩, fun z => ⟨z.1, by omega⟩⟩
      by_cases hqj : q = j
      · subst hqj
        have := hval z.1
        omega
      · omega
    have e9 : dn T i (j + 1) = dn T i j := funext dq
    unfold J1
    rw [e9]
    exact ⟨rfl, h2, h3, h4, h5, h6, h7, h8⟩
theorem J1_next {n k : Nat} {T : ct_T} {i : Nat} {A : ct_T × Int32} {C : Int32 × (Nat → Int32) × Int32} (h : J1 n k T i n A C) : J1 n k T (i + 1) 0 A C := by
  obtain ⟨h1, h2, h3, h4, h5, h6, h7, h8⟩ := h
  have dq : ∀ q, q < n → dn T (i + 1) 0 q = dn T i n q := fun q hq => by
    unfold dn
    exact decide_eq_decide.mpr (and_congr_right (fun _ => by omega))
  have hcn : cn (dn T (i + 1) 0) n = cn (dn T i n) n := cn_congr dq
  unfold J1
  rw [hcn]
  exact ⟨h1, h2, h3, h4, h5, fun z hz hd => h6 z hz (by rw [← dq z hz]; exact hd), fun z hz hd => h7 z hz (by rw [← dq z hz]; exact hd), h8⟩
theorem J1_all {w b n k : Nat} {T : ct_T} {W B P : Nat → Nat → Int32} (hw : w ≤ 5) (hn : n ≤ 30) (hk : k ≤ 60) (h : RX w b n T W B P) (hbo : ct_bo T = nI k) {dy : Int32} : J1 n k T w 0 (lpf (f_X0_giveBowls_7 w b n T) w 0 (T, ct_bo T)) (lpf (f_X2_pass_1_15 w b n dy (ct_bo T) (ct_ea T) W B P) w 0 (ct_ea T, (fun _ => (0 : Int32)), ct_bo T)) := by
  refine lpf_two (fun i A C => J1 n k T i 0 A C) _ _ w _ _ ?_ (fun i A C hi hI => ?_)
  · have d0 : ∀ q, dn T 0 0 q = false := fun q => dn_not.mpr (by omega)
    have hcn : cn (dn T 0 0) n = 0 := by
      rw [cn_congr (Q := fun _ => false) (fun q _ => d0 q)]
      have : ∀ m, cn (fun _ => false) m = 0 := fun m => by
        induction m with
        | zero => rfl
        | succ m ih => show cn (fun _ => false) m + 0 = 0; rw [ih]
      exact this n
    refine ⟨rfl, by rw [hcn]; exact hbo, ⟨rfl, rfl, rfl, rfl, rfl, rfl, rfl, rfl, rfl⟩, rfl, ?_, fun z hz hd => ?_, fun z hz hd => ⟨rfl, rfl⟩, ?_⟩
    · show ct_ea T = _
      rw [hcn, Nat.zero_min, nI_0]; exact (Int32.add_zero _).symm
    · rw [d0] at hd; exact absurd hd (by decide)
    · show sI (ct_hd T) n = _
      rw [hcn, Nat.zero_sub, nI_0]; exact (Int32.add_zero _).symm
  · exact J1_next (lpf_two (fun j A C => J1 n k T i j A C) (f_X0_giveBowls_17 w b n T i A) (f_X2_pass_1_27 w b n dy (ct_bo T) (ct_ea T) W B P i C) n A C hI (fun j A C hj hI => J1_step hw hn hk h hi hj hI))
/-- what a row of the law's town becomes when it has eaten or not -/
def F2 (W : Nat → Nat → Int32) (e : Int32) (r : Nat → Int32) : Nat → Int32 :=
  if 0 ≤ r 1 then (if e = 0 then upd (upd r 5 (r 5 + 1)) 0 (cu (r 0 + 1)) else upd r 0 (cu (r 0 + (if W (r 1).toNatClampNeg 1 < 5 then -1 else 1)))) else r
theorem q_f2 {w b n : Nat} {dy bo ea : Int32} {W B P : Nat → Nat → Int32} {et : Nat → Int32} {i : Nat} {q : Nat → Nat → Int32} : f_X2_pass_2_89 w b n dy bo ea W B P et i q = sr q i (F2 W (et i) (q i)) := by
  have u50 : ∀ (f : Nat → Int32) (x : Int32), upd f 5 x 0 = f 0 := fun f x => u_ne f (by decide) x
  have hs : ∀ r : Nat → Int32, r = q i → sr q i r = q := fun r hr => by
    funext j
    by_cases h : j = i
    · subst h; rw [sr_eq, hr]
    · rw [sr_ne _ _ h]
  unfold f_X2_pass_2_89 F2 cu
  by_cases h1 : (0 : Int32) ≤ q i 1
  · by_cases h2 : et i = 0
    · simp only [if_pos h1, if_pos h2, ur_sr, sr_sr, sr_eq, u_eq, u50, u_uu]
      by_cases h3 : q i 0 + 1 ≤ 10
      · simp only [if_pos h3]
        by_cases h4 : 0 ≤ q i 0 + 1
        · simp only [if_pos h4]
        · simp only [if_neg h4]
      · simp only [if_neg h3]
        rw [if_pos (by decide)]
    · simp only [if_pos h1, if_neg h2]
      by_cases h5 : W (q i 1).toNatClampNeg 1 < 5
      · have h5' : ¬ (5 : Int32) ≤ W (q i 1).toNatClampNeg 1 := Int32.not_le.mpr h5
        simp only [if_pos h5, if_neg h5', ur_sr, sr_sr, sr_eq, u_eq, u50, u_uu]
        by_cases h3 : q i 0 + -1 ≤ 10
        · simp only [if_pos h3]
          by_cases h4 : 0 ≤ q i 0 + -1
          · simp only [if_pos h4]
          · simp only [if_neg h4]
        · simp only [if_neg h3]
          rw [if_pos (by decide)]
      · have h5' : (5 : Int32) ≤ W (q i 1).toNatClampNeg 1 := Int32.not_lt.mp h5
        simp only [if_neg h5, if_pos h5', ur_sr, sr_sr, sr_eq, u_eq, u50, u_uu]
        by_cases h3 : q i 0 + 1 ≤ 10
        · simp only [if_pos h3]
          by_cases h4 : 0 ≤ q i 0 + 1
          · simp only [if_pos h4]
          · simp only [if_neg h4]
        · simp only [if_neg h3]
          rw [if_pos (by decide)]
  · simp only [if_neg h1]
    exact (hs (q i) rfl).symm
/-- those in wards -/
def c1 (T : ct_T) (n : Nat) : Nat := cn (fun q => decide (ct_wh T q = 1)) n
/-- fevers are told of two towns: they differ by 1 at the most -/
def near (x y : Int32) : Prop := ∃ k k' : Nat, x = nI k ∧ y = nI k' ∧ k ≤ 10 ∧ k' ≤ 10 ∧ k' ≤ k + 1 ∧ k ≤ k' + 1
theorem near_up {k : Nat} (h : k ≤ 10) : near (nI k) (up1 (nI k)) := by
  refine ⟨k, _, rfl, up_nI k (by omega), h, ?_, ?_, ?_⟩ <;> split <;> omega
theorem near_dn {k : Nat} (h : k ≤ 10) : near (nI k) (dn1 (nI k)) := ⟨k, _, rfl, dn_nI k (by omega), h, by omega, by omega, by omega⟩
theorem near_rf {k : Nat} (h : k ≤ 10) : near (nI k) (nI k) := ⟨k, k, rfl, rfl, h, h, by omega, by omega⟩
theorem st1 {w b n k : Nat} {T : ct_T} {W B P : Nat → Nat → Int32} (hw : w ≤ 5) (hn : n ≤ 30) (hk : k ≤ 60) (h : RM w b n T W B P) (hbo : ct_bo T = nI k) (dy dy' bo' ea' : Int32) (T2 : ct_T) (hT2 : T2 = s_X0_changeFeversInWards w b n (s_X0_giveBowls w b n T)) :
    RM w b n T2 W B (p2_P w b n dy' bo' ea' W B P (p1_et w b n dy (ct_bo T) (ct_ea T) W B P)) ∧ (ct_day T2 = ct_day T ∧ ct_bo T2 = ct_bo T) ∧ ct_ea T2 = ct_ea T + nI (min (c1 T n) k) ∧ p1_ea w b n dy (ct_bo T) (ct_ea T) W B P = ct_ea T + nI (min (c1 T n) k) ∧ sI (ct_hd T2) n = sI (ct_hd T) n + nI (c1 T n - k) ∧ (ct_wh T2 = ct_wh T ∧ ct_nu T2 = ct_nu T) ∧
      (∀ p, p < n → (¬ ct_wh T p = 1 → ct_fe T2 p = ct_fe T p) ∧ near (ct_fe T p) (ct_fe T2 p)) := by
  obtain ⟨hX, hF, hC, hG⟩ := h
  have hA := J1_all hw hn hk hX hbo (dy := dy)
  have hcn : cn (dn T w 0) n = c1 T n := cn_congr (fun q hq => by
    unfold dn
    refine decide_eq_decide.mpr ⟨fun z => z.1, fun z => ⟨z, Or.inl ?_⟩⟩
    rcases (hX.2.2 q hq).2.2 with ⟨-, k', hk', e2, -⟩ | ⟨e1, -⟩ | ⟨e1, -⟩ | ⟨e1, -⟩
    · rw [e2, cl (show k' < 30 by omega)]; exact hk'
    · exact absurd (z.symm.trans e1) (by decide)
    · exact absurd (z.symm.trans e1) (by decide)
    · exact absurd (z.symm.trans e1) (by decide))
  have hp1 : p1_ea w b n dy (ct_bo T) (ct_ea T) W B P = (lpf (f_X2_pass_1_15 w b n dy (ct_bo T) (ct_ea T) W B P) w 0 (ct_ea T, (fun _ => (0 : Int32)), ct_bo T)).1 := rfl
  have hp2 : p1_et w b n dy (ct_bo T) (ct_ea T) W B P = (lpf (f_X2_pass_1_15 w b n dy (ct_bo T) (ct_ea T) W B P) w 0 (ct_ea T, (fun _ => (0 : Int32)), ct_bo T)).2.1 := rfl
  rw [hp1, hp2]
  unfold s_X0_giveBowls at hT2
  generalize lpf (f_X0_giveBowls_7 w b n T) w 0 (T, ct_bo T) = A at hA hT2
  generalize lpf (f_X2_pass_1_15 w b n dy (ct_bo T) (ct_ea T) W B P) w 0 (ct_ea T, (fun _ => (0 : Int32)), ct_bo T) = C at hA
  unfold J1 at hA
  rw [hcn] at hA
  obtain ⟨h1, h2, ⟨a1, a2, a3, a4, a5, a6, a7, a8, a9⟩, h4, h5, h6, h7, h8⟩ := hA
  have hQ := I2_all (w := w) (b := b) (n := n) (T := T) (T1 := cs_ea A.1 (ct_ea A.1 + (ct_bo A.1 - A.2))) hw hn a5 a8 a9 h4
  rw [← hT2] at hQ
  obtain ⟨⟨b1, b2, b3, b4, b5, b6, b7, b8, b9⟩, g2, g3, g4, g5⟩ := hQ
  have e1 : ct_day T2 = ct_day T := b1.trans a1
  have e2 : ct_bo T2 = ct_bo T := b2.trans a2
  have e3 : ct_ea T2 = ct_ea T + nI (min (c1 T n) k) := by
    rw [b3]
    show ct_ea A.1 + (ct_bo A.1 - A.2) = _
    rw [a3, a2, hbo, h2, i_sub (by omega)]
    congr 2; omega
  have e4 : ct_pl T2 = ct_pl T := b4.trans a4
  have e5 : ct_st T2 = ct_st T := b5.trans a5
  have e6 : ct_ke T2 = ct_ke T := b6.trans a6
  have e7 : ct_to T2 = ct_to T := b7.trans a7
  have e8 : ct_wh T2 = ct_wh T := b8.trans a8
  have e9 : ct_nu T2 = ct_nu T := b9.trans a9
  have ehd : ct_hd T2 = ct_hd A.1 := g2
  -- person by person
  have key : ∀ p, p < n → ((¬ ct_wh T p = 1 → ct_fe T2 p = ct_fe T p) ∧ near (ct_fe T p) (ct_fe T2 p)) ∧ (ct_fe T2 p = p2_P w b n dy' bo' ea' W B P C.2.1 p 0 ∧ ct_hd T2 p = p2_P w b n dy' bo' ea' W B P C.2.1 p 5 ∧ (∀ m, m ≠ 0 → m ≠ 5 → p2_P w b n dy' bo' ea' W B P C.2.1 p m = P p m)) := by
    intro p hp
    obtain ⟨x1, x2, x3⟩ := hX.2.2 p hp
    obtain ⟨kf, hkf, ef⟩ := hF p hp
    have hP2 : p2_P w b n dy' bo' ea' W B P C.2.1 p = F2 W (C.2.1 p) (P p) := by
      unfold p2_P
      rw [lp_rows (F := fun i r => F2 W (C.2.1 i) r) (fun i q _ => q_f2) P p, if_pos hp]
    rw [hP2]
    have hin := PL_in hw x3
    have hdn : dn T w 0 p = true ↔ ct_wh T p = 1 := by
      rw [dn_iff]
      refine ⟨fun z => z.1, fun z => ⟨z, Or.inl ?_⟩⟩
      rcases x3 with ⟨-, k', hk', e2, -⟩ | ⟨e1, -⟩ | ⟨e1, -⟩ | ⟨e1, -⟩
      · rw [e2, cl (show k' < 30 by omega)]; exact hk'
      · exact absurd (z.symm.trans e1) (by decide)
      · exact absurd (z.symm.trans e1) (by decide)
      · exact absurd (z.symm.trans e1) (by decide)
    have u50 : ∀ (f : Nat → Int32) (x : Int32), upd f 5 x 0 = f 0 := fun f x => u_ne f (by decide) x
    have u05 : ∀ (f : Nat → Int32) (x : Int32), upd f 0 x 5 = f 5 := fun f x => u_ne f (by decide) x
    by_cases hwh : ct_wh T p = 1
    · have hu := hin.mp hwh
      rcases x3 with ⟨-, k', hk', e2, e3u, -⟩ | ⟨e1, -⟩ | ⟨e1, -⟩ | ⟨e1, -⟩
      · have hDn : Dn T n w 0 p := ⟨hp, hwh, k', e2, by omega, Or.inl hk'⟩
        have hfe := g4 p (by omega) hDn
        have hst : ct_st T (ct_nu T p).toNatClampNeg = W (P p 1).toNatClampNeg 1 := by
          rw [e2, e3u, cl (show k' < 30 by omega)]
          exact (hX.1 k' hk').2
        have hht : ct_ht (cs_ea A.1 (ct_ea A.1 + (ct_bo A.1 - A.2))) = ct_ht A.1 := rfl
        rw [hht, hst] at hfe
        unfold F2
        rw [if_pos hu, hfe, ehd]
        rcases h6 p hp (hdn.mpr hwh) with ⟨z1, z2, z3⟩ | ⟨z1, z2, z3⟩
        · rw [z1, GG_0, z2, if_neg (show ¬ (1 : Int32) = 0 by decide), z3, ← x1, ef]
          have hdnk := cu_dn kf (by omega)
          have hupk := cu_up kf (by omega)
          by_cases hs : W (P p 1).toNatClampNeg 1 < 5
          · rw [if_pos hs, if_pos hs]
            refine ⟨⟨fun z => absurd hwh z, near_dn hkf⟩, ?_, ?_, fun m h0 h5 => u_ne _ h0 _⟩
            · rw [u_eq]; exact hdnk.symm
            · rw [u05]; exact x2
          · rw [if_neg hs, if_neg hs]
            refine ⟨⟨fun z => absurd hwh z, near_up hkf⟩, ?_, ?_, fun m h0 h5 => u_ne _ h0 _⟩
            · rw [u_eq]; exact hupk.symm
            · rw [u05]; exact x2
        · rw [z1, GG_1, z2, if_pos rfl, z3, ← x1, ef]
          have hupk := cu_up kf (by omega)
          refine ⟨⟨fun z => absurd hwh z, near_up hkf⟩, ?_, ?_, fun m h0 h5 => by rw [u_ne _ h0, u_ne _ h5]⟩
          · rw [u_eq]; exact hupk.symm
          · rw [u05, u_eq, x2]
      · exact absurd (hwh.symm.trans e1) (by decide)
      · exact absurd (hwh.symm.trans e1) (by decide)
      · exact absurd (hwh.symm.trans e1) (by decide)
    · have hu : ¬ 0 ≤ P p 1 := fun z => hwh (hin.mpr z)
      have hDn : ¬ Dn T n w 0 p := fun z => hwh z.2.1
      have hfe := g5 p (by omega) hDn
      have hdf : dn T w 0 p = false := by
        cases hd : dn T w 0 p with
        | false => rfl
        | true => exact absurd (hdn.mp hd) hwh
      unfold F2
      rw [if_neg hu, hfe, ehd, (h7 p hp hdf).2]
      exact ⟨⟨fun _ => rfl, by rw [ef]; exact near_rf hkf⟩, x1, x2, fun _ _ _ => rfl⟩
  refine ⟨⟨⟨fun i hi => by rw [e4, e5]; exact hX.1 i hi, fun i hi => by rw [e6, e7]; exact hX.2.1 i hi, fun p hp => ?_⟩, fun p hp => ?_, fun i hi => ?_, fun i hi => by rw [e6, e7]; exact hG i hi⟩, ⟨e1, e2⟩, e3, h5, ?_, ⟨e8, e9⟩, fun p hp => (key p hp).1⟩
  · obtain ⟨-, y1, y2, y3⟩ := key p hp
    rw [e8, e9, y3 1 (by decide) (by decide), y3 2 (by decide) (by decide), y3 3 (by decide) (by decide), y3 4 (by decide) (by decide)]
    exact ⟨y1, y2, (hX.2.2 p hp).2.2⟩
  · obtain ⟨⟨-, k1, k2, -, r2, -, r4, -⟩, -⟩ := key p hp
    exact ⟨k2, r4, r2⟩
  · have ei : iw T2 i = iw T i := by unfold iw; rw [e8, e9]
    rw [e4, ei]; exact hC i hi
  · rw [ehd]; exact h8
end PC
