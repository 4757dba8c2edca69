/-! 14.b: pure: bowls and the fevers in the wards -/
section PB
theorem q_gb {w b n : Nat} {T0 : ct_T} {i : Nat} {q7 : ct_T × Int32} {j : Nat} {A : ct_T} {l : Int32} (hj : j < 30) : f_X0_giveBowls_17 w b n T0 i q7 j (A, l) = if ct_wh A j = 1 ∧ ct_nu A j = nI i then (if l = 0 then (cs_hd (cs_ht A (upd (ct_ht A) j 1)) (upd (ct_hd A) j (ct_hd A j + 1)), l) else (cs_ht A (upd (ct_ht A) j 0), l + (-1))) else (A, l) := by
  unfold f_X0_giveBowls_17
  dsimp only
  rw [ite_at hj, cl hj]
  rfl
theorem q_fd {w b n : Nat} {M0 : mt_T} {i : Nat} {q7 : mt_T × Int32} {j : Nat} {B : mt_T} {l : Int32} (hj : j < 30) (hi : i < 30) : f_X2_feed_17 w b n M0 i q7 j (B, l) = if mt_wh B j = nI i then (if l = 0 then (ms_fe (ms_hu B (upd (mt_hu B) j (mt_hu B j + 1))) (upd (mt_fe B) j (up1 (mt_fe B j))), l) else (if mt_st B i < 5 then (ms_fe (ms_ea B (mt_ea B + 1)) (upd (mt_fe B) j (dn1 (mt_fe B j))), l + (-1)) else (ms_fe (ms_ea B (mt_ea B + 1)) (upd (mt_fe B) j (up1 (mt_fe B j))), l + (-1)))) else (B, l) := by
  unfold f_X2_feed_17
  dsimp only
  rw [cl hj, cl hi]
  rfl
theorem q_cf {w b n : Nat} {T0 Q0 : ct_T} {i j : Nat} {Q : ct_T} (hj : j < 30) (hi : i < 30) : f_X0_changeFeversInWards_28 w b n T0 i Q0 j Q = if ct_wh Q j = 1 ∧ ct_nu Q j = nI i then cs_fe Q (upd (ct_fe Q) j (GG (ct_st Q0 i) (ct_ht Q j) (ct_fe Q j))) else Q := by
  unfold f_X0_changeFeversInWards_28 s_X0_raiseFever
  rw [ite_at hj, cl hj, cl hi]
  by_cases h1 : ct_wh Q j = 1 ∧ ct_nu Q j = nI i
  · rw [if_pos h1, if_pos h1]
    unfold GG
    by_cases h2 : ct_st Q0 i < 5
    · rw [if_pos h2, if_pos h2, if_pos rfl]
      by_cases h3 : ct_ht Q j = 0
      · rw [if_pos h3, if_pos h3]; rfl
      · rw [if_neg h3, if_neg h3]; rfl
    · rw [if_neg h2, if_neg h2, if_neg (by decide)]; rfl
  · rw [if_neg h1, if_neg h1]
def cAg (A T : ct_T) : Prop := ct_day A = ct_day T ∧ ct_bo A = ct_bo T ∧ ct_ea A = ct_ea T ∧ ct_pl A = ct_pl T ∧ ct_st A = ct_st T ∧ ct_ke A = ct_ke T ∧ ct_to A = ct_to T ∧ ct_wh A = ct_wh T ∧ ct_nu A = ct_nu T
def mAg (B M : mt_T) : Prop := mt_day B = mt_day M ∧ mt_bo B = mt_bo M ∧ mt_pl B = mt_pl M ∧ mt_st B = mt_st M ∧ mt_ke B = mt_ke M ∧ mt_to B = mt_to M ∧ mt_wh B = mt_wh M
/-- who has been served when ward i stands at person p -/
def Dn (T : ct_T) (n i p q : Nat) : Prop := q < n ∧ ct_wh T q = 1 ∧ ∃ k, ct_nu T q = nI k ∧ k < 5 ∧ (k < i ∨ (k = i ∧ q < p))
theorem Dn_in {T : ct_T} {n i p q : Nat} (hq : q < n) (hi : i < 5) (h : ct_wh T q = 1 ∧ ct_nu T q = nI i) : Dn T n i p q ↔ q < p := by
  constructor
  · rintro ⟨-, -, k, e1, e2, e3⟩
    have e4 : i = k := (nI_eq (by omega) (by omega)).mp (h.2.symm.trans e1)
    omega
  · intro z
    exact ⟨hq, h.1, i, h.2, hi, Or.inr ⟨rfl, z⟩⟩
theorem Dn_succ {T : ct_T} {n i j q : Nat} (hi : i < 5) (hj : j < n) : Dn T n i (j + 1) q ↔ Dn T n i j q ∨ (q = j ∧ ct_wh T j = 1 ∧ ct_nu T j = nI i) := by
  constructor
  · rintro ⟨h1, h2, k, e1, e2, e3⟩
    by_cases hqj : q = j
    · by_cases hk : k = i
      · subst hqj; subst hk; exact Or.inr ⟨rfl, h2, e1⟩
      · exact Or.inl ⟨h1, h2, k, e1, e2, by omega⟩
    · exact Or.inl ⟨h1, h2, k, e1, e2, by omega⟩
  · rintro (⟨h1, h2, k, e1, e2, e3⟩ | ⟨rfl, h2, e1⟩)
    · exact ⟨h1, h2, k, e1, e2, by omega⟩
    · exact ⟨hj, h2, i, e1, hi, by omega⟩
theorem Dn_next {T : ct_T} {n i q : Nat} : Dn T n (i + 1) 0 q ↔ Dn T n i n q := by
  constructor
  · rintro ⟨h1, h2, k, e1, e2, e3⟩
    exact ⟨h1, h2, k, e1, e2, by omega⟩
  · rintro ⟨h1, h2, k, e1, e2, e3⟩
    exact ⟨h1, h2, k, e1, e2, by omega⟩
theorem Dn_0 {T : ct_T} {n q : Nat} : ¬ Dn T n 0 0 q := by
  rintro ⟨h1, h2, k, e1, e2, e3⟩
  omega
def I1 (n : Nat) (T : ct_T) (M : mt_T) (i p : Nat) (A : ct_T × Int32) (B : mt_T × Int32) : Prop :=
  A.2 = B.2 ∧ cAg A.1 T ∧ ct_fe A.1 = ct_fe T ∧ mAg B.1 M ∧ mt_ea B.1 = mt_ea M + (mt_bo M - B.2) ∧ (∀ q, q < 30 → ct_hd A.1 q = mt_hu B.1 q) ∧
  (∀ q, q < 30 → Dn T n i p q → mt_fe B.1 q = GG (ct_st T (ct_nu T q).toNatClampNeg) (ct_ht A.1 q) (ct_fe T q)) ∧ (∀ q, q < 30 → ¬ Dn T n i p q → mt_fe B.1 q = mt_fe M q)
theorem I1_step {w b n : Nat} {T : ct_T} {M : mt_T} (hw : w ≤ 5) (hb : b ≤ 4) (hn : n ≤ 30) (h : RR w b n T M) {i j : Nat} (hi : i < w) (hj : j < n) {T0 : ct_T} {M0 : mt_T} {q7 : ct_T × Int32} {p7 : mt_T × Int32} {A : ct_T × Int32} {B : mt_T × Int32} (hI : I1 n T M i j A B) :
    I1 n T M i (j + 1) (f_X0_giveBowls_17 w b n T0 i q7 j A) (f_X2_feed_17 w b n M0 i p7 j B) := by
  obtain ⟨A, l⟩ := A
  obtain ⟨B, l'⟩ := B
  obtain ⟨h1, h2, h3, h4, h5, h6, h7, h8⟩ := hI
  have h1 : l = l' := h1
  subst h1
  have hj30 : j < 30 := by omega
  rw [q_gb hj30, q_fd hj30 (by omega)]
  have wA : ct_wh A = ct_wh T := h2.2.2.2.2.2.2.2.1
  have nA : ct_nu A = ct_nu T := h2.2.2.2.2.2.2.2.2
  have wB : mt_wh B = mt_wh M := h4.2.2.2.2.2.2
  have sB : mt_st B i = ct_st T i := by
    have e1 : mt_st B = mt_st M := h4.2.2.2.1
    rw [e1]; exact (h.2.1.1 i (by omega)).2.symm
  have fB : ¬ Dn T n i j j → mt_fe B j = ct_fe T j := fun z => (h8 j hj30 z).trans (h.2.1.2.2 j hj30).1.symm
  have L := Wr_ward hw hb (h.2.2.1 j hj) hi
  by_cases hin : ct_wh T j = 1 ∧ ct_nu T j = nI i
  · have hnd : ¬ Dn T n i j j := fun z => absurd ((Dn_in hj (by omega) hin).mp z) (Nat.lt_irrefl j)
    have hnu : (ct_nu T j).toNatClampNeg = i := by rw [hin.2]; exact cl (by omega)
    rw [if_pos (show ct_wh A j = 1 ∧ ct_nu A j = nI i by rw [wA, nA]; exact hin), if_pos (show mt_wh B j = nI i by rw [wB]; exact L.mp hin)]
    by_cases hl : l = 0
    · rw [if_pos hl, if_pos hl]
      refine ⟨rfl, h2, h3, h4, h5, fun q hq => ?_, fun q hq hd => ?_, fun q hq hd => ?_⟩
      · show upd (ct_hd A) j (ct_hd A j + 1) q = upd (mt_hu B) j (mt_hu B j + 1) q
        by_cases hqj : q = j
        · subst hqj; rw [u_eq, u_eq, show ct_hd A q = mt_hu B q from h6 q hq]
        · rw [u_ne _ hqj, u_ne _ hqj]; exact h6 q hq
      · show upd (mt_fe B) j (up1 (mt_fe B j)) q = GG (ct_st T (ct_nu T q).toNatClampNeg) (upd (ct_ht A) j 1 q) (ct_fe T q)
        by_cases hqj : q = j
        · subst hqj; rw [u_eq, u_eq, GG_1, fB hnd]
        · rw [u_ne _ hqj, u_ne _ hqj]; exact h7 q hq (((Dn_succ (by omega) hj).mp hd).resolve_right (fun z => hqj z.1))
      · show upd (mt_fe B) j (up1 (mt_fe B j)) q = mt_fe M q
        have hqj : q ≠ j := fun z => hd ((Dn_succ (by omega) hj).mpr (Or.inr ⟨z, hin⟩))
        rw [u_ne _ hqj]
        exact h8 q hq (fun z => hd ((Dn_succ (by omega) hj).mpr (Or.inl z)))
    · rw [if_neg hl, if_neg hl]
      have key : ∀ v : Int32, (v = GG (ct_st T i) 0 (ct_fe T j)) → I1 n T M i (j + 1) (cs_ht A (upd (ct_ht A) j 0), l + -1) (ms_fe (ms_ea B (mt_ea B + 1)) (upd (mt_fe B) j v), l + -1) := by
        intro v hv
        refine ⟨rfl, h2, h3, h4, ?_, fun q hq => h6 q hq, fun q hq hd => ?_, fun q hq hd => ?_⟩
        · show mt_ea B + 1 = mt_ea M + (mt_bo M - (l + -1))
          rw [show mt_ea B = mt_ea M + (mt_bo M - l) from h5]
          exact i_ea _ _ _
        · show upd (mt_fe B) j v q = GG (ct_st T (ct_nu T q).toNatClampNeg) (upd (ct_ht A) j 0 q) (ct_fe T q)
          by_cases hqj : q = j
          · subst hqj; rw [u_eq, u_eq, hnu]; exact hv
          · rw [u_ne _ hqj, u_ne _ hqj]; exact h7 q hq (((Dn_succ (by omega) hj).mp hd).resolve_right (fun z => hqj z.1))
        · show upd (mt_fe B) j v q = mt_fe M q
          have hqj : q ≠ j := fun z => hd ((Dn_succ (by omega) hj).mpr (Or.inr ⟨z, hin⟩))
          rw [u_ne _ hqj]
          exact h8 q hq (fun z => hd ((Dn_succ (by omega) hj).mpr (Or.inl z)))
      by_cases hs : mt_st B i < 5
      · rw [if_pos hs]; exact key _ (by rw [GG_0, if_pos (by rw [← sB]; exact hs), fB hnd])
      · rw [if_neg hs]; exact key _ (by rw [GG_0, if_neg (by rw [← sB]; exact hs), fB hnd])
  · rw [if_neg (show ¬ (ct_wh A j = 1 ∧ ct_nu A j = nI i) by rw [wA, nA]; exact hin), if_neg (show ¬ (mt_wh B j = nI i) by rw [wB]; exact fun z => hin (L.mpr z))]
    have hdn : ∀ q, Dn T n i (j + 1) q ↔ Dn T n i j q := fun q => (Dn_succ (by omega) hj).trans ⟨fun z => z.resolve_right (fun y => hin y.2), Or.inl⟩
    exact ⟨rfl, h2, h3, h4, h5, h6, fun q hq hd => h7 q hq ((hdn q).mp hd), fun q hq hd => h8 q hq (fun z => hd ((hdn q).mpr z))⟩
theorem I1_next {n : Nat} {T : ct_T} {M : mt_T} {i : Nat} {A : ct_T × Int32} {B : mt_T × Int32} (h : I1 n T M i n A B) : I1 n T M (i + 1) 0 A B := by
  obtain ⟨h1, h2, h3, h4, h5, h6, h7, h8⟩ := h
  exact ⟨h1, h2, h3, h4, h5, h6, fun q hq hd => h7 q hq (Dn_next.mp hd), fun q hq hd => h8 q hq (fun z => hd (Dn_next.mpr z))⟩
theorem I1_all {w b n : Nat} {T : ct_T} {M : mt_T} (hw : w ≤ 5) (hb : b ≤ 4) (hn : n ≤ 30) (h : RR w b n T M) : I1 n T M w 0 (lpf (f_X0_giveBowls_7 w b n T) w 0 (T, ct_bo T)) (lpf (f_X2_feed_7 w b n M) w 0 (M, mt_bo M)) := by
  refine lpf_two (fun i A B => I1 n T M i 0 A B) _ _ w _ _ ?_ (fun i A B hi hI => ?_)
  · refine ⟨h.1.2.1, ⟨rfl, rfl, rfl, rfl, rfl, rfl, rfl, rfl, rfl⟩, rfl, ⟨rfl, rfl, rfl, rfl, rfl, rfl, rfl⟩, (i_ea0 _ _).symm, fun q hq => (h.2.1.2.2 q hq).2, fun q _ hd => absurd hd Dn_0, fun q _ _ => rfl⟩
  · exact I1_next (lpf_two (fun j A B => I1 n T M i j A B) (f_X0_giveBowls_17 w b n T i A) (f_X2_feed_17 w b n M i B) n A B hI (fun j A B hj hI => I1_step hw hb hn h hi hj hI))
def I2 (n : Nat) (T T1 : ct_T) (i p : Nat) (Q : ct_T) : Prop :=
  cAg Q T1 ∧ ct_hd Q = ct_hd T1 ∧ ct_ht Q = ct_ht T1 ∧ (∀ q, q < 30 → Dn T n i p q → ct_fe Q q = GG (ct_st T (ct_nu T q).toNatClampNeg) (ct_ht T1 q) (ct_fe T q)) ∧ (∀ q, q < 30 → ¬ Dn T n i p q → ct_fe Q q = ct_fe T q)
theorem I2_step {w b n : Nat} {T T1 : ct_T} (hw : w ≤ 5) (hn : n ≤ 30) (hwh : ct_wh T1 = ct_wh T) (hnu : ct_nu T1 = ct_nu T) {i j : Nat} (hi : i < w) (hj : j < n) {T0 Q0 Q : ct_T} (hs : ct_st Q0 = ct_st T) (hI : I2 n T T1 i j Q) : I2 n T T1 i (j + 1) (f_X0_changeFeversInWards_28 w b n T0 i Q0 j Q) := by
  obtain ⟨h1, h2, h3, h4, h5⟩ := hI
  have hj30 : j < 30 := by omega
  rw [q_cf hj30 (by omega)]
  have wQ : ct_wh Q = ct_wh T := (h1.2.2.2.2.2.2.2.1).trans hwh
  have nQ : ct_nu Q = ct_nu T := (h1.2.2.2.2.2.2.2.2).trans hnu
  by_cases hin : ct_wh T j = 1 ∧ ct_nu T j = nI i
  · have hnd : ¬ Dn T n i j j := fun z => absurd ((Dn_in hj (by omega) hin).mp z) (Nat.lt_irrefl j)
    have hn2 : (ct_nu T j).toNatClampNeg = i := by rw [hin.2]; exact cl (by omega)
    rw [if_pos (by rw [wQ, nQ]; exact hin)]
    refine ⟨h1, h2, h3, fun q hq hd => ?_, fun q hq hd => ?_⟩
    · show upd (ct_fe Q) j (GG (ct_st Q0 i) (ct_ht Q j) (ct_fe Q j)) q = _
      by_cases hqj : q = j
      · subst hqj; rw [u_eq, hn2, hs, h3, h5 q hq hnd]
      · rw [u_ne _ hqj]; exact h4 q hq (((Dn_succ (by omega) hj).mp hd).resolve_right (fun z => hqj z.1))
    · show upd (ct_fe Q) j (GG (ct_st Q0 i) (ct_ht Q j) (ct_fe Q j)) q = _
      have hqj : q ≠ j := fun z => hd ((Dn_succ (by omega) hj).mpr (Or.inr ⟨z, hin⟩))
      rw [u_ne _ hqj]
      exact h5 q hq (fun z => hd ((Dn_succ (by omega) hj).mpr (Or.inl z)))
  · rw [if_neg (by rw [wQ, nQ]; exact hin)]
    have hdn : ∀ q, Dn T n i (j + 1) q ↔ Dn T n i j q := fun q => (Dn_succ (by omega) hj).trans ⟨fun z => z.resolve_right (fun y => hin y.2), Or.inl⟩
    exact ⟨h1, h2, h3, fun q hq hd => h4 q hq ((hdn q).mp hd), fun q hq hd => h5 q hq (fun z => hd ((hdn q).mpr z))⟩
theorem I2_all {w b n : Nat} {T T1 : ct_T} (hw : w ≤ 5) (hn : n ≤ 30) (hst : ct_st T1 = ct_st T) (hwh : ct_wh T1 = ct_wh T) (hnu : ct_nu T1 = ct_nu T) (hfe : ct_fe T1 = ct_fe T) : I2 n T T1 w 0 (s_X0_changeFeversInWards w b n T1) := by
  unfold s_X0_changeFeversInWards
  refine lpf_inv (fun i Q => I2 n T T1 i 0 Q) _ w _ ?_ (fun i Q hi hI => ?_)
  · exact ⟨⟨rfl, rfl, rfl, rfl, rfl, rfl, rfl, rfl, rfl⟩, rfl, rfl, fun q _ hd => absurd hd Dn_0, fun q _ _ => by rw [hfe]⟩
  · have h9 := lpf_inv (fun j Q => I2 n T T1 i j Q) (f_X0_changeFeversInWards_28 w b n T1 i Q) n Q hI (fun j Q2 hj hI2 => I2_step hw hn hwh hnu hi hj ((hI.1.2.2.2.2.1).trans hst) hI2)
    obtain ⟨h1, h2, h3, h4, h5⟩ := h9
    exact ⟨h1, h2, h3, fun q hq hd => h4 q hq (Dn_next.mp hd), fun q hq hd => h5 q hq (fun z => hd (Dn_next.mpr z))⟩
theorem RI_same {w b n : Nat} {T Q : ct_T} (h : RI w b n T) (h1 : ct_pl Q = ct_pl T) (h2 : ct_ke Q = ct_ke T) (h3 : ct_to Q = ct_to T) (h4 : ct_wh Q = ct_wh T) (h5 : ct_nu Q = ct_nu T) : RI w b n Q := by
  have e : ∀ i, iw Q i = iw T i := fun i => by unfold iw; rw [h4, h5]
  refine ⟨fun i hi => ?_, fun i hi => by rw [h2]; exact h.2.1 i hi, fun i hi => by rw [h3]; exact h.2.2 i hi⟩
  rw [h1, e]; exact h.1 i hi
theorem rr_feed {w b n : Nat} {T : ct_T} {M : mt_T} (hw : w ≤ 5) (hb : b ≤ 4) (hn : n ≤ 30) (h : RR w b n T M) : RR w b n (s_X0_changeFeversInWards w b n (s_X0_giveBowls w b n T)) (s_X2_feed w b n M) := by
  have hA := I1_all hw hb hn h
  unfold s_X0_giveBowls s_X2_feed
  generalize lpf (f_X0_giveBowls_7 w b n T) w 0 (T, ct_bo T) = A at hA ⊢
  generalize lpf (f_X2_feed_7 w b n M) w 0 (M, mt_bo M) = B at hA ⊢
  obtain ⟨h1, h2, h3, h4, h5, h6, h7, h8⟩ := hA
  obtain ⟨a1, a2, a3, a4, a5, a6, a7, a8, a9⟩ := h2
  obtain ⟨m1, m2, m3, m4, m5, m6, m7⟩ := h4
  have hQ := I2_all (w := w) (b := b) (n := n) (T := T) (T1 := cs_ea A.1 (ct_ea A.1 + (ct_bo A.1 - A.2))) hw hn a5 a8 a9 h3
  generalize s_X0_changeFeversInWards w b n (cs_ea A.1 (ct_ea A.1 + (ct_bo A.1 - A.2))) = Q at hQ ⊢
  obtain ⟨⟨b1, b2, b3, b4, b5, b6, b7, b8, b9⟩, c2, c3, c4, c5⟩ := hQ
  obtain ⟨⟨r1, r2, r3⟩, ⟨r4, r5, r6⟩, r7, r8⟩ := h
  have e1 : ct_day Q = ct_day T := b1.trans a1
  have e2 : ct_bo Q = ct_bo T := b2.trans a2
  have e4 : ct_pl Q = ct_pl T := b4.trans a4
  have e5 : ct_st Q = ct_st T := b5.trans a5
  have e6 : ct_ke Q = ct_ke T := b6.trans a6
  have e7 : ct_to Q = ct_to T := b7.trans a7
  have e8 : ct_wh Q = ct_wh T := b8.trans a8
  have e9 : ct_nu Q = ct_nu T := b9.trans a9
  refine ⟨⟨by rw [e1, m1, r1], by rw [e2, m2, r2], ?_⟩, ⟨fun i hi => by rw [e4, e5, m3, m4]; exact r4 i hi, fun i hi => by rw [e6, e7, m5, m6]; exact r5 i hi, fun q hq => ⟨?_, ?_⟩⟩, fun q hq => by rw [e8, e9, m7]; exact r7 q hq, RI_same r8 e4 e6 e7 e8 e9⟩
  · rw [b3]
    show ct_ea A.1 + (ct_bo A.1 - A.2) = mt_ea B.1
    rw [a3, a2, h1, h5, r3, r2]
  · by_cases hd : Dn T n w 0 q
    · rw [c4 q hq hd, h7 q hq hd]; rfl
    · rw [c5 q hq hd, h8 q hq hd]; exact (r6 q hq).1
  · rw [c2]; exact h6 q hq
end PB
