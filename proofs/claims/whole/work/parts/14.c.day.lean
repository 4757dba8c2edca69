/-! 14.c: pure: barges, straw, leaving, landing: a day -/
section PC
theorem i_le0 {k : Nat} (hk : k < 2 ^ 31) : nI k ≤ 0 ↔ k = 0 := by
  rw [← nI_0, nI_leI hk (by decide)]; omega
theorem i_eq0 {k : Nat} (hk : k < 2 ^ 31) : nI k = 0 ↔ k = 0 := by
  rw [← nI_0, nI_eq hk (by decide)]
theorem r_keep {w b n : Nat} {T : ct_T} {M : mt_T} (hw : w ≤ 5) (hb : b ≤ 4) (hn : n ≤ 30) (h : RR w b n T M) {i : Nat} (hi : i < b) {T0 : ct_T} : RR w b n (f_X0_bringBargesNearer_2 w b n T0 i T) (s_X2_keep w b n M (nI i)) := by
  unfold f_X0_bringBargesNearer_2 s_X2_keep
  rw [cl (show i < 30 by omega)]
  obtain ⟨k, hk1, hk2⟩ := h.2.2.2.2.2 i hi
  have hto : mt_to M i = nI k := by rw [← (h.2.1.2.1 i (by omega)).2]; exact hk1
  rw [hk1, hto]
  by_cases hk0 : k = 0
  · subst hk0
    rw [if_pos (by decide), if_pos (by decide)]; exact h
  · rw [if_neg (fun z => hk0 ((i_le0 (k := k) (by omega)).mp z)), if_neg (fun z => hk0 ((i_eq0 (k := k) (by omega)).mp z))]
    obtain ⟨m, rfl⟩ : ∃ m, k = m + 1 := ⟨k - 1, by omega⟩
    rw [nI_pred]
    have h2 := RR_to h i (v := nI m) (k := m) rfl (by omega)
    have hkp : ∀ v, f_X2_keep_80 w b n M (nI i) = v → True := fun _ _ => trivial
    rw [show ct_to (cs_to T (upd (ct_to T) i (nI m))) i = nI m from u_eq _ _ _, show mt_to (ms_to M (upd (mt_to M) i (nI m))) i = nI m from u_eq _ _ _]
    by_cases hm0 : m = 0
    · subst hm0
      rw [if_pos (by decide), if_pos (by decide)]; exact h2
    · rw [if_neg (fun z => hm0 ((i_le0 (k := m) (by omega)).mp z)), if_neg (fun z => hm0 ((i_eq0 (k := m) (by omega)).mp z))]
      have hM : ms_to M (upd (mt_to M) (nI i).toNatClampNeg (mt_to M (nI i).toNatClampNeg - 1)) = ms_to M (upd (mt_to M) i (nI m)) := by
        rw [cl (show i < 30 by omega), hto, nI_pred]
      have hcount : r_X0_countFeverish w b n (cs_to T (upd (ct_to T) i (nI m))) (nI i) = lpf (f_X2_keep_34 w b n M (nI i)) n 0 0 := by
        unfold r_X0_countFeverish
        refine lpf_congr _ _ n 0 (fun j a hj => ?_)
        unfold f_X0_countFeverish_4 f_X2_keep_34
        rw [hM, ite_at (show j < 30 by omega), cl (show j < 30 by omega)]
        have L := Wr_barge hw hb (h2.2.2.1 j hj) hi
        have F := (h2.2.1.2.2 j (by omega)).1
        by_cases h1 : ct_wh (cs_to T (upd (ct_to T) i (nI m))) j = 0 ∧ ct_nu (cs_to T (upd (ct_to T) i (nI m))) j = nI i
        · rw [if_pos h1, if_pos (L.mp h1), ← F]
          split
          · exact (Int32.add_zero a).symm
          · rfl
        · rw [if_neg h1, if_neg (fun z => h1 (L.mpr z))]
          exact (Int32.add_zero a).symm
      unfold s_X0_spreadFever
      refine lpf_two (fun _ Q B => RR w b n Q B) _ _ n _ _ h2 (fun j Q B hj hQ => ?_)
      unfold f_X0_spreadFever_8 f_X2_keep_80
      rw [hcount, ite_at (show j < 30 by omega), cl (show j < 30 by omega)]
      have L := Wr_barge hw hb (hQ.2.2.1 j hj) hi
      have F := (hQ.2.1.2.2 j (by omega)).1
      generalize lpf (f_X2_keep_34 w b n M (nI i)) n 0 0 = cnt
      have hup : RR w b n (s_X0_raiseFever w b n Q (nI j)) (ms_fe B (upd (mt_fe B) j (if mt_fe B j + 1 < 10 then mt_fe B j + 1 else 10))) := by
        unfold s_X0_raiseFever
        rw [cl (show j < 30 by omega), F]
        exact RR_fe hQ j _
      by_cases h1 : ct_wh Q j = 0 ∧ ct_nu Q j = nI i
      · rw [if_pos h1, if_pos (L.mp h1), F]
        by_cases h3 : mt_fe B j ≤ 0
        · rw [if_pos h3, if_pos h3, Int32.sub_zero]
          by_cases h4 : cnt ≤ 0
          · rw [if_pos h4, if_pos h4]; exact hQ
          · rw [if_neg h4, if_neg h4]; exact hup
        · rw [if_neg h3, if_neg h3]
          by_cases h4 : cnt - 1 ≤ 0
          · rw [if_pos h4, if_pos h4]; exact hQ
          · rw [if_neg h4, if_neg h4]; exact hup
      · rw [if_neg h1, if_neg (fun z => h1 (L.mpr z))]; exact hQ
theorem r_age {w b n : Nat} {T : ct_T} {M : mt_T} (hw : w ≤ 5) (h : RR w b n T M) : RR w b n (s_X0_ageStraw w b n T) (lpf (f_X2_pass_27 w b n M) w 0 M) := by
  unfold s_X0_ageStraw
  refine lpf_two (fun _ Q B => RR w b n Q B) _ _ w _ _ h (fun j Q B hj hQ => ?_)
  unfold f_X0_ageStraw_2 f_X2_pass_27
  rw [cl (show j < 30 by omega), (hQ.2.1.1 j (by omega)).2]
  exact RR_st hQ j _
theorem r_age' {w b n : Nat} {T : ct_T} {M M0 : mt_T} (hw : w ≤ 5) (h : RR w b n T M) : RR w b n (s_X0_ageStraw w b n T) (lpf (f_X2_pass_27 w b n M0) w 0 M) := r_age hw h
theorem r_leave {w b n : Nat} {T : ct_T} {M : mt_T} (hw : w ≤ 5) (hb : b ≤ 4) (hn : n ≤ 30) (h : RR w b n T M) : RR w b n (s_X0_leaveWards w b n T) (s_X2_leaveWards w b n M) := by
  unfold s_X0_leaveWards s_X2_leaveWards
  refine lpf_two (fun _ Q B => RR w b n Q B) _ _ n _ _ h (fun j Q B hj hQ => ?_)
  unfold f_X0_leaveWards_2 f_X2_leaveWards_2
  rw [cl (show j < 30 by omega)]
  have L := Wr_in hw hb (hQ.2.2.1 j hj)
  have F := (hQ.2.1.2.2 j (by omega)).1
  by_cases h1 : ct_wh Q j = 1
  · rw [if_pos h1, if_pos (Int32.not_le.mp (L.mp h1)), F]
    by_cases h2 : mt_fe B j = 0
    · rw [if_pos h2, if_pos h2, if_neg (show ¬ mt_fe (ms_wh B (upd (mt_wh B) j 20)) j = 10 from fun z => absurd (h2.symm.trans z) (by decide))]
      exact RR_mv hQ (by omega) (Or.inr (Or.inr (Or.inl ⟨rfl, rfl⟩))) (fun _ _ z => absurd z (by decide))
    · rw [if_neg h2, if_neg h2]
      by_cases h3 : mt_fe B j = 10
      · rw [if_pos h3, if_pos h3]
        exact RR_mv hQ (by omega) (Or.inr (Or.inr (Or.inr ⟨rfl, rfl⟩))) (fun _ _ z => absurd z (by decide))
      · rw [if_neg h3, if_neg h3]; exact hQ
  · rw [if_neg h1, if_neg (fun z => h1 (L.mpr (Int32.not_le.mpr z)))]; exact hQ
/-- the free places that the landing has noted are the free places -/
def RF (w n : Nat) (T : ct_T) : Prop := ∀ i, i < w → ct_fr T i = ct_pl T i - nI (cn (iw T i) n)
theorem r_at {w b n : Nat} {T : ct_T} {M : mt_T} (hw : w ≤ 5) (hb : b ≤ 4) (hn : n ≤ 30) (h : RR w b n T M) {i : Nat} (hi : i < w) : r_X2_at w b n M (nI i) = nI (cn (iw T i) n) := by
  unfold r_X2_at
  refine lpf_cn (fun j a hj => ?_)
  unfold f_X2_at_4
  rw [cl (show j < 30 by omega)]
  have L := Wr_ward hw hb (h.2.2.1 j hj) hi
  by_cases h1 : ct_wh T j = 1 ∧ ct_nu T j = nI i
  · rw [if_pos (L.mp h1), if_pos (show iw T i j = true from decide_eq_true h1)]
  · rw [if_neg (fun z => h1 (L.mpr z)), if_neg (show ¬ iw T i j = true from fun z => h1 (of_decide_eq_true z))]
    exact Int32.add_zero a
theorem r_countAt {w b n : Nat} {T : ct_T} (hn : n ≤ 30) {i : Nat} : r_X0_countAt w b n T 1 (nI i) = nI (cn (iw T i) n) := by
  unfold r_X0_countAt
  refine lpf_cn (fun j a hj => ?_)
  unfold f_X0_countAt_5
  rw [ite_at (show j < 30 by omega)]
  by_cases h1 : ct_wh T j = 1 ∧ ct_nu T j = nI i
  · rw [if_pos h1, if_pos (show iw T i j = true from decide_eq_true h1)]
  · rw [if_neg h1, if_neg (show ¬ iw T i j = true from fun z => h1 (of_decide_eq_true z))]
theorem i_sub {a c : Nat} (h : c ≤ a) : nI a - nI c = nI (a - c) := by
  have h1 : nI (a - c) + nI c = nI a := by rw [nI_add]; congr 1; omega
  rw [← h1]; grind
/-- the first free place -/
theorem r_first {w b n : Nat} {T : ct_T} {M : mt_T} (hw : w ≤ 5) (hn : n ≤ 30) (hat : ∀ i, i < w → r_X2_at w b n M (nI i) = nI (cn (iw T i) n)) (hpl : ∀ i, i < w → ct_pl T i = mt_pl M i) (hcap : ∀ i, i < w → ∃ c, ct_pl T i = nI c ∧ c ≤ 8 ∧ cn (iw T i) n ≤ c) (hf : RF w n T) :
    (r_X0_takeFirstFreePlace w b n T = -1 ∧ s_X0_takeFirstFreePlace w b n T = T ∧ r_X2_firstFree w b n M = -1) ∨
    (∃ k, k < w ∧ r_X0_takeFirstFreePlace w b n T = nI k ∧ s_X0_takeFirstFreePlace w b n T = cs_fr T (upd (ct_fr T) k (ct_fr T k - 1)) ∧ r_X2_firstFree w b n M = nI k ∧ ∃ c, ct_pl T k = nI c ∧ c ≤ 8 ∧ cn (iw T k) n < c) := by
  have H := lpx_two (fun (x : Int32 × ct_T) (y : Int32) => ∃ k, k < w ∧ x = (nI k, cs_fr T (upd (ct_fr T) k (ct_fr T k - 1))) ∧ y = nI k ∧ ∃ c, ct_pl T k = nI c ∧ c ≤ 8 ∧ cn (iw T k) n < c) (fun _ (q : ct_T) (_ : Unit) => q = T) (f_X0_takeFirstFreePlace_2 w b n T) (f_X2_firstFree_2 w b n M) w T () rfl (fun j q u hj hq => by
    subst hq
    have hc9 := cn_le (iw q j) n
    unfold f_X0_takeFirstFreePlace_2 f_X2_firstFree_2
    rw [cl (show j < 30 by omega), hat j hj, hf j hj, ← hpl j hj]
    obtain ⟨c, e1, e2, e3⟩ := hcap j hj
    rw [e1, i_sub e3]
    by_cases hc : c ≤ cn (iw q j) n
    · rw [if_pos ((i_le0 (k := c - cn (iw q j) n) (by omega)).mpr (by omega)), if_pos ((nI_leI (a := c) (b := cn (iw q j) n) (by omega) (by omega)).mpr hc)]
      exact rfl
    · rw [if_neg (fun z => absurd ((i_le0 (k := c - cn (iw q j) n) (by omega)).mp z) (by omega)), if_neg (fun z => hc ((nI_leI (a := c) (b := cn (iw q j) n) (by omega) (by omega)).mp z))]
      refine ⟨j, hj, ?_, rfl, c, e1, e2, by omega⟩
      rw [hf j hj, e1, i_sub e3])
  unfold r_X0_takeFirstFreePlace s_X0_takeFirstFreePlace r_X2_firstFree
  cases hx : lpx (f_X0_takeFirstFreePlace_2 w b n T) w 0 T with
  | inl x =>
    cases hy : lpx (f_X2_firstFree_2 w b n M) w 0 () with
    | inl y =>
      rw [hx, hy] at H
      obtain ⟨k, h1, h2, h3, h4⟩ := H
      subst h2; subst h3
      exact Or.inr ⟨k, h1, rfl, rfl, rfl, h4⟩
    | inr y => rw [hx, hy] at H; exact H.elim
  | inr x =>
    cases hy : lpx (f_X2_firstFree_2 w b n M) w 0 () with
    | inl y => rw [hx, hy] at H; exact H.elim
    | inr y => rw [hx, hy] at H; exact Or.inl ⟨rfl, H, rfl⟩
/-- a barge of which somebody couldn't land is kept again -/
def fx (x : Nat) (q : ct_T × Int32) : ct_T := if q.2 = 0 then cs_to q.1 (upd (ct_to q.1) x (ct_ke q.1 x)) else q.1
theorem fx_0 (x : Nat) (Q : ct_T) : fx x (Q, 0) = cs_to Q (upd (ct_to Q) x (ct_ke Q x)) := if_pos rfl
theorem fx_1 (x : Nat) {Q : ct_T} {f : Int32} (hf : ¬ f = 0) : fx x (Q, f) = Q := if_neg hf
theorem cn_mv {T : ct_T} {n p : Nat} {x y : Int32} (hx : ∀ i, ¬ (x = 1 ∧ y = nI i)) (hb : ct_wh T p = 0) (i : Nat) : cn (fun q => decide (upd (ct_wh T) p x q = 1 ∧ upd (ct_nu T) p y q = nI i)) n = cn (iw T i) n := by
  refine cn_congr (fun q _ => ?_)
  show decide _ = decide _
  by_cases hq : q = p
  · subst hq
    rw [u_eq, u_eq, decide_eq_false (hx i), decide_eq_false (fun z => absurd (hb.symm.trans z.1) (by decide))]
  · rw [u_ne _ hq, u_ne _ hq]
theorem cn_in {P Q : Nat → Bool} {p : Nat} (hp : P p = false) (hq : Q p = true) : ∀ {n : Nat}, p < n → (∀ q, q < n → q ≠ p → Q q = P q) → cn Q n = cn P n + 1
  | 0, h, _ => absurd h (Nat.not_lt_zero p)
  | n + 1, h, hs => by
    show cn Q n + (if Q n then 1 else 0) = cn P n + (if P n then 1 else 0) + 1
    by_cases hn : n = p
    · subst hn
      rw [hp, hq, cn_congr (P := Q) (Q := P) (fun q hq => hs q (by omega) (by omega))]; rfl
    · have h1 := cn_in hp hq (n := n) (by omega) (fun q hq => hs q (by omega))
      rw [hs n (by omega) hn, h1]; omega
theorem r_landStep {w b n : Nat} (hw : w ≤ 5) (hb : b ≤ 4) (hn : n ≤ 30) {x j : Nat} (hx : x < b) (hj : j < n) {T0 : ct_T} {M0 : mt_T} {Q : ct_T} {f : Int32} {B : mt_T} (h : RR w b n (fx x (Q, f)) B) (hf : RF w n Q) :
    RR w b n (fx x (f_X0_landAll_4 w b n T0 (nI x) j (Q, f))) (f_X2_land_12 w b n M0 (nI x) j B) ∧ RF w n (f_X0_landAll_4 w b n T0 (nI x) j (Q, f)).1 := by
  have hfx : ct_wh (fx x (Q, f)) = ct_wh Q ∧ ct_nu (fx x (Q, f)) = ct_nu Q ∧ ct_fe (fx x (Q, f)) = ct_fe Q ∧ ct_pl (fx x (Q, f)) = ct_pl Q ∧ ct_ke (fx x (Q, f)) = ct_ke Q := by
    unfold fx; split <;> exact ⟨rfl, rfl, rfl, rfl, rfl⟩
  obtain ⟨x1, x2, x3, x4, x5⟩ := hfx
  have hiw : ∀ i, iw (fx x (Q, f)) i = iw Q i := fun i => by unfold iw; rw [x1, x2]
  have L := Wr_barge hw hb (h.2.2.1 j hj) hx
  rw [x1, x2] at L
  have F : ct_fe Q j = mt_fe B j := by rw [← x3]; exact (h.2.1.2.2 j (by omega)).1
  have hj30 : j < 30 := by omega
  unfold f_X0_landAll_4 f_X2_land_12
  dsimp only
  rw [ite_at hj30, cl hj30, cl (show x < 30 by omega)]
  -- moving goes through fx
  have hmv : ∀ (Q : ct_T) (y z : Int32), fx x (s_X0_move w b n Q (nI j) y z, f) = s_X0_move w b n (fx x (Q, f)) (nI j) y z := by
    intro Q y z
    unfold fx
    split <;> rfl
  by_cases h1 : ct_wh Q j = 0 ∧ ct_nu Q j = nI x
  · rw [if_pos h1, if_pos (L.mp h1), F]
    by_cases h2 : mt_fe B j = 0
    · rw [if_pos h2, if_pos h2]
      refine ⟨?_, ?_⟩
      · rw [hmv]
        exact RR_mv h hj30 (Or.inr (Or.inr (Or.inl ⟨rfl, rfl⟩))) (fun _ _ z => absurd z (by decide))
      · intro i hi
        show ct_fr Q i = ct_pl Q i - nI (cn (iw (s_X0_move w b n Q (nI j) 2 (-1)) i) n)
        rw [hf i hi]
        congr 2
        unfold s_X0_move
        rw [cl hj30]
        exact (cn_mv (fun i z => absurd z.1 (by decide)) h1.1 i).symm
    · rw [if_neg h2, if_neg h2]
      have hcap : ∀ i, i < w → ∃ c, ct_pl Q i = nI c ∧ c ≤ 8 ∧ cn (iw Q i) n ≤ c := fun i hi => by
        obtain ⟨c, g1, g2, g3⟩ := h.2.2.2.1 i hi
        rw [x4] at g1; rw [hiw] at g3
        exact ⟨c, g1, g2, g3⟩
      rcases r_first (b := b) (T := Q) (M := B) hw hn (fun i hi => by rw [r_at hw hb hn h hi, hiw]) (fun i hi => by rw [← x4]; exact (h.2.1.1 i (by omega)).1) hcap hf with ⟨e1, e7, e3⟩ | ⟨k, hk, e1, e9, e3, c, e4, e5, e6⟩
      · skip
        rw [if_pos e1, if_pos e3, e7]
        refine ⟨?_, hf⟩
        rw [fx_0]
        obtain ⟨kk, g1, g2⟩ := h.2.2.2.2.1 x hx
        have hke : mt_ke B x = nI kk := by rw [← (h.2.1.2.1 x (by omega)).1]; exact g1
        have h9 := RR_to h x (v := nI kk) (k := kk) rfl g2
        rw [x5] at g1
        rw [hke, g1]
        have e8 : cs_to (fx x (Q, f)) (upd (ct_to (fx x (Q, f))) x (nI kk)) = cs_to Q (upd (ct_to Q) x (nI kk)) := by
          unfold fx
          split
          · show cs_to Q (upd (upd (ct_to Q) x (ct_ke Q x)) x (nI kk)) = _
            rw [u_uu]
          · rfl
        rw [e8] at h9
        exact h9
      · have hne : ¬ (nI k = -1) := fun z => by
          have z2 := congrArg Int32.toInt z
          rw [nI_toInt (by omega)] at z2
          have z3 : (-1 : Int32).toInt = -1 := by decide
          omega
        rw [e1, e3, if_neg hne, if_neg hne]
        have e8 : fx x (cs_fr Q (upd (ct_fr Q) k (ct_fr Q k - 1)), f) = cs_fr (fx x (Q, f)) (upd (ct_fr Q) k (ct_fr Q k - 1)) := by
          unfold fx; split <;> rfl
        rw [e9]
        refine ⟨?_, ?_⟩
        · rw [hmv, e8]
          have h9 : RR w b n (cs_fr (fx x (Q, f)) (upd (ct_fr Q) k (ct_fr Q k - 1))) B := h
          refine RR_mv h9 hj30 (Or.inl ⟨rfl, k, hk, rfl, rfl⟩) (fun i hi _ hy => ?_)
          have e10 : k = i := (nI_eq (by omega) (by omega)).mp hy
          subst e10
          exact ⟨c, by rw [← e4]; show ct_pl (fx x (Q, f)) k = _; rw [x4], e5, by show cn (iw (fx x (Q, f)) k) n < c; rw [hiw]; exact e6⟩
        · intro i hi
          show upd (ct_fr Q) k (ct_fr Q k - 1) i = ct_pl Q i - nI (cn (iw (s_X0_move w b n (cs_fr Q (upd (ct_fr Q) k (ct_fr Q k - 1))) (nI j) 1 (nI k)) i) n)
          unfold s_X0_move
          rw [cl hj30]
          by_cases hik : i = k
          · subst hik
            rw [u_eq, hf i hi]
            have e11 : cn (iw (cs_nu (cs_wh (cs_fr Q (upd (ct_fr Q) i (ct_pl Q i - nI (cn (iw Q i) n) - 1))) (upd (ct_wh Q) j 1)) (upd (ct_nu Q) j (nI i))) i) n = cn (iw Q i) n + 1 := by
              refine cn_in (p := j) ?_ ?_ hj (fun q _ hq => ?_)
              · exact decide_eq_false (fun z => absurd (h1.1.symm.trans z.1) (by decide))
              · show decide (upd (ct_wh Q) j 1 j = 1 ∧ upd (ct_nu Q) j (nI i) j = nI i) = true
                rw [u_eq, u_eq]; exact decide_eq_true ⟨rfl, rfl⟩
              · show decide (upd (ct_wh Q) j 1 q = 1 ∧ upd (ct_nu Q) j (nI i) q = nI i) = decide _
                rw [u_ne _ hq, u_ne _ hq]
            show ct_pl Q i - nI (cn (iw Q i) n) - 1 = ct_pl Q i - nI (cn (iw (cs_nu (cs_wh (cs_fr Q _) (upd (ct_wh Q) j 1)) (upd (ct_nu Q) j (nI i))) i) n)
            rw [e11, nI_succ]
            grind
          · rw [u_ne _ hik, hf i hi]
            congr 2
            refine cn_congr (fun q _ => ?_)
            show decide (ct_wh Q q = 1 ∧ ct_nu Q q = nI i) = decide (upd (ct_wh Q) j 1 q = 1 ∧ upd (ct_nu Q) j (nI k) q = nI i)
            by_cases hq : q = j
            · subst hq
              rw [u_eq, u_eq, decide_eq_false (fun z => absurd (h1.1.symm.trans z.1) (by decide)), decide_eq_false (fun z => hik ((nI_eq (by omega) (by omega)).mp z.2.symm))]
            · rw [u_ne _ hq, u_ne _ hq]
  · rw [if_neg h1, if_neg (fun z => h1 (L.mpr z))]
    exact ⟨h, hf⟩
theorem r_landAll {w b n : Nat} (hw : w ≤ 5) (hb : b ≤ 4) (hn : n ≤ 30) {x : Nat} (hx : x < b) {T : ct_T} {M : mt_T} {T0 : ct_T} {M0 : mt_T} (h : RR w b n T M) (hf : RF w n T) :
    RR w b n (fx x (lpf (f_X0_landAll_4 w b n T0 (nI x)) n 0 (T, 1))) (lpf (f_X2_land_12 w b n M0 (nI x)) n 0 M) ∧ RF w n (lpf (f_X0_landAll_4 w b n T0 (nI x)) n 0 (T, 1)).1 := by
  refine lpf_two (fun _ q B => RR w b n (fx x q) B ∧ RF w n q.1) _ _ n _ _ ⟨h, hf⟩ (fun j q B hj hq => ?_)
  obtain ⟨Q, f⟩ := q
  exact r_landStep hw hb hn hx hj hq.1 hq.2
theorem r_landBarge {w b n : Nat} (hw : w ≤ 5) (hb : b ≤ 4) (hn : n ≤ 30) {x : Nat} (hx : x < b) {T : ct_T} {M : mt_T} {T0 : ct_T} (h : RR w b n T M) (hf : RF w n T) :
    RR w b n (f_X0_landBarges_29 w b n T0 x T) (s_X2_land w b n M (nI x)) ∧ RF w n (f_X0_landBarges_29 w b n T0 x T) := by
  unfold f_X0_landBarges_29 s_X2_land
  rw [cl (show x < 30 by omega), ← (h.2.1.2.1 x (by omega)).2]
  obtain ⟨k, g1, g2⟩ := h.2.2.2.2.2 x hx
  rw [g1]
  by_cases hk : k = 0
  · subst hk
    rw [if_pos (show nI 0 = 0 by decide), if_pos (show nI 0 ≤ 0 by decide)]
    have H := r_landAll hw hb hn hx (T0 := T) (M0 := M) h hf
    have e : (if r_X0_landAll w b n T (nI x) = 0 then cs_to (s_X0_landAll w b n T (nI x)) (upd (ct_to (s_X0_landAll w b n T (nI x))) x (ct_ke (s_X0_landAll w b n T (nI x)) x)) else s_X0_landAll w b n T (nI x)) = fx x (lpf (f_X0_landAll_4 w b n T (nI x)) n 0 (T, 1)) := rfl
    rw [e]
    refine ⟨H.1, fun i hi => ?_⟩
    have H2 := H.2 i hi
    generalize lpf (f_X0_landAll_4 w b n T (nI x)) n 0 (T, 1) = q at H2 ⊢
    unfold fx
    split
    · exact H2
    · exact H2
  · rw [if_neg (fun z => hk ((i_eq0 (k := k) (by omega)).mp z)), if_neg (fun z => hk ((i_le0 (k := k) (by omega)).mp z))]
    exact ⟨h, hf⟩
theorem r_free {w b n : Nat} (hw : w ≤ 5) (hn : n ≤ 30) {T : ct_T} {M : mt_T} (h : RR w b n T M) : RR w b n (lpf (f_X0_landBarges_2 w b n T) w 0 T) M ∧ RF w n (lpf (f_X0_landBarges_2 w b n T) w 0 T) := by
  have H := lpf_inv (fun i Q => RR w b n Q M ∧ ∀ k, k < i → ct_fr Q k = ct_pl Q k - nI (cn (iw Q k) n)) (f_X0_landBarges_2 w b n T) w T ⟨h, fun k hk => absurd hk (Nat.not_lt_zero k)⟩ (fun i Q hi hQ => by
    unfold f_X0_landBarges_2 r_X0_freeIn
    rw [cl (show i < 30 by omega), r_countAt hn]
    refine ⟨hQ.1, fun k hk => ?_⟩
    show upd (ct_fr Q) i (ct_pl Q i - nI (cn (iw Q i) n)) k = ct_pl Q k - nI (cn (iw Q k) n)
    by_cases hki : k = i
    · subst hki; rw [u_eq]
    · rw [u_ne _ hki]; exact hQ.2 k (by omega))
  exact H
theorem r_land {w b n : Nat} (hw : w ≤ 5) (hb : b ≤ 4) (hn : n ≤ 30) {T : ct_T} {M M0 : mt_T} (h : RR w b n T M) : RR w b n (s_X0_landBarges w b n T) (lpf (f_X2_pass_57 w b n M0) b 0 M) := by
  unfold s_X0_landBarges
  have H := lpf_two (fun _ Q B => RR w b n Q B ∧ RF w n Q) (f_X0_landBarges_29 w b n T) (f_X2_pass_57 w b n M0) b _ _ (r_free hw hn h) (fun j Q B hj hQ => r_landBarge hw hb hn hj hQ.1 hQ.2)
  exact H.1
theorem r_day {w b n : Nat} (hw : w ≤ 5) (hb : b ≤ 4) (hn : n ≤ 30) {T T0 : ct_T} {M : mt_T} {x i : Nat} (h : RR w b n T M) : RR w b n (f_X0_liveDays_2 w b n T0 x i T) (s_X2_pass w b n M) := by
  have h1 := rr_feed hw hb hn h
  have h2 : RR w b n (s_X0_bringBargesNearer w b n (s_X0_changeFeversInWards w b n (s_X0_giveBowls w b n T))) (lpf (f_X2_pass_6 w b n M) b 0 (s_X2_feed w b n M)) := by
    unfold s_X0_bringBargesNearer
    exact lpf_two (fun _ Q B => RR w b n Q B) _ _ b _ _ h1 (fun j Q B hj hQ => r_keep hw hb hn hQ hj)
  have h3 := r_age' (M0 := M) hw h2
  have h4 := r_leave hw hb hn h3
  have h5 := r_land (M0 := M) hw hb hn h4
  unfold f_X0_liveDays_2 s_X2_pass
  generalize s_X0_landBarges w b n (s_X0_leaveWards w b n (s_X0_ageStraw w b n (s_X0_bringBargesNearer w b n (s_X0_changeFeversInWards w b n (s_X0_giveBowls w b n T))))) = Q at h5 ⊢
  generalize lpf (f_X2_pass_57 w b n M) b 0 (s_X2_leaveWards w b n (lpf (f_X2_pass_27 w b n M) w 0 (lpf (f_X2_pass_6 w b n M) b 0 (s_X2_feed w b n M)))) = B at h5 ⊢
  obtain ⟨⟨e1, e2, e3⟩, g1, g2, g3⟩ := h5
  refine ⟨⟨?_, e2, e3⟩, g1, g2, g3⟩
  show ct_day Q + 1 = mt_day B + 1
  rw [e1]
theorem r_days {w b n : Nat} (hw : w ≤ 5) (hb : b ≤ 4) (hn : n ≤ 30) {T : ct_T} {M : mt_T} (x : Nat) (h : RR w b n T M) : RR w b n (s_X0_liveDays w b n T x) (s_X2_passOn w b n M x) := by
  unfold s_X0_liveDays s_X2_passOn
  exact lpf_two (fun _ Q B => RR w b n Q B) _ _ x _ _ h (fun j Q B hj hQ => r_day hw hb hn hQ)
theorem r_live1 {w b n : Nat} (hw : w ≤ 5) (hb : b ≤ 4) (hn : n ≤ 30) {T : ct_T} {M : mt_T} (h : RR w b n T M) : RR w b n (s_X0_liveDays w b n T 1) (s_X2_pass w b n M) := by
  unfold s_X0_liveDays
  exact r_day (T0 := T) (x := 1) (i := 0) hw hb hn h
end PC
