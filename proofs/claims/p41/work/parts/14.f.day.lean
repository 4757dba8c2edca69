/-! 14.f: pure: landing, a day -/
section PF
theorem q_578 {w b n : Nat} {dy bo ea : Int32} {W0 B0 P0 : Nat → Nat → Int32} {i : Nat} {B1 P1 : Nat → Nat → Int32} {j : Nat} {q : Nat → Nat → Int32} {st : Int32} : f_X2_pass_6_578 w b n dy bo ea W0 B0 P0 i (B1, P1) j (q, st) = if q j 2 = nI i then (if q j 0 ≤ 0 then (if ur q j 2 (-1) j 0 = 0 then (ur (ur q j 2 (-1)) j 3 1, st) else (ur (ur q j 2 (-1)) j 1 (lpf (f_X2_pass_6_615 w b n dy bo ea W0 B0 P0 i (B1, P1) j (q, st)) w 0 (-1)), st)) else (if 0 ≤ lpf (f_X2_pass_6_615 w b n dy bo ea W0 B0 P0 i (B1, P1) j (q, st)) w 0 (-1) then (if ur q j 2 (-1) j 0 = 0 then (ur (ur q j 2 (-1)) j 3 1, st) else (ur (ur q j 2 (-1)) j 1 (lpf (f_X2_pass_6_615 w b n dy bo ea W0 B0 P0 i (B1, P1) j (q, st)) w 0 (-1)), st)) else (q, 1))) else (q, st) := rfl
theorem q_l4 {w b n : Nat} {T0 : ct_T} {x j : Nat} {Q : ct_T} {f : Int32} (hj : j < 30) : f_X0_landAll_4 w b n T0 (nI x) j (Q, f) = if ct_wh Q j = 0 ∧ ct_nu Q j = nI x then (if ct_fe Q j = 0 then (s_X0_move w b n Q (nI j) 2 (-1), f) else (if r_X0_takeFirstFreePlace w b n Q = -1 then (s_X0_takeFirstFreePlace w b n Q, 0) else (s_X0_move w b n (s_X0_takeFirstFreePlace w b n Q) (nI j) 1 (r_X0_takeFirstFreePlace w b n Q), f))) else (Q, f) := by
  unfold f_X0_landAll_4
  dsimp only
  rw [ite_at hj, cl hj]
def LN (w b n : Nat) (T : ct_T) (W B : Nat → Nat → Int32) (x j : Nat) (Q : ct_T × Int32) (q : (Nat → Nat → Int32) × Int32) : Prop :=
  RM w b n Q.1 W B q.1 ∧ SW Q.1 T ∧ ct_to Q.1 = ct_to T ∧ RF w n Q.1 ∧ KF n Q.1 ∧ ((Q.2 = 1 ∧ q.2 = 0) ∨ (Q.2 = 0 ∧ q.2 = 1)) ∧ (∀ p, p < n → ct_wh T p = 2 → ct_wh Q.1 p = 2) ∧
    (∀ p, p < n → ct_wh Q.1 p = 0 → ct_wh T p = 0 ∧ ct_nu Q.1 p = ct_nu T p) ∧ (Q.2 = 1 → ∀ p, p < n → p < j → ct_wh Q.1 p = 0 → ¬ ct_nu Q.1 p = nI x)
theorem LN_step {w b n : Nat} {T : ct_T} {W B : Nat → Nat → Int32} (hw : w ≤ 5) (hb : b ≤ 4) (hn : n ≤ 30) {x j : Nat} (hx : x < b) (hj : j < n) {T0 : ct_T} {dy bo ea : Int32} {B0 P0 B1 P1 : Nat → Nat → Int32} {Q : ct_T × Int32} {q : (Nat → Nat → Int32) × Int32} (h : LN w b n T W B x j Q q) :
    LN w b n T W B x (j + 1) (f_X0_landAll_4 w b n T0 (nI x) j Q) (f_X2_pass_6_578 w b n dy bo ea W B0 P0 x (B1, P1) j q) := by
  obtain ⟨Q, f⟩ := Q
  obtain ⟨q, st⟩ := q
  obtain ⟨⟨hX, hF, hC, hG⟩, hS, hto, hR, hK, hf, hH, hB, hE⟩ := h
  have hX : RX w b n Q W B q := hX
  have hF : FE n Q := hF
  have hC : CP w n Q := hC
  have hR : RF w n Q := hR
  have hK : KF n Q := hK
  have hE : f = 1 → ∀ p, p < n → p < j → ct_wh Q p = 0 → ¬ ct_nu Q p = nI x := hE
  have hB : ∀ p, p < n → ct_wh Q p = 0 → ct_wh T p = 0 ∧ ct_nu Q p = ct_nu T p := hB
  have hH : ∀ p, p < n → ct_wh T p = 2 → ct_wh Q p = 2 := hH
  have hj30 : j < 30 := by omega
  rw [q_578, q_l4 hj30]
  have L := PL_barge hb (hX.2.2 j hj).2.2 hx
  obtain ⟨k, hk, ek⟩ := hF j hj
  have eq : q j 0 = nI k := by rw [← (hX.2.2 j hj).1]; exact ek
  have u20 : ∀ (f : Nat → Int32) (x : Int32), upd f 2 x 0 = f 0 := fun f x => u_ne f (by decide) x
  have u3 : ∀ (f : Nat → Int32) (a c : Int32) (m : Nat), upd (upd f 2 a) 3 c m = if m = 3 then c else if m = 2 then a else f m := fun f a c m => rfl
  have u1 : ∀ (f : Nat → Int32) (a c : Int32) (m : Nat), upd (upd f 2 a) 1 c m = if m = 1 then c else if m = 2 then a else f m := fun f a c m => rfl
  simp only [ur_sr, sr_eq, sr_sr, u20, eq]
  by_cases h1 : ct_wh Q j = 0 ∧ ct_nu Q j = nI x
  · rw [if_pos h1, if_pos (L.mp h1), ek]
    rcases (hX.2.2 j hj).2.2 with ⟨e1, -⟩ | ⟨-, kk, hkk, e2, e3, e4, e5, e6⟩ | ⟨e1, -⟩ | ⟨e1, -⟩
    · exact absurd (h1.1.symm.trans e1) (by decide)
    · by_cases h2 : k = 0
      · subst h2
        rw [if_pos (show nI 0 = 0 by decide), if_pos (show nI 0 ≤ 0 by decide), if_pos (show nI 0 = 0 by decide)]
        have eiw : ∀ i, iw (s_X0_move w b n Q (nI j) 2 (-1)) i = iw Q i := fun i => by
          funext z
          rw [iw_mv hj30]
          by_cases hz : z = j
          · subst hz
            rw [if_pos rfl]
            have : iw Q i z = false := decide_eq_false (fun y => absurd (h1.1.symm.trans y.1) (by decide))
            rw [this]; exact decide_eq_false (fun y => absurd y.1 (by decide))
          · rw [if_neg hz]
        refine ⟨⟨RX_mv hX hj30 rfl rfl ?_, hF, CP_mv (b := b) hC hj30 (fun i hi z => absurd z (by decide)), hG⟩, hS, hto, fun i hi => ?_, fun p hp => ?_, hf, fun p hp hz => ?_, fun p hp hz => ?_, fun hf1 p hp hpj hz => ?_⟩
        · simp only [u3]
          exact Or.inr (Or.inr (Or.inl ⟨rfl, e3, rfl, rfl, e6⟩))
        · show ct_fr Q i = ct_pl Q i - nI (cn (iw (s_X0_move w b n Q (nI j) 2 (-1)) i) n)
          rw [eiw]; exact hR i hi
        · rw [(wh_mv hj30 p).1]
          show (_ → ¬ ct_fe Q p = 0) ∧ (_ → ct_fe Q p = 0) ∧ (_ → ct_fe Q p = 10)
          by_cases hpj : p = j
          · subst hpj
            rw [if_pos rfl, ek]
            exact ⟨fun z => absurd z (by decide), fun _ => by decide, fun z => absurd z (by decide)⟩
          · rw [if_neg hpj]; exact hK p hp
        · show ct_wh (s_X0_move w b n Q (nI j) 2 (-1)) p = 2
          rw [(wh_mv hj30 p).1]
          by_cases hpj : p = j
          · rw [if_pos hpj]
          · rw [if_neg hpj]; exact hH p hp hz
        · have hz : ct_wh (s_X0_move w b n Q (nI j) 2 (-1)) p = 0 := hz
          show _ ∧ ct_nu (s_X0_move w b n Q (nI j) 2 (-1)) p = _
          rw [(wh_mv hj30 p).1] at hz
          rw [(wh_mv hj30 p).2]
          by_cases hpj : p = j
          · rw [if_pos hpj] at hz; exact absurd hz (by decide)
          · rw [if_neg hpj] at hz; rw [if_neg hpj]; exact hB p hp hz
        · have hz : ct_wh (s_X0_move w b n Q (nI j) 2 (-1)) p = 0 := hz
          show ¬ ct_nu (s_X0_move w b n Q (nI j) 2 (-1)) p = _
          rw [(wh_mv hj30 p).1] at hz
          rw [(wh_mv hj30 p).2]
          by_cases hpj2 : p = j
          · rw [if_pos hpj2] at hz; exact absurd hz (by decide)
          · rw [if_neg hpj2] at hz; rw [if_neg hpj2]; exact hE hf1 p hp (by omega) hz
      · have h2' : ¬ nI k = 0 := fun z => h2 ((i_eq0 (by omega)).mp z)
        rw [if_neg h2', if_neg (fun z => h2 ((i_le0 (by omega)).mp z)), if_neg h2']
        rcases same_first (b := b) (dy := dy) (bo := bo) (ea := ea) (B1 := B1) (P0 := P0) (B0 := B0) (P1 := P1) (i := x) (j := j) (st := st) hw hn (show RX w b n Q W B q from hX) hC hR with ⟨a1, a2, a3⟩ | ⟨m, m1, m2, m3, m4, c, c1, c2, c3⟩
        · rw [if_pos a1, a2, a3, if_neg (show ¬ (0 : Int32) ≤ -1 by decide)]
          exact ⟨⟨hX, hF, hC, hG⟩, hS, hto, hR, hK, Or.inr ⟨rfl, rfl⟩, hH, hB, fun z => absurd (show (0 : Int32) = 1 from z) (by decide)⟩
        · rw [m2, m4, m3, if_neg (fun z => m1_ne (show m < 2 ^ 31 by omega) z.symm), if_pos (nI_pos' (by omega))]
          have hXf : RX w b n (cs_fr Q (upd (ct_fr Q) m (ct_fr Q m - 1))) W B q := hX
          have hCf : CP w n (cs_fr Q (upd (ct_fr Q) m (ct_fr Q m - 1))) := hC
          have jw : ct_wh (cs_fr Q (upd (ct_fr Q) m (ct_fr Q m - 1))) j = 0 := h1.1
          refine ⟨⟨RX_mv hXf hj30 rfl rfl ?_, hF, CP_mv (b := b) hCf hj30 (fun i hi _ hy => ?_), hG⟩, hS, hto, fun i hi => ?_, fun p hp => ?_, hf, fun p hp hz => ?_, fun p hp hz => ?_, fun hf1 p hp hpj hz => ?_⟩
          · simp only [u1]
            exact Or.inl ⟨rfl, m, m1, rfl, rfl, rfl, e5, e6⟩
          · have e10 : m = i := (nI_eq (by omega) (by omega)).mp hy
            subst e10
            exact ⟨c, c1, c2, c3⟩
          · show upd (ct_fr Q) m (ct_fr Q m - 1) i = ct_pl Q i - nI (cn (iw (s_X0_move w b n (cs_fr Q (upd (ct_fr Q) m (ct_fr Q m - 1))) (nI j) 1 (nI m)) i) n)
            by_cases him : i = m
            · subst him
              have e11 : cn (iw (s_X0_move w b n (cs_fr Q (upd (ct_fr Q) i (ct_fr Q i - 1))) (nI j) 1 (nI i)) i) n = cn (iw Q i) n + 1 := by
                refine cn_in (p := j) ?_ ?_ hj (fun z _ hz => ?_)
                · exact decide_eq_false (fun y => absurd (h1.1.symm.trans y.1) (by decide))
                · rw [iw_mv hj30, if_pos rfl]; exact decide_eq_true ⟨rfl, rfl⟩
                · rw [iw_mv hj30, if_neg hz]; rfl
              rw [u_eq, e11, hR i hi, nI_succ]
              grind
            · rw [u_ne _ him, hR i hi]
              congr 2
              refine cn_congr (fun z _ => ?_)
              rw [iw_mv hj30]
              by_cases hz : z = j
              · subst hz
                rw [if_pos rfl]
                have e12 : iw Q i z = false := decide_eq_false (fun y => absurd (h1.1.symm.trans y.1) (by decide))
                rw [e12]
                exact (decide_eq_false (fun y => him ((nI_eq (by omega) (by omega)).mp y.2.symm))).symm
              · rw [if_neg hz]; rfl
          · rw [(wh_mv hj30 p).1]
            show (_ → ¬ ct_fe Q p = 0) ∧ (_ → ct_fe Q p = 0) ∧ (_ → ct_fe Q p = 10)
            by_cases hpj : p = j
            · subst hpj
              rw [if_pos rfl, ek]
              exact ⟨fun _ => h2', fun z => absurd z (by decide), fun z => absurd z (by decide)⟩
            · rw [if_neg hpj]; exact hK p hp
          · show ct_wh (s_X0_move w b n (cs_fr Q (upd (ct_fr Q) m (ct_fr Q m - 1))) (nI j) 1 (nI m)) p = 2
            rw [(wh_mv hj30 p).1]
            by_cases hpj : p = j
            · subst hpj
              have := hH p hp hz
              have this : ct_wh Q p = 2 := this
              rw [h1.1] at this; exact absurd this (by decide)
            · rw [if_neg hpj]; exact hH p hp hz
          · have hz : ct_wh (s_X0_move w b n (cs_fr Q (upd (ct_fr Q) m (ct_fr Q m - 1))) (nI j) 1 (nI m)) p = 0 := hz
            show _ ∧ ct_nu (s_X0_move w b n (cs_fr Q (upd (ct_fr Q) m (ct_fr Q m - 1))) (nI j) 1 (nI m)) p = _
            rw [(wh_mv hj30 p).1] at hz
            rw [(wh_mv hj30 p).2]
            by_cases hpj : p = j
            · rw [if_pos hpj] at hz; exact absurd hz (by decide)
            · rw [if_neg hpj] at hz; rw [if_neg hpj]; exact hB p hp hz
          · have hz : ct_wh (s_X0_move w b n (cs_fr Q (upd (ct_fr Q) m (ct_fr Q m - 1))) (nI j) 1 (nI m)) p = 0 := hz
            show ¬ ct_nu (s_X0_move w b n (cs_fr Q (upd (ct_fr Q) m (ct_fr Q m - 1))) (nI j) 1 (nI m)) p = _
            rw [(wh_mv hj30 p).1] at hz
            rw [(wh_mv hj30 p).2]
            by_cases hpj2 : p = j
            · rw [if_pos hpj2] at hz; exact absurd hz (by decide)
            · rw [if_neg hpj2] at hz; rw [if_neg hpj2]; exact hE hf1 p hp (by omega) hz
    · exact absurd (h1.1.symm.trans e1) (by decide)
    · exact absurd (h1.1.symm.trans e1) (by decide)
  · rw [if_neg h1, if_neg (fun z => h1 (L.mpr z))]
    refine ⟨⟨hX, hF, hC, hG⟩, hS, hto, hR, hK, hf, hH, hB, fun hf1 p hp hpj hz => ?_⟩
    by_cases hpj2 : p = j
    · subst hpj2; exact fun z => h1 ⟨hz, z⟩
    · exact hE hf1 p hp (by omega) hz
def LB (w b n : Nat) (T : ct_T) (W : Nat → Nat → Int32) (x : Nat) (Q : ct_T) (q : (Nat → Nat → Int32) × (Nat → Nat → Int32)) : Prop :=
  RM w b n Q W q.1 q.2 ∧ SW Q T ∧ RF w n Q ∧ KF n Q ∧ (∀ p, p < n → ct_wh T p = 2 → ct_wh Q p = 2) ∧ (∀ i, i < x → i < b → ct_to Q i = 0 → ∀ p, p < n → ct_wh Q p = 0 → ¬ ct_nu Q p = nI i)
theorem q_538 {w b n : Nat} {dy bo ea : Int32} {W0 B0 P0 : Nat → Nat → Int32} {i : Nat} {B P : Nat → Nat → Int32} : f_X2_pass_6_538 w b n dy bo ea W0 B0 P0 i (B, P) = if B i 1 ≤ 0 then (if (lpf (f_X2_pass_6_578 w b n dy bo ea W0 B0 P0 i (B, P)) n 0 (P, 0)).2 = 0 then (B, (lpf (f_X2_pass_6_578 w b n dy bo ea W0 B0 P0 i (B, P)) n 0 (P, 0)).1) else (ur B i 1 (B i 0), (lpf (f_X2_pass_6_578 w b n dy bo ea W0 B0 P0 i (B, P)) n 0 (P, 0)).1)) else (B, P) := rfl
theorem LB_step {w b n : Nat} {T : ct_T} {W : Nat → Nat → Int32} (hw : w ≤ 5) (hb : b ≤ 4) (hn : n ≤ 30) {x : Nat} (hx : x < b) {T0 : ct_T} {dy bo ea : Int32} {B0 P0 : Nat → Nat → Int32} {Q : ct_T} {q : (Nat → Nat → Int32) × (Nat → Nat → Int32)} (h : LB w b n T W x Q q) :
    LB w b n T W (x + 1) (f_X0_landBarges_29 w b n T0 x Q) (f_X2_pass_6_538 w b n dy bo ea W B0 P0 x q) := by
  obtain ⟨B, P⟩ := q
  obtain ⟨⟨hX, hF, hC, hG⟩, hS, hR, hK, hH, hE⟩ := h
  have hX : RX w b n Q W B P := hX
  obtain ⟨k, j, g1, g2, g3, g4, g5⟩ := hG x hx
  have hB1 : B x 1 = nI j := by rw [← (hX.2.1 x hx).2]; exact g4
  rw [q_538]
  unfold f_X0_landBarges_29
  rw [cl (show x < 30 by omega), g4, hB1]
  by_cases hj0 : j = 0
  · subst hj0
    rw [if_pos (show nI 0 = 0 by decide), if_pos (show nI 0 ≤ 0 by decide)]
    unfold r_X0_landAll s_X0_landAll
    have H := lpf_two (fun j Qf qs => LN w b n Q W B x j Qf qs) (f_X0_landAll_4 w b n Q (nI x)) (f_X2_pass_6_578 w b n dy bo ea W B0 P0 x (B, P)) n (Q, 1) (P, 0) ⟨⟨hX, hF, hC, hG⟩, ⟨C3.rf Q, rfl, rfl, rfl⟩, rfl, hR, hK, Or.inl ⟨rfl, rfl⟩, fun _ _ z => z, fun _ _ z => ⟨z, rfl⟩, fun _ p hp hpj => absurd hpj (Nat.not_lt_zero p)⟩ (fun j Qf qs hj hq => LN_step hw hb hn hx hj hq)
    generalize lpf (f_X0_landAll_4 w b n Q (nI x)) n 0 (Q, 1) = Qf at H ⊢
    generalize lpf (f_X2_pass_6_578 w b n dy bo ea W B0 P0 x (B, P)) n 0 (P, 0) = qs at H ⊢
    obtain ⟨⟨aX, aF, aC, aG⟩, ⟨a1, a2, a3, a4⟩, ato, aR, aK, af, aH, aB, aE⟩ := H
    obtain ⟨s1, s2, s3, s4⟩ := hS
    rcases af with ⟨f1, f2⟩ | ⟨f1, f2⟩
    · rw [if_neg (show ¬ Qf.2 = 0 by rw [f1]; decide), if_pos f2]
      refine ⟨⟨aX, aF, aC, aG⟩, ⟨a1.tr s1, a2.trans s2, a3.trans s3, a4.trans s4⟩, aR, aK, fun p hp hz => aH p hp (hH p hp hz), fun i hi hib hti p hp hz => ?_⟩
      by_cases hix : i = x
      · subst hix; exact aE f1 p hp hp hz
      · rw [ato] at hti
        rw [(aB p hp hz).2]
        exact hE i (by omega) hib hti p hp (aB p hp hz).1
    · rw [if_pos f1, if_neg (show ¬ qs.2 = 0 by rw [f2]; decide)]
      have ke : ct_ke Qf.1 x = nI k := by rw [a4]; exact g1
      have kB : B x 0 = nI k := by rw [← (hX.2.1 x hx).1]; exact g1
      rw [ke, kB]
      refine ⟨⟨RX_to aX, aF, aC, BG_to aG (k := k) (by omega) (fun _ => ke) (Nat.le_refl k)⟩, ⟨a1.tr s1, a2.trans s2, a3.trans s3, a4.trans s4⟩, aR, aK, fun p hp hz => aH p hp (hH p hp hz), fun i hi hib hti p hp hz => ?_⟩
      have hti : upd (ct_to Qf.1) x (nI k) i = 0 := hti
      by_cases hix : i = x
      · subst hix
        rw [u_eq] at hti
        have := (i_eq0 (k := k) (by omega)).mp hti
        omega
      · rw [u_ne _ hix, ato] at hti
        show ¬ ct_nu Qf.1 p = nI i
        rw [(aB p hp hz).2]
        exact hE i (by omega) hib hti p hp (aB p hp hz).1
  · rw [if_neg (fun z => hj0 ((i_eq0 (by omega)).mp z)), if_neg (fun z => hj0 ((i_le0 (by omega)).mp z))]
    refine ⟨⟨hX, hF, hC, hG⟩, hS, hR, hK, hH, fun i hi hib hti p hp hz => ?_⟩
    by_cases hix : i = x
    · subst hix
      rw [g4] at hti
      exact absurd ((i_eq0 (by omega)).mp hti) hj0
    · exact hE i (by omega) hib hti p hp hz
theorem st5 {w b n : Nat} {T : ct_T} {W B P : Nat → Nat → Int32} (hw : w ≤ 5) (hb : b ≤ 4) (hn : n ≤ 30) (h : RM w b n T W B P) (hK : KF n T) {dy bo ea : Int32} :
    RM w b n (s_X0_landBarges w b n T) W (p6_B w b n dy bo ea W B P) (p6_P w b n dy bo ea W B P) ∧ SW (s_X0_landBarges w b n T) T ∧ KF n (s_X0_landBarges w b n T) ∧ BQ b n (s_X0_landBarges w b n T) ∧ ∀ p, p < n → ct_wh T p = 2 → ct_wh (s_X0_landBarges w b n T) p = 2 := by
  have h0 : LB w b n T W 0 (lpf (f_X0_landBarges_2 w b n T) w 0 T) (B, P) := by
    have H := lpf_inv (fun i Q => RM w b n Q W B P ∧ SW Q T ∧ (∀ k, k < i → ct_fr Q k = ct_pl Q k - nI (cn (iw Q k) n)) ∧ ct_wh Q = ct_wh T) (f_X0_landBarges_2 w b n T) w T ⟨h, ⟨C3.rf T, rfl, rfl, rfl⟩, fun k hk => absurd hk (Nat.not_lt_zero k), rfl⟩ (fun i Q hi hQ => by
      unfold f_X0_landBarges_2 r_X0_freeIn
      rw [cl (show i < 30 by omega), r_countAt hn]
      refine ⟨hQ.1, hQ.2.1, fun k hk => ?_, hQ.2.2.2⟩
      show upd (ct_fr Q) i (ct_pl Q i - nI (cn (iw Q i) n)) k = ct_pl Q k - nI (cn (iw Q k) n)
      by_cases hki : k = i
      · subst hki; rw [u_eq]
      · rw [u_ne _ hki]; exact hQ.2.2.1 k (by omega))
    obtain ⟨a1, a2, a3, a4⟩ := H
    refine ⟨a1, a2, a3, fun p hp => ?_, fun p hp z => by rw [a4]; exact z, fun i hi => absurd hi (Nat.not_lt_zero i)⟩
    rw [a4, a2.2.1]; exact hK p hp
  have H : LB w b n T W b (s_X0_landBarges w b n T) (p6_B w b n dy bo ea W B P, p6_P w b n dy bo ea W B P) := by
    unfold s_X0_landBarges p6_B p6_P
    exact lpf_two (fun x Q q => LB w b n T W x Q q) _ _ b _ _ h0 (fun x Q q hx hq => LB_step hw hb hn hx hq)
  obtain ⟨a1, a2, -, a4, a5, a6⟩ := H
  exact ⟨a1, a2, a4, fun i hi hti p hp hz => a6 i hi hi hti p hp hz, a5⟩
/-- THE RELATION of the class's town and the law's, between the days -/
def DI (w b n k : Nat) (T : ct_T) (S : sm_T) : Prop :=
  RM w b n T (sm_W S) (sm_B S) (sm_P S) ∧ KF n T ∧ BQ b n T ∧ ct_day T = sm_dy S ∧ ct_bo T = nI k ∧ ct_ea T = sm_ea S
theorem day_ok {w b n k : Nat} {T : ct_T} {S : sm_T} (hw : w ≤ 5) (hb : b ≤ 4) (hn : n ≤ 30) (hk : k ≤ 60) (h : DI w b n k T S) {T0 : ct_T} {x i : Nat} (T' : ct_T) (hT' : T' = f_X0_liveDays_2 w b n T0 x i T) :
    DI w b n k T' (sp_day w b n (nI k) S) ∧ (∀ p, p < n → near (ct_fe T p) (ct_fe T' p)) ∧ ct_ea T' = ct_ea T + nI (min (c1 T n) k) ∧ sI (ct_hd T') n = sI (ct_hd T) n + nI (c1 T n - k) ∧ ∀ p, p < n → ct_wh T p = 2 → ct_wh T' p = 2 := by
  obtain ⟨dy, ea, W, B, P⟩ := S
  obtain ⟨hM, hK, hQ, hd, hbo, he⟩ := h
  have hd : ct_day T = dy := hd
  have he : ct_ea T = ea := he
  subst hd; subst he
  have hM : RM w b n T W B P := hM
  have A1 := st1 hw hn hk hM hbo (ct_day T) (ct_day T) (nI k) (sp_ea w b n (ct_day T) (nI k) (ct_ea T) W B P) _ rfl
  rw [hbo] at A1
  generalize hT2 : s_X0_changeFeversInWards w b n (s_X0_giveBowls w b n T) = T2 at A1
  obtain ⟨b1, ⟨b2, b3⟩, b4, b5, b6, ⟨b7, b8⟩, b9⟩ := A1
  have A2 := st2 (dy := ct_day T) (bo := nI k) (ea := sp_ea w b n (ct_day T) (nI k) (ct_ea T) W B P) (W0 := W) hb hn b1
  generalize hT3 : s_X0_bringBargesNearer w b n T2 = T3 at A2
  obtain ⟨d1, ⟨d2, d3, d4, d5⟩, d6⟩ := A2
  have A3 := st3 (dy := ct_day T) (bo := nI k) (ea := sp_ea w b n (ct_day T) (nI k) (ct_ea T) W B P) (B0 := sp_B3 w b n (ct_day T) (nI k) (ct_ea T) W B P) (P0 := sp_P3 w b n (ct_day T) (nI k) (ct_ea T) W B P) hw d1
  generalize hT4 : s_X0_ageStraw w b n T3 = T4 at A3
  obtain ⟨e1, ⟨e2, e3, e4, e5⟩, e6⟩ := A3
  have wh4 : ct_wh T4 = ct_wh T := e3.trans (d3.trans b7)
  have fe4 : ∀ p, p < n → ct_fe T4 p = ct_fe T2 p ∨ (ct_wh T p = 0 ∧ ct_fe T4 p = up1 (ct_fe T2 p)) := fun p hp => by
    rw [e6, ← b7]; exact d6 p hp
  have hK4 : KH n T4 := fun p hp => by
    rw [wh4]
    have hne : ∀ z, ct_wh T p = z → ¬ z = 1 → ¬ z = 0 → ct_fe T4 p = ct_fe T p := fun z hz h1 h0 => by
      rcases fe4 p hp with q | ⟨q, -⟩
      · rw [q]; exact (b9 p hp).1 (by rw [hz]; exact h1)
      · exact absurd (hz.symm.trans q) h0
    exact ⟨fun z => by rw [hne 2 z (by decide) (by decide)]; exact (hK p hp).2.1 z, fun z => by rw [hne 3 z (by decide) (by decide)]; exact (hK p hp).2.2 z⟩
  have A4 := st4 (dy := ct_day T) (bo := nI k) (ea := sp_ea w b n (ct_day T) (nI k) (ct_ea T) W B P) (W0 := sp_W w b n (ct_day T) (nI k) (ct_ea T) W B P) (B0 := sp_B3 w b n (ct_day T) (nI k) (ct_ea T) W B P) hw hn e1 hK4
  generalize hT5 : s_X0_leaveWards w b n T4 = T5 at A4
  obtain ⟨g1, ⟨g2, g3, g4, g5⟩, g6, g7⟩ := A4
  have A5 := st5 (dy := ct_day T) (bo := nI k) (ea := sp_ea w b n (ct_day T) (nI k) (ct_ea T) W B P) hw hb hn g1 g6
  generalize hT6 : s_X0_landBarges w b n T5 = T6 at A5
  obtain ⟨l1, ⟨l2, l3, l4, l5⟩, l6, l7, l8⟩ := A5
  have hT'2 : T' = cs_day T6 (ct_day T6 + 1) := by
    rw [hT']
    unfold f_X0_liveDays_2
    rw [hT2, hT3, hT4, hT5, hT6]
  subst hT'2
  have c3 : C3 T6 T2 := l2.tr (g2.tr (e2.tr d2))
  have fe6 : ct_fe T6 = ct_fe T4 := l3.trans g3
  have hd6 : ct_hd T6 = ct_hd T2 := l4.trans (g4.trans (e5.trans d5))
  refine ⟨⟨l1, l6, l7, ?_, ?_, ?_⟩, fun p hp => ?_, ?_, ?_, fun p hp hz => ?_⟩
  · show ct_day T6 + 1 = ct_day T + 1
    rw [c3.1, b2]
  · show ct_bo T6 = nI k
    rw [c3.2.1, b3]
  · show ct_ea T6 = sp_ea w b n (ct_day T) (nI k) (ct_ea T) W B P
    rw [c3.2.2, b4]; exact b5.symm
  · show near (ct_fe T p) (ct_fe T6 p)
    rw [fe6]
    rcases fe4 p hp with q | ⟨q1, q2⟩
    · rw [q]; exact (b9 p hp).2
    · rw [q2, (b9 p hp).1 (by rw [q1]; decide)]
      obtain ⟨kf, hkf, ef⟩ := hM.2.1 p hp
      rw [ef]; exact near_up hkf
  · show ct_ea T6 = _
    rw [c3.2.2, b4]
  · show sI (ct_hd T6) n = _
    rw [hd6, b6]
  · show ct_wh T6 p = 2
    exact l8 p hp (g7 p hp (by rw [wh4]; exact hz))
end PF
