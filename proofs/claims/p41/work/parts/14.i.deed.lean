/-! 14.i: pure: deeds done to both towns -/
section PI
/-- who is not there yet was never hungry -/
def FH (n : Nat) (T : ct_T) : Prop := ∀ q, n ≤ q → q < 30 → ct_hd T q = 0
theorem hd_gb {w b n : Nat} {T : ct_T} (hn : n ≤ 30) {q : Nat} (hq : n ≤ q) : ct_hd (s_X0_giveBowls w b n T) q = ct_hd T q := by
  unfold s_X0_giveBowls
  show ct_hd (lpf (f_X0_giveBowls_7 w b n T) w 0 (T, (ct_bo T))).1 q = ct_hd T q
  refine lpf_inv (fun _ (Q : ct_T × Int32) => ct_hd Q.1 q = ct_hd T q) _ w (T, ct_bo T) rfl (fun i Q hi hQ => ?_)
  unfold f_X0_giveBowls_7
  show ct_hd (lpf (f_X0_giveBowls_17 w b n T i Q) n 0 (Q.1, Q.2)).1 q = ct_hd T q
  refine lpf_inv (fun _ (A : ct_T × Int32) => ct_hd A.1 q = ct_hd T q) _ n (Q.1, Q.2) hQ (fun j A hj hA => ?_)
  obtain ⟨A, l⟩ := A
  have hA : ct_hd A q = ct_hd T q := hA
  rw [q_gb (show j < 30 by omega)]
  split
  · split
    · show upd (ct_hd A) j _ q = _
      rw [u_ne _ (show q ≠ j by omega)]; exact hA
    · exact hA
  · exact hA
theorem hd_chf {w b n : Nat} {T : ct_T} : ct_hd (s_X0_changeFeversInWards w b n T) = ct_hd T := by
  unfold s_X0_changeFeversInWards
  refine lpf_inv (fun _ Q => ct_hd Q = ct_hd T) _ w T rfl (fun i Q hi hQ => ?_)
  unfold f_X0_changeFeversInWards_2
  refine lpf_inv (fun _ Q' => ct_hd Q' = ct_hd T) _ n Q hQ (fun j Q' hj hQ' => ?_)
  unfold f_X0_changeFeversInWards_28
  (repeat' split) <;> exact hQ'
theorem hd_brn {w b n : Nat} {T : ct_T} : ct_hd (s_X0_bringBargesNearer w b n T) = ct_hd T := by
  unfold s_X0_bringBargesNearer
  refine lpf_inv (fun _ Q => ct_hd Q = ct_hd T) _ b T rfl (fun i Q hi hQ => ?_)
  unfold f_X0_bringBargesNearer_2
  split
  · exact hQ
  split
  · exact hQ
  unfold s_X0_spreadFever
  refine lpf_inv (fun _ Q' => ct_hd Q' = ct_hd T) _ n _ hQ (fun j Q' hj hQ' => ?_)
  unfold f_X0_spreadFever_8
  (repeat' split) <;> exact hQ'
theorem hd_age {w b n : Nat} {T : ct_T} : ct_hd (s_X0_ageStraw w b n T) = ct_hd T := by
  unfold s_X0_ageStraw
  exact lpf_inv (fun _ Q => ct_hd Q = ct_hd T) _ w T rfl (fun i Q hi hQ => hQ)
theorem hd_lve {w b n : Nat} {T : ct_T} : ct_hd (s_X0_leaveWards w b n T) = ct_hd T := by
  unfold s_X0_leaveWards
  refine lpf_inv (fun _ Q => ct_hd Q = ct_hd T) _ n T rfl (fun i Q hi hQ => ?_)
  unfold f_X0_leaveWards_2
  (repeat' split) <;> exact hQ
theorem hd_tk {w b n : Nat} {T : ct_T} : ct_hd (s_X0_takeFirstFreePlace w b n T) = ct_hd T := by
  have H := lpx_inv (fun _ (Q : ct_T) => ct_hd Q = ct_hd T) (fun x : Int32 × ct_T => ct_hd x.2 = ct_hd T) (f_X0_takeFirstFreePlace_2 w b n T) w T rfl (fun j Q hj hQ => by
    unfold f_X0_takeFirstFreePlace_2
    split
    · exact ⟨fun x hx => (by cases hx), fun a' ha => (by cases ha; exact hQ)⟩
    · exact ⟨fun x hx => (by cases hx; exact hQ), fun a' ha => (by cases ha)⟩)
  unfold s_X0_takeFirstFreePlace
  cases hx : lpx (f_X0_takeFirstFreePlace_2 w b n T) w 0 T with
  | inl x => exact H.1 x hx
  | inr x => exact H.2 x hx
theorem hd_lnd {w b n : Nat} {T : ct_T} : ct_hd (s_X0_landBarges w b n T) = ct_hd T := by
  unfold s_X0_landBarges
  refine lpf_inv (fun _ Q => ct_hd Q = ct_hd T) _ b _ ?_ (fun i Q hi hQ => ?_)
  · exact lpf_inv (fun _ Q => ct_hd Q = ct_hd T) _ w T rfl (fun i Q hi hQ => hQ)
  have hl : ct_hd (s_X0_landAll w b n Q (nI i)) = ct_hd T := by
    unfold s_X0_landAll
    refine lpf_inv (fun _ (A : ct_T × Int32) => ct_hd A.1 = ct_hd T) _ n (Q, 1) hQ (fun j A hj hA => ?_)
    unfold f_X0_landAll_4
    split
    · exact hA
    split
    · exact hA
    split
    · exact hd_tk.trans hA
    · exact hd_tk.trans hA
  unfold f_X0_landBarges_29
  split
  · split
    · exact hl
    · exact hl
  · exact hQ
theorem day_hd {w b n : Nat} {T T0 : ct_T} {x i : Nat} (hn : n ≤ 30) {q : Nat} (hq : n ≤ q) : ct_hd (f_X0_liveDays_2 w b n T0 x i T) q = ct_hd T q := by
  unfold f_X0_liveDays_2
  show ct_hd (s_X0_landBarges w b n _) q = _
  rw [hd_lnd, hd_lve, hd_age, hd_brn, hd_chf, hd_gb hn hq]
theorem FH_days {w b n : Nat} {T : ct_T} (hn : n ≤ 30) (h : FH n T) (d : Nat) : FH n (s_X0_liveDays w b n T d) := by
  intro q hq h30
  unfold s_X0_liveDays
  exact lpf_inv (fun _ Q => ct_hd Q q = 0) _ d T (h q hq h30) (fun j Q hj hQ => (day_hd hn hq).trans hQ)
/-- someone new, aboard barge i -/
theorem DI_new {w b n k : Nat} {T T' : ct_T} {S : sm_T} {B : Nat → Nat → Int32} {r : Nat → Int32} {i f : Nat} (hb : b ≤ 4) (hn : n < 30) (h : DI w b n k T S) (hH : ct_hd T n = 0) (hi : i < b) (hf : f ≤ 10)
    (r0 : r 0 = nI f) (r1 : r 1 = -1) (r2 : r 2 = nI i) (r3 : r 3 = 0) (r4 : r 4 = 0) (r5 : r 5 = 0)
    (s1 : C3 T' T) (s2 : ct_pl T' = ct_pl T ∧ ct_st T' = ct_st T ∧ ct_ke T' = ct_ke T ∧ ct_hd T' = ct_hd T) (s3 : ct_fe T' = upd (ct_fe T) n (nI f)) (s4 : ct_wh T' = upd (ct_wh T) n 0) (s5 : ct_nu T' = upd (ct_nu T) n (nI i))
    (s6 : ∀ j, j < b → ct_ke T j = B j 0 ∧ ct_to T' j = B j 1) (s7 : BG b T') (s8 : ¬ ct_to T' i = 0) (s9 : ∀ j, j ≠ i → ct_to T' j = ct_to T j) :
    DI w b (n + 1) k T' (sm_dy S, sm_ea S, sm_W S, B, sr (sm_P S) n r) := by
  obtain ⟨⟨⟨x1, x2, x3⟩, hF, hC, hG⟩, hK, hQ, d1, d2, d3⟩ := h
  obtain ⟨t1, t2, t3, t4⟩ := s2
  refine ⟨⟨⟨fun j hj => ?_, fun j hj => ?_, fun p hp => ?_⟩, fun p hp => ?_, fun j hj => ?_, s7⟩, fun p hp => ?_, fun j hj hz p hp => ?_, s1.1.trans d1, s1.2.1.trans d2, s1.2.2.trans d3⟩
  · rw [t1, t2]; exact x1 j hj
  · rw [t3]; exact s6 j hj
  · show ct_fe T' p = sr (sm_P S) n r p 0 ∧ ct_hd T' p = sr (sm_P S) n r p 5 ∧ PL w b (ct_wh T' p) (ct_nu T' p) (sr (sm_P S) n r p 1) (sr (sm_P S) n r p 2) (sr (sm_P S) n r p 3) (sr (sm_P S) n r p 4)
    rw [s3, s4, s5, t4]
    by_cases hpn : p = n
    · subst hpn
      rw [sr_eq, u_eq, u_eq, u_eq, r0, r1, r2, r3, r4, r5]
      exact ⟨rfl, hH, Or.inr (Or.inl ⟨rfl, i, hi, rfl, rfl, rfl, rfl, rfl⟩)⟩
    · rw [sr_ne _ _ hpn, u_ne _ hpn, u_ne _ hpn, u_ne _ hpn]; exact x3 p (by omega)
  · rw [s3]
    by_cases hpn : p = n
    · subst hpn; rw [u_eq]; exact ⟨f, hf, rfl⟩
    · rw [u_ne _ hpn]; exact hF p (by omega)
  · rw [t1]
    obtain ⟨c, e1, e2, e3⟩ := hC j hj
    refine ⟨c, e1, e2, ?_⟩
    show cn (iw T' j) n + (if iw T' j n = true then 1 else 0) ≤ c
    have h1 : iw T' j n = false := decide_eq_false (fun z => by rw [s4, u_eq] at z; exact absurd z.1 (by decide))
    have h2 : cn (iw T' j) n = cn (iw T j) n := cn_congr (fun q hq => by
      unfold iw
      rw [s4, s5, u_ne _ (show q ≠ n by omega), u_ne _ (show q ≠ n by omega)])
    rw [h1, h2]; exact e3
  · rw [s3, s4]
    by_cases hpn : p = n
    · subst hpn; rw [u_eq]
      exact ⟨fun z => absurd z (by decide), fun z => absurd z (by decide), fun z => absurd z (by decide)⟩
    · rw [u_ne _ hpn, u_ne _ hpn]; exact hK p (by omega)
  · rw [s4, s5]
    by_cases hji : j = i
    · subst hji; exact absurd hz s8
    · rw [s9 j hji] at hz
      by_cases hpn : p = n
      · subst hpn; rw [u_eq, u_eq]
        exact fun _ z => hji ((nI_eq (by omega) (by omega)).mp z).symm
      · rw [u_ne _ hpn, u_ne _ hpn]; exact hQ j hj hz p (by omega)
theorem op_full {w b : Nat} {T : ct_T} {w2 b2 n2 : Nat} {T2 : ct_T} (hb : b ≤ 4) {i f : Nat} (hi : i < b) (hf : f ≤ 9) : e_X1_board w b 30 T w2 b2 n2 T2 (nI i) (nI f) = 2 := by
  unfold e_X1_board
  rw [ckB hb hi, if_pos rfl, if_neg (nI_pos (by omega)), if_pos (show nI f ≤ 9 from (nI_leI (a := f) (b := 9) (by omega) (by decide)).mpr hf), if_neg (by decide)]
theorem op_board {w b n k : Nat} {T : ct_T} {S : sm_T} (hb : b ≤ 4) (hn : n < 30) (h : DI w b n k T S) (hH : FH n T) {i f : Nat} (hi : i < b) (hf : f ≤ 9) {w2 b2 n2 : Nat} {T2 : ct_T} {r : Nat → Int32} (r0 : r 0 = nI f) (r1 : r 1 = -1) (r2 : r 2 = nI i) (r3 : r 3 = 0) (r4 : r 4 = 0) (r5 : r 5 = 0) :
    e_X1_board w b n T w2 b2 n2 T2 (nI i) (nI f) = 0 ∧ r_X1_board w b n T w2 b2 n2 T2 (nI i) (nI f) = nI n ∧ DI w b (n + 1) k (s_X1_board w b n T w2 b2 n2 T2 (nI i) (nI f)) (sm_dy S, sm_ea S, sm_W S, (if sm_B S i 1 = 0 then ur (sm_B S) i 1 (sm_B S i 0) else sm_B S), sr (sm_P S) n r) ∧ FH (n + 1) (s_X1_board w b n T w2 b2 n2 T2 (nI i) (nI f)) := by
  have c1 : ¬ nI f < 0 := nI_pos (by omega)
  have c2 : nI f ≤ 9 := (nI_leI (a := f) (b := 9) (by omega) (by decide)).mpr hf
  have c3 : nI n < 30 := (nI_ltI (a := n) (b := 30) (by omega) (by decide)).mpr hn
  have hG := h.1.2.2.2
  obtain ⟨k9, j, g1, g2, g3, g4, g5⟩ := hG i hi
  have hB := h.1.1.2.1
  unfold e_X1_board r_X1_board s_X1_board
  rw [ckB hb hi]
  simp only [if_pos, if_neg c1, if_pos c2, if_pos c3]
  have hto : ct_to (s_X0_move w b n (cs_fe T (upd (ct_fe T) (nI n).toNatClampNeg (nI f))) (nI n) 0 (nI i)) = ct_to T := rfl
  have hke : ct_ke (s_X0_move w b n (cs_fe T (upd (ct_fe T) (nI n).toNatClampNeg (nI f))) (nI n) 0 (nI i)) = ct_ke T := rfl
  refine ⟨trivial, ?_, ?_, ?_⟩
  · unfold r_X0_takeAboard; split <;> rfl
  · unfold s_X0_takeAboard
    rw [hto, hke, cl (show i < 30 by omega)]
    by_cases hz : ct_to T i = 0
    · rw [if_pos hz, if_pos (by rw [← (hB i hi).2]; exact hz)]
      refine DI_new (i := i) (f := f) hb hn h (hH n (Nat.le_refl n) hn) hi (by omega) r0 r1 r2 r3 r4 r5 ⟨rfl, rfl, rfl⟩ ⟨rfl, rfl, rfl, rfl⟩ ?_ ?_ ?_ (fun q hq => ?_) (fun q hq => ?_) ?_ (fun q hqi => ?_)
      · show upd (ct_fe T) (nI n).toNatClampNeg (nI f) = _
        rw [cl hn]
      · show upd (ct_wh T) (nI n).toNatClampNeg 0 = _
        rw [cl hn]
      · show upd (ct_nu T) (nI n).toNatClampNeg (nI i) = _
        rw [cl hn]
      · show ct_ke T q = ur (sm_B S) i 1 (sm_B S i 0) q 0 ∧ upd (ct_to T) i (ct_ke T i) q = ur (sm_B S) i 1 (sm_B S i 0) q 1
        by_cases hqi : q = i
        · subst hqi
          rw [ur_eq, u_eq, u_eq, u_ne _ (by decide)]
          exact ⟨(hB q hq).1, (hB q hq).1⟩
        · rw [ur_ne _ _ _ hqi, u_ne _ hqi]; exact hB q hq
      · show ∃ k j, ct_ke T q = nI k ∧ 1 ≤ k ∧ k ≤ 9 ∧ upd (ct_to T) i (ct_ke T i) q = nI j ∧ j ≤ k
        by_cases hqi : q = i
        · subst hqi
          rw [u_eq]; exact ⟨k9, k9, g1, g2, g3, g1, Nat.le_refl _⟩
        · rw [u_ne _ hqi]; exact hG q hq
      · show ¬ upd (ct_to T) i (ct_ke T i) i = 0
        rw [u_eq, g1]
        exact fun z => absurd ((i_eq0 (by omega)).mp z) (by omega)
      · exact u_ne _ hqi _
    · rw [if_neg hz, if_neg (by rw [← (hB i hi).2]; exact hz)]
      refine DI_new (i := i) (f := f) hb hn h (hH n (Nat.le_refl n) hn) hi (by omega) r0 r1 r2 r3 r4 r5 ⟨rfl, rfl, rfl⟩ ⟨rfl, rfl, rfl, rfl⟩ ?_ ?_ ?_ hB hG hz (fun q hqi => rfl)
      · show upd (ct_fe T) (nI n).toNatClampNeg (nI f) = _
        rw [cl hn]
      · show upd (ct_wh T) (nI n).toNatClampNeg 0 = _
        rw [cl hn]
      · show upd (ct_nu T) (nI n).toNatClampNeg (nI i) = _
        rw [cl hn]
  · unfold s_X0_takeAboard
    split <;> exact fun q hq h30 => hH q (by omega) h30
theorem op_bowls {w b n k k' : Nat} {T : ct_T} {S : sm_T} (h : DI w b n k T S) (hH : FH n T) (hk : k' ≤ 60) {w2 b2 n2 : Nat} {T2 : ct_T} :
    e_X1_setBowls w b n T w2 b2 n2 T2 (nI k') = 0 ∧ r_X1_setBowls w b n T w2 b2 n2 T2 (nI k') = nI k ∧ DI w b n k' (s_X1_setBowls w b n T w2 b2 n2 T2 (nI k')) S ∧ FH n (s_X1_setBowls w b n T w2 b2 n2 T2 (nI k')) := by
  have c1 : ¬ nI k' < 0 := nI_pos (by omega)
  have c2 : nI k' ≤ 60 := (nI_leI (a := k') (b := 60) (by omega) (by decide)).mpr hk
  unfold e_X1_setBowls r_X1_setBowls s_X1_setBowls
  rw [if_neg c1, if_neg c1, if_neg c1, if_pos c2, if_pos c2, if_pos c2]
  exact ⟨rfl, h.2.2.2.2.1, ⟨h.1, h.2.1, h.2.2.1, h.2.2.2.1, rfl, h.2.2.2.2.2⟩, hH⟩
theorem op_straw {w b n k : Nat} {T : ct_T} {S : sm_T} (hw : w ≤ 5) (h : DI w b n k T S) (hH : FH n T) {i : Nat} (hi : i < w) {w2 b2 n2 : Nat} {T2 : ct_T} :
    e_X1_layStraw w b n T w2 b2 n2 T2 (nI i) = 0 ∧ r_X1_layStraw w b n T w2 b2 n2 T2 (nI i) = sm_W S i 1 ∧ DI w b n k (s_X1_layStraw w b n T w2 b2 n2 T2 (nI i)) (sm_dy S, sm_ea S, ur (sm_W S) i 1 0, sm_B S, sm_P S) ∧ FH n (s_X1_layStraw w b n T w2 b2 n2 T2 (nI i)) := by
  unfold e_X1_layStraw r_X1_layStraw s_X1_layStraw
  rw [ckW hw hi, if_pos rfl, if_pos rfl, if_pos rfl, cl (show i < 30 by omega)]
  obtain ⟨⟨⟨x1, x2, x3⟩, hF, hC, hG⟩, hK, hQ, d1, d2, d3⟩ := h
  refine ⟨rfl, (x1 i hi).2, ⟨⟨⟨fun j hj => ?_, x2, x3⟩, hF, hC, hG⟩, hK, hQ, d1, d2, d3⟩, hH⟩
  show ct_pl T j = ur (sm_W S) i 1 0 j 0 ∧ upd (ct_st T) i 0 j = ur (sm_W S) i 1 0 j 1
  by_cases hji : j = i
  · subst hji
    rw [ur_eq, u_eq, u_eq, u_ne _ (by decide)]
    exact ⟨(x1 j hj).1, rfl⟩
  · rw [ur_ne _ _ _ hji, u_ne _ hji]; exact x1 j hj
theorem pw_m1 {w b : Nat} {x y u v s t : Int32} (hw : w ≤ 5) (h : PL w b x y u v s t) : u = -1 ↔ u < 0 := by
  rcases h with ⟨rfl, k, hk, rfl, rfl, -⟩ | ⟨rfl, k, hk, rfl, rfl, -⟩ | ⟨rfl, rfl, -⟩ | ⟨rfl, rfl, -⟩
  · exact ⟨fun z => absurd z.symm (m1_ne (by omega)), fun z => absurd z (nI_pos (by omega))⟩
  · exact ⟨fun _ => by decide, fun _ => rfl⟩
  · exact ⟨fun _ => by decide, fun _ => rfl⟩
  · exact ⟨fun _ => by decide, fun _ => rfl⟩
theorem free_0 {w b n : Nat} {T : ct_T} {W B P : Nat → Nat → Int32} (hn : n ≤ 30) (hw : w ≤ 5) (hX : RX w b n T W B P) (hC : CP w n T) {i : Nat} (hi : i < w) : r_X0_freeIn w b n T (nI i) = 0 ↔ ¬ nI (cn (iw T i) n) < W i 0 := by
  unfold r_X0_freeIn
  obtain ⟨c, e1, e2, e3⟩ := hC i hi
  rw [r_countAt hn, cl (show i < 30 by omega), ← (hX.1 i hi).1, e1, i_sub e3, nI_ltI (by omega) (by omega), i_eq0 (by omega)]
  omega
theorem op_carryn {w b n k : Nat} {T : ct_T} {S : sm_T} (hw : w ≤ 5) (hn : n ≤ 30) (h : DI w b n k T S) {p i : Nat} (hp : p < n) (hi : i < w) (hz : sm_P S p 1 < 0 ∨ sm_P S p 1 = nI i ∨ ¬ nI (cn (iw T i) n) < sm_W S i 0) {w2 b2 n2 : Nat} {T2 : ct_T} : e_X1_carry w b n T w2 b2 n2 T2 (nI p) (nI i) = 2 := by
  have hX := h.1.1
  unfold e_X1_carry
  rw [ckP hn hp, if_pos rfl, ckW hw hi, if_pos rfl, v_nw hn hX hp]
  rcases hz with z | z | z
  · rw [if_pos ((pw_m1 hw (hX.2.2 p hp).2.2).mpr z)]
  · rw [if_pos z]; split <;> rfl
  · rw [if_pos ((free_0 hn hw hX h.1.2.2.1 hi).mpr z)]; (repeat' split) <;> rfl
theorem op_carry {w b n k : Nat} {T : ct_T} {S : sm_T} (hw : w ≤ 5) (hn : n ≤ 30) (h : DI w b n k T S) (hH : FH n T) {p i : Nat} (hp : p < n) (hi : i < w) (z1 : ¬ sm_P S p 1 < 0) (z2 : ¬ sm_P S p 1 = nI i) (z3 : nI (cn (iw T i) n) < sm_W S i 0) {w2 b2 n2 : Nat} {T2 : ct_T} :
    e_X1_carry w b n T w2 b2 n2 T2 (nI p) (nI i) = 0 ∧ r_X1_carry w b n T w2 b2 n2 T2 (nI p) (nI i) = sm_P S p 1 ∧ DI w b n k (s_X1_carry w b n T w2 b2 n2 T2 (nI p) (nI i)) (sm_dy S, sm_ea S, sm_W S, sm_B S, ur (sm_P S) p 1 (nI i)) ∧ FH n (s_X1_carry w b n T w2 b2 n2 T2 (nI p) (nI i)) := by
  have hX := h.1.1
  have y1 : ¬ sm_P S p 1 = -1 := fun z => z1 ((pw_m1 hw (hX.2.2 p hp).2.2).mp z)
  have y3 : ¬ r_X0_freeIn w b n T (nI i) = 0 := fun z => (free_0 hn hw hX h.1.2.2.1 hi).mp z z3
  have hwh : ct_wh T p = 1 := (PL_in hw (hX.2.2 p hp).2.2).mpr (Int32.not_lt.mp z1)
  unfold e_X1_carry r_X1_carry s_X1_carry
  rw [ckP hn hp, ckW hw hi, v_nw hn hX hp]
  simp only [if_pos, if_neg y1, if_neg z2, if_neg y3]
  refine ⟨trivial, trivial, ?_, hH⟩
  have hp30 : p < 30 := by omega
  obtain ⟨hM, hK, hQ, d1, d2, d3⟩ := h
  refine ⟨⟨?_, hM.2.1, ?_, hM.2.2.2⟩, fun q hq => ?_, fun j hj hz q hq => ?_, d1, d2, d3⟩
  · rcases (hX.2.2 p hp).2.2 with ⟨e1, j, e2, e3, e4, e5, e6, e7⟩ | ⟨e1, -⟩ | ⟨e1, -⟩ | ⟨e1, -⟩
    · exact RX_mv (r := upd (sm_P S p) 1 (nI i)) hX hp30 (u_ne _ (by decide) _) (u_ne _ (by decide) _) (Or.inl ⟨rfl, i, hi, rfl, u_eq _ _ _, (u_ne _ (by decide) _).trans e5, (u_ne _ (by decide) _).trans e6, (u_ne _ (by decide) _).trans e7⟩)
    · exact absurd (hwh.symm.trans e1) (by decide)
    · exact absurd (hwh.symm.trans e1) (by decide)
    · exact absurd (hwh.symm.trans e1) (by decide)
  · refine CP_mv hM.2.2.1 hp30 (fun j hj _ hy => ?_)
    have hji : i = j := (nI_eq (by omega) (by omega)).mp hy
    subst hji
    obtain ⟨c, e1, e2, e3⟩ := hM.2.2.1 i hi
    refine ⟨c, e1, e2, ?_⟩
    rw [← (hX.1 i hi).1, e1] at z3
    exact (nI_ltI (by omega) (by omega)).mp z3
  · show (ct_wh (s_X0_move w b n T (nI p) 1 (nI i)) q = 1 → ¬ ct_fe T q = 0) ∧ (ct_wh (s_X0_move w b n T (nI p) 1 (nI i)) q = 2 → ct_fe T q = 0) ∧ (ct_wh (s_X0_move w b n T (nI p) 1 (nI i)) q = 3 → ct_fe T q = 10)
    rw [(wh_mv hp30 q).1]
    by_cases hqp : q = p
    · subst hqp; rw [if_pos rfl]
      exact ⟨fun _ => (hK q hq).1 hwh, fun z => absurd z (by decide), fun z => absurd z (by decide)⟩
    · rw [if_neg hqp]; exact hK q hq
  · rw [(wh_mv hp30 q).1, (wh_mv hp30 q).2]
    by_cases hqp : q = p
    · rw [if_pos hqp]; exact fun z => absurd z (by decide)
    · rw [if_neg hqp, if_neg hqp]; exact hQ j hj hz q hq
theorem op_pass {w b n k : Nat} {T : ct_T} {S : sm_T} (hw : w ≤ 5) (hb : b ≤ 4) (hn : n ≤ 30) (hk : k ≤ 60) (h : DI w b n k T S) (hH : FH n T) {d : Nat} (h1 : 1 ≤ d) (h2 : d ≤ 40) {w2 b2 n2 : Nat} {T2 : ct_T} :
    e_X1_pass w b n T w2 b2 n2 T2 (nI d) = 0 ∧ r_X1_pass w b n T w2 b2 n2 T2 (nI d) = nI (hc (sp_it w b n (nI k) S d) 3 n) - nI (hc S 3 n) ∧ DI w b n k (s_X1_pass w b n T w2 b2 n2 T2 (nI d)) (sp_it w b n (nI k) S d) ∧ FH n (s_X1_pass w b n T w2 b2 n2 T2 (nI d)) := by
  have H := (DI_days hw hb hn hk h d).1
  unfold e_X1_pass r_X1_pass s_X1_pass
  rw [ckD h1 h2, if_pos rfl, if_pos rfl, if_pos rfl, nI_clamp (by omega)]
  refine ⟨rfl, ?_, H, FH_days hn hH d⟩
  rw [v_count hn, v_count hn, DI_h2 H, DI_h2 h]
/-- wards and barges are opened before anyone comes -/
def FB (T : ct_T) : Prop := (∀ i, ct_st T i = 0) ∧ ∀ q, ct_hd T q = 0
theorem op_ward {w b k : Nat} {T : ct_T} {S : sm_T} (hw : w < 5) (h : DI w b 0 k T S) (hB : FB T) {c : Nat} (c1 : 1 ≤ c) (c8 : c ≤ 8) {r : Nat → Int32} (r0 : r 0 = nI c) (r1 : r 1 = 0) {w2 b2 n2 : Nat} {T2 : ct_T} :
    e_X1_addWard w b 0 T w2 b2 n2 T2 (nI c) = 0 ∧ r_X1_addWard w b 0 T w2 b2 n2 T2 (nI c) = nI w ∧ DI (w + 1) b 0 k (s_X1_addWard w b 0 T w2 b2 n2 T2 (nI c)) (sm_dy S, sm_ea S, sr (sm_W S) w r, sm_B S, sm_P S) ∧ FB (s_X1_addWard w b 0 T w2 b2 n2 T2 (nI c)) := by
  have y1 : ¬ nI c < 1 := fun z => absurd ((nI_ltI (a := c) (b := 1) (by omega) (by decide)).mp z) (by omega)
  have y2 : nI c ≤ 8 := (nI_leI (a := c) (b := 8) (by omega) (by decide)).mpr c8
  have y3 : nI w < 5 := (nI_ltI (a := w) (b := 5) (by omega) (by decide)).mpr hw
  unfold e_X1_addWard r_X1_addWard s_X1_addWard
  rw [if_neg y1, if_neg y1, if_neg y1, if_pos y2, if_pos y2, if_pos y2, if_pos y3, if_pos y3, if_pos y3]
  unfold r_X0_openWard s_X0_openWard
  rw [cl (show w < 30 by omega)]
  obtain ⟨⟨⟨x1, x2, x3⟩, hF, hC, hG⟩, hK, hQ, d1, d2, d3⟩ := h
  refine ⟨rfl, rfl, ⟨⟨⟨fun j hj => ?_, x2, fun p hp => absurd hp (Nat.not_lt_zero p)⟩, fun p hp => absurd hp (Nat.not_lt_zero p), fun j hj => ?_, hG⟩, fun p hp => absurd hp (Nat.not_lt_zero p), fun _ _ _ p hp => absurd hp (Nat.not_lt_zero p), d1, d2, d3⟩, hB⟩
  · show upd (ct_pl T) w (nI c) j = sr (sm_W S) w r j 0 ∧ ct_st T j = sr (sm_W S) w r j 1
    by_cases hjw : j = w
    · subst hjw; rw [sr_eq, u_eq, r0, r1]; exact ⟨rfl, hB.1 j⟩
    · rw [sr_ne _ _ hjw, u_ne _ hjw]; exact x1 j (by omega)
  · show ∃ k, upd (ct_pl T) w (nI c) j = nI k ∧ k ≤ 8 ∧ 0 ≤ k
    by_cases hjw : j = w
    · subst hjw; rw [u_eq]; exact ⟨c, rfl, c8, Nat.zero_le _⟩
    · rw [u_ne _ hjw]
      obtain ⟨c', e1, e2, e3⟩ := hC j (by omega)
      exact ⟨c', e1, e2, Nat.zero_le _⟩
theorem op_barge {w b k : Nat} {T : ct_T} {S : sm_T} (hb : b < 4) (h : DI w b 0 k T S) (hB : FB T) {c : Nat} (c1 : 1 ≤ c) (c9 : c ≤ 9) {r : Nat → Int32} (r0 : r 0 = nI c) (r1 : r 1 = nI c) {w2 b2 n2 : Nat} {T2 : ct_T} :
    e_X1_addBarge w b 0 T w2 b2 n2 T2 (nI c) = 0 ∧ r_X1_addBarge w b 0 T w2 b2 n2 T2 (nI c) = nI b ∧ DI w (b + 1) 0 k (s_X1_addBarge w b 0 T w2 b2 n2 T2 (nI c)) (sm_dy S, sm_ea S, sm_W S, sr (sm_B S) b r, sm_P S) ∧ FB (s_X1_addBarge w b 0 T w2 b2 n2 T2 (nI c)) := by
  have y1 : ¬ nI c < 1 := fun z => absurd ((nI_ltI (a := c) (b := 1) (by omega) (by decide)).mp z) (by omega)
  have y2 : nI c ≤ 9 := (nI_leI (a := c) (b := 9) (by omega) (by decide)).mpr c9
  have y3 : nI b < 4 := (nI_ltI (a := b) (b := 4) (by omega) (by decide)).mpr hb
  unfold e_X1_addBarge r_X1_addBarge s_X1_addBarge
  rw [if_neg y1, if_neg y1, if_neg y1, if_pos y2, if_pos y2, if_pos y2, if_pos y3, if_pos y3, if_pos y3]
  unfold r_X0_openBarge s_X0_openBarge
  rw [cl (show b < 30 by omega)]
  obtain ⟨⟨⟨x1, x2, x3⟩, hF, hC, hG⟩, hK, hQ, d1, d2, d3⟩ := h
  refine ⟨rfl, rfl, ⟨⟨⟨x1, fun j hj => ?_, fun p hp => absurd hp (Nat.not_lt_zero p)⟩, fun p hp => absurd hp (Nat.not_lt_zero p), hC, fun j hj => ?_⟩, fun p hp => absurd hp (Nat.not_lt_zero p), fun _ _ _ p hp => absurd hp (Nat.not_lt_zero p), d1, d2, d3⟩, hB⟩
  · show upd (ct_ke T) b (nI c) j = sr (sm_B S) b r j 0 ∧ upd (ct_to T) b (nI c) j = sr (sm_B S) b r j 1
    by_cases hjb : j = b
    · subst hjb; rw [sr_eq, u_eq, u_eq, r0, r1]; exact ⟨rfl, rfl⟩
    · rw [sr_ne _ _ hjb, u_ne _ hjb, u_ne _ hjb]; exact x2 j (by omega)
  · show ∃ k q, upd (ct_ke T) b (nI c) j = nI k ∧ 1 ≤ k ∧ k ≤ 9 ∧ upd (ct_to T) b (nI c) j = nI q ∧ q ≤ k
    by_cases hjb : j = b
    · subst hjb; rw [u_eq, u_eq]; exact ⟨c, c, rfl, c1, c9, rfl, Nat.le_refl c⟩
    · rw [u_ne _ hjb, u_ne _ hjb]; exact hG j (by omega)
theorem DI_0 : DI 0 0 0 20 ct_0 (0, 0, zz0, zz0, zz0) ∧ FB ct_0 :=
  ⟨⟨⟨⟨fun i hi => absurd hi (Nat.not_lt_zero i), fun i hi => absurd hi (Nat.not_lt_zero i), fun i hi => absurd hi (Nat.not_lt_zero i)⟩, fun i hi => absurd hi (Nat.not_lt_zero i), fun i hi => absurd hi (Nat.not_lt_zero i), fun i hi => absurd hi (Nat.not_lt_zero i)⟩, fun i hi => absurd hi (Nat.not_lt_zero i), fun i hi => absurd hi (Nat.not_lt_zero i), rfl, rfl, rfl⟩, fun _ => rfl, fun _ => rfl⟩
end PI
