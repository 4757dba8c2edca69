/-! 14.j: pure: what the law's town adds up itself; a row more in a world; comparing -/
section PJ
def nS (P : Nat → Nat → Int32) (m i : Nat) : Nat → Nat
  | 0 => 0
  | j + 1 => nS P m i j + (if P j m = nI i then 1 else 0)
def fS (P : Nat → Nat → Int32) (i : Nat) : Nat → Int32
  | 0 => 0
  | j + 1 => fS P i j + (if P j 1 = nI i then P j 0 else 0)
def hS (P : Nat → Nat → Int32) (i : Nat) : Nat → Int32
  | 0 => 0
  | j + 1 => if P j 2 = nI i then (if hS P i j < P j 0 then P j 0 else hS P i j) else hS P i j
theorem nS_p {P : Nat → Nat → Int32} {m i j : Nat} (c : P j m = nI i) : nS P m i (j + 1) = nS P m i j + 1 := by
  show nS P m i j + (if P j m = nI i then 1 else 0) = _
  rw [if_pos c]
theorem nS_n {P : Nat → Nat → Int32} {m i j : Nat} (c : ¬ P j m = nI i) : nS P m i (j + 1) = nS P m i j := by
  show nS P m i j + (if P j m = nI i then 1 else 0) = _
  rw [if_neg c]; rfl
theorem fS_p {P : Nat → Nat → Int32} {i j : Nat} (c : P j 1 = nI i) : fS P i (j + 1) = fS P i j + P j 0 := by
  show fS P i j + (if P j 1 = nI i then P j 0 else 0) = _
  rw [if_pos c]
theorem fS_n {P : Nat → Nat → Int32} {i j : Nat} (c : ¬ P j 1 = nI i) : fS P i (j + 1) = fS P i j + 0 := by
  show fS P i j + (if P j 1 = nI i then P j 0 else 0) = _
  rw [if_neg c]
theorem hS_p {P : Nat → Nat → Int32} {i j : Nat} (c : P j 2 = nI i) : hS P i (j + 1) = (if hS P i j < P j 0 then P j 0 else hS P i j) := by
  show (if P j 2 = nI i then _ else _) = _
  rw [if_pos c]
theorem hS_n {P : Nat → Nat → Int32} {i j : Nat} (c : ¬ P j 2 = nI i) : hS P i (j + 1) = hS P i j := by
  show (if P j 2 = nI i then _ else _) = _
  rw [if_neg c]
theorem fS_ok {w b n : Nat} {T : ct_T} {W B P : Nat → Nat → Int32} (hw : w ≤ 5) (hX : RX w b n T W B P) {i : Nat} (hi : i < w) : fS P i n = fI T i n := by
  have H : ∀ m, m ≤ n → fS P i m = sI (fun q => if iw T i q = true then ct_fe T q else 0) m := by
    intro m
    induction m with
    | zero => intro _; rfl
    | succ m ih =>
      intro hm
      have h3 := hX.2.2 m (by omega)
      show fS P i m + (if P m 1 = nI i then P m 0 else 0) = sI _ m + (if iw T i m = true then ct_fe T m else 0)
      rw [ih (by omega)]
      congr 1
      have h4 : iw T i m = true ↔ P m 1 = nI i := decide_eq_true_iff.trans (PL_ward hw h3.2.2 hi)
      by_cases c : P m 1 = nI i
      · rw [if_pos c, if_pos (h4.mpr c), h3.1]
      · rw [if_neg c, if_neg (fun z => c (h4.mp z))]
  exact H n (Nat.le_refl n)
theorem nS_ok {w b n : Nat} {T : ct_T} {W B P : Nat → Nat → Int32} (hb : b ≤ 4) (hX : RX w b n T W B P) {i : Nat} (hi : i < b) : nS P 2 i n = cn (ob T i) n := by
  have H : ∀ m, m ≤ n → nS P 2 i m = cn (ob T i) m := by
    intro m
    induction m with
    | zero => intro _; rfl
    | succ m ih =>
      intro hm
      have h3 := hX.2.2 m (by omega)
      show nS P 2 i m + (if P m 2 = nI i then 1 else 0) = cn (ob T i) m + (if ob T i m = true then 1 else 0)
      rw [ih (by omega)]
      congr 1
      have h4 : ob T i m = true ↔ P m 2 = nI i := decide_eq_true_iff.trans (PL_barge hb h3.2.2 hi)
      by_cases c : P m 2 = nI i
      · rw [if_pos c, if_pos (h4.mpr c)]
      · rw [if_neg c, if_neg (fun z => c (h4.mp z))]
  exact H n (Nat.le_refl n)
theorem hS_ok {w b n : Nat} {T : ct_T} {W B P : Nat → Nat → Int32} (hb : b ≤ 4) (hX : RX w b n T W B P) {i : Nat} (hi : i < b) : hS P i n = hT T i n := by
  symm
  unfold hT
  refine lpf_inv (fun j (a : Int32) => a = hS P i j) _ n 0 rfl (fun j a hj ha => ?_)
  subst ha
  have h3 := hX.2.2 j hj
  have h4 : ob T i j = true ↔ P j 2 = nI i := decide_eq_true_iff.trans (PL_barge hb h3.2.2 hi)
  by_cases c : P j 2 = nI i
  · rw [hS_p c, if_pos (h4.mpr c), h3.1]
  · rw [hS_n c, if_neg (fun z => c (h4.mp z))]
theorem s01 {w b n : Nat} {T : ct_T} {W B P : Nat → Nat → Int32} (hX : RX w b n T W B P) {p : Nat} (hp : p < n) : (¬ P p 3 = 1 → P p 3 = 0) ∧ (¬ P p 4 = 1 → P p 4 = 0) :=
  ⟨fun z => (PL_home (hX.2.2 p hp).2.2).2.resolve_left (fun q => z ((PL_home (hX.2.2 p hp).2.2).1.mp q)), fun z => (PL_gh (hX.2.2 p hp).2.2).2.resolve_left (fun q => z ((PL_gh (hX.2.2 p hp).2.2).1.mp q))⟩
theorem mean_0 {w b n : Nat} {T : ct_T} {w2 b2 n2 : Nat} {T2 : ct_T} (hn : n ≤ 30) (h : nI (ch T 1 n) = 0) : r_X1_meanFever w b n T w2 b2 n2 T2 = FP.dconst0 := by
  unfold r_X1_meanFever
  rw [v_count hn, if_pos h]
theorem mean_p {w b n : Nat} {T : ct_T} {w2 b2 n2 : Nat} {T2 : ct_T} (hw : w ≤ 5) (hn : n ≤ 30) (h : ¬ nI (ch T 1 n) = 0) : r_X1_meanFever w b n T w2 b2 n2 T2 = FP.ddiv (FP.i2d (sI (fun j => fI T j n) w)) (FP.i2d (nI (ch T 1 n))) := by
  unfold r_X1_meanFever
  rw [v_count hn, if_neg h, lpf_sI (g := fun j => fI T j n) (fun j a hj => by
    unfold f_X1_meanFever_19
    rw [v_fi hn])]
theorem cmp_eq {x y : UInt64} (e : x = y) (h : FP.Core.val64 y ≠ .nan) : Op.cmpValue (FP.dcmp x y) .l = 0 := by
  subst e
  rw [FP.dcmp_core, FP.Core.dcmp_self h]
  rfl
theorem nn_div (x : Int32) {y : Int32} (h : ¬ y = 0) : FP.Core.val64 (FP.ddiv (FP.i2d x) (FP.i2d y)) ≠ .nan := by
  have h1 : FP.Core.dIsNaN (FP.Core.ddiv (FP.Core.i2d x) (FP.Core.i2d y)) = false := FP.Core.ddiv_out ((FP.Core.notNaN_iff _).mpr (FP.Core.i2d_fin x).ne_nan) (FP.Core.i2d_fin y) (fun z => FP.Core.i2d_ne_zero h ((FP.Core.zero_bits2 _).mp z))
  exact (FP.Core.notNaN_iff _).mp h1
theorem nn_0 : FP.Core.val64 FP.dconst0 ≠ .nan := by decide +kernel
/-- the same under another name (hc is what a walk calls its own) -/
abbrev hTT (T : ct_T) (i n : Nat) : Int32 := hT T i n
abbrev hz (S : sm_T) (m n : Nat) : Nat := hc S m n
theorem all_ok {w b n : Nat} {T : ct_T} {W B P : Nat → Nat → Int32} (hX : RX w b n T W B P) {dy bo ea : Int32} : r_X2_all w b n dy bo ea W B P 3 = nI (hz (dy, ea, W, B, P) 3 n) ∧ r_X2_all w b n dy bo ea W B P 4 = nI (hz (dy, ea, W, B, P) 4 n) := by
  have e3 : (3 : Int32).toNatClampNeg = 3 := by decide
  have e4 : (4 : Int32).toNatClampNeg = 4 := by decide
  constructor
  · refine lpf_cn (P := fun p => decide (P p 3 = 1)) (fun j a hj => ?_)
    unfold f_X2_all_14
    rw [e3]
    by_cases c : P j 3 = 1
    · rw [if_pos (decide_eq_true c), c]
    · rw [if_neg (fun z => c (of_decide_eq_true z)), (s01 hX hj).1 c]; grind
  · refine lpf_cn (P := fun p => decide (P p 4 = 1)) (fun j a hj => ?_)
    unfold f_X2_all_14
    rw [e4]
    by_cases c : P j 4 = 1
    · rw [if_pos (decide_eq_true c), c]
    · rw [if_neg (fun z => c (of_decide_eq_true z)), (s01 hX hj).2 c]; grind
section JR
variable {p : Program} {l : Launch} {e : Env} {R : Room} {s : State} {m : MethodId} {args : Array Value} {below : List Frame} {meth : Method} {c : Code} {H H0 : Heap} {locs : List Loc} {cells slots : Nat} {Q : State → Prop}
variable {cc : ByteArray} {pc : Nat} {ls : Array Slot} {rest : List Value}
theorem l_cmpE (hexec : p.tables.exec = Jvm.exec) (hb : c.code = cc) {x : Int64} (hdg : decode cc pc = .ok (.lcmp, 1))
    (k : W p l e R s m args below meth c H locs cells slots Q (F0 m (pc + 1) ls (.int 0 :: rest))) : W p l e R s m args below meth c H locs cells slots Q (F0 m pc ls (.long x :: .long x :: rest)) := by
  intro T hT X
  obtain ⟨t, a, b⟩ := k T hT X
  refine ⟨t, ?_, b⟩
  jvm_step X.here [X.here.top, hexec, hb, hdg]
  exact a
end JR
/-- a row at a row's end -/
theorem rw_succ {cI : ClassId} {k : Nat} {a : Nat → Nat} {f : Nat → Nat → Int32} {n o : Nat} {r : Nat → Int32} : rw_s cI k (ax a n o) (sr f n r) (n + 1) = rw_s cI k a f n ++ [(o, .inl (cI, k, .inl r))] := by
  unfold rw_s
  rw [List.range_succ, List.map_append]
  congr 1
  · refine List.map_congr_left (fun i hi => ?_)
    have h := List.mem_range.mp hi
    rw [sr_ne _ _ (show i ≠ n by omega), show ax a n o i = a i from if_neg (by omega)]
  · show [((ax a n o n, .inl (cI, k, .inl (sr f n r n))) : Nat × va_E)] = _
    rw [sr_eq, show ax a n o n = o from if_pos rfl]
theorem pm_3 {α : Type} (C L R M : List α) (x y z u o q : α) : (C ++ ([x, y, z, u] ++ (L ++ (R ++ (M ++ [o, q]))))).Perm ((C ++ ([x, y, z, q] ++ (L ++ (R ++ ((M ++ [o]) ++ []))))) ++ [u]) := by
  letI : DecidableEq α := fun x y => Classical.propDecidable (x = y)
  refine List.perm_iff_count.mpr (fun v => ?_)
  simp only [List.count_append, List.count_cons, List.count_nil]
  omega
theorem pm_2 {α : Type} (C L R M : List α) (x y z u o q : α) : (C ++ ([x, y, z, u] ++ (L ++ (R ++ (M ++ [o, q]))))).Perm ((C ++ ([x, y, q, u] ++ (L ++ ((R ++ [o]) ++ (M ++ []))))) ++ [z]) := by
  letI : DecidableEq α := fun x y => Classical.propDecidable (x = y)
  refine List.perm_iff_count.mpr (fun v => ?_)
  simp only [List.count_append, List.count_cons, List.count_nil]
  omega
theorem pm_1 {α : Type} (C L R M : List α) (x y z u o q : α) : (C ++ ([x, y, z, u] ++ (L ++ (R ++ (M ++ [o, q]))))).Perm ((C ++ ([x, q, z, u] ++ ((L ++ [o]) ++ (R ++ (M ++ []))))) ++ [y]) := by
  letI : DecidableEq α := fun x y => Classical.propDecidable (x = y)
  refine List.perm_iff_count.mpr (fun v => ?_)
  simp only [List.count_append, List.count_cons, List.count_nil]
  omega
/-- the addresses behind a new row -/
def zP (Z : sA) (n o q : Nat) : sA := (zh Z, fun i => if i = 5 then q else zy Z i, zw Z, zb Z, ax (zp Z) n o)
def zB (Z : sA) (b o q : Nat) : sA := (zh Z, fun i => if i = 4 then q else zy Z i, zw Z, ax (zb Z) b o, zp Z)
def zW (Z : sA) (w o q : Nat) : sA := (zh Z, fun i => if i = 3 then q else zy Z i, ax (zw Z) w o, zb Z, zp Z)
section JW
variable {D : va_G} {A : Nat → Prop} {H0 H : Heap} {locs : List Loc} {C : va_W} {Z : sA} {cI cL : ClassId} {w b n : Nat} {dy bo ea : Int32} {W B P : Nat → Nat → Int32} {o q : Nat} {r : Nat → Int32}
theorem sh_P (hw : Wo D A H0 (C ++ (ws_s Z cI cL w b n dy bo ea W B P [(o, .inl (cI, 6, .inl r)), (q, .inl (cL, n + 1, rf_s (ax (zp Z) n o)))]).set 0 (zh Z, .inr (2, (wf_s Z dy bo ea).set 5 (.ref q)))) H locs) : Wo D A H0 (C ++ ws_s (zP Z n o q) cI cL w b (n + 1) dy bo ea W B (sr P n r) []) H locs := by
  refine Wo.drop2 (X := [(zy Z 5, .inl (cL, n, rf_s (zp Z)))]) ?_
  have e : ws_s (zP Z n o q) cI cL w b (n + 1) dy bo ea W B (sr P n r) [] = [(zh Z, .inr (2, (wf_s Z dy bo ea).set 5 (.ref q))), (zy Z 3, .inl (cL, w, rf_s (zw Z))), (zy Z 4, .inl (cL, b, rf_s (zb Z))), (q, .inl (cL, n + 1, rf_s (ax (zp Z) n o)))] ++ (rw_s cI 2 (zw Z) W w ++ (rw_s cI 2 (zb Z) B b ++ ((rw_s cI 6 (zp Z) P n ++ [(o, .inl (cI, 6, .inl r))]) ++ []))) := by
    rw [← rw_succ]; rfl
  rw [e]
  exact hw.perm (pm_3 C _ _ _ _ _ _ _ _ _)
theorem sh_B (hw : Wo D A H0 (C ++ (ws_s Z cI cL w b n dy bo ea W B P [(o, .inl (cI, 2, .inl r)), (q, .inl (cL, b + 1, rf_s (ax (zb Z) b o)))]).set 0 (zh Z, .inr (2, (wf_s Z dy bo ea).set 4 (.ref q)))) H locs) : Wo D A H0 (C ++ ws_s (zB Z b o q) cI cL w (b + 1) n dy bo ea W (sr B b r) P []) H locs := by
  refine Wo.drop2 (X := [(zy Z 4, .inl (cL, b, rf_s (zb Z)))]) ?_
  have e : ws_s (zB Z b o q) cI cL w (b + 1) n dy bo ea W (sr B b r) P [] = [(zh Z, .inr (2, (wf_s Z dy bo ea).set 4 (.ref q))), (zy Z 3, .inl (cL, w, rf_s (zw Z))), (q, .inl (cL, b + 1, rf_s (ax (zb Z) b o))), (zy Z 5, .inl (cL, n, rf_s (zp Z)))] ++ (rw_s cI 2 (zw Z) W w ++ ((rw_s cI 2 (zb Z) B b ++ [(o, .inl (cI, 2, .inl r))]) ++ (rw_s cI 6 (zp Z) P n ++ []))) := by
    rw [← rw_succ]; rfl
  rw [e]
  exact hw.perm (pm_2 C _ _ _ _ _ _ _ _ _)
theorem sh_W (hw : Wo D A H0 (C ++ (ws_s Z cI cL w b n dy bo ea W B P [(o, .inl (cI, 2, .inl r)), (q, .inl (cL, w + 1, rf_s (ax (zw Z) w o)))]).set 0 (zh Z, .inr (2, (wf_s Z dy bo ea).set 3 (.ref q)))) H locs) : Wo D A H0 (C ++ ws_s (zW Z w o q) cI cL (w + 1) b n dy bo ea (sr W w r) B P []) H locs := by
  refine Wo.drop2 (X := [(zy Z 3, .inl (cL, w, rf_s (zw Z)))]) ?_
  have e : ws_s (zW Z w o q) cI cL (w + 1) b n dy bo ea (sr W w r) B P [] = [(zh Z, .inr (2, (wf_s Z dy bo ea).set 3 (.ref q))), (q, .inl (cL, w + 1, rf_s (ax (zw Z) w o))), (zy Z 4, .inl (cL, b, rf_s (zb Z))), (zy Z 5, .inl (cL, n, rf_s (zp Z)))] ++ ((rw_s cI 2 (zw Z) W w ++ [(o, .inl (cI, 2, .inl r))]) ++ (rw_s cI 2 (zb Z) B b ++ (rw_s cI 6 (zp Z) P n ++ []))) := by
    rw [← rw_succ]; rfl
  rw [e]
  exact hw.perm (pm_1 C _ _ _ _ _ _ _ _ _)
end JW
end PJ
