/-! 12.d: the law's own town as a world: its object, three rows of rows, and the rows -/
section SD
/-- row i of f gets v at k -/
def ur (f : Nat → Nat → Int32) (i k : Nat) (v : Int32) : Nat → Nat → Int32 := fun j => if j = i then upd (f i) k v else f j
/-- the addresses: the object, its three rows of rows, the rows -/
abbrev sA : Type := Nat × (Nat → Nat) × (Nat → Nat) × (Nat → Nat) × (Nat → Nat)
def zh (Z : sA) : Nat := Z.1
def zy (Z : sA) : Nat → Nat := Z.2.1
def zw (Z : sA) : Nat → Nat := Z.2.2.1
def zb (Z : sA) : Nat → Nat := Z.2.2.2.1
def zp (Z : sA) : Nat → Nat := Z.2.2.2.2
def rw_s (cI : ClassId) (k : Nat) (a : Nat → Nat) (f : Nat → Nat → Int32) (n : Nat) : va_W := (List.range n).map (fun i => (a i, .inl (cI, k, .inl (f i))))
abbrev rf_s (a : Nat → Nat) : (Nat → Int32) ⊕ (Nat → Int64) ⊕ (Nat → UInt32) ⊕ (Nat → UInt64) ⊕ (Nat → Option Nat) := .inr (.inr (.inr (.inr (fun i => some (a i)))))
def wf_s (Z : sA) (dy bo ea : Int32) : List Value := [.int dy, .int bo, .int ea, .ref (zy Z 3), .ref (zy Z 4), .ref (zy Z 5)]
def ws_s (Z : sA) (cI cL : ClassId) (w b n : Nat) (dy bo ea : Int32) (W B P : Nat → Nat → Int32) (E : va_W) : va_W := [(zh Z, .inr (2, wf_s Z dy bo ea)), (zy Z 3, .inl (cL, w, rf_s (zw Z))), (zy Z 4, .inl (cL, b, rf_s (zb Z))), (zy Z 5, .inl (cL, n, rf_s (zp Z)))] ++ (rw_s cI 2 (zw Z) W w ++ (rw_s cI 2 (zb Z) B b ++ (rw_s cI 6 (zp Z) P n ++ E)))
theorem rw_len {cI : ClassId} {k : Nat} {a : Nat → Nat} {f : Nat → Nat → Int32} {n : Nat} : (rw_s cI k a f n).length = n := by simp [rw_s]
theorem rw_at {cI : ClassId} {k : Nat} {a : Nat → Nat} {f : Nat → Nat → Int32} {n i : Nat} (h : i < n) : (rw_s cI k a f n)[i]? = some (a i, .inl (cI, k, .inl (f i))) := by simp [rw_s, h]
theorem ap_get {α : Type} {X Y : List α} {c k : Nat} (h : X.length = c) : (X ++ Y)[c + k]? = Y[k]? := by
  subst h
  rw [List.getElem?_append_right (Nat.le_add_right _ _), Nat.add_sub_cancel_left]
theorem ap_get0 {α : Type} {X Y : List α} {k : Nat} (h : k < X.length) : (X ++ Y)[k]? = X[k]? := List.getElem?_append_left h
theorem ap_set {α : Type} {X Y Y' : List α} {c k : Nat} {x : α} (h : X.length = c) (hy : Y.set k x = Y') : (X ++ Y).set (c + k) x = X ++ Y' := by
  subst h; subst hy
  rw [List.set_append_right _ _ (Nat.le_add_right _ _), Nat.add_sub_cancel_left]
theorem ap_set0 {α : Type} {X X' Y : List α} {k : Nat} {x : α} (h : k < X.length) (hx : X.set k x = X') : (X ++ Y).set k x = X' ++ Y := by
  subst hx; exact List.set_append_left _ _ h
theorem ur_eq (f : Nat → Nat → Int32) (i k : Nat) (v : Int32) : ur f i k v i = upd (f i) k v := if_pos rfl
theorem ur_ne (f : Nat → Nat → Int32) {i j : Nat} (k : Nat) (v : Int32) (h : j ≠ i) : ur f i k v j = f j := if_neg h
theorem rw_set {cI : ClassId} {m : Nat} {a : Nat → Nat} {f : Nat → Nat → Int32} {n i k : Nat} {v : Int32} : (rw_s cI m a f n).set i (a i, .inl (cI, m, .inl (upd (f i) k v))) = rw_s cI m a (ur f i k v) n := by
  refine List.ext_getElem? (fun j => ?_)
  rw [List.getElem?_set]
  by_cases hj : j < n
  · by_cases hi : i = j
    · subst hi
      rw [if_pos rfl, if_pos (by rw [rw_len]; exact hj), rw_at hj, ur_eq]
    · rw [if_neg hi, rw_at hj, rw_at hj, ur_ne _ _ _ (fun z => hi z.symm)]
  · have h1 : (rw_s cI m a f n)[j]? = none := List.getElem?_eq_none (by rw [rw_len]; omega)
    have h2 : (rw_s cI m a (ur f i k v) n)[j]? = none := List.getElem?_eq_none (by rw [rw_len]; omega)
    rw [h2]
    by_cases hi : i = j
    · subst hi
      rw [if_pos rfl, if_neg (by rw [rw_len]; exact hj)]
    · rw [if_neg hi, h1]
theorem vp_lt {x : Int32} {n : Nat} (h : vp_in x n) : x.toNatClampNeg < n := Nat.not_le.mp fun q => h (Or.inr q)
section SE
variable {Z : sA} {cI cL : ClassId} {w b n : Nat} {dy bo ea : Int32} {W B P : Nat → Nat → Int32} {E : va_W}
theorem s_H : (ws_s Z cI cL w b n dy bo ea W B P E)[0]? = some (zh Z, .inr (2, wf_s Z dy bo ea)) := rfl
theorem s_Y3 : (ws_s Z cI cL w b n dy bo ea W B P E)[1]? = some (zy Z 3, .inl (cL, w, rf_s (zw Z))) := rfl
theorem s_Y4 : (ws_s Z cI cL w b n dy bo ea W B P E)[2]? = some (zy Z 4, .inl (cL, b, rf_s (zb Z))) := rfl
theorem s_Y5 : (ws_s Z cI cL w b n dy bo ea W B P E)[3]? = some (zy Z 5, .inl (cL, n, rf_s (zp Z))) := rfl
theorem s_W {i : Nat} (h : i < w) : (ws_s Z cI cL w b n dy bo ea W B P E)[4 + i]? = some (zw Z i, .inl (cI, 2, .inl (W i))) := by
  unfold ws_s
  rw [ap_get (c := 4) rfl, ap_get0 (by rw [rw_len]; exact h), rw_at h]
theorem s_B {i : Nat} (h : i < b) : (ws_s Z cI cL w b n dy bo ea W B P E)[4 + (w + i)]? = some (zb Z i, .inl (cI, 2, .inl (B i))) := by
  unfold ws_s
  rw [ap_get (c := 4) rfl, ap_get rw_len, ap_get0 (by rw [rw_len]; exact h), rw_at h]
theorem s_P {i : Nat} (h : i < n) : (ws_s Z cI cL w b n dy bo ea W B P E)[4 + (w + (b + i))]? = some (zp Z i, .inl (cI, 6, .inl (P i))) := by
  unfold ws_s
  rw [ap_get (c := 4) rfl, ap_get rw_len, ap_get rw_len, ap_get0 (by rw [rw_len]; exact h), rw_at h]
theorem s_E {k : Nat} : (ws_s Z cI cL w b n dy bo ea W B P E)[4 + (w + (b + (n + k)))]? = E[k]? := by
  unfold ws_s
  rw [ap_get (c := 4) rfl, ap_get rw_len, ap_get rw_len, ap_get rw_len]
theorem su_W {i k : Nat} {v : Int32} (h : i < w) : (ws_s Z cI cL w b n dy bo ea W B P E).set (4 + i) (zw Z i, .inl (cI, 2, .inl (upd (W i) k v))) = ws_s Z cI cL w b n dy bo ea (ur W i k v) B P E :=
  ap_set rfl (ap_set0 (by rw [rw_len]; exact h) rw_set)
theorem su_B {i k : Nat} {v : Int32} (h : i < b) : (ws_s Z cI cL w b n dy bo ea W B P E).set (4 + (w + i)) (zb Z i, .inl (cI, 2, .inl (upd (B i) k v))) = ws_s Z cI cL w b n dy bo ea W (ur B i k v) P E :=
  ap_set rfl (ap_set rw_len (ap_set0 (by rw [rw_len]; exact h) rw_set))
theorem su_P {i k : Nat} {v : Int32} (h : i < n) : (ws_s Z cI cL w b n dy bo ea W B P E).set (4 + (w + (b + i))) (zp Z i, .inl (cI, 6, .inl (upd (P i) k v))) = ws_s Z cI cL w b n dy bo ea W B (ur P i k v) E :=
  ap_set rfl (ap_set rw_len (ap_set rw_len (ap_set0 (by rw [rw_len]; exact h) rw_set)))
theorem su_E {k : Nat} {x : Nat × va_E} {E' : va_W} (h : E.set k x = E') : (ws_s Z cI cL w b n dy bo ea W B P E).set (4 + (w + (b + (n + k)))) x = ws_s Z cI cL w b n dy bo ea W B P E' :=
  ap_set rfl (ap_set rw_len (ap_set rw_len (ap_set rw_len h)))
theorem s_push {X : va_W} : ws_s Z cI cL w b n dy bo ea W B P E ++ X = ws_s Z cI cL w b n dy bo ea W B P (E ++ X) := by
  unfold ws_s
  simp only [List.append_assoc]
theorem su_0 {v : Int32} : (ws_s Z cI cL w b n dy bo ea W B P E).set 0 (zh Z, .inr (2, (wf_s Z dy bo ea).set 0 (.int v))) = ws_s Z cI cL w b n v bo ea W B P E := rfl
theorem su_1 {v : Int32} : (ws_s Z cI cL w b n dy bo ea W B P E).set 0 (zh Z, .inr (2, (wf_s Z dy bo ea).set 1 (.int v))) = ws_s Z cI cL w b n dy v ea W B P E := rfl
theorem su_2 {v : Int32} : (ws_s Z cI cL w b n dy bo ea W B P E).set 0 (zh Z, .inr (2, (wf_s Z dy bo ea).set 2 (.int v))) = ws_s Z cI cL w b n dy bo v W B P E := rfl
theorem sv_0 : (wf_s Z dy bo ea)[0]? = some (.int dy) := rfl
theorem sv_1 : (wf_s Z dy bo ea)[1]? = some (.int bo) := rfl
theorem sv_2 : (wf_s Z dy bo ea)[2]? = some (.int ea) := rfl
theorem sv_3 : (wf_s Z dy bo ea)[3]? = some (.ref (zy Z 3)) := rfl
theorem sv_4 : (wf_s Z dy bo ea)[4]? = some (.ref (zy Z 4)) := rfl
theorem sv_5 : (wf_s Z dy bo ea)[5]? = some (.ref (zy Z 5)) := rfl
end SE
theorem two_get {h : Nat} {a a2 : Nat → Nat} {cI cZ : ClassId} {w b n : Nat} {T : ct_T} {w2 b2 n2 : Nat} {T2 : ct_T} {Y : va_W} {q : Nat} {x : Nat × va_E} (hy : Y[q]? = some x) : (wb_c h a a2 cI cZ w b n T w2 b2 n2 T2 ++ Y)[23 + q]? = some x := (ap_get rfl).trans hy
theorem two_set {h : Nat} {a a2 : Nat → Nat} {cI cZ : ClassId} {w b n : Nat} {T : ct_T} {w2 b2 n2 : Nat} {T2 : ct_T} {Y Y' : va_W} {q : Nat} {x : Nat × va_E} (hy : Y.set q x = Y') : (wb_c h a a2 cI cZ w b n T w2 b2 n2 T2 ++ Y).set (23 + q) x = wb_c h a a2 cI cZ w b n T w2 b2 n2 T2 ++ Y' := ap_set rfl hy
/-- a loop of n turns with something that holds at its head -/
theorem lp_goI {α : Type} (G I : Nat → α → Prop) (f : Nat → α → α) (N : Nat) (a : α) (h0 : I 0 a) (hs : ∀ i a, i < N → I i a → I (i + 1) (f i a) ∧ (G (i + 1) (f i a) → G i a)) (he : I N (lpf f N 0 a) → G N (lpf f N 0 a)) : G 0 a := by
  have H : ∀ (n i : Nat) (a : α), i + n = N → I i a → (I N (lpf f n i a) → G N (lpf f n i a)) → G i a := by
    intro n
    induction n with
    | zero => intro i a h hi g; rw [Nat.add_zero] at h; subst h; exact g hi
    | succ n ih => intro i a h hi g; exact (hs i a (by omega) hi).2 (ih (i + 1) (f i a) (by omega) (hs i a (by omega) hi).1 g)
  exact H N 0 a (by omega) h0 he
/-- a loop whose state at turn i is told beforehand -/
theorem lp_go0 (G : Nat → Prop) (N : Nat) (hs : ∀ i, i < N → G (i + 1) → G i) (he : G N) : G 0 := by
  have H : ∀ (n i : Nat), i + n = N → G i := by
    intro n
    induction n with
    | zero => intro i h; rw [Nat.add_zero] at h; subst h; exact he
    | succ n ih => intro i h; exact hs i (by omega) (ih (i + 1) (by omega))
  exact H N 0 (by omega)
section SR
variable {p : Program} {l : Launch} {e : Env} {R : Room} {s : State} {m : MethodId} {args : Array Value} {below : List Frame} {meth : Method} {c : Code} {H H0 : Heap} {locs : List Loc} {cells slots : Nat} {Q : State → Prop}
variable {cc : ByteArray} {nL : Nat} {Ts : List Cond} {own : String} {ret : Option FieldType} {D : va_G} {cI cZ cL : ClassId} {A : Nat → Prop} {ws : va_W} {pc : Nat} {ls : Array Slot} {rest : List Value}
theorem r_ld (hc : Cx p s m args meth c cc nL Ts own ret D cI cZ cL A) (hw : Wo D A H0 ws H locs) {a n k : Nat} {f : Nat → Int32} {i : Int32} (q0 : Nat) (ha : ws[q0]? = some (a, .inl (cI, n, .inl f))) (hin : vp_in i n) (hk : i.toNatClampNeg = k) (hdg : decode cc pc = .ok (.iaload, 1))
    (kk : W p l e R s m args below meth c H locs cells slots Q (F0 m (pc + 1) ls (.int (f k) :: rest))) : W p l e R s m args below meth c H locs cells slots Q (F0 m pc ls (.int i :: .ref a :: rest)) := by
  subst hk
  exact g_iald hc hw q0 ha hin hdg kk
theorem z_ld (hc : Cx p s m args meth c cc nL Ts own ret D cI cZ cL A) (hw : Wo D A H0 ws H locs) {a n k : Nat} {f : Nat → Int32} {i : Int32} (q0 : Nat) (ha : ws[q0]? = some (a, .inl (cZ, n, .inl f))) (hin : vp_in i n) (hk : i.toNatClampNeg = k) (hdg : decode cc pc = .ok (.baload, 1))
    (kk : W p l e R s m args below meth c H locs cells slots Q (F0 m (pc + 1) ls (.int (f k) :: rest))) : W p l e R s m args below meth c H locs cells slots Q (F0 m pc ls (.int i :: .ref a :: rest)) := by
  subst hk
  exact g_zald hc hw q0 ha hin hdg kk
theorem r_st (hc : Cx p s m args meth c cc nL Ts own ret D cI cZ cL A) (hw : Wo D A H0 ws H locs) {a n k : Nat} {f : Nat → Int32} {i x : Int32} {w' : va_W} (q0 : Nat) (ha : ws[q0]? = some (a, .inl (cI, n, .inl f))) (hin : vp_in i n) (hk : i.toNatClampNeg = k) (hw' : ws.set q0 (a, .inl (cI, n, .inl (upd f k x))) = w') (hdg : decode cc pc = .ok (.iastore, 1))
    (kk : ∀ (H1 : Heap) (locs1 : List Loc), Wo D A H0 w' H1 locs1 → W p l e R s m args below meth c H1 locs1 cells slots Q (F0 m (pc + 1) ls rest)) : W p l e R s m args below meth c H locs cells slots Q (F0 m pc ls (.int x :: .int i :: .ref a :: rest)) := by
  subst hk
  exact g_iast hc hw q0 ha hin hw' hdg kk
theorem z_st (hc : Cx p s m args meth c cc nL Ts own ret D cI cZ cL A) (hw : Wo D A H0 ws H locs) {a n k : Nat} {f : Nat → Int32} {i x : Int32} {w' : va_W} (q0 : Nat) (ha : ws[q0]? = some (a, .inl (cZ, n, .inl f))) (hin : vp_in i n) (hk : i.toNatClampNeg = k) (hx1 : vp_nar .boolean x = x) (hw' : ws.set q0 (a, .inl (cZ, n, .inl (upd f k x))) = w') (hdg : decode cc pc = .ok (.bastore, 1))
    (kk : ∀ (H1 : Heap) (locs1 : List Loc), Wo D A H0 w' H1 locs1 → W p l e R s m args below meth c H1 locs1 cells slots Q (F0 m (pc + 1) ls rest)) : W p l e R s m args below meth c H locs cells slots Q (F0 m pc ls (.int x :: .int i :: .ref a :: rest)) := by
  subst hk
  exact g_zast hc hw q0 ha hin hx1 hw' hdg kk
end SR
theorem dec_2 (x : Int32) : x + Int32.ofInt (-1) = x - 1 := by rw [dec_1]; exact (Int32.sub_eq_add_neg x 1).symm
end SD
