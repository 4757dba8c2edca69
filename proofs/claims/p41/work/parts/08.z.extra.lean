/-! 08.z: numbers, and System.arraycopy of a whole row -/
section ZB
theorem fp_ok (x : Int32) {y : Int32} (h : ¬ y = 0) : vf_n64 (FP.ddiv (FP.i2d x) (FP.i2d y)) := by
  have h1 : FP.Core.dIsNaN (FP.Core.ddiv (FP.Core.i2d x) (FP.Core.i2d y)) = false := FP.Core.ddiv_out ((FP.Core.notNaN_iff _).mpr (FP.Core.i2d_fin x).ne_nan) (FP.Core.i2d_fin y) (fun z => FP.Core.i2d_ne_zero h ((FP.Core.zero_bits2 _).mp z))
  have h2 : ¬ FP.Core.dIsNaN (FP.Core.ddiv (FP.Core.i2d x) (FP.Core.i2d y)) = true := by rw [h1]; decide
  rw [FP.Core.isNaN_bits] at h2
  show (FP.Core.ddiv (FP.Core.i2d x) (FP.Core.i2d y)) &&& 0x7fffffffffffffff ≤ 0x7ff0000000000000
  generalize FP.Core.ddiv (FP.Core.i2d x) (FP.Core.i2d y) = r at h2 ⊢
  rw [UInt64.le_iff_toNat_le, UInt64.toNat_and]
  have e1 : (0x7fffffffffffffff : UInt64).toNat = 2 ^ 63 - 1 := by decide
  have e2 : (0x7ff0000000000000 : UInt64).toNat = 9218868437227405312 := by decide
  rw [e1, e2, Nat.and_two_pow_sub_one_eq_mod]
  omega
theorem l_lt (k w : Nat) (h : nI w < nI k) (hw : w < 2 ^ 31) : w < k := by
  rcases Nat.lt_or_ge w k with q | q
  · exact q
  · exact absurd h (nI_nlt q hw)
theorem l_ne (k w : Nat) (h : ¬ nI w = nI k) (hw : w ≤ k) : w < k := by
  rcases Nat.lt_or_ge w k with q | q
  · exact q
  · exact absurd (congrArg nI (Nat.le_antisymm hw q)) h
theorem Wo.drop {D : va_G} {A : Nat → Prop} {H0 H : Heap} {ws : va_W} {x : Nat × va_E} {locs : List Loc} (h : Wo D A H0 (ws ++ [x]) H locs) : Wo D A H0 ws H locs := by
  obtain ⟨hP, hD, hS⟩ := h
  have hk : ∀ (k : Nat) (q : Nat × va_E), ws[k]? = some q → (ws ++ [x])[k]? = some q := fun k q hq => by
    rw [List.getElem?_append_left (List.getElem?_eq_some_iff.mp hq).1]; exact hq
  exact ⟨fun k q hq => hP k q (hk k q hq), ⟨fun i j p q hi hj => hD.1 i j p q (hk i p hi) (hk j q hj), fun k q hq => hD.2 k q (hk k q hq)⟩, hS⟩
theorem l_days {x : Int32} (h1 : ¬ x < 1) (h2 : x ≤ 40) : x = nI x.toNatClampNeg ∧ x.toNatClampNeg < 2 ^ 31 := by
  have h0 : ¬ x < 0 := fun z => h1 (by
    rw [Int32.lt_iff_toInt_lt] at z ⊢
    have e0 : (0 : Int32).toInt = 0 := by decide
    have e1 : (1 : Int32).toInt = 1 := by decide
    omega)
  obtain ⟨j, hj, rfl⟩ := nI_of h0
  rw [nI_clamp hj]
  exact ⟨rfl, hj⟩
section ZR
variable {p : Program} {l : Launch} {e : Env} {R : Room} {s : State} {m : MethodId} {args : Array Value} {below : List Frame} {meth : Method} {c : Code} {H H0 : Heap} {locs : List Loc} {cells slots : Nat} {Q : State → Prop}
variable {cc : ByteArray} {nL : Nat} {Ts : List Cond} {own : String} {ret : Option FieldType} {D : va_G} {cI cZ cL : ClassId} {A : Nat → Prop} {ws : va_W} {pc : Nat} {ls : Array Slot} {rest : List Value}
theorem g_copy (hc : Cx p s m args meth c cc nL Ts own ret D cI cZ cL A) (hw : Wo D A H0 ws H locs) (hsz : ls.size = nL) {index : Nat} (m1 : Cond.methodLink own index arraycopyName ∈ Ts) (m2 : Cond.native arraycopyName ∈ Ts) (m3 : Cond.static arraycopyName ∈ Ts) (m4 : Cond.initialized "java/lang/System" ∈ Ts)
    (q0 q1 : Nat) {a0 a1 n : Nat} {f g : Nat → Int32} {N : Int32} {w' : va_W} (ha0 : ws[q0]? = some (a0, .inl (cI, n, .inl f))) (ha1 : ws[q1]? = some (a1, .inl (cI, n, .inl g))) (hN : N.toNatClampNeg = n) (hN0 : ¬ N < 0)
    (hf : 1 ≤ R.frames) (hlo : (rest.map fun v => v.category).sum + (nativeFrameWords "java/lang/System" "arraycopy" 5 + 11) ≤ R.locals) (hw' : ws.set q1 (a1, .inl (cI, n, .inl (va_cpy f g 0 0 n))) = w') (hdg : decode cc pc = .ok (.invokestatic index, 3))
    (kk : ∀ (H1 : Heap) (locs1 : List Loc), Wo D A H0 w' H1 locs1 → W p l e R s m args below meth c H1 locs1 cells slots Q (F0 m (pc + 3) ls rest)) : W p l e R s m args below meth c H locs cells slots Q (F0 m pc ls (.int N :: .int 0 :: .ref a1 :: .int 0 :: .ref a0 :: rest)) := by
  obtain ⟨hx, hb, -, hml, hown, hts, -, hK, hA⟩ := hc
  subst hw'
  have e0 : (0 : Int32).toNatClampNeg = 0 := by decide
  refine va_copyi hx hb (hml.trans hsz.symm) hown (hts _ m1) (hts _ m2) (hts _ m3) (hts _ m4) hK.1 hw.1 hw.2.1 hw.2.2 q0 q1 0 0 ha0 ha1 rfl rfl rfl (by decide) (by decide) hN0 (by rw [e0, hN]; omega) (by rw [e0, hN]; omega) (fun _ _ => rfl) hf hlo hdg (fun H1 l1 h1 h2 h3 => ?_)
  rw [e0, hN] at h1 h2
  exact kk H1 l1 ⟨h1, h2, h3⟩
theorem g_newI (hc : Cx p s m args meth c cc nL Ts own ret D cI cZ cL A) (hw : Wo D A s.heap ws H locs) {N : Nat} {n : Int32} (m1 : Cond.arrayClass .int ∈ Ts) (hn : ¬ n < 0) (hN : n.toNatClampNeg = N) (hby : N * componentBytes .int ≤ 536870912) (h1 : cells + 1 ≤ R.cells) (h2 : slots + N ≤ R.slots) (hdg : decode cc pc = .ok (.newarray .int, 2))
    (kk : ∀ (q : Nat) (H1 : Heap) (locs1 : List Loc), Wo D A s.heap (ws ++ [(q, .inl (cI, N, .inl (fun _ => 0)))]) H1 locs1 → W p l e R s m args below meth c H1 locs1 (cells + 1) (slots + N) Q (F0 m (pc + 2) ls (.ref q :: rest))) : W p l e R s m args below meth c H locs cells slots Q (F0 m pc ls (.int n :: rest)) := by
  obtain ⟨hx, hb, -, hml, hown, hts, -, hK, hA⟩ := hc
  refine va_newa (atype := .int) (ty := .int) (a0 := (N, .inl (fun _ => 0))) hx hb (hts _ m1) rfl hK.1 hw.1 hw.2.1 hw.2.2 hA (fun cA => rfl) hn hN hby h1 h2 hdg (fun q cA H1 k1 k2 k3 k4 => ?_)
  have e1 : s.vm.findClass ("[" ++ FieldType.int.toString) = some cI := (hK.1.2 0 _ rfl).2
  have e2 : s.vm.findClass ("[" ++ FieldType.int.toString) = some cA := (k1.2 3 _ rfl).2
  have e3 : cA = cI := Option.some.inj (e2.symm.trans e1)
  subst e3
  exact kk q H1 _ ⟨k2, k3, k4⟩
end ZR
end ZB
