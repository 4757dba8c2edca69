/-! 17.a: what the law is given -/
section LA
theorem l_arr {s : State} {args : Array Value} {ty : FieldType} (h : (Cond.arrayClass ty).before args s = true) : ∃ cA : ClassId, ArrOfT s cA ty ∧ s.vm.findClass ("[" ++ ty.toString) = some cA := by
  obtain ⟨c, k, comp, h1, h2, h3⟩ := Cond.arrayClass_spec h
  exact ⟨c, fun n z => ⟨fun k h => (by cases h), k, h2, comp, h3⟩, h1⟩
theorem l_mstr : ∀ q ∈ gx_str, Cond.stringRef RX1 q.1 q.2 ∈ lw_tbl := by decide +kernel
theorem l_arrA {s : State} (h : gx_AO s) : ∃ cL : ClassId, ArrOfT s cL (.array .int) ∧ s.vm.findClass ("[" ++ (FieldType.array .int).toString) = some cL := by
  obtain ⟨comp, c, k, h1, h2, h3, h4, h5⟩ := arrayOverA_spec h
  exact ⟨c, fun n z => ⟨fun k h => (by cases h), k, h3, comp, h4⟩, h5⟩
theorem l_K {s : State} {args : Array Value} (hts : ∀ w ∈ lw_tbl, w.before args s = true) : ∃ (D : va_G) (cI cZ cL : ClassId), Kx D cI cZ cL s := by
  obtain ⟨c0, i0, k0⟩ := u_known (C := RX0) (T := TX0) (N := 16) (n := 16) hts inX0 (hts (.instantiable RX0 16) (by decide +kernel))
  obtain ⟨c1, i1, k1⟩ := u_known (C := RX1) (T := TX1) (N := 2) (n := 2) hts inX1 (hts (.instantiable RX1 2) (by decide +kernel))
  obtain ⟨c2, i2, k2⟩ := u_known (C := RX2) (T := TX2) (N := 6) (n := 6) hts inX2 (hts (.instantiable RX2 6) (by decide +kernel))
  obtain ⟨cI, a1, a2⟩ := l_arr (hts (.arrayClass .int) (by decide +kernel))
  obtain ⟨cZ, b1, b2⟩ := l_arr (hts (.arrayClass .boolean) (by decide +kernel))
  have hAO : gx_AO s := gx_AO.of (hts (.arrayOver (.array .int)) (by decide +kernel))
  obtain ⟨cL, d1, d2⟩ := l_arrA hAO
  refine ⟨(fun k => match k with | 0 => c0 | 1 => c1 | _ => c2, fun k => match k with | 0 => i0 | 1 => i1 | _ => i2), cI, cZ, cL, ⟨fun k q hq => ?_, fun k q hq => ?_⟩, va_Nw.of rfl (hts (.methodLinkNest RL 64 yX2_init RL) (by decide +kernel)), hAO⟩
  · match k, hq with
    | 0, hq => cases hq; exact k0
    | 1, hq => cases hq; exact k1
    | 2, hq => cases hq; exact k2
    | k + 3, hq => simp [vwCl] at hq
  · match k, hq with
    | 0, hq => cases hq; exact ⟨a1, a2⟩
    | 1, hq => cases hq; exact ⟨b1, b2⟩
    | 2, hq => cases hq; exact ⟨d1, d2⟩
    | k + 3, hq => simp [gx_ty] at hq
theorem l_S {s : State} {args : Array Value} (hts : ∀ w ∈ lw_tbl, w.before args s = true) (hgv : (Jvm.Cond.and given_1 narrow_1).before args s = true) : gx_S s := by
  have hs := flat_of_before _ hgv
  have key : ∀ q ∈ gx_str, (Cond.exactly (Term.string RX1 q.1) "java/lang/String").before args s = true → ∃ a : Nat, vk_R RX1 q.1 q.2 a s := fun q hq h => by
    obtain ⟨a, c, cell, k, h1, -⟩ := Cond.exactly_spec h
    exact ⟨a, vk_R.of (A := args) (hts _ (l_mstr q hq)) h1⟩
  have all : ∀ q ∈ gx_str, (Cond.exactly (Term.string RX1 q.1) "java/lang/String").before args s = true := by
    intro q hq
    simp only [gx_str, List.mem_cons, List.not_mem_nil, or_false] at hq
    rcases hq with rfl | rfl | rfl | rfl | rfl | rfl | rfl | rfl | rfl | rfl | rfl | rfl | rfl | rfl
    all_goals exact hs _ (by decide +kernel)
  exact fun q hq => key q hq (all q hq)
theorem l_T {s : State} {args : Array Value} (hts : ∀ w ∈ lw_tbl, w.before args s = true) (hgv : (Jvm.Cond.and given_1 narrow_1).before args s = true) : gx_T s := by
  have hs := flat_of_before _ hgv
  have c1 : va_Nw (.castable (gx_E 1) (gx_E 1)) s := va_Nw.of rfl (hts (.castable "java/lang/IllegalArgumentException" "java/lang/IllegalArgumentException") (by decide +kernel))
  have c2 : va_Nw (.castable (gx_E 2) (gx_E 2)) s := va_Nw.of rfl (hts (.castable "java/lang/IllegalStateException" "java/lang/IllegalStateException") (by decide +kernel))
  have c3 : va_Nw (.castable (gx_E 3) (gx_E 3)) s := va_Nw.of rfl (hts (.castable "java/lang/IndexOutOfBoundsException" "java/lang/IndexOutOfBoundsException") (by decide +kernel))
  have cls : ∀ k : Nat, gx_E k = gx_E 1 ∨ gx_E k = gx_E 2 ∨ gx_E k = gx_E 3 := fun k => by
    match k with
    | 0 => exact Or.inr (Or.inr rfl)
    | 1 => exact Or.inl rfl
    | 2 => exact Or.inr (Or.inl rfl)
    | k + 3 => exact Or.inr (Or.inr rfl)
  refine ⟨⟨va_Nw.of rfl (hts (.declares (Bundle.initS "java/lang/RuntimeException")) (by decide +kernel)), va_Nw.of rfl (hts (.declares (Bundle.initS "java/lang/Exception")) (by decide +kernel)), va_Nw.of rfl (hts (.declares (Bundle.initS Bundle.tN)) (by decide +kernel))⟩, fun k => ?_, trivial⟩
  rcases cls k with e | e | e
  · rw [e]; exact c1
  · rw [e]; exact c2
  · rw [e]; exact c3
theorem l_Z {s : State} {args : Array Value} (hts : ∀ w ∈ lw_tbl, w.before args s = true) (hgv : (Jvm.Cond.and given_1 narrow_1).before args s = true) : gx_Z (fun q => s.heap.size ≤ q) s s.heap := by
  have hs := flat_of_before _ hgv
  exact ⟨vx_Zqof (hts (.laysStatic Bundle.tN "UNASSIGNED_STACK" Bundle.steD) (by decide +kernel)) (hts (.initialized Bundle.tN) (by decide +kernel)) (hs (.isRef (.static Bundle.tN "UNASSIGNED_STACK" Bundle.steD)) (by decide +kernel)) (fun a h z => absurd h (Nat.not_lt.mpr z)),
    vx_Zqof (hts (.laysStatic Bundle.tN "SUPPRESSED_SENTINEL" Bundle.listD) (by decide +kernel)) (hts (.initialized Bundle.tN) (by decide +kernel)) (hs (.isRef (.static Bundle.tN "SUPPRESSED_SENTINEL" Bundle.listD)) (by decide +kernel)) (fun a h z => absurd h (Nat.not_lt.mpr z))⟩
theorem l_Tx {s : State} {args : Array Value} (hts : ∀ w ∈ lw_tbl, w.before args s = true) (hgv : (Jvm.Cond.and given_1 narrow_1).before args s = true) : Tx (fun q => s.heap.size ≤ q) s := ⟨l_T hts hgv, l_S hts hgv, l_Z hts hgv⟩
end LA
