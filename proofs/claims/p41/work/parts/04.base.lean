/-! 04.base: worlds, contexts and contracts in one form: a method in a world w0 returns the value res and leaves the world w1 -/
section GB
abbrev gx_ty (cI cZ cL : ClassId) : List (ClassId × FieldType) := [(cI, .int), (cZ, .boolean), (cL, .array .int)]
/-- the rows of int[] have a class of their own, whose parts are rows of ints -/
def gx_AO (U : State) : Prop := (Cond.arrayOver (.array .int)).before #[] U = true
theorem gx_AO.of {A : Array Value} {U : State} (h : (Cond.arrayOver (.array .int)).before A U = true) : gx_AO U := h
theorem gx_AO.use {A : Array Value} {U : State} (h : gx_AO U) : (Cond.arrayOver (.array .int)).before A U = true := h
theorem gx_AO.moved {u U : State} (hvm : u.vm.Alike U.vm) (h : gx_AO u) : gx_AO U := by
  obtain ⟨comp, c, k, h1, h2, h3, h4, h5⟩ := arrayOverA_spec h
  obtain ⟨k', hk', he⟩ := hvm.2.2 _ _ h3
  have hi : (U.vm.classes.findIdx? fun (x : Class) => match x.kind with | .array component _ => component == comp | _ => false) = some c := by
    rw [hvm.findIdx?_eq _ (fun _ => rfl)]; exact h2
  have hkind : k'.kind = .array comp (.array .int) := by rw [he]; exact h4
  have f1 : U.vm.findClass (FieldType.array .int).toString = some comp := by rw [hvm.findClass]; exact h1
  have f2 : U.vm.findClass ("[" ++ (FieldType.array .int).toString) = some c := by rw [hvm.findClass]; exact h5
  unfold gx_AO Cond.before
  simp only [Cond.holds, Cond.value, beq_iff_eq]
  simp only [f1, Option.bind_some, Option.bind_eq_some_iff, Option.map_eq_some_iff]
  exact ⟨c, hi, k', hk', by simp [hkind, f2]⟩
/-- the words that the tables alone decide, but that a start must be asked for: the constructor of the law's town, the rows of rows -/
def gx_N (U : State) : Prop := va_Nw (.methodLinkNest RL 64 yX2_init RL) U ∧ gx_AO U
theorem gx_N.warm {s U : State} (hW : s.WarmedH U.vm) (h : gx_N s) : gx_N U := ⟨va_Nw.warmM hW h.1, gx_AO.moved hW.alike h.2⟩
theorem gx_N.same {s U : State} (hv : s.vm = U.vm) (h : gx_N s) : gx_N U := ⟨va_Nw.same rfl hv h.1, gx_AO.moved (by rw [hv]; exact Vm.Alike.refl U.vm) h.2⟩
/-- the tables, as every method is told of them -/
def Kx (D : va_G) (cI cZ cL : ClassId) (U : State) : Prop := va_K D vwCl (gx_ty cI cZ cL) U ∧ gx_N U
theorem Kx.warm {D : va_G} {cI cZ cL : ClassId} {s U : State} (hW : s.WarmedH U.vm) (h : Kx D cI cZ cL s) : Kx D cI cZ cL U := ⟨va_K.moved hW.alike h.1, gx_N.warm hW h.2⟩
theorem Kx.same {D : va_G} {cI cZ cL : ClassId} {s U : State} (hv : s.vm = U.vm) (h : Kx D cI cZ cL s) : Kx D cI cZ cL U := ⟨va_K.moved (by rw [hv]; exact Vm.Alike.refl U.vm) h.1, gx_N.same hv h.2⟩
/-- the world of a walk -/
def Wo (D : va_G) (A : Nat → Prop) (H0 : Heap) (ws : va_W) (H : Heap) (locs : List Loc) : Prop := va_P D vwCl ws H ∧ va_D A ws ∧ va_S A H0 H locs
/-- the standing facts of a walk -/
def Cx (p : Program) (s : State) (m : MethodId) (args : Array Value) (meth : Method) (c : Code) (cc : ByteArray) (nL : Nat) (Ts : List Cond) (own : String) (ret : Option FieldType) (D : va_G) (cI cZ cL : ClassId) (A : Nat → Prop) : Prop :=
  p.tables.exec = Jvm.exec ∧ c.code = cc ∧ meth.sig.returnType = ret ∧ c.maxLocals = nL ∧ s.vm.findClass own = some m.cls ∧ (∀ w ∈ Ts, w.before args s = true) ∧ meth.locks = false ∧ Kx D cI cZ cL s ∧ (∀ q : Nat, s.heap.size ≤ q → A q)
def PX (D : va_G) (cI cZ cL : ClassId) (av : List Value) (w0 : va_W) (sz : Nat) : Array Value → State → Prop := va_Pc av (fun U => U.heap.size = sz ∧ va_P D vwCl w0 U.heap ∧ Kx D cI cZ cL U ∧ va_D (fun _ => True) w0)
def QX (D : va_G) (A : Nat → Prop) (res : Option Value) (w1 : va_W) : Array Value → State → Outcome → State → Prop := fun _ st oc t => (oc = .returned res ∧ va_P D vwCl w1 t.heap ∧ va_D A w1) ∧ va_F A st t
/-- THE CONTRACT: called with av in the world w0, y returns res and leaves the world w1 -/
def MX (l : Launch) (y : MethodName) (ws : List Cond) (rm : Room) (D : va_G) (cI cZ cL : ClassId) (av : List Value) (w0 : va_W) (res : Option Value) (w1 : va_W) : Prop :=
  ∀ sz : Nat, Met l y ws rm (PX D cI cZ cL av w0 sz) (QX D (va_A w0 sz) res w1) rm.cells rm.slots (va_A w0 sz)
theorem PX.blind {D : va_G} {cI cZ cL : ClassId} {av : List Value} {w0 : va_W} {sz : Nat} : FrameBlind (PX D cI cZ cL av w0 sz) := by
  intro a U g mk q
  obtain ⟨q0, q1, q2, q3, q4⟩ := q
  exact ⟨q0, q1, q2, Kx.same (s := U) (U := U.calling g mk a) rfl q3, q4⟩
/-- what a body owes at its end -/
def QE (below : List Frame) (args : Array Value) (s : State) (D : va_G) (A : Nat → Prop) (res : Option Value) (w1 : va_W) (rm : Room) : State → Prop := MQ below (QX D A res w1) args s rm.cells rm.slots A
theorem MX.of {l : Launch} {y : MethodName} {ws ws' : List Cond} {rm : Room} {D : va_G} {cI cZ cL : ClassId} {av : List Value} {w0 w1 : va_W} {res : Option Value} {cc : ByteArray} {maxL : Nat} {ret : Option FieldType} {own : String} {lv0 : List (Nat × Value)}
    (hy : plainName y.cls = true) (hw : ws = Cond.code y cc maxL ret :: ws') (ho : y.cls = own) (hlen : (lg_sl av).length ≤ maxL) (hlv : lv_args 0 av = lv0)
    (body : ∀ (p : Program) (e : Env) (s : State) (m : MethodId) (args : Array Value) (below : List Frame) (meth : Method) (c : Code) (A : Nat → Prop), Cx p s m args meth c cc maxL ws own ret D cI cZ cL A → meth.name = y.name → Wo D A s.heap w0 s.heap [] → ∀ ls : Array Slot, lv_has ls maxL lv0 →
      W p l e rm s m args below meth c s.heap [] 0 0 (QE below args s D A res w1 rm) (F0 m 0 ls [])) : MX l y ws rm D cI cZ cL av w0 res w1 := by
  intro sz
  refine Met.ofW (cc := cc) (maxL := maxL) (ret := ret) hy hw ?_
  intro p e s m args below meth c s₁ B hml hv
  obtain ⟨rfl, hsz, hP, hK, hD0⟩ := hv
  subst hsz
  rw [lg_entry_eq]
  refine body p e s m _ below meth c (va_A w0 s.heap.size) ⟨B.exec, B.bytes, B.returns, hml, ?_, atoms_spec (ws := ws) B.pre, B.notSynchronized, hK, fun q h => Or.inr h⟩ (name_of_methodNamed B.named B.method).1 ⟨hP, hD0.self, va_S.rf⟩ _ ?_
  · rw [← ho]; exact findClass_of_methodNamed B.named
  · rw [← hlv]; exact lv_entry av hlen
section GR
variable {p : Program} {l : Launch} {e : Env} {R : Room} {s : State} {m : MethodId} {args : Array Value} {below : List Frame} {meth : Method} {c : Code} {H H0 : Heap} {locs : List Loc} {cells slots : Nat} {Q : State → Prop}
variable {cc : ByteArray} {nL : Nat} {Ts : List Cond} {own : String} {ret : Option FieldType} {D : va_G} {cI cZ cL : ClassId} {A : Nat → Prop} {ws : va_W} {pc : Nat} {ls : Array Slot} {rest : List Value}
theorem g_get (hc : Cx p s m args meth c cc nL Ts own ret D cI cZ cL A) (hw : Wo D A H0 ws H locs) {C : String} {T : u_T} {N ci index a : Nat} {fs : List Value} {v : Value} (hin : ∀ w ∈ u_ws C T N, w ∈ Ts) (q0 k : Nat) (he : ws[q0]? = some (a, .inr (ci, fs))) (hcl : vwCl[ci]? = some (C, T, N)) (hk : k < N)
    (hlink : Cond.fieldLink own index (T k).1 (T k).2.1 (T k).2.2.1 ∈ Ts) (hv : fs[k]? = some v) (hdg : decode cc pc = .ok (.getfield index, 3))
    (kk : W p l e R s m args below meth c H locs cells slots Q (F0 m (pc + 3) ls (v :: rest))) : W p l e R s m args below meth c H locs cells slots Q (F0 m pc ls (.ref a :: rest)) := by
  obtain ⟨hx, hb, -, -, hown, hts, -, hK, -⟩ := hc
  exact va_get (D := D) hx hb hts hin hown hK.1 hw.1 q0 he hcl k hk (hts _ hlink) (fun _ h9 => h9) hv hdg kk
theorem g_put (hc : Cx p s m args meth c cc nL Ts own ret D cI cZ cL A) (hw : Wo D A H0 ws H locs) {C : String} {T : u_T} {N ci index a : Nat} {fs : List Value} {v : Value} {w' : va_W} (hin : ∀ w ∈ u_ws C T N, w ∈ Ts) (ty0 : Nat → FieldType) (hty : ∀ k, k < N → parseFieldDescriptor (T k).2.2.1 = some (ty0 k)) (hnm : ∀ a, a < N → ∀ b, b < N → a ≠ b → (T a).2.1 ≠ (T b).2.1) (q0 k : Nat) (he : ws[q0]? = some (a, .inr (ci, fs))) (hcl : vwCl[ci]? = some (C, T, N)) (hk : k < N)
    (hlink : Cond.fieldLink own index (T k).1 (T k).2.1 (T k).2.2.1 ∈ Ts) (hfin : (T k).2.2.2 = false) (hn : narrow (ty0 k) v = v) (hfit : fits (ty0 k) v = true) (hl : k < fs.length) (hw' : ws.set q0 (a, .inr (ci, fs.set k v)) = w') (hdg : decode cc pc = .ok (.putfield index, 3))
    (kk : ∀ (H1 : Heap) (locs1 : List Loc), Wo D A H0 w' H1 locs1 → W p l e R s m args below meth c H1 locs1 cells slots Q (F0 m (pc + 3) ls rest)) : W p l e R s m args below meth c H locs cells slots Q (F0 m pc ls (v :: .ref a :: rest)) := by
  obtain ⟨hx, hb, -, -, hown, hts, -, hK, -⟩ := hc
  subst hw'
  exact va_put (D := D) hx hb hts hin ty0 hty hnm hown hK.1 hw.1 hw.2.1 hw.2.2 q0 he hcl k hk (hts _ hlink) (fun _ h9 => h9) hfin (hty k hk) hn hfit hl hdg (fun H1 l1 h1 h2 h3 => kk H1 l1 ⟨h1, h2, h3⟩)
theorem g_putF (hc : Cx p s m args meth c cc nL Ts own ret D cI cZ cL A) (hi : meth.name = "<init>") (hw : Wo D A H0 ws H locs) {C : String} {T : u_T} {N ci index a : Nat} {fs : List Value} {v : Value} {w' : va_W} (hin : ∀ w ∈ u_ws C T N, w ∈ Ts) (ty0 : Nat → FieldType) (hty : ∀ k, k < N → parseFieldDescriptor (T k).2.2.1 = some (ty0 k)) (hnm : ∀ a, a < N → ∀ b, b < N → a ≠ b → (T a).2.1 ≠ (T b).2.1) (q0 k : Nat) (he : ws[q0]? = some (a, .inr (ci, fs))) (hcl : vwCl[ci]? = some (C, T, N)) (hk : k < N)
    (hlink : Cond.fieldLink own index (T k).1 (T k).2.1 (T k).2.2.1 ∈ Ts) (hfin : (T k).2.2.2 = true) (hdecl : (T k).1 = own) (hn : narrow (ty0 k) v = v) (hfit : fits (ty0 k) v = true) (hl : k < fs.length) (hw' : ws.set q0 (a, .inr (ci, fs.set k v)) = w') (hdg : decode cc pc = .ok (.putfield index, 3))
    (kk : ∀ (H1 : Heap) (locs1 : List Loc), Wo D A H0 w' H1 locs1 → W p l e R s m args below meth c H1 locs1 cells slots Q (F0 m (pc + 3) ls rest)) : W p l e R s m args below meth c H locs cells slots Q (F0 m pc ls (v :: .ref a :: rest)) := by
  obtain ⟨hx, hb, -, -, hown, hts, -, hK, -⟩ := hc
  subst hw'
  exact va_putF (D := D) hx hb hts hin ty0 hty hnm hown hK.1 hw.1 hw.2.1 hw.2.2 q0 he hcl k hk (hts _ hlink) (fun _ h9 => h9) hfin hi hdecl (hty k hk) hn hfit hl hdg (fun H1 l1 h1 h2 h3 => kk H1 l1 ⟨h1, h2, h3⟩)
theorem g_getN (hc : Cx p s m args meth c cc nL Ts own ret D cI cZ cL A) (hw : Wo D A H0 ws H locs) {C host : String} {T : u_T} {N ci index a : Nat} {fs : List Value} {v : Value} (hin : ∀ w ∈ u_ws C T N, w ∈ Ts) (q0 k : Nat) (he : ws[q0]? = some (a, .inr (ci, fs))) (hcl : vwCl[ci]? = some (C, T, N)) (hk : k < N)
    (hlink : gx_N s → va_Nw (Cond.fieldLinkNest own index (T k).1 (T k).2.1 (T k).2.2.1 host) s) (hv : fs[k]? = some v) (hdg : decode cc pc = .ok (.getfield index, 3))
    (kk : W p l e R s m args below meth c H locs cells slots Q (F0 m (pc + 3) ls (v :: rest))) : W p l e R s m args below meth c H locs cells slots Q (F0 m pc ls (.ref a :: rest)) := by
  obtain ⟨hx, hb, -, -, hown, hts, -, hK, -⟩ := hc
  exact va_getN (D := D) hx hb hts hin hown hK.1 hw.1 q0 he hcl k hk (va_Nw.use rfl (hlink hK.2)) (fun _ h9 => h9) hv hdg kk
theorem g_putN (hc : Cx p s m args meth c cc nL Ts own ret D cI cZ cL A) (hw : Wo D A H0 ws H locs) {C host : String} {T : u_T} {N ci index a : Nat} {fs : List Value} {v : Value} {w' : va_W} (hin : ∀ w ∈ u_ws C T N, w ∈ Ts) (ty0 : Nat → FieldType) (hty : ∀ k, k < N → parseFieldDescriptor (T k).2.2.1 = some (ty0 k)) (hnm : ∀ a, a < N → ∀ b, b < N → a ≠ b → (T a).2.1 ≠ (T b).2.1) (q0 k : Nat) (he : ws[q0]? = some (a, .inr (ci, fs))) (hcl : vwCl[ci]? = some (C, T, N)) (hk : k < N)
    (hlink : gx_N s → va_Nw (Cond.fieldLinkNest own index (T k).1 (T k).2.1 (T k).2.2.1 host) s) (hfin : (T k).2.2.2 = false) (hn : narrow (ty0 k) v = v) (hfit : fits (ty0 k) v = true) (hl : k < fs.length) (hw' : ws.set q0 (a, .inr (ci, fs.set k v)) = w') (hdg : decode cc pc = .ok (.putfield index, 3))
    (kk : ∀ (H1 : Heap) (locs1 : List Loc), Wo D A H0 w' H1 locs1 → W p l e R s m args below meth c H1 locs1 cells slots Q (F0 m (pc + 3) ls rest)) : W p l e R s m args below meth c H locs cells slots Q (F0 m pc ls (v :: .ref a :: rest)) := by
  obtain ⟨hx, hb, -, -, hown, hts, -, hK, -⟩ := hc
  subst hw'
  exact va_putN (D := D) hx hb hts hin ty0 hty hnm hown hK.1 hw.1 hw.2.1 hw.2.2 q0 he hcl k hk (va_Nw.use rfl (hlink hK.2)) (fun _ h9 => h9) hfin (hty k hk) hn hfit hl hdg (fun H1 l1 h1 h2 h3 => kk H1 l1 ⟨h1, h2, h3⟩)
theorem g_iald (hc : Cx p s m args meth c cc nL Ts own ret D cI cZ cL A) (hw : Wo D A H0 ws H locs) {a n : Nat} {f : Nat → Int32} {i : Int32} (q0 : Nat) (ha : ws[q0]? = some (a, .inl (cI, n, .inl f))) (hin : vp_in i n) (hdg : decode cc pc = .ok (.iaload, 1))
    (kk : W p l e R s m args below meth c H locs cells slots Q (F0 m (pc + 1) ls (.int (f i.toNatClampNeg) :: rest))) : W p l e R s m args below meth c H locs cells slots Q (F0 m pc ls (.int i :: .ref a :: rest)) := by
  obtain ⟨hx, hb, -, -, hown, hts, -, hK, -⟩ := hc
  exact va_iald hx hb hK.1 hw.1 q0 0 ha rfl hin hdg kk
theorem g_zald (hc : Cx p s m args meth c cc nL Ts own ret D cI cZ cL A) (hw : Wo D A H0 ws H locs) {a n : Nat} {f : Nat → Int32} {i : Int32} (q0 : Nat) (ha : ws[q0]? = some (a, .inl (cZ, n, .inl f))) (hin : vp_in i n) (hdg : decode cc pc = .ok (.baload, 1))
    (kk : W p l e R s m args below meth c H locs cells slots Q (F0 m (pc + 1) ls (.int (f i.toNatClampNeg) :: rest))) : W p l e R s m args below meth c H locs cells slots Q (F0 m pc ls (.int i :: .ref a :: rest)) := by
  obtain ⟨hx, hb, -, -, hown, hts, -, hK, -⟩ := hc
  exact va_zald hx hb hK.1 hw.1 q0 1 ha rfl hin hdg kk
theorem g_iast (hc : Cx p s m args meth c cc nL Ts own ret D cI cZ cL A) (hw : Wo D A H0 ws H locs) {a n : Nat} {f : Nat → Int32} {i x : Int32} {w' : va_W} (q0 : Nat) (ha : ws[q0]? = some (a, .inl (cI, n, .inl f))) (hin : vp_in i n) (hw' : ws.set q0 (a, .inl (cI, n, .inl (upd f i.toNatClampNeg x))) = w') (hdg : decode cc pc = .ok (.iastore, 1))
    (kk : ∀ (H1 : Heap) (locs1 : List Loc), Wo D A H0 w' H1 locs1 → W p l e R s m args below meth c H1 locs1 cells slots Q (F0 m (pc + 1) ls rest)) : W p l e R s m args below meth c H locs cells slots Q (F0 m pc ls (.int x :: .int i :: .ref a :: rest)) := by
  obtain ⟨hx, hb, -, -, hown, hts, -, hK, -⟩ := hc
  subst hw'
  exact va_iast hx hb hK.1 hw.1 hw.2.1 hw.2.2 q0 0 ha rfl hin hdg (fun H1 l1 h1 h2 h3 => kk H1 l1 ⟨h1, h2, h3⟩)
theorem g_zast (hc : Cx p s m args meth c cc nL Ts own ret D cI cZ cL A) (hw : Wo D A H0 ws H locs) {a n : Nat} {f : Nat → Int32} {i x : Int32} {w' : va_W} (q0 : Nat) (ha : ws[q0]? = some (a, .inl (cZ, n, .inl f))) (hin : vp_in i n) (hx1 : vp_nar .boolean x = x) (hw' : ws.set q0 (a, .inl (cZ, n, .inl (upd f i.toNatClampNeg x))) = w') (hdg : decode cc pc = .ok (.bastore, 1))
    (kk : ∀ (H1 : Heap) (locs1 : List Loc), Wo D A H0 w' H1 locs1 → W p l e R s m args below meth c H1 locs1 cells slots Q (F0 m (pc + 1) ls rest)) : W p l e R s m args below meth c H locs cells slots Q (F0 m pc ls (.int x :: .int i :: .ref a :: rest)) := by
  obtain ⟨hx, hb, -, -, hown, hts, -, hK, -⟩ := hc
  subst hw'
  exact va_zast hx hb hK.1 hw.1 hw.2.1 hw.2.2 q0 1 ha rfl hin hdg (fun H1 l1 h1 h2 h3 => kk H1 l1 ⟨by rw [← hx1]; exact h1, by rw [← hx1]; exact h2, h3⟩)
theorem g_ret {res : Option Value} {w1 : va_W} {rm : Room} {v : Int32} (hc : Cx p s m args meth c cc nL Ts own (some .int) D cI cZ cL A) (hw : Wo D A s.heap w1 H locs) (hv : some (.int v) = res) (h1 : cells ≤ rm.cells) (h2 : slots ≤ rm.slots) (hdg : decode cc pc = .ok (.ireturn, 1)) :
    W p l e R s m args below meth c H locs cells slots (QE below args s D A res w1 rm) (F0 m pc ls [.int v]) := by
  obtain ⟨hx, hb, hr, -, hown, hts, hlocks, hK, -⟩ := hc
  refine W.widen h1 h2 ?_
  exact W.iret (v := v) hx hb hr (fun t ht hW => ⟨⟨by rw [hv], by rw [ht]; exact hw.1, hw.2.1⟩, hw.2.2.F ht⟩) hw.2.2.2.2 hdg
theorem g_zret {res : Option Value} {w1 : va_W} {rm : Room} {v : Int32} (hc : Cx p s m args meth c cc nL Ts own (some .boolean) D cI cZ cL A) (hw : Wo D A s.heap w1 H locs) (hv : some (.int v) = res) (hn : narrow .boolean (.int v) = .int v) (h1 : cells ≤ rm.cells) (h2 : slots ≤ rm.slots) (hdg : decode cc pc = .ok (.ireturn, 1)) :
    W p l e R s m args below meth c H locs cells slots (QE below args s D A res w1 rm) (F0 m pc ls [.int v]) := by
  obtain ⟨hx, hb, hr, -, hown, hts, hlocks, hK, -⟩ := hc
  refine W.widen h1 h2 ?_
  exact W.zret (v := v) hx hb hr hn (fun t ht hW => ⟨⟨by rw [hv], by rw [ht]; exact hw.1, hw.2.1⟩, hw.2.2.F ht⟩) hw.2.2.2.2 hdg
theorem g_lret {res : Option Value} {w1 : va_W} {rm : Room} {v : Int64} (hc : Cx p s m args meth c cc nL Ts own (some .long) D cI cZ cL A) (hw : Wo D A s.heap w1 H locs) (hv : some (.long v) = res) (h1 : cells ≤ rm.cells) (h2 : slots ≤ rm.slots) (hdg : decode cc pc = .ok (.lreturn, 1)) :
    W p l e R s m args below meth c H locs cells slots (QE below args s D A res w1 rm) (F0 m pc ls [.long v]) := by
  obtain ⟨hx, hb, hr, -, hown, hts, hlocks, hK, -⟩ := hc
  refine W.widen h1 h2 ?_
  exact W.lret (v := v) hx hb hr (fun t ht hW => ⟨⟨by rw [hv], by rw [ht]; exact hw.1, hw.2.1⟩, hw.2.2.F ht⟩) hw.2.2.2.2 hdg
theorem g_dret {res : Option Value} {w1 : va_W} {rm : Room} {v : UInt64} (hc : Cx p s m args meth c cc nL Ts own (some .double) D cI cZ cL A) (hw : Wo D A s.heap w1 H locs) (hv : some (.double v) = res) (h1 : cells ≤ rm.cells) (h2 : slots ≤ rm.slots) (hdg : decode cc pc = .ok (.dreturn, 1)) :
    W p l e R s m args below meth c H locs cells slots (QE below args s D A res w1 rm) (F0 m pc ls [.double v]) := by
  obtain ⟨hx, hb, hr, -, hown, hts, hlocks, hK, -⟩ := hc
  refine W.widen h1 h2 ?_
  exact W.dret (v := v) hx hb hr (fun t ht hW => ⟨⟨by rw [hv], by rw [ht]; exact hw.1, hw.2.1⟩, hw.2.2.F ht⟩) hw.2.2.2.2 hdg
theorem g_vret {res : Option Value} {w1 : va_W} {rm : Room} (hc : Cx p s m args meth c cc nL Ts own none D cI cZ cL A) (hw : Wo D A s.heap w1 H locs) (hv : none = res) (h1 : cells ≤ rm.cells) (h2 : slots ≤ rm.slots) (hdg : decode cc pc = .ok (.return_, 1)) :
    W p l e R s m args below meth c H locs cells slots (QE below args s D A res w1 rm) (F0 m pc ls []) := by
  obtain ⟨hx, hb, hr, -, hown, hts, hlocks, hK, -⟩ := hc
  refine W.widen h1 h2 ?_
  exact W.vret hx hb hr (fun t ht hW => ⟨⟨by rw [hv], by rw [ht]; exact hw.1, hw.2.1⟩, hw.2.2.F ht⟩) hw.2.2.2.2 hdg
/-- a call that has run, and the walk goes on -/
theorem g_goes {mc ms : Nat} {st0 : List Value} {A1 : Nat → Prop} {res : Option Value} {w1 : va_W} {a : Array Value} {free : Addr → Prop} (hr : va_Run p l e R s m args below meth c H locs cells slots mc ms (F0 m pc ls st0) rest (QX D A1 res w1 a) free) (hS : va_S A H0 H locs) (hA : ∀ q, q < H.size → A1 q → A q) (hf : ∀ q, free q → A q) {st1 : List Value} {k2 s2 : Nat} (hst1 : res.toList ++ rest = st1) (hk2 : cells + mc = k2) (hs2 : slots + ms = s2)
    (kk : ∀ (H1 : Heap) (locs1 : List Loc), va_P D vwCl w1 H1 → va_D A1 w1 → (∀ q : Nat, q < H.size → ¬ A1 q → H1[q]? = H[q]?) → va_S A H0 H1 locs1 → W p l e R s m args below meth c H1 locs1 k2 s2 Q (F0 m (pc + 3) ls st1)) : W p l e R s m args below meth c H locs cells slots Q (F0 m pc ls st0) := by
  subst hst1; subst hk2; subst hs2
  intro T hT X
  obtain ⟨v, st₀, t, T', L, h0, X', hL, e1, e2, ⟨⟨hv, hp, hb⟩, hz, hk⟩, st⟩ := hr T hT X
  cases hv
  rw [h0] at hz hk
  obtain ⟨t2, a1, b1⟩ := kk T'.heap (locs ++ L) (by rw [e1]; exact hp) hb (fun q h1 h2 => by rw [e1]; exact hk q h1 h2)
    ⟨Nat.le_trans hS.1 (by rw [e1]; exact hz), fun q h1 h2 => by rw [e1, hk q (Nat.lt_of_lt_of_le h1 hS.1) (fun z => h2 (hA q (Nat.lt_of_lt_of_le h1 hS.1) z))]; exact hS.2.1 q h1 h2, fun q hq => by
      rcases List.mem_append.mp hq with h | h
      · exact hS.2.2 q h
      · exact hf _ (hL q h)⟩ T' rfl X'
  exact ⟨t2, st t2 a1, b1⟩
/-- the callee's part of the world, and what comes back put beside the rest -/
theorem g_part {wc wr w1 w' : va_W} (hw : Wo D A H0 ws H locs) (hA : ∀ q, H0.size ≤ q → A q) (isC isR ps : List Nat) (hC : isC.map (fun i => ws[i]?) = wc.map some) (hR : isR.map (fun i => ws[i]?) = wr.map some) (hn : va_nd isR = true) (hdis : ∀ i ∈ isR, i ∉ isC) (hnC : va_nd isC = true)
    (hps : ps.map (fun i => (wr ++ w1)[i]?) = w'.map some) (hnp : va_nd ps = true) :
    (∀ q, va_A wc H.size q → A q) ∧ va_P D vwCl wc H ∧ va_D (fun _ => True) wc ∧
    ∀ (H1 : Heap) (locs1 : List Loc), va_P D vwCl w1 H1 → va_D (va_A wc H.size) w1 → (∀ q : Nat, q < H.size → ¬ va_A wc H.size q → H1[q]? = H[q]?) → va_S A H0 H1 locs1 → Wo D A H0 w' H1 locs1 := by
  obtain ⟨hP, hD, hS⟩ := hw
  have hF := va_free (wc := wc) hD hS hA isC hC
  have hfm : ∀ {is : List Nat} {W w : va_W}, is.map (fun i => W[i]?) = w.map some → is.filterMap (fun i => W[i]?) = w := by
    intro is W w h
    have h2 : is.filterMap (fun i => W[i]?) = (is.map (fun i => W[i]?)).filterMap id := by rw [List.filterMap_map]; rfl
    rw [h2, h, List.filterMap_map]
    simp
  refine ⟨hF, hP.sub isC (hfm hC), (hD.sub isC hnC hC).weaken (fun _ _ _ _ => trivial), fun H1 locs1 h1 h2 h3 h4 => ?_⟩
  obtain ⟨j1, j2⟩ := va_join (wr := wr) (w1 := w1) hP hD isC isR hC hR hn hdis h3 hF h1 h2
  exact ⟨j1.sub ps (hfm hps), j2.sub ps hnp hps, h4⟩
/-- invokevirtual by a contract -/
theorem g_callV (hc : Cx p s m args meth c cc nL Ts own ret D cI cZ cL A) (hw : Wo D A s.heap ws H locs) {y : MethodName} {wsm wsm' : List Cond} {rm : Room} {b q0 ci index n maxL : Nat} {As fs : List Value} {wc wr w1 w' : va_W} {res : Option Value} {C : String} {bytes : ByteArray} {rt : Option FieldType} {vc : vw_C}
    (hM : MX l y wsm rm D cI cZ cL (.ref b :: As) wc res w1) (hG : GoodIn Ts (wsV own index C y wsm)) (hcode : wsm = Cond.code y bytes maxL rt :: wsm') (hd : y.cls = C ∧ y.cls ≠ "java/lang/invoke/MethodHandle" ∧ y.cls ≠ "java/lang/invoke/VarHandle" ∧ (parseMethodDescriptor y.desc).map (fun d => d.parameters.length) = some n) (hRm : rm.frames + 1 ≤ R.frames ∧ 8 + (maxL + 11) + rm.locals ≤ R.locals)
    (he : wc[q0]? = some (b, .inr (ci, fs))) (hcl : vwCl[ci]? = some vc) (hvc : vc.1 = C) (isC isR ps : List Nat) (hC : isC.map (fun i => ws[i]?) = wc.map some) (hR : isR.map (fun i => ws[i]?) = wr.map some) (hn : va_nd isR = true) (hdis : ∀ i ∈ isR, i ∉ isC) (hnC : va_nd isC = true)
    (hps : ps.map (fun i => (wr ++ w1)[i]?) = w'.map some) (hnp : va_nd ps = true) (hlen : As.length = n) {st0 : List Value} (hst : st0 = As.reverse ++ .ref b :: rest) (hsz : ls.size = nL) (hcat : (rest.map fun v => v.category).sum ≤ 8) {st1 : List Value} (hst1 : res.toList ++ rest = st1) (hdg : decode cc pc = .ok (.invokevirtual index, 3)) {k2 s2 : Nat} (hk2 : cells + rm.cells = k2) (hs2 : slots + rm.slots = s2) (hcs : k2 ≤ R.cells ∧ s2 ≤ R.slots)
    (kk : ∀ (H1 : Heap) (locs1 : List Loc), Wo D A s.heap w' H1 locs1 → W p l e R s m args below meth c H1 locs1 k2 s2 Q (F0 m (pc + 3) ls st1)) : W p l e R s m args below meth c H locs cells slots Q (F0 m pc ls st0) := by
  obtain ⟨hx, hb, -, hml, hown, hts, -, hK, hA⟩ := hc
  obtain ⟨hF, hPc, hDc, hj⟩ := g_part hw hA isC isR ps hC hR hn hdis hnC hps hnp
  subst hst
  subst hvc
  refine g_goes (va_runV (As := As) (rest := rest) ⟨hx, hb, hml, hown, hts⟩ (hM H.size) (cwV n hts hG hcode rfl rfl hd hRm) ⟨PX.blind, va_recv hK.1 hPc hcl he, fun U hU hW => ⟨rfl, by rw [hU], by rw [hU]; exact hPc, Kx.warm hW hK, hDc⟩⟩ rfl hlen hsz rfl (lv_room hcat) hdg (by rw [hk2, hs2]; exact hcs)) hw.2.2 (fun q _ h => hF q h) hF hst1 hk2 hs2 (fun H1 l1 h1 h2 h3 h4 => kk H1 l1 (hj H1 l1 h1 h2 h3 h4))
/-- invokestatic by a contract -/
theorem g_callS (hc : Cx p s m args meth c cc nL Ts own ret D cI cZ cL A) (hw : Wo D A s.heap ws H locs) {y : MethodName} {wsm wsm' : List Cond} {rm : Room} {index n maxL : Nat} {As : List Value} {wc wr w1 w' : va_W} {res : Option Value} {bytes : ByteArray} {rt : Option FieldType}
    (hM : MX l y wsm rm D cI cZ cL As wc res w1) (hG : GoodIn Ts (va_wsS own index y wsm)) (hcode : wsm = Cond.code y bytes maxL rt :: wsm') (hd : y.cls ≠ "java/lang/invoke/MethodHandle" ∧ y.cls ≠ "java/lang/invoke/VarHandle" ∧ (parseMethodDescriptor y.desc).map (fun d => d.parameters.length) = some n) (hRm : rm.frames + 1 ≤ R.frames ∧ 8 + (maxL + 11) + rm.locals ≤ R.locals)
    (isC isR ps : List Nat) (hC : isC.map (fun i => ws[i]?) = wc.map some) (hR : isR.map (fun i => ws[i]?) = wr.map some) (hn : va_nd isR = true) (hdis : ∀ i ∈ isR, i ∉ isC) (hnC : va_nd isC = true)
    (hps : ps.map (fun i => (wr ++ w1)[i]?) = w'.map some) (hnp : va_nd ps = true) (hlen : As.length = n) {st0 : List Value} (hst : st0 = As.reverse ++ rest) (hsz : ls.size = nL) (hcat : (rest.map fun v => v.category).sum ≤ 8) {st1 : List Value} (hst1 : res.toList ++ rest = st1) (hdg : decode cc pc = .ok (.invokestatic index, 3)) {k2 s2 : Nat} (hk2 : cells + rm.cells = k2) (hs2 : slots + rm.slots = s2) (hcs : k2 ≤ R.cells ∧ s2 ≤ R.slots)
    (kk : ∀ (H1 : Heap) (locs1 : List Loc), Wo D A s.heap w' H1 locs1 → W p l e R s m args below meth c H1 locs1 k2 s2 Q (F0 m (pc + 3) ls st1)) : W p l e R s m args below meth c H locs cells slots Q (F0 m pc ls st0) := by
  obtain ⟨hx, hb, -, hml, hown, hts, -, hK, hA⟩ := hc
  obtain ⟨hF, hPc, hDc, hj⟩ := g_part hw hA isC isR ps hC hR hn hdis hnC hps hnp
  subst hst
  have ok : ∀ w ∈ va_wsS own index y wsm, w.before args s = true := fun w h => hts w (hG w h).1
  refine g_goes (va_runS (As := As) (rest := rest) ⟨hx, hb, hml, hown, hts⟩ (hM H.size) ⟨callB_of n hts (fun w h => hG w (by unfold va_wsS; exact List.mem_append_right _ h)) hcode rfl rfl (ok _ (by simp [va_wsS])) (ok _ (by simp [va_wsS])) hd hRm, ok _ (by simp [va_wsS])⟩ ⟨PX.blind, fun U hU hW => ⟨rfl, by rw [hU], by rw [hU]; exact hPc, Kx.warm hW hK, hDc⟩⟩ rfl hlen hsz rfl (lv_room hcat) hdg (by rw [hk2, hs2]; exact hcs)) hw.2.2 (fun q _ h => hF q h) hF hst1 hk2 hs2 (fun H1 l1 h1 h2 h3 h4 => kk H1 l1 (hj H1 l1 h1 h2 h3 h4))
/-- the whole world goes with the call -/
theorem g_whole (hw : Wo D A H0 ws H locs) (hA : ∀ q, H0.size ≤ q → A q) : (∀ q, va_A ws H.size q → A q) ∧ va_P D vwCl ws H ∧ va_D (fun _ => True) ws ∧
    ∀ (w1 : va_W) (H1 : Heap) (locs1 : List Loc), va_P D vwCl w1 H1 → va_D (va_A ws H.size) w1 → va_S A H0 H1 locs1 → Wo D A H0 w1 H1 locs1 := by
  obtain ⟨hP, hD, hS⟩ := hw
  have hF : ∀ q, va_A ws H.size q → A q := fun q h => by
    rcases h with ⟨k, e, h⟩ | h
    · exact hD.2 k (q, e) h
    · exact hA q (Nat.le_trans hS.1 h)
  exact ⟨hF, hP, hD.weaken (fun _ _ _ _ => trivial), fun w1 H1 l1 h1 h2 h3 => ⟨h1, h2.weaken (fun k q _ h => hF q.1 h), h3⟩⟩
theorem g_callV0 (hc : Cx p s m args meth c cc nL Ts own ret D cI cZ cL A) (hw : Wo D A s.heap ws H locs) {y : MethodName} {wsm wsm' : List Cond} {rm : Room} {b ci index n maxL : Nat} {As fs : List Value} {w1 : va_W} {res : Option Value} {C : String} {bytes : ByteArray} {rt : Option FieldType} {vc : vw_C}
    (hM : MX l y wsm rm D cI cZ cL (.ref b :: As) ws res w1) (hG : GoodIn Ts (wsV own index C y wsm)) (hcode : wsm = Cond.code y bytes maxL rt :: wsm') (hd : y.cls = C ∧ y.cls ≠ "java/lang/invoke/MethodHandle" ∧ y.cls ≠ "java/lang/invoke/VarHandle" ∧ (parseMethodDescriptor y.desc).map (fun d => d.parameters.length) = some n) (hRm : rm.frames + 1 ≤ R.frames ∧ 8 + (maxL + 11) + rm.locals ≤ R.locals)
    (q0 : Nat) (he : ws[q0]? = some (b, .inr (ci, fs))) (hcl : vwCl[ci]? = some vc) (hvc : vc.1 = C) (hlen : As.length = n) {st0 : List Value} (hst : st0 = As.reverse ++ .ref b :: rest) (hsz : ls.size = nL) (hcat : (rest.map fun v => v.category).sum ≤ 8) {st1 : List Value} (hst1 : res.toList ++ rest = st1) (hdg : decode cc pc = .ok (.invokevirtual index, 3)) {k2 s2 : Nat} (hk2 : cells + rm.cells = k2) (hs2 : slots + rm.slots = s2) (hcs : k2 ≤ R.cells ∧ s2 ≤ R.slots)
    (kk : ∀ (H1 : Heap) (locs1 : List Loc), Wo D A s.heap w1 H1 locs1 → W p l e R s m args below meth c H1 locs1 k2 s2 Q (F0 m (pc + 3) ls st1)) : W p l e R s m args below meth c H locs cells slots Q (F0 m pc ls st0) := by
  obtain ⟨hx, hb, -, hml, hown, hts, -, hK, hA⟩ := hc
  obtain ⟨hF, hPc, hDc, hj⟩ := g_whole hw hA
  subst hst
  subst hvc
  refine g_goes (va_runV (As := As) (rest := rest) ⟨hx, hb, hml, hown, hts⟩ (hM H.size) (cwV n hts hG hcode rfl rfl hd hRm) ⟨PX.blind, va_recv hK.1 hPc hcl he, fun U hU hW => ⟨rfl, by rw [hU], by rw [hU]; exact hPc, Kx.warm hW hK, hDc⟩⟩ rfl hlen hsz rfl (lv_room hcat) hdg (by rw [hk2, hs2]; exact hcs)) hw.2.2 (fun q _ h => hF q h) hF hst1 hk2 hs2 (fun H1 l1 h1 h2 _ h4 => kk H1 l1 (hj w1 H1 l1 h1 h2 h4))
/-- a static method without a world -/
theorem g_callS0 (hc : Cx p s m args meth c cc nL Ts own ret D cI cZ cL A) (hw : Wo D A s.heap ws H locs) {y : MethodName} {wsm wsm' : List Cond} {rm : Room} {index n maxL : Nat} {As : List Value} {res : Option Value} {bytes : ByteArray} {rt : Option FieldType}
    (hM : MX l y wsm rm D cI cZ cL As [] res []) (hG : GoodIn Ts (va_wsS own index y wsm)) (hcode : wsm = Cond.code y bytes maxL rt :: wsm') (hd : y.cls ≠ "java/lang/invoke/MethodHandle" ∧ y.cls ≠ "java/lang/invoke/VarHandle" ∧ (parseMethodDescriptor y.desc).map (fun d => d.parameters.length) = some n) (hRm : rm.frames + 1 ≤ R.frames ∧ 8 + (maxL + 11) + rm.locals ≤ R.locals)
    (hlen : As.length = n) {st0 : List Value} (hst : st0 = As.reverse ++ rest) (hsz : ls.size = nL) (hcat : (rest.map fun v => v.category).sum ≤ 8) {st1 : List Value} (hst1 : res.toList ++ rest = st1) (hdg : decode cc pc = .ok (.invokestatic index, 3)) {k2 s2 : Nat} (hk2 : cells + rm.cells = k2) (hs2 : slots + rm.slots = s2) (hcs : k2 ≤ R.cells ∧ s2 ≤ R.slots)
    (kk : ∀ (H1 : Heap) (locs1 : List Loc), Wo D A s.heap ws H1 locs1 → W p l e R s m args below meth c H1 locs1 k2 s2 Q (F0 m (pc + 3) ls st1)) : W p l e R s m args below meth c H locs cells slots Q (F0 m pc ls st0) := by
  obtain ⟨hx, hb, -, hml, hown, hts, -, hK, hA⟩ := hc
  obtain ⟨hP, hD, hS⟩ := hw
  have hF : ∀ q, va_A [] H.size q → A q := fun q h => by
    rcases h with ⟨k, e, h⟩ | h
    · simp at h
    · exact hA q (Nat.le_trans hS.1 h)
  subst hst
  have ok : ∀ w ∈ va_wsS own index y wsm, w.before args s = true := fun w h => hts w (hG w h).1
  refine g_goes (va_runS (As := As) (rest := rest) ⟨hx, hb, hml, hown, hts⟩ (hM H.size) ⟨callB_of n hts (fun w h => hG w (by unfold va_wsS; exact List.mem_append_right _ h)) hcode rfl rfl (ok _ (by simp [va_wsS])) (ok _ (by simp [va_wsS])) hd hRm, ok _ (by simp [va_wsS])⟩ ⟨PX.blind, fun U hU hW => ⟨rfl, by rw [hU], fun k q h => by simp at h, Kx.warm hW hK, ⟨fun i j p q h => by simp at h, fun k q h => by simp at h⟩⟩⟩ rfl hlen hsz rfl (lv_room hcat) hdg (by rw [hk2, hs2]; exact hcs)) hS (fun q _ h => hF q h) hF hst1 hk2 hs2 (fun H1 l1 _ _ h3 h4 => kk H1 l1 ⟨hP.kept (fun k q hk => h3 q.1 (hP k q hk).lt (fun z => by
    rcases z with ⟨k9, e9, h9⟩ | h9
    · simp at h9
    · exact absurd (hP k q hk).lt (by omega))), hD, h4⟩)
theorem g_mmax (hc : Cx p s m args meth c cc nL Ts own ret D cI cZ cL A) (hsz : ls.size = nL) {index : Nat} (m1 : Cond.methodLink own index Lib.Math.max.name ∈ Ts) (m2 : Cond.static Lib.Math.max.name ∈ Ts) (m3 : Cond.initialized "java/lang/Math" ∈ Ts) (m4 : Cond.code Lib.Math.max.name Lib.Math.max.code 2 (some .int) ∈ Ts)
    (hf : 1 ≤ R.frames) (hlo : (rest.map fun v => v.category).sum + 13 ≤ R.locals) (h1 : cells ≤ R.cells) (h2 : slots ≤ R.slots) {x y : Int32} (hdg : decode cc pc = .ok (.invokestatic index, 3))
    (kk : W p l e R s m args below meth c H locs cells slots Q (F0 m (pc + 3) ls (.int (if x < y then y else x) :: rest))) : W p l e R s m args below meth c H locs cells slots Q (F0 m pc ls (.int y :: .int x :: rest)) := by
  obtain ⟨hx, hb, -, hml, hown, hts, -, hK, hA⟩ := hc
  exact va_mmax hx hb (hml.trans hsz.symm) hown (hts _ m1) (hts _ m2) (hts _ m3) (hts _ m4) hf hlo h1 h2 hdg kk
theorem g_mmin (hc : Cx p s m args meth c cc nL Ts own ret D cI cZ cL A) (hsz : ls.size = nL) {index : Nat} (m1 : Cond.methodLink own index Lib.Math.min.name ∈ Ts) (m2 : Cond.static Lib.Math.min.name ∈ Ts) (m3 : Cond.initialized "java/lang/Math" ∈ Ts) (m4 : Cond.code Lib.Math.min.name Lib.Math.min.code 2 (some .int) ∈ Ts)
    (hf : 1 ≤ R.frames) (hlo : (rest.map fun v => v.category).sum + 13 ≤ R.locals) (h1 : cells ≤ R.cells) (h2 : slots ≤ R.slots) {x y : Int32} (hdg : decode cc pc = .ok (.invokestatic index, 3))
    (kk : W p l e R s m args below meth c H locs cells slots Q (F0 m (pc + 3) ls (.int (if y < x then y else x) :: rest))) : W p l e R s m args below meth c H locs cells slots Q (F0 m pc ls (.int y :: .int x :: rest)) := by
  obtain ⟨hx, hb, -, hml, hown, hts, -, hK, hA⟩ := hc
  exact va_mmin hx hb (hml.trans hsz.symm) hown (hts _ m1) (hts _ m2) (hts _ m3) (hts _ m4) hf hlo h1 h2 hdg kk
end GR
/-- a loop of n turns that makes f's values: the state at the head with the number i and the value a, for all i and a -/
def lpf {α : Type} (f : Nat → α → α) : Nat → Nat → α → α
  | 0, _, a => a
  | n + 1, i, a => lpf f n (i + 1) (f i a)
theorem lp_ind {α : Type} (G : Nat → α → Prop) (f : Nat → α → α) (N : Nat) (hs : ∀ i a, i < N → G (i + 1) (f i a) → G i a) : ∀ (n i : Nat) (a : α), i + n = N → G N (lpf f n i a) → G i a := by
  intro n
  induction n with
  | zero => intro i a h g; rw [Nat.add_zero] at h; subst h; exact g
  | succ n ih => intro i a h g; exact hs i a (by omega) (ih (i + 1) (f i a) (by omega) g)
theorem lp_go {α : Type} (G : Nat → α → Prop) (f : Nat → α → α) (N : Nat) (a : α) (hs : ∀ i a, i < N → G (i + 1) (f i a) → G i a) (he : G N (lpf f N 0 a)) : G 0 a := lp_ind G f N hs N 0 a (by omega) he
/-- the same for a loop that may be left: f answers the way out, or the next value -/
def lpx {α β : Type} (f : Nat → α → β ⊕ α) : Nat → Nat → α → β ⊕ α
  | 0, _, a => .inr a
  | n + 1, i, a => match f i a with
    | .inl b => .inl b
    | .inr a' => lpx f n (i + 1) a'
def lpx_E {α β : Type} (E : β → Prop) (G : α → Prop) : β ⊕ α → Prop
  | .inl b => E b
  | .inr a => G a
theorem lpx_ind {α β : Type} (G : Nat → α → Prop) (E : β → Prop) (f : Nat → α → β ⊕ α) (N : Nat) (hs : ∀ i a, i < N → lpx_E E (G (i + 1)) (f i a) → G i a) : ∀ (n i : Nat) (a : α), i + n = N → lpx_E E (G N) (lpx f n i a) → G i a := by
  intro n
  induction n with
  | zero => intro i a h g; rw [Nat.add_zero] at h; subst h; exact g
  | succ n ih =>
    intro i a h g
    refine hs i a (by omega) ?_
    rw [lpx] at g
    cases hf : f i a with
    | inl b => rw [hf] at g; exact g
    | inr a' => rw [hf] at g; exact ih (i + 1) a' (by omega) g
theorem lpx_go {α β : Type} (G : Nat → α → Prop) (E : β → Prop) (f : Nat → α → β ⊕ α) (N : Nat) (a : α) (hs : ∀ i a, i < N → (∀ b, f i a = .inl b → E b) → (∀ a', f i a = .inr a' → G (i + 1) a') → G i a) (hi : ∀ b, lpx f N 0 a = .inl b → E b) (hr : ∀ q, lpx f N 0 a = .inr q → G N q) : G 0 a := by
  refine lpx_ind G E f N (fun i a hi h => ?_) N 0 a (by omega) ?_
  · refine hs i a hi (fun b hb => ?_) (fun a' ha => ?_)
    · rw [hb] at h; exact h
    · rw [ha] at h; exact h
  · cases h : lpx f N 0 a with
    | inl b => exact hi b h
    | inr q => exact hr q h
theorem lpf_P {α : Type} (P : α → Prop) (f : Nat → α → α) (hs : ∀ i a, P a → P (f i a)) : ∀ (n i : Nat) (a : α), P a → P (lpf f n i a) := by
  intro n
  induction n with
  | zero => intro i a h; exact h
  | succ n ih => intro i a h; exact ih (i + 1) (f i a) (hs i a h)
theorem nz_01 {v : Int32} (h : v = 0 ∨ v = 1) : narrow .boolean (.int v) = .int v := by rcases h with rfl | rfl <;> rfl
theorem inc_1 (x : Int32) : x + Int32.ofInt 1 = x + 1 := rfl
theorem dec_1 (x : Int32) : x + Int32.ofInt (-1) = x + (-1) := by rw [show Int32.ofInt (-1) = (-1 : Int32) from by decide]
theorem inc_n (i : Nat) : nI i + Int32.ofInt 1 = nI (i + 1) := nI_1 i
theorem vp_x {x : Int32} {w N : Nat} (h0 : ¬ x < 0) (h1 : ¬ nI w ≤ x) (hw : w ≤ N) (hN : N < 2 ^ 31) : vp_in x N := by
  obtain ⟨j, hj, rfl⟩ := nI_of h0
  have hlt : j < w := by
    rcases Nat.lt_or_ge j w with q | q
    · exact q
    · exact absurd (nI_le q hj) h1
  exact vp_in_nI (by omega) hN
end GB
