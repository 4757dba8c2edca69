/-! 11.a: contracts of constructors: a method that leaves one of several worlds -/
section NB
def QN (D : va_G) (A : Nat → Prop) (G : va_W → Prop) : Array Value → State → Outcome → State → Prop := fun _ st oc t => (oc = .returned none ∧ ∃ w1 : va_W, G w1 ∧ va_P D vwCl w1 t.heap ∧ va_D A w1) ∧ va_F A st t
def MN (l : Launch) (y : MethodName) (ws : List Cond) (rm : Room) (D : va_G) (cI cZ cL : ClassId) (av : List Value) (w0 : va_W) (G : va_W → Prop) : Prop :=
  ∀ sz : Nat, Met l y ws rm (PX D cI cZ cL av w0 sz) (QN D (va_A w0 sz) G) rm.cells rm.slots (va_A w0 sz)
def NE (below : List Frame) (args : Array Value) (s : State) (D : va_G) (A : Nat → Prop) (G : va_W → Prop) (rm : Room) : State → Prop := MQ below (QN D A G) args s rm.cells rm.slots A
theorem MN.of {l : Launch} {y : MethodName} {ws ws' : List Cond} {rm : Room} {D : va_G} {cI cZ cL : ClassId} {av : List Value} {w0 : va_W} {G : va_W → Prop} {cc : ByteArray} {maxL : Nat} {ret : Option FieldType} {own : String} {lv0 : List (Nat × Value)}
    (hy : plainName y.cls = true) (hw : ws = Cond.code y cc maxL ret :: ws') (ho : y.cls = own) (hlen : (lg_sl av).length ≤ maxL) (hlv : lv_args 0 av = lv0)
    (body : ∀ (p : Program) (e : Env) (s : State) (m : MethodId) (args : Array Value) (below : List Frame) (meth : Method) (c : Code) (A : Nat → Prop), Cx p s m args meth c cc maxL ws own ret D cI cZ cL A → meth.name = y.name → Wo D A s.heap w0 s.heap [] → ∀ ls : Array Slot, lv_has ls maxL lv0 →
      W p l e rm s m args below meth c s.heap [] 0 0 (NE below args s D A G rm) (F0 m 0 ls [])) : MN l y ws rm D cI cZ cL av w0 G := by
  intro sz
  refine Met.ofW (cc := cc) (maxL := maxL) (ret := ret) hy hw ?_
  intro p e s m args below meth c s₁ B hml hv
  obtain ⟨rfl, hsz, hP, hK, hD0⟩ := hv
  subst hsz
  rw [lg_entry_eq]
  refine body p e s m _ below meth c (va_A w0 s.heap.size) ⟨B.exec, B.bytes, B.returns, hml, ?_, atoms_spec (ws := ws) B.pre, B.notSynchronized, hK, fun q h => Or.inr h⟩ (name_of_methodNamed B.named B.method).1 ⟨hP, hD0.self, va_S.rf⟩ _ ?_
  · rw [← ho]; exact findClass_of_methodNamed B.named
  · rw [← hlv]; exact lv_entry av hlen
section NR
variable {p : Program} {l : Launch} {e : Env} {R : Room} {s : State} {m : MethodId} {args : Array Value} {below : List Frame} {meth : Method} {c : Code} {H H0 : Heap} {locs : List Loc} {cells slots : Nat} {Q : State → Prop}
variable {cc : ByteArray} {nL : Nat} {Ts : List Cond} {own : String} {ret : Option FieldType} {D : va_G} {cI cZ cL : ClassId} {A : Nat → Prop} {ws : va_W} {pc : Nat} {ls : Array Slot} {rest : List Value}
theorem n_vret {G : va_W → Prop} {w1 : va_W} {rm : Room} (hc : Cx p s m args meth c cc nL Ts own none D cI cZ cL A) (hw : Wo D A s.heap w1 H locs) (hG : G w1) (h1 : cells ≤ rm.cells) (h2 : slots ≤ rm.slots) (hdg : decode cc pc = .ok (.return_, 1)) :
    W p l e R s m args below meth c H locs cells slots (NE below args s D A G rm) (F0 m pc ls []) := by
  obtain ⟨hx, hb, hr, -, hown, hts, hlocks, hK, -⟩ := hc
  refine W.widen h1 h2 ?_
  exact W.vret hx hb hr (fun t ht hW => ⟨⟨rfl, w1, hG, by rw [ht]; exact hw.1, hw.2.1⟩, hw.2.2.F ht⟩) hw.2.2.2.2 hdg
theorem n_goes {mc ms : Nat} {st0 : List Value} {A1 : Nat → Prop} {G : va_W → Prop} {a : Array Value} {free : Addr → Prop} (hr : va_Run p l e R s m args below meth c H locs cells slots mc ms (F0 m pc ls st0) rest (QN D A1 G a) free) (hS : va_S A H0 H locs) (hA : ∀ q, q < H.size → A1 q → A q) (hf : ∀ q, free q → A q) {k2 s2 : Nat} (hk2 : cells + mc = k2) (hs2 : slots + ms = s2)
    (kk : ∀ (w1 : va_W) (H1 : Heap) (locs1 : List Loc), G w1 → va_P D vwCl w1 H1 → va_D A1 w1 → (∀ q : Nat, q < H.size → ¬ A1 q → H1[q]? = H[q]?) → va_S A H0 H1 locs1 → W p l e R s m args below meth c H1 locs1 k2 s2 Q (F0 m (pc + 3) ls rest)) : W p l e R s m args below meth c H locs cells slots Q (F0 m pc ls st0) := by
  subst hk2; subst hs2
  intro T hT X
  obtain ⟨v, st₀, t, T', L, h0, X', hL, e1, e2, ⟨⟨hv, w1, hg, hp, hb⟩, hz, hk⟩, st⟩ := hr T hT X
  cases hv
  rw [h0] at hz hk
  obtain ⟨t2, a1, b1⟩ := kk w1 T'.heap (locs ++ L) hg (by rw [e1]; exact hp) hb (fun q h1 h2 => by rw [e1]; exact hk q h1 h2)
    ⟨Nat.le_trans hS.1 (by rw [e1]; exact hz), fun q h1 h2 => by rw [e1, hk q (Nat.lt_of_lt_of_le h1 hS.1) (fun z => h2 (hA q (Nat.lt_of_lt_of_le h1 hS.1) z))]; exact hS.2.1 q h1 h2, fun q hq => by
      rcases List.mem_append.mp hq with h | h
      · exact hS.2.2 q h
      · exact hf _ (hL q h)⟩ T' rfl X'
  exact ⟨t2, st t2 a1, b1⟩
theorem n_part {wc wr : va_W} (hw : Wo D A H0 ws H locs) (hA : ∀ q, H0.size ≤ q → A q) (isC isR : List Nat) (hC : isC.map (fun i => ws[i]?) = wc.map some) (hR : isR.map (fun i => ws[i]?) = wr.map some) (hn : va_nd isR = true) (hdis : ∀ i ∈ isR, i ∉ isC) (hnC : va_nd isC = true) :
    (∀ q, va_A wc H.size q → A q) ∧ va_P D vwCl wc H ∧ va_D (fun _ => True) wc ∧
    ∀ (w1 : va_W) (H1 : Heap) (locs1 : List Loc), va_P D vwCl w1 H1 → va_D (va_A wc H.size) w1 → (∀ q : Nat, q < H.size → ¬ va_A wc H.size q → H1[q]? = H[q]?) → va_S A H0 H1 locs1 → Wo D A H0 (wr ++ w1) H1 locs1 := by
  obtain ⟨hP, hD, hS⟩ := hw
  have hF := va_free (wc := wc) hD hS hA isC hC
  have hfm : ∀ {is : List Nat} {W w : va_W}, is.map (fun i => W[i]?) = w.map some → is.filterMap (fun i => W[i]?) = w := by
    intro is W w h
    have h2 : is.filterMap (fun i => W[i]?) = (is.map (fun i => W[i]?)).filterMap id := by rw [List.filterMap_map]; rfl
    rw [h2, h, List.filterMap_map]
    simp
  refine ⟨hF, hP.sub isC (hfm hC), (hD.sub isC hnC hC).weaken (fun _ _ _ _ => trivial), fun w1 H1 locs1 h1 h2 h3 h4 => ?_⟩
  obtain ⟨j1, j2⟩ := va_join (wr := wr) (w1 := w1) hP hD isC isR hC hR hn hdis h3 hF h1 h2
  exact ⟨j1, j2, h4⟩
theorem n_callI (hc : Cx p s m args meth c cc nL Ts own ret D cI cZ cL A) (hw : Wo D A s.heap ws H locs) {y : MethodName} {wsm wsm' : List Cond} {rm : Room} {b index maxL : Nat} {wc wr : va_W} {G : va_W → Prop} {bytes : ByteArray}
    (hM : MN l y wsm rm D cI cZ cL [.ref b] wc G) (hG : GoodIn Ts wsm) (hcode : wsm = Cond.code y bytes maxL none :: wsm') (hini : Cond.initialized y.cls ∈ Ts) (hl : Cond.methodLink own index y ∈ Ts) (hin : Cond.instanceMethod y ∈ Ts) (hy1 : y.name = "<init>")
    (hd : y.cls ≠ "java/lang/invoke/MethodHandle" ∧ y.cls ≠ "java/lang/invoke/VarHandle" ∧ (parseMethodDescriptor y.desc).map (fun d => d.parameters.length) = some 0) (hRm : rm.frames + 1 ≤ R.frames ∧ 8 + (maxL + 11) + rm.locals ≤ R.locals)
    (isC isR : List Nat) (hC : isC.map (fun i => ws[i]?) = wc.map some) (hR : isR.map (fun i => ws[i]?) = wr.map some) (hn : va_nd isR = true) (hdis : ∀ i ∈ isR, i ∉ isC) (hnC : va_nd isC = true)
    (hsz : ls.size = nL) (hcat : (rest.map fun v => v.category).sum ≤ 8) (hdg : decode cc pc = .ok (.invokespecial index, 3)) {k2 s2 : Nat} (hk2 : cells + rm.cells = k2) (hs2 : slots + rm.slots = s2) (hcs : k2 ≤ R.cells ∧ s2 ≤ R.slots)
    (kk : ∀ (w1 : va_W) (H1 : Heap) (locs1 : List Loc), G w1 → Wo D A s.heap (wr ++ w1) H1 locs1 → W p l e R s m args below meth c H1 locs1 k2 s2 Q (F0 m (pc + 3) ls rest)) : W p l e R s m args below meth c H locs cells slots Q (F0 m pc ls (.ref b :: rest)) := by
  obtain ⟨hx, hb, -, hml, hown, hts, -, hK, hA⟩ := hc
  obtain ⟨hF, hPc, hDc, hj⟩ := n_part hw hA isC isR hC hR hn hdis hnC
  refine n_goes (va_runI (As := []) (rest := rest) ⟨hx, hb, hml, hown, hts⟩ (hM H.size) (cwI 0 hts hG hcode rfl rfl (hts _ hini) (hts _ hl) (hts _ hin) hy1 hd hRm) ⟨PX.blind, fun U hU hW => ⟨rfl, by rw [hU], by rw [hU]; exact hPc, Kx.warm hW hK, hDc⟩⟩ rfl rfl hsz rfl (lv_room hcat) hdg (by rw [hk2, hs2]; exact hcs)) hw.2.2 (fun q _ h => hF q h) hF hk2 hs2 (fun w1 H1 l1 hg h1 h2 h3 h4 => kk w1 H1 l1 hg (hj w1 H1 l1 h1 h2 h3 h4))
theorem n_callIN (hc : Cx p s m args meth c cc nL Ts own ret D cI cZ cL A) (hw : Wo D A s.heap ws H locs) {y : MethodName} {wsm wsm' : List Cond} {rm : Room} {b index maxL : Nat} {host : String} {wc wr : va_W} {G : va_W → Prop} {bytes : ByteArray}
    (hM : MN l y wsm rm D cI cZ cL [.ref b] wc G) (hG : GoodIn Ts wsm) (hcode : wsm = Cond.code y bytes maxL none :: wsm') (hini : Cond.initialized y.cls ∈ Ts) (hl : gx_N s → va_Nw (Cond.methodLinkNest own index y host) s) (hin : Cond.instanceMethod y ∈ Ts) (hy1 : y.name = "<init>")
    (hd : y.cls ≠ "java/lang/invoke/MethodHandle" ∧ y.cls ≠ "java/lang/invoke/VarHandle" ∧ (parseMethodDescriptor y.desc).map (fun d => d.parameters.length) = some 0) (hRm : rm.frames + 1 ≤ R.frames ∧ 8 + (maxL + 11) + rm.locals ≤ R.locals)
    (isC isR : List Nat) (hC : isC.map (fun i => ws[i]?) = wc.map some) (hR : isR.map (fun i => ws[i]?) = wr.map some) (hn : va_nd isR = true) (hdis : ∀ i ∈ isR, i ∉ isC) (hnC : va_nd isC = true)
    (hsz : ls.size = nL) (hcat : (rest.map fun v => v.category).sum ≤ 8) (hdg : decode cc pc = .ok (.invokespecial index, 3)) {k2 s2 : Nat} (hk2 : cells + rm.cells = k2) (hs2 : slots + rm.slots = s2) (hcs : k2 ≤ R.cells ∧ s2 ≤ R.slots)
    (kk : ∀ (w1 : va_W) (H1 : Heap) (locs1 : List Loc), G w1 → Wo D A s.heap (wr ++ w1) H1 locs1 → W p l e R s m args below meth c H1 locs1 k2 s2 Q (F0 m (pc + 3) ls rest)) : W p l e R s m args below meth c H locs cells slots Q (F0 m pc ls (.ref b :: rest)) := by
  obtain ⟨hx, hb, -, hml, hown, hts, -, hK, hA⟩ := hc
  obtain ⟨hF, hPc, hDc, hj⟩ := n_part hw hA isC isR hC hR hn hdis hnC
  refine n_goes (va_runIN (As := []) (rest := rest) ⟨hx, hb, hml, hown, hts⟩ (hM H.size) ⟨va_cnB 0 hts hG hcode rfl rfl (hl hK.2) (hts _ hini) hd hRm, hy1, hts _ hin⟩ ⟨PX.blind, fun U hU hW => ⟨rfl, by rw [hU], by rw [hU]; exact hPc, Kx.warm hW hK, hDc⟩⟩ rfl rfl hsz rfl (lv_room hcat) hdg (by rw [hk2, hs2]; exact hcs)) hw.2.2 (fun q _ h => hF q h) hF hk2 hs2 (fun w1 H1 l1 hg h1 h2 h3 h4 => kk w1 H1 l1 hg (hj w1 H1 l1 h1 h2 h3 h4))
theorem g_newZ (hc : Cx p s m args meth c cc nL Ts own ret D cI cZ cL A) (hw : Wo D A s.heap ws H locs) {N : Nat} {n : Int32} (m1 : Cond.arrayClass .boolean ∈ Ts) (hn : ¬ n < 0) (hN : n.toNatClampNeg = N) (hby : N * componentBytes .boolean ≤ 536870912) (h1 : cells + 1 ≤ R.cells) (h2 : slots + N ≤ R.slots) (hdg : decode cc pc = .ok (.newarray .boolean, 2))
    (kk : ∀ (q : Nat) (H1 : Heap) (locs1 : List Loc), Wo D A s.heap (ws ++ [(q, .inl (cZ, N, .inl (fun _ => 0)))]) H1 locs1 → W p l e R s m args below meth c H1 locs1 (cells + 1) (slots + N) Q (F0 m (pc + 2) ls (.ref q :: rest))) : W p l e R s m args below meth c H locs cells slots Q (F0 m pc ls (.int n :: rest)) := by
  obtain ⟨hx, hb, -, hml, hown, hts, -, hK, hA⟩ := hc
  refine va_newa (atype := .boolean) (ty := .boolean) (a0 := (N, .inl (fun _ => 0))) hx hb (hts _ m1) rfl hK.1 hw.1 hw.2.1 hw.2.2 hA (fun cA => rfl) hn hN hby h1 h2 hdg (fun q cA H1 k1 k2 k3 k4 => ?_)
  have e1 : s.vm.findClass ("[" ++ FieldType.boolean.toString) = some cZ := (hK.1.2 1 _ rfl).2
  have e2 : s.vm.findClass ("[" ++ FieldType.boolean.toString) = some cA := (k1.2 3 _ rfl).2
  have e3 : cA = cZ := Option.some.inj (e2.symm.trans e1)
  subst e3
  exact kk q H1 _ ⟨k2, k3, k4⟩
theorem g_new (hc : Cx p s m args meth c cc nL Ts own ret D cI cZ cL A) (hw : Wo D A s.heap ws H locs) {C : String} {T : u_T} {N ci index : Nat} {fs : List Value} (hin : ∀ w ∈ u_ws C T N, w ∈ Ts) (ty0 : Nat → FieldType) (hty : ∀ k, k < N → parseFieldDescriptor (T k).2.2.1 = some (ty0 k)) (m1 : Cond.classLink own index C ∈ Ts) (m2 : Cond.instantiable C N ∈ Ts) (m3 : Cond.initialized C ∈ Ts) (hcl : vwCl[ci]? = some (C, T, N)) (hfs : ∀ j, j < N → defaultValue (ty0 j) = vp_V fs j) (h1 : cells + 1 ≤ R.cells) (h2 : slots + N ≤ R.slots) (hdg : decode cc pc = .ok (.new index, 3))
    (kk : ∀ (q : Nat) (H1 : Heap) (locs1 : List Loc), Wo D A s.heap (ws ++ [(q, .inr (ci, fs))]) H1 locs1 → W p l e R s m args below meth c H1 locs1 (cells + 1) (slots + N) Q (F0 m (pc + 3) ls (.ref q :: rest))) : W p l e R s m args below meth c H locs cells slots Q (F0 m pc ls rest) := by
  obtain ⟨hx, hb, -, hml, hown, hts, -, hK, hA⟩ := hc
  exact va_new (D := D) hx hb hts hin ty0 hty hown (hts _ m1) (hts _ m2) (hts _ m3) hK.1 hw.1 hw.2.1 hw.2.2 hA hcl hfs h1 h2 hdg (fun q H1 k2 k3 k4 => kk q H1 _ ⟨k2, k3, k4⟩)
theorem g_obj (hc : Cx p s m args meth c cc nL Ts own ret D cI cZ cL A) (hsz : ls.size = nL) {index a : Nat} (m1 : Cond.methodLink own index Lib.objectInit ∈ Ts) (m2 : Cond.instanceMethod Lib.objectInit ∈ Ts) (m3 : Cond.code Lib.objectInit ⟨#[0xb1]⟩ 1 none ∈ Ts) (hf : 1 ≤ R.frames) (hlo : (rest.map fun v => v.category).sum + 12 ≤ R.locals) (hdg : decode cc pc = .ok (.invokespecial index, 3))
    (kk : W p l e R s m args below meth c H locs cells slots Q (F0 m (pc + 3) ls rest)) : W p l e R s m args below meth c H locs cells slots Q (F0 m pc ls (.ref a :: rest)) := by
  obtain ⟨hx, hb, -, hml, hown, hts, -, hK, hA⟩ := hc
  refine W.objInit hx hb hown (hts _ m1) (hts _ m2) (hts _ m3) rfl (hsz.trans hml.symm) rfl hdg hf ?_ kk
  show 2 * 0 + _ + 12 ≤ _
  omega
end NR
end NB
