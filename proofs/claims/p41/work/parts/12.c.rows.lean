/-! 12.c: rows of rows of ints; contracts that tell of the result and the world behind by one predicate -/
section RC
theorem va_cellq {cA : ClassId} {N : Nat} {f g : Nat → Option Nat} (h : ∀ i, i < N → f i = g i) : vp_cell cA (N, .inr (.inr (.inr (.inr f)))) = vp_cell cA (N, .inr (.inr (.inr (.inr g)))) := by
  rw [vp_cell_q, vp_cell_q]
  unfold arrV
  congr 1
  refine congrArg Array.ofFn (funext fun j => ?_)
  show va_rf (f j.val) = va_rf (g j.val)
  rw [h j.val j.isLt]
theorem gx_asg (vm : Vm) (k : Nat) (t : ClassId) : vm.assignableAux (k + 1) t t = true := by
  unfold Vm.assignableAux
  simp
theorem gx_cls {D : va_G} {cI cZ cL : ClassId} {s : State} (h : Kx D cI cZ cL s) : ∃ kL kI : Class, s.vm.classes[cL]? = some kL ∧ kL.kind = .array cI (.array .int) ∧ s.vm.classes[cI]? = some kI := by
  obtain ⟨comp, c, k, h1, h2, h3, h4, h5⟩ := arrayOverA_spec h.2.2
  have e1 : s.vm.findClass ("[" ++ FieldType.int.toString) = some cI := (h.1.2 0 _ rfl).2
  have e2 : s.vm.findClass ("[" ++ (FieldType.array .int).toString) = some cL := (h.1.2 2 _ rfl).2
  have e3 : c = cL := Option.some.inj (h5.symm.trans e2)
  have e5 : (FieldType.array .int).toString = "[" ++ FieldType.int.toString := by decide +kernel
  rw [e5] at h1
  have e4 : comp = cI := Option.some.inj (h1.symm.trans e1)
  subst e3; subst e4
  obtain ⟨-, kI, hkI, -⟩ := (h.1.2 0 _ rfl).1 0 (fun _ => .null)
  exact ⟨k, kI, h3, h4, hkI⟩
def QG (D : va_G) (A : Nat → Prop) (G : Option Value → va_W → Prop) : Array Value → State → Outcome → State → Prop := fun _ st oc t => (∃ (res : Option Value) (w1 : va_W), oc = .returned res ∧ G res w1 ∧ va_P D vwCl w1 t.heap ∧ va_D A w1) ∧ va_F A st t
/-- THE CONTRACT that tells of result and world by G; what is thrown below may be caught in it -/
def MG (l : Launch) (y : MethodName) (ws : List Cond) (rm : Room) (D : va_G) (cI cZ cL : ClassId) (av : List Value) (w0 : va_W) (G : Option Value → va_W → Prop) : Prop :=
  ∀ sz : Nat, Met l y ws rm (PT D cI cZ cL av w0 sz) (QG D (va_A w0 sz) G) rm.cells rm.slots (va_A w0 sz)
def GE (below : List Frame) (args : Array Value) (s : State) (D : va_G) (A : Nat → Prop) (G : Option Value → va_W → Prop) (rm : Room) : State → Prop := MQ below (QG D A G) args s rm.cells rm.slots A
theorem MG.of {l : Launch} {y : MethodName} {ws ws' : List Cond} {rm : Room} {D : va_G} {cI cZ cL : ClassId} {av : List Value} {w0 : va_W} {G : Option Value → va_W → Prop} {cc : ByteArray} {maxL : Nat} {ret : Option FieldType} {own : String} {lv0 : List (Nat × Value)}
    (hy : plainName y.cls = true) (hw : ws = Cond.code y cc maxL ret :: ws') (ho : y.cls = own) (hlen : (lg_sl av).length ≤ maxL) (hlv : lv_args 0 av = lv0)
    (body : ∀ (p : Program) (e : Env) (s : State) (m : MethodId) (args : Array Value) (below : List Frame) (meth : Method) (c : Code) (A : Nat → Prop), Cx p s m args meth c cc maxL ws own ret D cI cZ cL A → Tx A s → meth.name = y.name → Wo D A s.heap w0 s.heap [] → ∀ ls : Array Slot, lv_has ls maxL lv0 →
      W p l e rm s m args below meth c s.heap [] 0 0 (GE below args s D A G rm) (F0 m 0 ls [])) : MG l y ws rm D cI cZ cL av w0 G := by
  intro sz
  refine Met.ofW (cc := cc) (maxL := maxL) (ret := ret) hy hw ?_
  intro p e s m args below meth c s₁ B hml hv
  obtain ⟨rfl, hsz, hP, hK, hD0, hT⟩ := hv
  subst hsz
  rw [lg_entry_eq]
  refine body p e s m _ below meth c (va_A w0 s.heap.size) ⟨B.exec, B.bytes, B.returns, hml, ?_, atoms_spec (ws := ws) B.pre, B.notSynchronized, hK, fun q h => Or.inr h⟩ hT (name_of_methodNamed B.named B.method).1 ⟨hP, hD0.self, va_S.rf⟩ _ ?_
  · rw [← ho]; exact findClass_of_methodNamed B.named
  · rw [← hlv]; exact lv_entry av hlen
theorem MG.ofX {l : Launch} {y : MethodName} {ws ws' : List Cond} {rm : Room} {D : va_G} {cI cZ cL : ClassId} {av : List Value} {w0 : va_W} {G : Option Value → va_W → Prop} {cc : ByteArray} {maxL : Nat} {ret : Option FieldType} {hh : List (Nat × Nat × Nat × Nat)} {own : String} {lv0 : List (Nat × Value)}
    (hy : plainName y.cls = true) (hw : ws = Cond.codeWith y cc maxL ret hh :: ws') (ho : y.cls = own) (hlen : (lg_sl av).length ≤ maxL) (hlv : lv_args 0 av = lv0)
    (body : ∀ (p : Program) (e : Env) (s : State) (m : MethodId) (args : Array Value) (below : List Frame) (meth : Method) (c : Code) (A : Nat → Prop), Cx p s m args meth c cc maxL ws own ret D cI cZ cL A → Tx A s → c.exceptionTable.toList = tableOf hh → Wo D A s.heap w0 s.heap [] → ∀ ls : Array Slot, lv_has ls maxL lv0 →
      W p l e rm s m args below meth c s.heap [] 0 0 (GE below args s D A G rm) (F0 m 0 ls [])) : MG l y ws rm D cI cZ cL av w0 G := by
  intro sz
  refine va_MetW (cc := cc) (maxL := maxL) (ret := ret) (hh := hh) hy hw ?_
  intro p e s m args below meth c s₁ B hml hv
  obtain ⟨rfl, hsz, hP, hK, hD0, hT⟩ := hv
  subst hsz
  have htb := vx_table (x := y) B (atoms_spec (ws := ws) B.pre _ (by rw [hw]; exact List.mem_cons_self))
  rw [lg_entry_eq]
  refine body p e s m _ below meth c (va_A w0 s.heap.size) ⟨B.exec, B.bytes, B.returns, hml, ?_, atoms_spec (ws := ws) B.pre, B.notSynchronized, hK, fun q h => Or.inr h⟩ hT htb ⟨hP, hD0.self, va_S.rf⟩ _ ?_
  · rw [← ho]; exact findClass_of_methodNamed B.named
  · rw [← hlv]; exact lv_entry av hlen
section RR
variable {p : Program} {l : Launch} {e : Env} {R : Room} {s : State} {m : MethodId} {args : Array Value} {below : List Frame} {meth : Method} {c : Code} {H H0 : Heap} {locs : List Loc} {cells slots : Nat} {Q : State → Prop}
variable {cc : ByteArray} {nL : Nat} {Ts : List Cond} {own : String} {ret : Option FieldType} {D : va_G} {cI cZ cL : ClassId} {A : Nat → Prop} {ws : va_W} {pc : Nat} {ls : Array Slot} {rest : List Value}
theorem g_aald (hc : Cx p s m args meth c cc nL Ts own ret D cI cZ cL A) (hw : Wo D A H0 ws H locs) {a n v : Nat} {f : Nat → Option Nat} {i : Int32} (q0 : Nat) (ha : ws[q0]? = some (a, .inl (cL, n, .inr (.inr (.inr (.inr f)))))) (hin : vp_in i n) (hf : f i.toNatClampNeg = some v) (hdg : decode cc pc = .ok (.aaload, 1))
    (kk : W p l e R s m args below meth c H locs cells slots Q (F0 m (pc + 1) ls (.ref v :: rest))) : W p l e R s m args below meth c H locs cells slots Q (F0 m pc ls (.int i :: .ref a :: rest)) := by
  obtain ⟨hx, hb, -, -, hown, hts, -, hK, -⟩ := hc
  have hlt : i.toNatClampNeg < n := Nat.not_le.mp fun q => hin (Or.inr q)
  refine W.aald (v := .ref v) (ty := .array .int) hx hb (hw.1 q0 _ ha) ((hK.1.2 2 _ rfl).1 n (fun j => va_rf (f j))) rfl (fun q => by cases q) (by show ¬ (i < 0 ∨ (arrV _ _ _).slots.size ≤ _); rw [arrV_size]; exact hin) ?_ rfl rfl hdg kk
  show (arrV _ _ _).slots[_]? = _
  rw [arrV_read _ _ hlt, hf]
  rfl
theorem g_aast (hc : Cx p s m args meth c cc nL Ts own ret D cI cZ cL A) (hw : Wo D A H0 ws H locs) {a n v k : Nat} {f : Nat → Option Nat} {g : Nat → Int32} {i : Int32} {w' : va_W} (q0 qk : Nat) (ha : ws[q0]? = some (a, .inl (cL, n, .inr (.inr (.inr (.inr f)))))) (hv : ws[qk]? = some (v, .inl (cI, k, .inl g))) (hin : vp_in i n)
    (hw' : ws.set q0 (a, .inl (cL, n, .inr (.inr (.inr (.inr (va_up f i.toNatClampNeg (some v))))))) = w') (hdg : decode cc pc = .ok (.aastore, 1))
    (kk : ∀ (H1 : Heap) (locs1 : List Loc), Wo D A H0 w' H1 locs1 → W p l e R s m args below meth c H1 locs1 cells slots Q (F0 m (pc + 1) ls rest)) : W p l e R s m args below meth c H locs cells slots Q (F0 m pc ls (.ref v :: .int i :: .ref a :: rest)) := by
  obtain ⟨hx, hb, -, -, hown, hts, -, hK, -⟩ := hc
  obtain ⟨hP, hD, hS⟩ := hw
  obtain ⟨kL, kI, c1, c2, c3⟩ := gx_cls hK
  have hlt : i.toNatClampNeg < n := Nat.not_le.mp fun q => hin (Or.inr q)
  have h0 : ¬ i < 0 := fun q => hin (Or.inl q)
  have hasg : s.vm.assignable cI cI = true := gx_asg s.vm 255 cI
  subst hw'
  refine W.aast hx hb (hP q0 _ ha) (fun q h => by cases h) (fun h => by cases h) c1 c2 rfl c3 ⟨h0, by show _ < (arrV _ _ _).slots.size; rw [arrV_size]; exact hlt⟩ (hP qk _ hv) (fun q h => by cases h) c3 hasg rfl rfl hdg fun H1 e z oq => ?_
  refine kk H1 _ ⟨hP.set hD ha ?_ oq, hD.set ha, hS.put z oq (hD.2 q0 _ ha)⟩
  show H1[a]? = some (vp_cell _ _)
  rw [e]
  rw [vp_cell_q, vp_cell_q, arrV_store]
  congr 2
  funext q
  by_cases hq : q = i.toNatClampNeg
  · subst hq
    simp [updV, va_up, va_rf]
  · simp [updV, va_up, hq]
theorem g_anew (hc : Cx p s m args meth c cc nL Ts own ret D cI cZ cL A) (hw : Wo D A s.heap ws H locs) {index : Nat} (m1 : Cond.classLink own index "[I" ∈ Ts) {n : Int32} {N : Nat} (hn : ¬ n < 0) (hN : n.toNatClampNeg = N) (hby : N * 4 ≤ 536870912) (h1 : cells + 1 ≤ R.cells) (h2 : slots + N ≤ R.slots) (hdg : decode cc pc = .ok (.anewarray index, 3))
    (kk : ∀ (q : Nat) (H1 : Heap) (locs1 : List Loc), Wo D A s.heap (ws ++ [(q, .inl (cL, N, .inr (.inr (.inr (.inr (fun _ => none))))))]) H1 locs1 → W p l e R s m args below meth c H1 locs1 (cells + 1) (slots + N) Q (F0 m (pc + 3) ls (.ref q :: rest))) : W p l e R s m args below meth c H locs cells slots Q (F0 m pc ls (.int n :: rest)) := by
  obtain ⟨hx, hb, -, hml, hown, hts, -, hK, hA⟩ := hc
  obtain ⟨hP, hD, hS⟩ := hw
  subst hN
  have e5 : (FieldType.array .int).toString = "[I" := by decide +kernel
  refine W.anewA (t := .int) hx hb hown (by rw [e5]; exact hts _ m1) (gx_AO.use hK.2.2) rfl hdg rfl hn hby h1 h2 fun cA kA comp f1 f2 f3 f4 => ?_
  have e2 : s.vm.findClass ("[" ++ (FieldType.array .int).toString) = some cL := (hK.1.2 2 _ rfl).2
  have e3 : cA = cL := Option.some.inj (f1.symm.trans e2)
  subst e3
  generalize hH1 : H.push ({ cls := cA, slots := Array.replicate n.toNatClampNeg .null, vm := .none } : Cell) = H1
  have z1 : H1.size = H.size + 1 := by rw [← hH1, Array.size_push]
  have e1 : H1[H.size]? = some (arrV cA n.toNatClampNeg (fun _ => .null)) := by rw [← hH1, Array.getElem?_push_size, ← arrV_new]
  have o1 : ∀ q : Nat, q < H.size → H1[q]? = H[q]? := fun q hq => by rw [← hH1, Array.getElem?_push, if_neg (Nat.ne_of_lt hq)]
  have hk : ∀ (k : Nat) (x : Nat × va_E), ws[k]? = some x → H1[x.1]? = H[x.1]? := fun k x hx => o1 x.1 ((hP k x hx).lt)
  refine kk H.size H1 _ ⟨(hP.kept hk).app (fun k x hx => ?_), hD.push hP rfl (hA _ hS.1), ⟨Nat.le_trans hS.1 (by omega), fun x h1 h2 => (o1 x (Nat.lt_of_lt_of_le h1 hS.1)).trans (hS.2.1 x h1 h2), hS.2.2⟩⟩
  have hz : k < 1 := (List.getElem?_eq_some_iff.mp hx).1
  rw [show k = 0 by omega] at hx
  cases hx
  show H1[H.size]? = some (vp_cell _ _)
  rw [vp_cell_q]
  exact e1
theorem G_iret {G : Option Value → va_W → Prop} {w1 : va_W} {rm : Room} {v : Int32} (hc : Cx p s m args meth c cc nL Ts own (some .int) D cI cZ cL A) (hw : Wo D A s.heap w1 H locs) (hG : G (some (.int v)) w1) (h1 : cells ≤ rm.cells) (h2 : slots ≤ rm.slots) (hdg : decode cc pc = .ok (.ireturn, 1)) :
    W p l e R s m args below meth c H locs cells slots (GE below args s D A G rm) (F0 m pc ls [.int v]) := by
  obtain ⟨hx, hb, hr, -, hown, hts, hlocks, hK, -⟩ := hc
  refine W.widen h1 h2 ?_
  exact W.iret (v := v) hx hb hr (fun t ht hW => ⟨⟨_, w1, rfl, hG, by rw [ht]; exact hw.1, hw.2.1⟩, hw.2.2.F ht⟩) hw.2.2.2.2 hdg
theorem G_zret {G : Option Value → va_W → Prop} {w1 : va_W} {rm : Room} {v : Int32} (hc : Cx p s m args meth c cc nL Ts own (some .boolean) D cI cZ cL A) (hw : Wo D A s.heap w1 H locs) (hn : narrow .boolean (.int v) = .int v) (hG : G (some (.int v)) w1) (h1 : cells ≤ rm.cells) (h2 : slots ≤ rm.slots) (hdg : decode cc pc = .ok (.ireturn, 1)) :
    W p l e R s m args below meth c H locs cells slots (GE below args s D A G rm) (F0 m pc ls [.int v]) := by
  obtain ⟨hx, hb, hr, -, hown, hts, hlocks, hK, -⟩ := hc
  refine W.widen h1 h2 ?_
  exact W.zret (v := v) hx hb hr hn (fun t ht hW => ⟨⟨_, w1, rfl, hG, by rw [ht]; exact hw.1, hw.2.1⟩, hw.2.2.F ht⟩) hw.2.2.2.2 hdg
theorem G_vret {G : Option Value → va_W → Prop} {w1 : va_W} {rm : Room} (hc : Cx p s m args meth c cc nL Ts own none D cI cZ cL A) (hw : Wo D A s.heap w1 H locs) (hG : G none w1) (h1 : cells ≤ rm.cells) (h2 : slots ≤ rm.slots) (hdg : decode cc pc = .ok (.return_, 1)) :
    W p l e R s m args below meth c H locs cells slots (GE below args s D A G rm) (F0 m pc ls []) := by
  obtain ⟨hx, hb, hr, -, hown, hts, hlocks, hK, -⟩ := hc
  refine W.widen h1 h2 ?_
  exact W.vret hx hb hr (fun t ht hW => ⟨⟨_, w1, rfl, hG, by rw [ht]; exact hw.1, hw.2.1⟩, hw.2.2.F ht⟩) hw.2.2.2.2 hdg
theorem G_aret {G : Option Value → va_W → Prop} {w1 : va_W} {rm : Room} {q : Nat} {rt : FieldType} (hrt : (∃ n, rt = .object n) ∨ ∃ t, rt = .array t) (hc : Cx p s m args meth c cc nL Ts own (some rt) D cI cZ cL A) (hw : Wo D A s.heap w1 H locs) (hG : G (some (.ref q)) w1) (h1 : cells ≤ rm.cells) (h2 : slots ≤ rm.slots) (hdg : decode cc pc = .ok (.areturn, 1)) :
    W p l e R s m args below meth c H locs cells slots (GE below args s D A G rm) (F0 m pc ls [.ref q]) := by
  obtain ⟨hx, hb, hr, -, hown, hts, hlocks, hK, -⟩ := hc
  refine W.widen h1 h2 ?_
  exact W.aret (v := .ref q) hx hb hr hrt (Or.inr ⟨q, rfl⟩) (fun t ht hW => ⟨⟨_, w1, rfl, hG, by rw [ht]; exact hw.1, hw.2.1⟩, hw.2.2.F ht⟩) hw.2.2.2.2 hdg
theorem G_goes {mc ms : Nat} {st0 : List Value} {A1 : Nat → Prop} {G : Option Value → va_W → Prop} {a : Array Value} {free : Addr → Prop} (hr : va_Run p l e R s m args below meth c H locs cells slots mc ms (F0 m pc ls st0) rest (QG D A1 G a) free) (hS : va_S A H0 H locs) (hA : ∀ q, q < H.size → A1 q → A q) (hf : ∀ q, free q → A q) {k2 s2 : Nat} (hk2 : cells + mc = k2) (hs2 : slots + ms = s2)
    (kk : ∀ (res : Option Value) (w1 : va_W) (H1 : Heap) (locs1 : List Loc), G res w1 → va_P D vwCl w1 H1 → va_D A1 w1 → (∀ q : Nat, q < H.size → ¬ A1 q → H1[q]? = H[q]?) → va_S A H0 H1 locs1 → W p l e R s m args below meth c H1 locs1 k2 s2 Q (F0 m (pc + 3) ls (res.toList ++ rest))) : W p l e R s m args below meth c H locs cells slots Q (F0 m pc ls st0) := by
  subst hk2; subst hs2
  intro T hT X
  obtain ⟨v, st₀, t, T', L, h0, X', hL, e1, e2, ⟨⟨res, w1, hv, hg, hp, hb⟩, hz, hk⟩, st⟩ := hr T hT X
  cases hv
  rw [h0] at hz hk
  obtain ⟨t2, a1, b1⟩ := kk v w1 T'.heap (locs ++ L) hg (by rw [e1]; exact hp) hb (fun q h1 h2 => by rw [e1]; exact hk q h1 h2)
    ⟨Nat.le_trans hS.1 (by rw [e1]; exact hz), fun q h1 h2 => by rw [e1, hk q (Nat.lt_of_lt_of_le h1 hS.1) (fun z => h2 (hA q (Nat.lt_of_lt_of_le h1 hS.1) z))]; exact hS.2.1 q h1 h2, fun q hq => by
      rcases List.mem_append.mp hq with h | h
      · exact hS.2.2 q h
      · exact hf _ (hL q h)⟩ T' rfl X'
  exact ⟨t2, st t2 a1, b1⟩
/-- invokevirtual of such a method, with a part of the world -/
theorem G_callV (hc : Cx p s m args meth c cc nL Ts own ret D cI cZ cL A) (hT : Tx A s) (hS : va_S A s.heap H locs) {J : va_W → va_W} {y : MethodName} {wsm wsm' : List Cond} {rm : Room} {b q0 ci index n maxL : Nat} {As fs : List Value} {wc : va_W} {G : Option Value → va_W → Prop} {C : String} {bytes : ByteArray} {rt : Option FieldType} {vc : vw_C}
    (hpt : Pt D A s.heap H wc J) (hM : MG l y wsm rm D cI cZ cL (.ref b :: As) wc G) (hG : GoodIn Ts (wsV own index C y wsm)) (hcode : wsm = Cond.code y bytes maxL rt :: wsm') (hd : y.cls = C ∧ y.cls ≠ "java/lang/invoke/MethodHandle" ∧ y.cls ≠ "java/lang/invoke/VarHandle" ∧ (parseMethodDescriptor y.desc).map (fun d => d.parameters.length) = some n) (hRm : rm.frames + 1 ≤ R.frames ∧ 8 + (maxL + 11) + rm.locals ≤ R.locals)
    (he : wc[q0]? = some (b, .inr (ci, fs))) (hcl : vwCl[ci]? = some vc) (hvc : vc.1 = C) (hlen : As.length = n) {st0 : List Value} (hst : st0 = As.reverse ++ .ref b :: rest) (hsz : ls.size = nL) (hcat : (rest.map fun v => v.category).sum ≤ 8) (hdg : decode cc pc = .ok (.invokevirtual index, 3)) {k2 s2 : Nat} (hk2 : cells + rm.cells = k2) (hs2 : slots + rm.slots = s2) (hcs : k2 ≤ R.cells ∧ s2 ≤ R.slots)
    (kk : ∀ (res : Option Value) (w1 : va_W) (H1 : Heap) (locs1 : List Loc), G res w1 → Wo D A s.heap (J w1) H1 locs1 → W p l e R s m args below meth c H1 locs1 k2 s2 Q (F0 m (pc + 3) ls (res.toList ++ rest))) : W p l e R s m args below meth c H locs cells slots Q (F0 m pc ls st0) := by
  obtain ⟨hx, hb, -, hml, hown, hts, -, hK, hA⟩ := hc
  obtain ⟨hF, hPc, hDc, hj⟩ := hpt
  subst hst
  subst hvc
  refine G_goes (va_runV (As := As) (rest := rest) ⟨hx, hb, hml, hown, hts⟩ (hM H.size) (cwV n hts hG hcode rfl rfl hd hRm) ⟨PT.blind, va_recv hK.1 hPc hcl he, fun U hU hW => ⟨rfl, by rw [hU], by rw [hU]; exact hPc, Kx.warm hW hK, hDc, hT.sent hS hF hU hW⟩⟩ rfl hlen hsz rfl (lv_room hcat) hdg (by rw [hk2, hs2]; exact hcs)) hS (fun q _ h => hF q h) hF hk2 hs2 (fun res w1 H1 l1 hg h1 h2 h3 h4 => kk res w1 H1 l1 hg (hj w1 H1 l1 h1 h2 h3 h4))
/-- invokestatic of such a method -/
theorem G_callS (hc : Cx p s m args meth c cc nL Ts own ret D cI cZ cL A) (hT : Tx A s) (hS : va_S A s.heap H locs) {J : va_W → va_W} {y : MethodName} {wsm wsm' : List Cond} {rm : Room} {index n maxL : Nat} {As : List Value} {wc : va_W} {G : Option Value → va_W → Prop} {bytes : ByteArray} {rt : Option FieldType}
    (hpt : Pt D A s.heap H wc J) (hM : MG l y wsm rm D cI cZ cL As wc G) (hG : GoodIn Ts (va_wsS own index y wsm)) (hcode : wsm = Cond.code y bytes maxL rt :: wsm') (hd : y.cls ≠ "java/lang/invoke/MethodHandle" ∧ y.cls ≠ "java/lang/invoke/VarHandle" ∧ (parseMethodDescriptor y.desc).map (fun d => d.parameters.length) = some n) (hRm : rm.frames + 1 ≤ R.frames ∧ 8 + (maxL + 11) + rm.locals ≤ R.locals)
    (hlen : As.length = n) {st0 : List Value} (hst : st0 = As.reverse ++ rest) (hsz : ls.size = nL) (hcat : (rest.map fun v => v.category).sum ≤ 8) (hdg : decode cc pc = .ok (.invokestatic index, 3)) {k2 s2 : Nat} (hk2 : cells + rm.cells = k2) (hs2 : slots + rm.slots = s2) (hcs : k2 ≤ R.cells ∧ s2 ≤ R.slots)
    (kk : ∀ (res : Option Value) (w1 : va_W) (H1 : Heap) (locs1 : List Loc), G res w1 → Wo D A s.heap (J w1) H1 locs1 → W p l e R s m args below meth c H1 locs1 k2 s2 Q (F0 m (pc + 3) ls (res.toList ++ rest))) : W p l e R s m args below meth c H locs cells slots Q (F0 m pc ls st0) := by
  obtain ⟨hx, hb, -, hml, hown, hts, -, hK, hA⟩ := hc
  obtain ⟨hF, hPc, hDc, hj⟩ := hpt
  subst hst
  have ok : ∀ w ∈ va_wsS own index y wsm, w.before args s = true := fun w h => hts w (hG w h).1
  refine G_goes (va_runS (As := As) (rest := rest) ⟨hx, hb, hml, hown, hts⟩ (hM H.size) ⟨callB_of n hts (fun w h => hG w (by unfold va_wsS; exact List.mem_append_right _ h)) hcode rfl rfl (ok _ (by simp [va_wsS])) (ok _ (by simp [va_wsS])) hd hRm, ok _ (by simp [va_wsS])⟩ ⟨PT.blind, fun U hU hW => ⟨rfl, by rw [hU], by rw [hU]; exact hPc, Kx.warm hW hK, hDc, hT.sent hS hF hU hW⟩⟩ rfl hlen hsz rfl (lv_room hcat) hdg (by rw [hk2, hs2]; exact hcs)) hS (fun q _ h => hF q h) hF hk2 hs2 (fun res w1 H1 l1 hg h1 h2 h3 h4 => kk res w1 H1 l1 hg (hj w1 H1 l1 h1 h2 h3 h4))
/-- invokestatic of one that has handlers -/
theorem G_callSW (hc : Cx p s m args meth c cc nL Ts own ret D cI cZ cL A) (hT : Tx A s) (hS : va_S A s.heap H locs) {J : va_W → va_W} {y : MethodName} {wsm wsm' : List Cond} {rm : Room} {index n maxL : Nat} {As : List Value} {wc : va_W} {G : Option Value → va_W → Prop} {bytes : ByteArray} {rt : Option FieldType} {hh : List (Nat × Nat × Nat × Nat)}
    (hpt : Pt D A s.heap H wc J) (hM : MG l y wsm rm D cI cZ cL As wc G) (hG : GoodIn Ts (va_wsS own index y wsm)) (hcode : wsm = Cond.codeWith y bytes maxL rt hh :: wsm') (hd : y.cls ≠ "java/lang/invoke/MethodHandle" ∧ y.cls ≠ "java/lang/invoke/VarHandle" ∧ (parseMethodDescriptor y.desc).map (fun d => d.parameters.length) = some n) (hRm : rm.frames + 1 ≤ R.frames ∧ 8 + (maxL + 11) + rm.locals ≤ R.locals)
    (hlen : As.length = n) {st0 : List Value} (hst : st0 = As.reverse ++ rest) (hsz : ls.size = nL) (hcat : (rest.map fun v => v.category).sum ≤ 8) (hdg : decode cc pc = .ok (.invokestatic index, 3)) {k2 s2 : Nat} (hk2 : cells + rm.cells = k2) (hs2 : slots + rm.slots = s2) (hcs : k2 ≤ R.cells ∧ s2 ≤ R.slots)
    (kk : ∀ (res : Option Value) (w1 : va_W) (H1 : Heap) (locs1 : List Loc), G res w1 → Wo D A s.heap (J w1) H1 locs1 → W p l e R s m args below meth c H1 locs1 k2 s2 Q (F0 m (pc + 3) ls (res.toList ++ rest))) : W p l e R s m args below meth c H locs cells slots Q (F0 m pc ls st0) := by
  obtain ⟨hx, hb, -, hml, hown, hts, -, hK, hA⟩ := hc
  obtain ⟨hF, hPc, hDc, hj⟩ := hpt
  subst hst
  refine G_goes (vx_runSW (As := As) (rest := rest) ⟨hx, hb, hml, hown, hts⟩ (hM H.size) (vx_cwSW n hts hG hcode rfl rfl hd hRm) ⟨PT.blind, fun U hU hW => ⟨rfl, by rw [hU], by rw [hU]; exact hPc, Kx.warm hW hK, hDc, hT.sent hS hF hU hW⟩⟩ rfl hlen hsz rfl (lv_room hcat) hdg (by rw [hk2, hs2]; exact hcs)) hS (fun q _ h => hF q h) hF hk2 hs2 (fun res w1 H1 l1 hg h1 h2 h3 h4 => kk res w1 H1 l1 hg (hj w1 H1 l1 h1 h2 h3 h4))
/-- invokespecial of a nest mate's constructor -/
theorem G_callIN (hc : Cx p s m args meth c cc nL Ts own ret D cI cZ cL A) (hT : Tx A s) (hS : va_S A s.heap H locs) {J : va_W → va_W} {y : MethodName} {wsm wsm' : List Cond} {rm : Room} {b index maxL : Nat} {host : String} {wc : va_W} {G : Option Value → va_W → Prop} {bytes : ByteArray}
    (hpt : Pt D A s.heap H wc J) (hM : MG l y wsm rm D cI cZ cL [.ref b] wc G) (hG : GoodIn Ts wsm) (hcode : wsm = Cond.code y bytes maxL none :: wsm') (hini : Cond.initialized y.cls ∈ Ts) (hl : gx_N s → va_Nw (Cond.methodLinkNest own index y host) s) (hin : Cond.instanceMethod y ∈ Ts) (hy1 : y.name = "<init>")
    (hd : y.cls ≠ "java/lang/invoke/MethodHandle" ∧ y.cls ≠ "java/lang/invoke/VarHandle" ∧ (parseMethodDescriptor y.desc).map (fun d => d.parameters.length) = some 0) (hRm : rm.frames + 1 ≤ R.frames ∧ 8 + (maxL + 11) + rm.locals ≤ R.locals)
    (hsz : ls.size = nL) (hcat : (rest.map fun v => v.category).sum ≤ 8) (hdg : decode cc pc = .ok (.invokespecial index, 3)) {k2 s2 : Nat} (hk2 : cells + rm.cells = k2) (hs2 : slots + rm.slots = s2) (hcs : k2 ≤ R.cells ∧ s2 ≤ R.slots)
    (kk : ∀ (res : Option Value) (w1 : va_W) (H1 : Heap) (locs1 : List Loc), G res w1 → Wo D A s.heap (J w1) H1 locs1 → W p l e R s m args below meth c H1 locs1 k2 s2 Q (F0 m (pc + 3) ls (res.toList ++ rest))) : W p l e R s m args below meth c H locs cells slots Q (F0 m pc ls (.ref b :: rest)) := by
  obtain ⟨hx, hb, -, hml, hown, hts, -, hK, hA⟩ := hc
  obtain ⟨hF, hPc, hDc, hj⟩ := hpt
  refine G_goes (va_runIN (As := []) (rest := rest) ⟨hx, hb, hml, hown, hts⟩ (hM H.size) ⟨va_cnB 0 hts hG hcode rfl rfl (hl hK.2) (hts _ hini) hd hRm, hy1, hts _ hin⟩ ⟨PT.blind, fun U hU hW => ⟨rfl, by rw [hU], by rw [hU]; exact hPc, Kx.warm hW hK, hDc, hT.sent hS hF hU hW⟩⟩ rfl rfl hsz rfl (lv_room hcat) hdg (by rw [hk2, hs2]; exact hcs)) hS (fun q _ h => hF q h) hF hk2 hs2 (fun res w1 H1 l1 hg h1 h2 h3 h4 => kk res w1 H1 l1 hg (hj w1 H1 l1 h1 h2 h3 h4))
/-- a method that could throw, called where it doesn't, with a part of the world -/
theorem G_callT (hc : Cx p s m args meth c cc nL Ts own ret D cI cZ cL A) (hT : Tx A s) (hS : va_S A s.heap H locs) {J : va_W → va_W} {y : MethodName} {wsm wsm' : List Cond} {rm : Room} {b q0 ci index n maxL : Nat} {As fs : List Value} {wc w1 : va_W} {res : Option Value} {C : String} {bytes : ByteArray} {rt : Option FieldType} {vc : vw_C}
    (hpt : Pt D A s.heap H wc J) (hM : TX l y wsm rm D cI cZ cL (.ref b :: As) wc 0 res w1) (hG : GoodIn Ts (wsV own index C y wsm)) (hcode : wsm = Cond.code y bytes maxL rt :: wsm') (hd : y.cls = C ∧ y.cls ≠ "java/lang/invoke/MethodHandle" ∧ y.cls ≠ "java/lang/invoke/VarHandle" ∧ (parseMethodDescriptor y.desc).map (fun d => d.parameters.length) = some n) (hRm : rm.frames + 1 ≤ R.frames ∧ 8 + (maxL + 11) + rm.locals ≤ R.locals)
    (he : wc[q0]? = some (b, .inr (ci, fs))) (hcl : vwCl[ci]? = some vc) (hvc : vc.1 = C) (hlen : As.length = n) {st0 : List Value} (hst : st0 = As.reverse ++ .ref b :: rest) (hsz : ls.size = nL) (hcat : (rest.map fun v => v.category).sum ≤ 8) {st1 : List Value} (hst1 : res.toList ++ rest = st1) (hdg : decode cc pc = .ok (.invokevirtual index, 3)) {k2 s2 : Nat} (hk2 : cells + rm.cells = k2) (hs2 : slots + rm.slots = s2) (hcs : k2 ≤ R.cells ∧ s2 ≤ R.slots)
    (kk : ∀ (H1 : Heap) (locs1 : List Loc), Wo D A s.heap (J w1) H1 locs1 → W p l e R s m args below meth c H1 locs1 k2 s2 Q (F0 m (pc + 3) ls st1)) : W p l e R s m args below meth c H locs cells slots Q (F0 m pc ls st0) :=
  pt_callV hc hT hS hpt hM hG hcode hd hRm he hcl hvc hlen hst hsz hcat hst1 hdg hk2 hs2 hcs (fun h => absurd rfl h) (fun _ H1 l1 hw => kk H1 l1 hw)
end RR
theorem MX.tx {l : Launch} {y : MethodName} {ws : List Cond} {rm : Room} {D : va_G} {cI cZ cL : ClassId} {av : List Value} {w0 w1 : va_W} {res res' : Option Value} (h : MX l y ws rm D cI cZ cL av w0 res w1) (hr : res = res') : MX l y ws rm D cI cZ cL av w0 res' w1 := hr ▸ h
theorem TX.to {l : Launch} {y : MethodName} {ws : List Cond} {rm : Room} {D : va_G} {cI cZ cL : ClassId} {av : List Value} {w0 w1 : va_W} {code : Nat} {res res' : Option Value} (h : TX l y ws rm D cI cZ cL av w0 code res w1) (hc : code = 0) (hr : res = res') : TX l y ws rm D cI cZ cL av w0 0 res' w1 := by subst hc; subst hr; exact h
theorem Wo.drop2 {D : va_G} {A : Nat → Prop} {H0 H : Heap} {ws X : va_W} {locs : List Loc} (h : Wo D A H0 (ws ++ X) H locs) : Wo D A H0 ws H locs := by
  obtain ⟨hP, hD, hS⟩ := h
  have hk : ∀ (k : Nat) (q : Nat × va_E), ws[k]? = some q → (ws ++ X)[k]? = some q := fun k q hq => by
    rw [List.getElem?_append_left (List.getElem?_eq_some_iff.mp hq).1]; exact hq
  exact ⟨fun k q hq => hP k q (hk k q hq), ⟨fun i j p q hi hj => hD.1 i j p q (hk i p hi) (hk j q hj), fun k q hq => hD.2 k q (hk k q hq)⟩, hS⟩
end RC
