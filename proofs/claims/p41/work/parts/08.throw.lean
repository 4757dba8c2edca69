/-! 07.throw: contracts of methods that return or throw -/
section TB
def gx_E : Nat → String := fun k => match k with
  | 1 => "java/lang/IllegalArgumentException"
  | 2 => "java/lang/IllegalStateException"
  | _ => "java/lang/IndexOutOfBoundsException"
def gx_nm : List String := ["java/lang/RuntimeException", "java/lang/Exception"]
/-- what throwing asks of the tables beside the good words -/
def gx_T (U : State) : Prop := (va_Nw (.declares (Bundle.initS "java/lang/RuntimeException")) U ∧ va_Nw (.declares (Bundle.initS "java/lang/Exception")) U ∧ va_Nw (.declares (Bundle.initS Bundle.tN)) U) ∧ (∀ k : Nat, va_Nw (.castable (gx_E k) (gx_E k)) U) ∧ True
theorem gx_T.warm {s U : State} (hW : s.WarmedH U.vm) (h : gx_T s) : gx_T U := ⟨⟨va_Nw.warmD hW h.1.1, va_Nw.warmD hW h.1.2.1, va_Nw.warmD hW h.1.2.2⟩, fun k => va_Nw.warmC hW (h.2.1 k), trivial⟩
theorem gx_T.same {s U : State} (hv : s.vm = U.vm) (h : gx_T s) : gx_T U := ⟨⟨va_Nw.same rfl hv h.1.1, va_Nw.same rfl hv h.1.2.1, va_Nw.same rfl hv h.1.2.2⟩, fun k => va_Nw.same rfl hv (h.2.1 k), trivial⟩
def gx_str : List (Nat × String) := [(21, "a ward has 1 to 8 places"), (32, "there are 5 wards"), (39, "a barge is kept for 1 to 9 days"), (44, "there are 4 barges"), (175, "no such barge"), (53, "who comes aboard has a fever of 0 to 9"), (58, "there are 30 people"), (64, "the kitchen has 0 to 60 bowls"), (172, "no such ward"), (177, "no such person"), (82, "this person is in no ward"), (84, "this person is in this ward"), (89, "this ward has no free place"), (179, "days are 1 to 40")]
def gx_S (U : State) : Prop := ∀ q ∈ gx_str, ∃ a : Nat, vk_R RX1 q.1 q.2 a U
theorem gx_S.warm {s U : State} (hW : s.WarmedH U.vm) (h : gx_S s) : gx_S U := fun q hq => (h q hq).elim (fun a ha => ⟨a, vk_R.warm hW ha⟩)
theorem gx_S.same {s U : State} (hv : s.vm = U.vm) (h : gx_S s) : gx_S U := fun q hq => (h q hq).elim (fun a ha => ⟨a, vk_R.same hv.symm ha⟩)
def gx_Z (A : Nat → Prop) (U : State) (H : Heap) : Prop := vx_Zq Bundle.tN "UNASSIGNED_STACK" Bundle.steD A U H ∧ vx_Zq Bundle.tN "SUPPRESSED_SENTINEL" Bundle.listD A U H
def Tx (A : Nat → Prop) (s : State) : Prop := gx_T s ∧ gx_S s ∧ gx_Z A s s.heap
theorem Tx.sent {A B : Nat → Prop} {s U : State} {H : Heap} {locs : List Loc} (h : Tx A s) (hS : va_S A s.heap H locs) (hAB : ∀ q, B q → A q) (hU : U.heap = H) (hW : s.WarmedH U.vm) : gx_T U ∧ gx_S U ∧ gx_Z B U U.heap := by
  refine ⟨gx_T.warm hW h.1, gx_S.warm hW h.2.1, ?_⟩
  rw [hU]
  exact ⟨vx_Zq.moved hW.alike ((h.2.2.1.kept hS.2.1).narrow hAB), vx_Zq.moved hW.alike ((h.2.2.2.kept hS.2.1).narrow hAB)⟩
def PT (D : va_G) (cI cZ cL : ClassId) (av : List Value) (w0 : va_W) (sz : Nat) : Array Value → State → Prop := va_Pc av (fun U => U.heap.size = sz ∧ va_P D vwCl w0 U.heap ∧ Kx D cI cZ cL U ∧ va_D (fun _ => True) w0 ∧ gx_T U ∧ gx_S U ∧ gx_Z (va_A w0 sz) U U.heap)
theorem PT.blind {D : va_G} {cI cZ cL : ClassId} {av : List Value} {w0 : va_W} {sz : Nat} : FrameBlind (PT D cI cZ cL av w0 sz) := by
  intro a U g mk q
  obtain ⟨q0, q1, q2, q3, q4, q5, q6, q7, q8⟩ := q
  exact ⟨q0, q1, q2, Kx.same (s := U) (U := U.calling g mk a) rfl q3, q4, gx_T.same (s := U) (U := U.calling g mk a) rfl q5, gx_S.same (s := U) (U := U.calling g mk a) rfl q6, vx_Zq.moved (u := U) (U := U.calling g mk a) (Vm.Alike.refl U.vm) q7, vx_Zq.moved (u := U) (U := U.calling g mk a) (Vm.Alike.refl U.vm) q8⟩
def QT (D : va_G) (A : Nat → Prop) (code : Nat) (res : Option Value) (w1 : va_W) : Array Value → State → Outcome → State → Prop := fun _ st oc t => ((oc = .returned res ∧ code = 0) ∧ va_P D vwCl w1 t.heap ∧ va_D A w1) ∧ va_F A st t
def XT (D : va_G) (A : Nat → Prop) (code : Nat) (w0 : va_W) : String → State → State → Prop := fun E st t => ((E = gx_E code ∧ code ≠ 0) ∧ va_P D vwCl w0 t.heap ∧ va_D A w0) ∧ va_F A st t
/-- THE CONTRACT of a method that throws gx_E code, leaving its world as it was, where code isn't 0 -/
def TX (l : Launch) (y : MethodName) (ws : List Cond) (rm : Room) (D : va_G) (cI cZ cL : ClassId) (av : List Value) (w0 : va_W) (code : Nat) (res : Option Value) (w1 : va_W) : Prop :=
  ∀ sz : Nat, vx_Met l y ws rm (PT D cI cZ cL av w0 sz) (QT D (va_A w0 sz) code res w1) (XT D (va_A w0 sz) code w0) rm.cells rm.slots (va_A w0 sz)
def TE (below : List Frame) (args : Array Value) (s : State) (D : va_G) (A : Nat → Prop) (code : Nat) (res : Option Value) (w0 w1 : va_W) (rm : Room) : State → Prop := vx_MQ below (QT D A code res w1) (XT D A code w0) args s rm.cells rm.slots A
theorem TX.of {l : Launch} {y : MethodName} {ws ws' : List Cond} {rm : Room} {D : va_G} {cI cZ cL : ClassId} {av : List Value} {w0 w1 : va_W} {code : Nat} {res : Option Value} {cc : ByteArray} {maxL : Nat} {ret : Option FieldType} {own : String} {lv0 : List (Nat × Value)}
    (hy : plainName y.cls = true) (hw : ws = Cond.code y cc maxL ret :: ws') (ho : y.cls = own) (hlen : (lg_sl av).length ≤ maxL) (hlv : lv_args 0 av = lv0)
    (body : ∀ (p : Program) (e : Env) (s : State) (m : MethodId) (args : Array Value) (below : List Frame) (meth : Method) (c : Code) (A : Nat → Prop), Cx p s m args meth c cc maxL ws own ret D cI cZ cL A → Tx A s → (∀ x ∈ c.exceptionTable.toList, False) → Wo D A s.heap w0 s.heap [] → ∀ ls : Array Slot, lv_has ls maxL lv0 →
      W p l e rm s m args below meth c s.heap [] 0 0 (TE below args s D A code res w0 w1 rm) (F0 m 0 ls [])) : TX l y ws rm D cI cZ cL av w0 code res w1 := by
  intro sz
  refine vx_ofW (cc := cc) (maxL := maxL) (ret := ret) hy hw ?_
  intro p e s m args below meth c s₁ B hml hout hv
  obtain ⟨rfl, hsz, hP, hK, hD0, hT⟩ := hv
  subst hsz
  rw [lg_entry_eq]
  refine body p e s m _ below meth c (va_A w0 s.heap.size) ⟨B.exec, B.bytes, B.returns, hml, ?_, atoms_spec (ws := ws) B.pre, B.notSynchronized, hK, fun q h => Or.inr h⟩ hT hout ⟨hP, hD0.self, va_S.rf⟩ _ ?_
  · rw [← ho]; exact findClass_of_methodNamed B.named
  · rw [← hlv]; exact lv_entry av hlen
section TR
variable {p : Program} {l : Launch} {e : Env} {R : Room} {s : State} {m : MethodId} {args : Array Value} {below : List Frame} {meth : Method} {c : Code} {H H0 : Heap} {locs : List Loc} {cells slots : Nat} {Q : State → Prop}
variable {cc : ByteArray} {nL : Nat} {Ts : List Cond} {own : String} {ret : Option FieldType} {D : va_G} {cI cZ cL : ClassId} {A : Nat → Prop} {ws : va_W} {pc : Nat} {ls : Array Slot} {rest : List Value}
/-- an ordinary end -/
theorem t_end {code : Nat} {res : Option Value} {w0 w1 : va_W} {rm : Room} {g : JFrame} (hcode : code = 0)
    (k : ∀ (w1' : va_W) (res' : Option Value), w1' = w1 → res' = res → W p l e R s m args below meth c H locs cells slots (QE below args s D A res' w1' rm) g) : W p l e R s m args below meth c H locs cells slots (TE below args s D A code res w0 w1 rm) g := by
  refine vx_ret ?_
  intro T hT X
  obtain ⟨t, a1, o, b1, b2, ⟨⟨q1, q2, q3⟩, q4⟩, b4⟩ := k w1 res rfl rfl T hT X
  exact ⟨t, a1, o, b1, b2, ⟨⟨⟨q1, hcode⟩, q2, q3⟩, q4⟩, b4⟩
/-- an exception that goes on to the caller -/
theorem t_out {code : Nat} {res : Option Value} {w0 w1 : va_W} {rm : Room} {q9 : Addr} {ce : Cell} (hc : Cx p s m args meth c cc nL Ts own ret D cI cZ cL A) (hout : ∀ x ∈ c.exceptionTable.toList, False) (hw : Wo D A s.heap w0 H locs) (hcode : code ≠ 0) (h1 : H[q9]? = some ce) (h2 : ce.vm = .none) (h3 : s.vm.findClass (gx_E code) = some ce.cls) (h4 : cells ≤ rm.cells) (h5 : slots ≤ rm.slots) :
    vx_W p l e R s m args below meth c H locs cells slots (TE below args s D A code res w0 w1 rm) (F0 m pc ls rest) q9 := by
  obtain ⟨hx, hb, hr, -, hown, hts, hlocks, hK, -⟩ := hc
  exact vx_out (E := gx_E code) (fun x hx => absurd hx (fun z => hout x z)) hlocks h1 h2 h3 (fun t ht hA => ⟨⟨⟨rfl, hcode⟩, by rw [ht]; exact hw.1, hw.2.1⟩, hw.2.2.F ht⟩) hw.2.2.2.2 h4 h5
theorem t_goes {mc ms : Nat} {st0 : List Value} {A1 : Nat → Prop} {code : Nat} {res : Option Value} {w1 wc : va_W} {a : Array Value} {free : Addr → Prop} (hr : vx_Run p l e R s m args below meth c H locs cells slots mc ms (F0 m pc ls st0) rest (QT D A1 code res w1 a) (XT D A1 code wc) free) (hS : va_S A H0 H locs) (hA : ∀ q, q < H.size → A1 q → A q) (hf : ∀ q, free q → A q) {st1 : List Value} {k2 s2 : Nat} (hst1 : res.toList ++ rest = st1) (hk2 : cells + mc = k2) (hs2 : slots + ms = s2)
    (kx : code ≠ 0 → ∀ (H1 : Heap) (locs1 : List Loc) (q9 : Addr) (ce : Cell), va_P D vwCl wc H1 → va_D A1 wc → (∀ q : Nat, q < H.size → ¬ A1 q → H1[q]? = H[q]?) → va_S A H0 H1 locs1 → H1[q9]? = some ce → ce.vm = .none → s.vm.findClass (gx_E code) = some ce.cls → vx_W p l e R s m args below meth c H1 locs1 k2 s2 Q (F0 m pc ls rest) q9)
    (kk : code = 0 → ∀ (H1 : Heap) (locs1 : List Loc), va_P D vwCl w1 H1 → va_D A1 w1 → (∀ q : Nat, q < H.size → ¬ A1 q → H1[q]? = H[q]?) → va_S A H0 H1 locs1 → W p l e R s m args below meth c H1 locs1 k2 s2 Q (F0 m (pc + 3) ls st1)) : W p l e R s m args below meth c H locs cells slots Q (F0 m pc ls st0) := by
  subst hst1; subst hk2; subst hs2
  intro T hT X
  rcases hr T hT X with ⟨v, st₀, t, T', L, h0, X', hL, e1, e2, ⟨⟨⟨hv, hcd⟩, hp, hb⟩, hF⟩, st⟩ | ⟨q, st₀, t, T', L, E, ce, h0, X', hL, e1, e2, ⟨⟨⟨hE, hcd⟩, hp, hb⟩, hF⟩, hce, hcv, hcl, st⟩
  · cases hv
    obtain ⟨k1, k2, k3⟩ := vx_keep h0 e1 hS hA hf hL hF
    obtain ⟨t2, a1, b1⟩ := kk hcd T'.heap (locs ++ L) (by rw [e1]; exact hp) hb k2 k3 T' rfl X'
    exact ⟨t2, st t2 a1, b1⟩
  · obtain ⟨k1, k2, k3⟩ := vx_keep h0 e1 hS hA hf hL hF
    subst hE
    obtain ⟨t2, a1, b1⟩ := kx hcd T'.heap (locs ++ L) q ce (by rw [e1]; exact hp) hb k2 k3 (by rw [e1]; exact hce) hcv hcl T' rfl X'
    exact ⟨t2, st.trans a1, b1⟩
theorem t_callV0 (hc : Cx p s m args meth c cc nL Ts own ret D cI cZ cL A) (hT : Tx A s) (hw : Wo D A s.heap ws H locs) {y : MethodName} {wsm wsm' : List Cond} {rm : Room} {b ci index n maxL : Nat} {As fs : List Value} {w1 : va_W} {code : Nat} {res : Option Value} {C : String} {bytes : ByteArray} {rt : Option FieldType} {vc : vw_C}
    (hM : TX l y wsm rm D cI cZ cL (.ref b :: As) ws code res w1) (hG : GoodIn Ts (wsV own index C y wsm)) (hcode : wsm = Cond.code y bytes maxL rt :: wsm') (hd : y.cls = C ∧ y.cls ≠ "java/lang/invoke/MethodHandle" ∧ y.cls ≠ "java/lang/invoke/VarHandle" ∧ (parseMethodDescriptor y.desc).map (fun d => d.parameters.length) = some n) (hRm : rm.frames + 1 ≤ R.frames ∧ 8 + (maxL + 11) + rm.locals ≤ R.locals)
    (q0 : Nat) (he : ws[q0]? = some (b, .inr (ci, fs))) (hcl : vwCl[ci]? = some vc) (hvc : vc.1 = C) (hlen : As.length = n) {st0 : List Value} (hst : st0 = As.reverse ++ .ref b :: rest) (hsz : ls.size = nL) (hcat : (rest.map fun v => v.category).sum ≤ 8) {st1 : List Value} (hst1 : res.toList ++ rest = st1) (hdg : decode cc pc = .ok (.invokevirtual index, 3)) {k2 s2 : Nat} (hk2 : cells + rm.cells = k2) (hs2 : slots + rm.slots = s2) (hcs : k2 ≤ R.cells ∧ s2 ≤ R.slots)
    (kx : code ≠ 0 → ∀ (H1 : Heap) (locs1 : List Loc) (q9 : Addr) (ce : Cell), Wo D A s.heap ws H1 locs1 → H1[q9]? = some ce → ce.vm = .none → s.vm.findClass (gx_E code) = some ce.cls → vx_W p l e R s m args below meth c H1 locs1 k2 s2 Q (F0 m pc ls rest) q9)
    (kk : code = 0 → ∀ (H1 : Heap) (locs1 : List Loc), Wo D A s.heap w1 H1 locs1 → W p l e R s m args below meth c H1 locs1 k2 s2 Q (F0 m (pc + 3) ls st1)) : W p l e R s m args below meth c H locs cells slots Q (F0 m pc ls st0) := by
  obtain ⟨hx, hb, -, hml, hown, hts, -, hK, hA⟩ := hc
  obtain ⟨hF, hPc, hDc, hj⟩ := g_whole hw hA
  subst hst
  subst hvc
  refine t_goes (vx_runV (As := As) (rest := rest) ⟨hx, hb, hml, hown, hts⟩ (hM H.size) (cwV n hts hG hcode rfl rfl hd hRm) ⟨PT.blind, va_recv hK.1 hPc hcl he, fun U hU hW => ⟨rfl, by rw [hU], by rw [hU]; exact hPc, Kx.warm hW hK, hDc, hT.sent hw.2.2 hF hU hW⟩⟩ rfl hlen hsz rfl (lv_room hcat) hdg (by rw [hk2, hs2]; exact hcs)) hw.2.2 (fun q _ h => hF q h) hF hst1 hk2 hs2 (fun z H1 l1 q9 ce h1 h2 _ h4 h5 h6 h7 => kx z H1 l1 q9 ce (hj ws H1 l1 h1 h2 h4) h5 h6 h7) (fun z H1 l1 h1 h2 _ h4 => kk z H1 l1 (hj w1 H1 l1 h1 h2 h4))
/-- invokevirtual with a part of the world -/
theorem t_callV (hc : Cx p s m args meth c cc nL Ts own ret D cI cZ cL A) (hT : Tx A s) (hw : Wo D A s.heap ws H locs) {y : MethodName} {wsm wsm' : List Cond} {rm : Room} {b q0 ci index n maxL : Nat} {As fs : List Value} {wc wr w1 w' : va_W} {code : Nat} {res : Option Value} {C : String} {bytes : ByteArray} {rt : Option FieldType} {vc : vw_C}
    (hM : TX l y wsm rm D cI cZ cL (.ref b :: As) wc code res w1) (hG : GoodIn Ts (wsV own index C y wsm)) (hcode : wsm = Cond.code y bytes maxL rt :: wsm') (hd : y.cls = C ∧ y.cls ≠ "java/lang/invoke/MethodHandle" ∧ y.cls ≠ "java/lang/invoke/VarHandle" ∧ (parseMethodDescriptor y.desc).map (fun d => d.parameters.length) = some n) (hRm : rm.frames + 1 ≤ R.frames ∧ 8 + (maxL + 11) + rm.locals ≤ R.locals)
    (he : wc[q0]? = some (b, .inr (ci, fs))) (hcl : vwCl[ci]? = some vc) (hvc : vc.1 = C) (isC isR ps : List Nat) (hC : isC.map (fun i => ws[i]?) = wc.map some) (hR : isR.map (fun i => ws[i]?) = wr.map some) (hn : va_nd isR = true) (hdis : ∀ i ∈ isR, i ∉ isC) (hnC : va_nd isC = true)
    (hps : ps.map (fun i => (wr ++ w1)[i]?) = w'.map some) (hps0 : ps.map (fun i => (wr ++ wc)[i]?) = ws.map some) (hnp : va_nd ps = true) (hlen : As.length = n) {st0 : List Value} (hst : st0 = As.reverse ++ .ref b :: rest) (hsz : ls.size = nL) (hcat : (rest.map fun v => v.category).sum ≤ 8) {st1 : List Value} (hst1 : res.toList ++ rest = st1) (hdg : decode cc pc = .ok (.invokevirtual index, 3)) {k2 s2 : Nat} (hk2 : cells + rm.cells = k2) (hs2 : slots + rm.slots = s2) (hcs : k2 ≤ R.cells ∧ s2 ≤ R.slots)
    (kx : code ≠ 0 → ∀ (H1 : Heap) (locs1 : List Loc) (q9 : Addr) (ce : Cell), Wo D A s.heap ws H1 locs1 → H1[q9]? = some ce → ce.vm = .none → s.vm.findClass (gx_E code) = some ce.cls → vx_W p l e R s m args below meth c H1 locs1 k2 s2 Q (F0 m pc ls rest) q9)
    (kk : code = 0 → ∀ (H1 : Heap) (locs1 : List Loc), Wo D A s.heap w' H1 locs1 → W p l e R s m args below meth c H1 locs1 k2 s2 Q (F0 m (pc + 3) ls st1)) : W p l e R s m args below meth c H locs cells slots Q (F0 m pc ls st0) := by
  obtain ⟨hx, hb, -, hml, hown, hts, -, hK, hA⟩ := hc
  obtain ⟨hF, hPc, hDc, hj⟩ := g_part hw hA isC isR ps hC hR hn hdis hnC hps hnp
  obtain ⟨-, -, -, hj0⟩ := g_part (w1 := wc) (w' := ws) hw hA isC isR ps hC hR hn hdis hnC hps0 hnp
  subst hst
  subst hvc
  refine t_goes (vx_runV (As := As) (rest := rest) ⟨hx, hb, hml, hown, hts⟩ (hM H.size) (cwV n hts hG hcode rfl rfl hd hRm) ⟨PT.blind, va_recv hK.1 hPc hcl he, fun U hU hW => ⟨rfl, by rw [hU], by rw [hU]; exact hPc, Kx.warm hW hK, hDc, hT.sent hw.2.2 hF hU hW⟩⟩ rfl hlen hsz rfl (lv_room hcat) hdg (by rw [hk2, hs2]; exact hcs)) hw.2.2 (fun q _ h => hF q h) hF hst1 hk2 hs2 (fun z H1 l1 q9 ce h1 h2 h3 h4 h5 h6 h7 => kx z H1 l1 q9 ce (hj0 H1 l1 h1 h2 h3 h4) h5 h6 h7) (fun z H1 l1 h1 h2 h3 h4 => kk z H1 l1 (hj H1 l1 h1 h2 h3 h4))
/-- a static method without a world that may throw -/
theorem t_callS0 (hc : Cx p s m args meth c cc nL Ts own ret D cI cZ cL A) (hT : Tx A s) (hw : Wo D A s.heap ws H locs) {y : MethodName} {wsm wsm' : List Cond} {rm : Room} {index n maxL : Nat} {As : List Value} {code : Nat} {res : Option Value} {bytes : ByteArray} {rt : Option FieldType}
    (hM : TX l y wsm rm D cI cZ cL As [] code res []) (hG : GoodIn Ts (va_wsS own index y wsm)) (hcode : wsm = Cond.code y bytes maxL rt :: wsm') (hd : y.cls ≠ "java/lang/invoke/MethodHandle" ∧ y.cls ≠ "java/lang/invoke/VarHandle" ∧ (parseMethodDescriptor y.desc).map (fun d => d.parameters.length) = some n) (hRm : rm.frames + 1 ≤ R.frames ∧ 8 + (maxL + 11) + rm.locals ≤ R.locals)
    (hlen : As.length = n) {st0 : List Value} (hst : st0 = As.reverse ++ rest) (hsz : ls.size = nL) (hcat : (rest.map fun v => v.category).sum ≤ 8) {st1 : List Value} (hst1 : res.toList ++ rest = st1) (hdg : decode cc pc = .ok (.invokestatic index, 3)) {k2 s2 : Nat} (hk2 : cells + rm.cells = k2) (hs2 : slots + rm.slots = s2) (hcs : k2 ≤ R.cells ∧ s2 ≤ R.slots)
    (kx : code ≠ 0 → ∀ (H1 : Heap) (locs1 : List Loc) (q9 : Addr) (ce : Cell), Wo D A s.heap ws H1 locs1 → H1[q9]? = some ce → ce.vm = .none → s.vm.findClass (gx_E code) = some ce.cls → vx_W p l e R s m args below meth c H1 locs1 k2 s2 Q (F0 m pc ls rest) q9)
    (kk : code = 0 → ∀ (H1 : Heap) (locs1 : List Loc), Wo D A s.heap ws H1 locs1 → W p l e R s m args below meth c H1 locs1 k2 s2 Q (F0 m (pc + 3) ls st1)) : W p l e R s m args below meth c H locs cells slots Q (F0 m pc ls st0) := by
  obtain ⟨hx, hb, -, hml, hown, hts, -, hK, hA⟩ := hc
  have hF : ∀ q, va_A [] H.size q → A q := fun q h => by
    rcases h with ⟨k, e, h⟩ | h
    · simp at h
    · exact hA q (Nat.le_trans hw.2.2.1 h)
  obtain ⟨hP, hD, hS⟩ := id hw
  subst hst
  have ok : ∀ w ∈ va_wsS own index y wsm, w.before args s = true := fun w h => hts w (hG w h).1
  have keep : ∀ (H1 : Heap) (l1 : List Loc), (∀ q : Nat, q < H.size → ¬ va_A [] H.size q → H1[q]? = H[q]?) → va_S A s.heap H1 l1 → Wo D A s.heap ws H1 l1 := fun H1 l1 h3 h4 => ⟨hP.kept (fun k q hk => h3 q.1 (hP k q hk).lt (fun z => by
    rcases z with ⟨k9, e9, h9⟩ | h9
    · simp at h9
    · exact absurd (hP k q hk).lt (by omega))), hD, h4⟩
  refine t_goes (vx_runS (As := As) (rest := rest) ⟨hx, hb, hml, hown, hts⟩ (hM H.size) ⟨callB_of n hts (fun w h => hG w (by unfold va_wsS; exact List.mem_append_right _ h)) hcode rfl rfl (ok _ (by simp [va_wsS])) (ok _ (by simp [va_wsS])) hd hRm, ok _ (by simp [va_wsS])⟩ ⟨PT.blind, fun U hU hW => ⟨rfl, by rw [hU], fun k q h => by simp at h, Kx.warm hW hK, ⟨fun i j p q h => by simp at h, fun k q h => by simp at h⟩, hT.sent hw.2.2 hF hU hW⟩⟩ rfl hlen hsz rfl (lv_room hcat) hdg (by rw [hk2, hs2]; exact hcs)) hS (fun q _ h => hF q h) hF hst1 hk2 hs2 (fun z H1 l1 q9 ce _ _ h3 h4 h5 h6 h7 => kx z H1 l1 q9 ce (keep H1 l1 h3 h4) h5 h6 h7) (fun z H1 l1 _ _ h3 h4 => kk z H1 l1 (keep H1 l1 h3 h4))
theorem gx_bad (E : String) (ic : Nat) (hE : (vx_atS RX1 ic E gx_nm).filter (fun w => !goodWord w) = [.declares (Bundle.initS "java/lang/RuntimeException"), .declares (Bundle.initS "java/lang/Exception"), .declares (Bundle.initS Bundle.tN), .castable E E]) {k : Nat} (hk : gx_E k = E) (hT : gx_T s) (hts : ∀ w ∈ Ts, w.before args s = true) (hin : ∀ w ∈ (vx_atS RX1 ic E gx_nm).filter goodWord, w ∈ Ts) : ∀ w ∈ vx_atS RX1 ic E gx_nm, w.before args s = true := by
  subst hk
  refine vx_hat (B := [.declares (Bundle.initS "java/lang/RuntimeException"), .declares (Bundle.initS "java/lang/Exception"), .declares (Bundle.initS Bundle.tN), .castable (gx_E k) (gx_E k)]) (fun w h => hts w (hin w h)) (fun w h => by rw [hE] at h; exact h) ?_
  exact vx_c (va_Nw.use rfl hT.1.1) (vx_c (va_Nw.use rfl hT.1.2.1) (vx_c (va_Nw.use rfl hT.1.2.2) (vx_c (va_Nw.use rfl (hT.2.1 k)) vx_n)))
/-- throw new E(text) -/
theorem t_throw {code is ik ic k : Nat} {res : Option Value} {w0 w1 : va_W} {rm : Room} {E text : String} (hl : l.stackTraces = false) (hc : Cx p s m args meth c cc nL Ts RX1 ret D cI cZ cL A) (hT : Tx A s) (hout : ∀ x ∈ c.exceptionTable.toList, False) (hw : Wo D A s.heap w0 H locs) (hsz : ls.size = nL) (hcode : code = k) (hk0 : k ≠ 0) (hk : gx_E k = E)
    (hfit : Bundle.fit E = true) (hnf : ∀ n ∈ gx_nm, Bundle.fit n = true) (hE : (vx_atS RX1 ic E gx_nm).filter (fun w => !goodWord w) = [.declares (Bundle.initS "java/lang/RuntimeException"), .declares (Bundle.initS "java/lang/Exception"), .declares (Bundle.initS Bundle.tN), .castable E E]) (hgood : ∀ w ∈ Cond.classLink RX1 ik E :: Cond.initialized E :: vx_atS RX1 ic E gx_nm, vx_ot w = true)
    (m1 : Cond.classLink RX1 ik E ∈ Ts) (m2 : Cond.initialized E ∈ Ts) (hin : ∀ w ∈ (vx_atS RX1 ic E gx_nm).filter goodWord, w ∈ Ts) (hstr : (is, text) ∈ gx_str)
    (d0 : decode cc pc = .ok (.new ik, 3)) (d3 : decode cc (pc + 3) = .ok (.dup, 1)) (d4 : decode cc (pc + 4) = .ok (.ldc is, 2)) (d6 : decode cc (pc + 6) = .ok (.invokespecial ic, 3)) (d9 : decode cc (pc + 9) = .ok (.athrow, 1))
    (hf : 5 < R.frames) (hlo : (rest.map fun v => v.category).sum + 82 ≤ R.locals) (h1 : cells + 1 ≤ R.cells) (h2 : slots + 6 ≤ R.slots) (h3 : cells + 1 ≤ rm.cells) (h4 : slots + 6 ≤ rm.slots) :
    W p l e R s m args below meth c H locs cells slots (TE below args s D A code res w0 w1 rm) (F0 m pc ls rest) := by
  obtain ⟨hx, hb, hr, hml, hown, hts, hlocks, hK, -⟩ := hc
  obtain ⟨sa, hsa⟩ := hT.2.1 _ hstr
  subst hk
  subst hcode
  exact vx_throwS (names := gx_nm) hx hb hl hown hfit hnf (hts _ m1) (hts _ m2) hsa (gx_bad _ ic hE rfl hT.1 hts hin) hgood hT.2.2.1 hT.2.2.2 hw.2.2 (hsz.trans hml.symm) d0 d3 d4 d6 d9 (fun x hx => absurd hx (fun z => hout x z)) hf hlo h1 h2 hlocks
    (fun t hA hz hk => ⟨⟨⟨rfl, hk0⟩, hw.1.kept (fun k q hq => hk q.1 (hw.1 k q hq).lt), hw.2.1⟩, Nat.le_trans hw.2.2.1 hz, fun q h1 h2 => (hk q (Nat.lt_of_lt_of_le h1 hw.2.2.1)).trans (hw.2.2.2.1 q h1 h2)⟩) hw.2.2.2.2 h3 h4
end TR
theorem gx_bad1 : (vx_atS RX1 23 "java/lang/IllegalArgumentException" gx_nm).filter (fun w => !goodWord w) = [.declares (Bundle.initS "java/lang/RuntimeException"), .declares (Bundle.initS "java/lang/Exception"), .declares (Bundle.initS Bundle.tN), .castable "java/lang/IllegalArgumentException" "java/lang/IllegalArgumentException"] := by decide +kernel
theorem gx_bad2 : (vx_atS RX1 34 "java/lang/IllegalStateException" gx_nm).filter (fun w => !goodWord w) = [.declares (Bundle.initS "java/lang/RuntimeException"), .declares (Bundle.initS "java/lang/Exception"), .declares (Bundle.initS Bundle.tN), .castable "java/lang/IllegalStateException" "java/lang/IllegalStateException"] := by decide +kernel
theorem gx_bad3 : (vx_atS RX1 174 "java/lang/IndexOutOfBoundsException" gx_nm).filter (fun w => !goodWord w) = [.declares (Bundle.initS "java/lang/RuntimeException"), .declares (Bundle.initS "java/lang/Exception"), .declares (Bundle.initS Bundle.tN), .castable "java/lang/IndexOutOfBoundsException" "java/lang/IndexOutOfBoundsException"] := by decide +kernel
theorem gx_gd1 : ∀ w ∈ Cond.classLink RX1 19 "java/lang/IllegalArgumentException" :: Cond.initialized "java/lang/IllegalArgumentException" :: vx_atS RX1 23 "java/lang/IllegalArgumentException" gx_nm, vx_ot w = true := by decide +kernel
theorem gx_gd2 : ∀ w ∈ Cond.classLink RX1 30 "java/lang/IllegalStateException" :: Cond.initialized "java/lang/IllegalStateException" :: vx_atS RX1 34 "java/lang/IllegalStateException" gx_nm, vx_ot w = true := by decide +kernel
theorem gx_gd3 : ∀ w ∈ Cond.classLink RX1 170 "java/lang/IndexOutOfBoundsException" :: Cond.initialized "java/lang/IndexOutOfBoundsException" :: vx_atS RX1 174 "java/lang/IndexOutOfBoundsException" gx_nm, vx_ot w = true := by decide +kernel
theorem gx_fit1 : Bundle.fit "java/lang/IllegalArgumentException" = true := by decide +kernel
theorem gx_fit2 : Bundle.fit "java/lang/IllegalStateException" = true := by decide +kernel
theorem gx_fit3 : Bundle.fit "java/lang/IndexOutOfBoundsException" = true := by decide +kernel
theorem gx_fitn : ∀ n ∈ gx_nm, Bundle.fit n = true := by decide +kernel
end TB
