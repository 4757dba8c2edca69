/-! 12.a: worlds in parts, whatever their order; contracts of methods that catch -/
section WA
theorem va_D_iff {A : Nat → Prop} {ws : va_W} : va_D A ws ↔ ws.Pairwise (fun p q => p.1 ≠ q.1) ∧ ∀ q ∈ ws, A q.1 := by
  constructor
  · intro h
    refine ⟨?_, fun q hq => ?_⟩
    · rw [List.pairwise_iff_getElem]
      intro i j hi hj hij hne
      have h3 := h.1 i j _ _ (List.getElem?_eq_getElem hi) (List.getElem?_eq_getElem hj) hne
      omega
    · obtain ⟨k, hk⟩ := List.mem_iff_getElem?.mp hq
      exact h.2 k q hk
  · intro h
    refine ⟨fun i j p q hi hj hpq => ?_, fun k q hq => h.2 q (List.mem_of_getElem? hq)⟩
    have h1 := h.1
    rw [List.pairwise_iff_getElem] at h1
    obtain ⟨hi', rfl⟩ := List.getElem?_eq_some_iff.mp hi
    obtain ⟨hj', rfl⟩ := List.getElem?_eq_some_iff.mp hj
    rcases Nat.lt_trichotomy i j with h | h | h
    · exact absurd hpq (h1 i j hi' hj' h)
    · exact h
    · exact absurd hpq.symm (h1 j i hj' hi' h)
theorem va_P_iff {D : va_G} {ws : va_W} {H : Heap} : va_P D vwCl ws H ↔ ∀ q ∈ ws, va_at D vwCl q H := by
  constructor
  · intro h q hq
    obtain ⟨k, hk⟩ := List.mem_iff_getElem?.mp hq
    exact h k q hk
  · intro h k q hk
    exact h q (List.mem_of_getElem? hk)
theorem Wo.perm {D : va_G} {A : Nat → Prop} {H0 H : Heap} {ws ws' : va_W} {locs : List Loc} (hp : ws.Perm ws') (h : Wo D A H0 ws H locs) : Wo D A H0 ws' H locs := by
  obtain ⟨hP, hD, hS⟩ := h
  refine ⟨va_P_iff.mpr (fun q hq => va_P_iff.mp hP q (hp.mem_iff.mpr hq)), va_D_iff.mpr ⟨?_, fun q hq => (va_D_iff.mp hD).2 q (hp.mem_iff.mpr hq)⟩, hS⟩
  exact (hp.pairwise_iff (fun {x y} h => fun z => h z.symm)).mp (va_D_iff.mp hD).1
theorem va_A_mem {ws : va_W} {sz q : Nat} : va_A ws sz q ↔ (∃ p ∈ ws, p.1 = q) ∨ sz ≤ q := by
  constructor
  · rintro (⟨k, e, h⟩ | h)
    · exact Or.inl ⟨_, List.mem_of_getElem? h, rfl⟩
    · exact Or.inr h
  · rintro (⟨p, hp, rfl⟩ | h)
    · obtain ⟨k, hk⟩ := List.mem_iff_getElem?.mp hp
      exact Or.inl ⟨k, p.2, hk⟩
    · exact Or.inr h
/-- wc is a part of the world, and J puts back what comes out of it -/
def Pt (D : va_G) (A : Nat → Prop) (H0 H : Heap) (wc : va_W) (J : va_W → va_W) : Prop :=
  (∀ q, va_A wc H.size q → A q) ∧ va_P D vwCl wc H ∧ va_D (fun _ => True) wc ∧
    ∀ (w1 : va_W) (H1 : Heap) (locs1 : List Loc), va_P D vwCl w1 H1 → va_D (va_A wc H.size) w1 → (∀ q : Nat, q < H.size → ¬ va_A wc H.size q → H1[q]? = H[q]?) → va_S A H0 H1 locs1 → Wo D A H0 (J w1) H1 locs1
theorem Pt.front {D : va_G} {A : Nat → Prop} {H0 H : Heap} {wc wr : va_W} {locs : List Loc} (hw : Wo D A H0 (wc ++ wr) H locs) (hA : ∀ q, H0.size ≤ q → A q) : Pt D A H0 H wc (fun w1 => w1 ++ wr) := by
  obtain ⟨hP, hD, hS⟩ := hw
  have hP1 := va_P_iff.mp hP
  obtain ⟨hD1, hD2⟩ := va_D_iff.mp hD
  obtain ⟨d1, d2, d3⟩ := List.pairwise_append.mp hD1
  have hF : ∀ q, va_A wc H.size q → A q := fun q h => by
    rcases va_A_mem.mp h with ⟨p, hp, rfl⟩ | h
    · exact hD2 p (List.mem_append_left _ hp)
    · exact hA q (Nat.le_trans hS.1 h)
  have hlt : ∀ p ∈ wc ++ wr, p.1 < H.size := fun p hp => (hP1 p hp).lt
  refine ⟨hF, va_P_iff.mpr (fun q hq => hP1 q (List.mem_append_left _ hq)), va_D_iff.mpr ⟨d1, fun _ _ => trivial⟩, fun w1 H1 locs1 h1 h2 h3 h4 => ?_⟩
  obtain ⟨e1, e2⟩ := va_D_iff.mp h2
  have hno : ∀ p ∈ wr, ¬ va_A wc H.size p.1 := fun p hp h => by
    rcases va_A_mem.mp h with ⟨q, hq, hqp⟩ | h
    · exact d3 q hq p hp hqp
    · have := hlt p (List.mem_append_right _ hp); omega
  have hPr : va_P D vwCl wr H := va_P_iff.mpr (fun q hq => hP1 q (List.mem_append_right _ hq))
  have hPr1 : va_P D vwCl wr H1 := hPr.kept (fun k q hk => h3 q.1 ((hPr k q hk).lt) (hno q (List.mem_of_getElem? hk)))
  refine ⟨h1.app hPr1, va_D_iff.mpr ⟨List.pairwise_append.mpr ⟨e1, d2, fun a ha b hb hab => ?_⟩, fun q hq => ?_⟩, h4⟩
  · exact hno b hb (hab ▸ e2 a ha)
  · rcases List.mem_append.mp hq with h | h
    · exact hF _ (e2 q h)
    · exact hD2 q (List.mem_append_right _ h)
theorem Pt.mid {D : va_G} {A : Nat → Prop} {H0 H : Heap} {pre wc suf : va_W} {locs : List Loc} (hw : Wo D A H0 (pre ++ (wc ++ suf)) H locs) (hA : ∀ q, H0.size ≤ q → A q) : Pt D A H0 H wc (fun w1 => pre ++ (w1 ++ suf)) := by
  have h := Pt.front (wr := pre ++ suf) (hw.perm (List.perm_append_comm_assoc _ _ _)) hA
  exact ⟨h.1, h.2.1, h.2.2.1, fun w1 H1 l1 h1 h2 h3 h4 => (h.2.2.2 w1 H1 l1 h1 h2 h3 h4).perm (List.perm_append_comm_assoc _ _ _)⟩
theorem Pt.back {D : va_G} {A : Nat → Prop} {H0 H : Heap} {pre wc : va_W} {locs : List Loc} (hw : Wo D A H0 (pre ++ wc) H locs) (hA : ∀ q, H0.size ≤ q → A q) : Pt D A H0 H wc (fun w1 => pre ++ w1) := by
  have h := Pt.front (wr := pre) (hw.perm List.perm_append_comm) hA
  exact ⟨h.1, h.2.1, h.2.2.1, fun w1 H1 l1 h1 h2 h3 h4 => (h.2.2.2 w1 H1 l1 h1 h2 h3 h4).perm List.perm_append_comm⟩
/-- THE CONTRACT of a method that catches: it returns, whatever is thrown below it -/
def LX (l : Launch) (y : MethodName) (ws : List Cond) (rm : Room) (D : va_G) (cI cZ cL : ClassId) (av : List Value) (w0 : va_W) (res : Option Value) (w1 : va_W) : Prop :=
  ∀ sz : Nat, Met l y ws rm (PT D cI cZ cL av w0 sz) (QX D (va_A w0 sz) res w1) rm.cells rm.slots (va_A w0 sz)
theorem LX.of {l : Launch} {y : MethodName} {ws ws' : List Cond} {rm : Room} {D : va_G} {cI cZ cL : ClassId} {av : List Value} {w0 w1 : va_W} {res : Option Value} {cc : ByteArray} {maxL : Nat} {ret : Option FieldType} {hh : List (Nat × Nat × Nat × Nat)} {own : String} {lv0 : List (Nat × Value)}
    (hy : plainName y.cls = true) (hw : ws = Cond.codeWith y cc maxL ret hh :: ws') (ho : y.cls = own) (hlen : (lg_sl av).length ≤ maxL) (hlv : lv_args 0 av = lv0)
    (body : ∀ (p : Program) (e : Env) (s : State) (m : MethodId) (args : Array Value) (below : List Frame) (meth : Method) (c : Code) (A : Nat → Prop), Cx p s m args meth c cc maxL ws own ret D cI cZ cL A → Tx A s → c.exceptionTable.toList = tableOf hh → Wo D A s.heap w0 s.heap [] → ∀ ls : Array Slot, lv_has ls maxL lv0 →
      W p l e rm s m args below meth c s.heap [] 0 0 (QE below args s D A res w1 rm) (F0 m 0 ls [])) : LX l y ws rm D cI cZ cL av w0 res w1 := by
  intro sz
  refine va_MetW (cc := cc) (maxL := maxL) (ret := ret) (hh := hh) hy hw ?_
  intro p e s m args below meth c s₁ B hml hv
  obtain ⟨rfl, hsz, hP, hK, hD0, hT⟩ := hv
  subst hsz
  have htb := vx_table (x := y) B (atoms_spec (ws := ws) B.pre _ (by rw [hw]; exact List.mem_cons_self))
  rw [lg_entry_eq]
  refine body p e s m _ below meth c (va_A w0 s.heap.size) ⟨B.exec, B.bytes, B.returns, hml, ?_, atoms_spec (ws := ws) B.pre, B.notSynchronized, hK, fun q h => Or.inr h⟩ hT htb ⟨hP, hD0.self, va_S.rf⟩ _ ?_
  · rw [← ho]; exact findClass_of_methodNamed B.named
  · rw [← hlv]; exact lv_entry av hlen
section WR
variable {p : Program} {l : Launch} {e : Env} {R : Room} {s : State} {m : MethodId} {args : Array Value} {below : List Frame} {meth : Method} {c : Code} {H H0 : Heap} {locs : List Loc} {cells slots : Nat} {Q : State → Prop}
variable {cc : ByteArray} {nL : Nat} {Ts : List Cond} {own : String} {ret : Option FieldType} {D : va_G} {cI cZ cL : ClassId} {A : Nat → Prop} {ws : va_W} {pc : Nat} {ls : Array Slot} {rest : List Value}
/-- invokevirtual of a method that may throw, with a part of the world -/
theorem pt_callV (hc : Cx p s m args meth c cc nL Ts own ret D cI cZ cL A) (hT : Tx A s) (hS : va_S A s.heap H locs) {J : va_W → va_W} {y : MethodName} {wsm wsm' : List Cond} {rm : Room} {b q0 ci index n maxL : Nat} {As fs : List Value} {wc w1 : va_W} {code : Nat} {res : Option Value} {C : String} {bytes : ByteArray} {rt : Option FieldType} {vc : vw_C}
    (hpt : Pt D A s.heap H wc J) (hM : TX l y wsm rm D cI cZ cL (.ref b :: As) wc code res w1) (hG : GoodIn Ts (wsV own index C y wsm)) (hcode : wsm = Cond.code y bytes maxL rt :: wsm') (hd : y.cls = C ∧ y.cls ≠ "java/lang/invoke/MethodHandle" ∧ y.cls ≠ "java/lang/invoke/VarHandle" ∧ (parseMethodDescriptor y.desc).map (fun d => d.parameters.length) = some n) (hRm : rm.frames + 1 ≤ R.frames ∧ 8 + (maxL + 11) + rm.locals ≤ R.locals)
    (he : wc[q0]? = some (b, .inr (ci, fs))) (hcl : vwCl[ci]? = some vc) (hvc : vc.1 = C) (hlen : As.length = n) {st0 : List Value} (hst : st0 = As.reverse ++ .ref b :: rest) (hsz : ls.size = nL) (hcat : (rest.map fun v => v.category).sum ≤ 8) {st1 : List Value} (hst1 : res.toList ++ rest = st1) (hdg : decode cc pc = .ok (.invokevirtual index, 3)) {k2 s2 : Nat} (hk2 : cells + rm.cells = k2) (hs2 : slots + rm.slots = s2) (hcs : k2 ≤ R.cells ∧ s2 ≤ R.slots)
    (kx : code ≠ 0 → ∀ (H1 : Heap) (locs1 : List Loc) (q9 : Addr) (ce : Cell), Wo D A s.heap (J wc) H1 locs1 → H1[q9]? = some ce → ce.vm = .none → s.vm.findClass (gx_E code) = some ce.cls → vx_W p l e R s m args below meth c H1 locs1 k2 s2 Q (F0 m pc ls rest) q9)
    (kk : code = 0 → ∀ (H1 : Heap) (locs1 : List Loc), Wo D A s.heap (J w1) H1 locs1 → W p l e R s m args below meth c H1 locs1 k2 s2 Q (F0 m (pc + 3) ls st1)) : W p l e R s m args below meth c H locs cells slots Q (F0 m pc ls st0) := by
  obtain ⟨hx, hb, -, hml, hown, hts, -, hK, hA⟩ := hc
  obtain ⟨hF, hPc, hDc, hj⟩ := hpt
  subst hst
  subst hvc
  refine t_goes (vx_runV (As := As) (rest := rest) ⟨hx, hb, hml, hown, hts⟩ (hM H.size) (cwV n hts hG hcode rfl rfl hd hRm) ⟨PT.blind, va_recv hK.1 hPc hcl he, fun U hU hW => ⟨rfl, by rw [hU], by rw [hU]; exact hPc, Kx.warm hW hK, hDc, hT.sent hS hF hU hW⟩⟩ rfl hlen hsz rfl (lv_room hcat) hdg (by rw [hk2, hs2]; exact hcs)) hS (fun q _ h => hF q h) hF hst1 hk2 hs2 (fun z H1 l1 q9 ce h1 h2 h3 h4 h5 h6 h7 => kx z H1 l1 q9 ce (hj wc H1 l1 h1 h2 h3 h4) h5 h6 h7) (fun z H1 l1 h1 h2 h3 h4 => kk z H1 l1 (hj w1 H1 l1 h1 h2 h3 h4))
/-- invokevirtual with a part of the world -/
theorem p_callV (hc : Cx p s m args meth c cc nL Ts own ret D cI cZ cL A) (hS : va_S A s.heap H locs) {J : va_W → va_W} {y : MethodName} {wsm wsm' : List Cond} {rm : Room} {b q0 ci index n maxL : Nat} {As fs : List Value} {wc w1 : va_W} {res : Option Value} {C : String} {bytes : ByteArray} {rt : Option FieldType} {vc : vw_C}
    (hpt : Pt D A s.heap H wc J) (hM : MX l y wsm rm D cI cZ cL (.ref b :: As) wc res w1) (hG : GoodIn Ts (wsV own index C y wsm)) (hcode : wsm = Cond.code y bytes maxL rt :: wsm') (hd : y.cls = C ∧ y.cls ≠ "java/lang/invoke/MethodHandle" ∧ y.cls ≠ "java/lang/invoke/VarHandle" ∧ (parseMethodDescriptor y.desc).map (fun d => d.parameters.length) = some n) (hRm : rm.frames + 1 ≤ R.frames ∧ 8 + (maxL + 11) + rm.locals ≤ R.locals)
    (he : wc[q0]? = some (b, .inr (ci, fs))) (hcl : vwCl[ci]? = some vc) (hvc : vc.1 = C) (hlen : As.length = n) {st0 : List Value} (hst : st0 = As.reverse ++ .ref b :: rest) (hsz : ls.size = nL) (hcat : (rest.map fun v => v.category).sum ≤ 8) {st1 : List Value} (hst1 : res.toList ++ rest = st1) (hdg : decode cc pc = .ok (.invokevirtual index, 3)) {k2 s2 : Nat} (hk2 : cells + rm.cells = k2) (hs2 : slots + rm.slots = s2) (hcs : k2 ≤ R.cells ∧ s2 ≤ R.slots)
    (kk : ∀ (H1 : Heap) (locs1 : List Loc), Wo D A s.heap (J w1) H1 locs1 → W p l e R s m args below meth c H1 locs1 k2 s2 Q (F0 m (pc + 3) ls st1)) : W p l e R s m args below meth c H locs cells slots Q (F0 m pc ls st0) := by
  obtain ⟨hx, hb, -, hml, hown, hts, -, hK, hA⟩ := hc
  obtain ⟨hF, hPc, hDc, hj⟩ := hpt
  subst hst
  subst hvc
  refine g_goes (va_runV (As := As) (rest := rest) ⟨hx, hb, hml, hown, hts⟩ (hM H.size) (cwV n hts hG hcode rfl rfl hd hRm) ⟨PX.blind, va_recv hK.1 hPc hcl he, fun U hU hW => ⟨rfl, by rw [hU], by rw [hU]; exact hPc, Kx.warm hW hK, hDc⟩⟩ rfl hlen hsz rfl (lv_room hcat) hdg (by rw [hk2, hs2]; exact hcs)) hS (fun q _ h => hF q h) hF hst1 hk2 hs2 (fun H1 l1 h1 h2 h3 h4 => kk H1 l1 (hj w1 H1 l1 h1 h2 h3 h4))
/-- invokestatic of a method that catches, with a part of the world -/
theorem pl_callS (hc : Cx p s m args meth c cc nL Ts own ret D cI cZ cL A) (hT : Tx A s) (hS : va_S A s.heap H locs) {J : va_W → va_W} {y : MethodName} {wsm wsm' : List Cond} {rm : Room} {index n maxL : Nat} {As : List Value} {wc w1 : va_W} {res : Option Value} {bytes : ByteArray} {rt : Option FieldType} {hh : List (Nat × Nat × Nat × Nat)}
    (hpt : Pt D A s.heap H wc J) (hM : LX l y wsm rm D cI cZ cL As wc res w1) (hG : GoodIn Ts (va_wsS own index y wsm)) (hcode : wsm = Cond.codeWith y bytes maxL rt hh :: wsm') (hd : y.cls ≠ "java/lang/invoke/MethodHandle" ∧ y.cls ≠ "java/lang/invoke/VarHandle" ∧ (parseMethodDescriptor y.desc).map (fun d => d.parameters.length) = some n) (hRm : rm.frames + 1 ≤ R.frames ∧ 8 + (maxL + 11) + rm.locals ≤ R.locals)
    (hlen : As.length = n) {st0 : List Value} (hst : st0 = As.reverse ++ rest) (hsz : ls.size = nL) (hcat : (rest.map fun v => v.category).sum ≤ 8) {st1 : List Value} (hst1 : res.toList ++ rest = st1) (hdg : decode cc pc = .ok (.invokestatic index, 3)) {k2 s2 : Nat} (hk2 : cells + rm.cells = k2) (hs2 : slots + rm.slots = s2) (hcs : k2 ≤ R.cells ∧ s2 ≤ R.slots)
    (kk : ∀ (H1 : Heap) (locs1 : List Loc), Wo D A s.heap (J w1) H1 locs1 → W p l e R s m args below meth c H1 locs1 k2 s2 Q (F0 m (pc + 3) ls st1)) : W p l e R s m args below meth c H locs cells slots Q (F0 m pc ls st0) := by
  obtain ⟨hx, hb, -, hml, hown, hts, -, hK, hA⟩ := hc
  obtain ⟨hF, hPc, hDc, hj⟩ := hpt
  subst hst
  refine g_goes (vx_runSW (As := As) (rest := rest) ⟨hx, hb, hml, hown, hts⟩ (hM H.size) (vx_cwSW n hts hG hcode rfl rfl hd hRm) ⟨PT.blind, fun U hU hW => ⟨rfl, by rw [hU], by rw [hU]; exact hPc, Kx.warm hW hK, hDc, hT.sent hS hF hU hW⟩⟩ rfl hlen hsz rfl (lv_room hcat) hdg (by rw [hk2, hs2]; exact hcs)) hS (fun q _ h => hF q h) hF hst1 hk2 hs2 (fun H1 l1 h1 h2 h3 h4 => kk H1 l1 (hj w1 H1 l1 h1 h2 h3 h4))
end WR
theorem l_app0 {α : Type} {w : List α} {x : α} {N : Nat} (h : w.length = N) : (w ++ [x])[N]? = some x := by subst h; simp
theorem l_set0 {α : Type} {w : List α} {x y : α} {N : Nat} (h : w.length = N) : (w ++ [x]).set N y = w ++ [y] := by subst h; simp
end WA
