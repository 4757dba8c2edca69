section
-- ===== PART A: goes FIRST, ahead of the names: the tables' words, and 'selects' of the private methods out of them =====
/-- a private method of a class that the tables say can be made, by its rows of tables_1 -/
def lw_okq (q : MethodName × Nat) : Prop := (q.1.cls ≠ "java/lang/invoke/MethodHandle" ∧ q.1.cls ≠ "java/lang/invoke/VarHandle") ∧ Cond.instantiable q.1.cls q.2 ∈ tables_1 ∧ Cond.privateMethod q.1 ∈ tables_1 ∧ Cond.instanceMethod q.1 ∈ tables_1
theorem lw_p0 : lw_okq (⟨"BargeWards", "digestWithWards", "(J)J"⟩, 2) := ⟨⟨by decide +kernel, by decide +kernel⟩, List.mem_of_getElem? (i := 14) (by decide +kernel), List.mem_of_getElem? (i := 179) (by decide +kernel), List.mem_of_getElem? (i := 180) (by decide +kernel)⟩
theorem lw_p1 : lw_okq (⟨"BargeWards", "digestWithBarges", "(J)J"⟩, 2) := ⟨⟨by decide +kernel, by decide +kernel⟩, List.mem_of_getElem? (i := 14) (by decide +kernel), List.mem_of_getElem? (i := 184) (by decide +kernel), List.mem_of_getElem? (i := 185) (by decide +kernel)⟩
theorem lw_p2 : lw_okq (⟨"BargeWards", "digestWithPeople", "(J)J"⟩, 2) := ⟨⟨by decide +kernel, by decide +kernel⟩, List.mem_of_getElem? (i := 14) (by decide +kernel), List.mem_of_getElem? (i := 188) (by decide +kernel), List.mem_of_getElem? (i := 189) (by decide +kernel)⟩
theorem lw_p3 : lw_okq (⟨"java/lang/Throwable", "fillInStackTrace", "(I)Ljava/lang/Throwable;"⟩, 6) := ⟨⟨by decide +kernel, by decide +kernel⟩, List.mem_of_getElem? (i := 243) (by decide +kernel), List.mem_of_getElem? (i := 241) (by decide +kernel), List.mem_of_getElem? (i := 242) (by decide +kernel)⟩
theorem lw_p4 : lw_okq (⟨"BargeWards", "checkBarge", "(I)V"⟩, 2) := ⟨⟨by decide +kernel, by decide +kernel⟩, List.mem_of_getElem? (i := 14) (by decide +kernel), List.mem_of_getElem? (i := 314) (by decide +kernel), List.mem_of_getElem? (i := 315) (by decide +kernel)⟩
theorem lw_p5 : lw_okq (⟨"BargeWards", "checkWard", "(I)V"⟩, 2) := ⟨⟨by decide +kernel, by decide +kernel⟩, List.mem_of_getElem? (i := 14) (by decide +kernel), List.mem_of_getElem? (i := 359) (by decide +kernel), List.mem_of_getElem? (i := 360) (by decide +kernel)⟩
theorem lw_p6 : lw_okq (⟨"BargeWards", "checkPerson", "(I)V"⟩, 2) := ⟨⟨by decide +kernel, by decide +kernel⟩, List.mem_of_getElem? (i := 14) (by decide +kernel), List.mem_of_getElem? (i := 371) (by decide +kernel), List.mem_of_getElem? (i := 372) (by decide +kernel)⟩
theorem lw_p7 : lw_okq (⟨"BargeWards$Town", "giveBowls", "()V"⟩, 16) := ⟨⟨by decide +kernel, by decide +kernel⟩, List.mem_of_getElem? (i := 22) (by decide +kernel), List.mem_of_getElem? (i := 395) (by decide +kernel), List.mem_of_getElem? (i := 396) (by decide +kernel)⟩
theorem lw_p8 : lw_okq (⟨"BargeWards$Town", "changeFeversInWards", "()V"⟩, 16) := ⟨⟨by decide +kernel, by decide +kernel⟩, List.mem_of_getElem? (i := 22) (by decide +kernel), List.mem_of_getElem? (i := 399) (by decide +kernel), List.mem_of_getElem? (i := 400) (by decide +kernel)⟩
theorem lw_p9 : lw_okq (⟨"BargeWards$Town", "raiseFever", "(I)V"⟩, 16) := ⟨⟨by decide +kernel, by decide +kernel⟩, List.mem_of_getElem? (i := 22) (by decide +kernel), List.mem_of_getElem? (i := 403) (by decide +kernel), List.mem_of_getElem? (i := 404) (by decide +kernel)⟩
theorem lw_p10 : lw_okq (⟨"BargeWards$Town", "bringBargesNearer", "()V"⟩, 16) := ⟨⟨by decide +kernel, by decide +kernel⟩, List.mem_of_getElem? (i := 22) (by decide +kernel), List.mem_of_getElem? (i := 411) (by decide +kernel), List.mem_of_getElem? (i := 412) (by decide +kernel)⟩
theorem lw_p11 : lw_okq (⟨"BargeWards$Town", "spreadFever", "(I)V"⟩, 16) := ⟨⟨by decide +kernel, by decide +kernel⟩, List.mem_of_getElem? (i := 22) (by decide +kernel), List.mem_of_getElem? (i := 415) (by decide +kernel), List.mem_of_getElem? (i := 416) (by decide +kernel)⟩
theorem lw_p12 : lw_okq (⟨"BargeWards$Town", "countFeverish", "(I)I"⟩, 16) := ⟨⟨by decide +kernel, by decide +kernel⟩, List.mem_of_getElem? (i := 22) (by decide +kernel), List.mem_of_getElem? (i := 419) (by decide +kernel), List.mem_of_getElem? (i := 420) (by decide +kernel)⟩
theorem lw_p13 : lw_okq (⟨"BargeWards$Town", "ageStraw", "()V"⟩, 16) := ⟨⟨by decide +kernel, by decide +kernel⟩, List.mem_of_getElem? (i := 22) (by decide +kernel), List.mem_of_getElem? (i := 423) (by decide +kernel), List.mem_of_getElem? (i := 424) (by decide +kernel)⟩
theorem lw_p14 : lw_okq (⟨"BargeWards$Town", "leaveWards", "()V"⟩, 16) := ⟨⟨by decide +kernel, by decide +kernel⟩, List.mem_of_getElem? (i := 22) (by decide +kernel), List.mem_of_getElem? (i := 427) (by decide +kernel), List.mem_of_getElem? (i := 428) (by decide +kernel)⟩
theorem lw_p15 : lw_okq (⟨"BargeWards$Town", "landBarges", "()V"⟩, 16) := ⟨⟨by decide +kernel, by decide +kernel⟩, List.mem_of_getElem? (i := 22) (by decide +kernel), List.mem_of_getElem? (i := 431) (by decide +kernel), List.mem_of_getElem? (i := 432) (by decide +kernel)⟩
def lw_privs_1 : List (MethodName × Nat) := [(⟨"BargeWards", "digestWithWards", "(J)J"⟩, 2), (⟨"BargeWards", "digestWithBarges", "(J)J"⟩, 2), (⟨"BargeWards", "digestWithPeople", "(J)J"⟩, 2), (⟨"java/lang/Throwable", "fillInStackTrace", "(I)Ljava/lang/Throwable;"⟩, 6), (⟨"BargeWards", "checkBarge", "(I)V"⟩, 2), (⟨"BargeWards", "checkWard", "(I)V"⟩, 2), (⟨"BargeWards", "checkPerson", "(I)V"⟩, 2), (⟨"BargeWards$Town", "giveBowls", "()V"⟩, 16), (⟨"BargeWards$Town", "changeFeversInWards", "()V"⟩, 16), (⟨"BargeWards$Town", "raiseFever", "(I)V"⟩, 16), (⟨"BargeWards$Town", "bringBargesNearer", "()V"⟩, 16), (⟨"BargeWards$Town", "spreadFever", "(I)V"⟩, 16), (⟨"BargeWards$Town", "countFeverish", "(I)I"⟩, 16), (⟨"BargeWards$Town", "ageStraw", "()V"⟩, 16), (⟨"BargeWards$Town", "leaveWards", "()V"⟩, 16), (⟨"BargeWards$Town", "landBarges", "()V"⟩, 16)]
theorem lw_r1 : ∀ q ∈ lw_privs_1, lw_okq q := List.forall_mem_cons.mpr ⟨lw_p0, List.forall_mem_cons.mpr ⟨lw_p1, List.forall_mem_cons.mpr ⟨lw_p2, List.forall_mem_cons.mpr ⟨lw_p3, List.forall_mem_cons.mpr ⟨lw_p4, List.forall_mem_cons.mpr ⟨lw_p5, List.forall_mem_cons.mpr ⟨lw_p6, List.forall_mem_cons.mpr ⟨lw_p7, List.forall_mem_cons.mpr ⟨lw_p8, List.forall_mem_cons.mpr ⟨lw_p9, List.forall_mem_cons.mpr ⟨lw_p10, List.forall_mem_cons.mpr ⟨lw_p11, List.forall_mem_cons.mpr ⟨lw_p12, List.forall_mem_cons.mpr ⟨lw_p13, List.forall_mem_cons.mpr ⟨lw_p14, List.forall_mem_cons.mpr ⟨lw_p15, fun _ h => absurd h List.not_mem_nil⟩⟩⟩⟩⟩⟩⟩⟩⟩⟩⟩⟩⟩⟩⟩⟩
theorem lw_p16 : lw_okq (⟨"BargeWards$Town", "landAll", "(I)Z"⟩, 16) := ⟨⟨by decide +kernel, by decide +kernel⟩, List.mem_of_getElem? (i := 22) (by decide +kernel), List.mem_of_getElem? (i := 436) (by decide +kernel), List.mem_of_getElem? (i := 437) (by decide +kernel)⟩
theorem lw_p17 : lw_okq (⟨"BargeWards$Town", "takeFirstFreePlace", "()I"⟩, 16) := ⟨⟨by decide +kernel, by decide +kernel⟩, List.mem_of_getElem? (i := 22) (by decide +kernel), List.mem_of_getElem? (i := 440) (by decide +kernel), List.mem_of_getElem? (i := 441) (by decide +kernel)⟩
theorem lw_p18 : lw_okq (⟨"BargeWards", "countBehind", "(II)I"⟩, 2) := ⟨⟨by decide +kernel, by decide +kernel⟩, List.mem_of_getElem? (i := 14) (by decide +kernel), List.mem_of_getElem? (i := 567) (by decide +kernel), List.mem_of_getElem? (i := 568) (by decide +kernel)⟩
theorem lw_p19 : lw_okq (⟨"BargeWards", "homeWithFreshStraw", "(II)I"⟩, 2) := ⟨⟨by decide +kernel, by decide +kernel⟩, List.mem_of_getElem? (i := 14) (by decide +kernel), List.mem_of_getElem? (i := 585) (by decide +kernel), List.mem_of_getElem? (i := 586) (by decide +kernel)⟩
theorem lw_p20 : lw_okq (⟨"BargeWardsModel", "no", "(I)I"⟩, 3) := ⟨⟨by decide +kernel, by decide +kernel⟩, List.mem_of_getElem? (i := 589) (by decide +kernel), List.mem_of_getElem? (i := 675) (by decide +kernel), List.mem_of_getElem? (i := 676) (by decide +kernel)⟩
theorem lw_p21 : lw_okq (⟨"BargeWardsModel", "isBarge", "(I)Z"⟩, 3) := ⟨⟨by decide +kernel, by decide +kernel⟩, List.mem_of_getElem? (i := 589) (by decide +kernel), List.mem_of_getElem? (i := 687) (by decide +kernel), List.mem_of_getElem? (i := 688) (by decide +kernel)⟩
theorem lw_p22 : lw_okq (⟨"BargeWardsModel", "isWard", "(I)Z"⟩, 3) := ⟨⟨by decide +kernel, by decide +kernel⟩, List.mem_of_getElem? (i := 589) (by decide +kernel), List.mem_of_getElem? (i := 699) (by decide +kernel), List.mem_of_getElem? (i := 700) (by decide +kernel)⟩
theorem lw_p23 : lw_okq (⟨"BargeWardsModel", "isPerson", "(I)Z"⟩, 3) := ⟨⟨by decide +kernel, by decide +kernel⟩, List.mem_of_getElem? (i := 589) (by decide +kernel), List.mem_of_getElem? (i := 707) (by decide +kernel), List.mem_of_getElem? (i := 708) (by decide +kernel)⟩
theorem lw_p24 : lw_okq (⟨"BargeWardsModel$Town", "feed", "()V"⟩, 13) := ⟨⟨by decide +kernel, by decide +kernel⟩, List.mem_of_getElem? (i := 595) (by decide +kernel), List.mem_of_getElem? (i := 727) (by decide +kernel), List.mem_of_getElem? (i := 728) (by decide +kernel)⟩
theorem lw_p25 : lw_okq (⟨"BargeWardsModel$Town", "keep", "(I)V"⟩, 13) := ⟨⟨by decide +kernel, by decide +kernel⟩, List.mem_of_getElem? (i := 595) (by decide +kernel), List.mem_of_getElem? (i := 733) (by decide +kernel), List.mem_of_getElem? (i := 734) (by decide +kernel)⟩
theorem lw_p26 : lw_okq (⟨"BargeWardsModel$Town", "leaveWards", "()V"⟩, 13) := ⟨⟨by decide +kernel, by decide +kernel⟩, List.mem_of_getElem? (i := 595) (by decide +kernel), List.mem_of_getElem? (i := 737) (by decide +kernel), List.mem_of_getElem? (i := 738) (by decide +kernel)⟩
theorem lw_p27 : lw_okq (⟨"BargeWardsModel$Town", "land", "(I)V"⟩, 13) := ⟨⟨by decide +kernel, by decide +kernel⟩, List.mem_of_getElem? (i := 595) (by decide +kernel), List.mem_of_getElem? (i := 741) (by decide +kernel), List.mem_of_getElem? (i := 742) (by decide +kernel)⟩
theorem lw_p28 : lw_okq (⟨"BargeWardsModel$Town", "firstFree", "()I"⟩, 13) := ⟨⟨by decide +kernel, by decide +kernel⟩, List.mem_of_getElem? (i := 595) (by decide +kernel), List.mem_of_getElem? (i := 745) (by decide +kernel), List.mem_of_getElem? (i := 746) (by decide +kernel)⟩
theorem lw_p29 : lw_okq (⟨"BargeWardsModel", "wardTold", "(I)I"⟩, 3) := ⟨⟨by decide +kernel, by decide +kernel⟩, List.mem_of_getElem? (i := 589) (by decide +kernel), List.mem_of_getElem? (i := 758) (by decide +kernel), List.mem_of_getElem? (i := 759) (by decide +kernel)⟩
theorem lw_p30 : lw_okq (⟨"BargeWardsModel", "bargeTold", "(I)I"⟩, 3) := ⟨⟨by decide +kernel, by decide +kernel⟩, List.mem_of_getElem? (i := 589) (by decide +kernel), List.mem_of_getElem? (i := 766) (by decide +kernel), List.mem_of_getElem? (i := 767) (by decide +kernel)⟩
theorem lw_p31 : lw_okq (⟨"BargeWardsModel", "feversAt", "(I)I"⟩, 3) := ⟨⟨by decide +kernel, by decide +kernel⟩, List.mem_of_getElem? (i := 589) (by decide +kernel), List.mem_of_getElem? (i := 798) (by decide +kernel), List.mem_of_getElem? (i := 799) (by decide +kernel)⟩
def lw_privs_2 : List (MethodName × Nat) := [(⟨"BargeWards$Town", "landAll", "(I)Z"⟩, 16), (⟨"BargeWards$Town", "takeFirstFreePlace", "()I"⟩, 16), (⟨"BargeWards", "countBehind", "(II)I"⟩, 2), (⟨"BargeWards", "homeWithFreshStraw", "(II)I"⟩, 2), (⟨"BargeWardsModel", "no", "(I)I"⟩, 3), (⟨"BargeWardsModel", "isBarge", "(I)Z"⟩, 3), (⟨"BargeWardsModel", "isWard", "(I)Z"⟩, 3), (⟨"BargeWardsModel", "isPerson", "(I)Z"⟩, 3), (⟨"BargeWardsModel$Town", "feed", "()V"⟩, 13), (⟨"BargeWardsModel$Town", "keep", "(I)V"⟩, 13), (⟨"BargeWardsModel$Town", "leaveWards", "()V"⟩, 13), (⟨"BargeWardsModel$Town", "land", "(I)V"⟩, 13), (⟨"BargeWardsModel$Town", "firstFree", "()I"⟩, 13), (⟨"BargeWardsModel", "wardTold", "(I)I"⟩, 3), (⟨"BargeWardsModel", "bargeTold", "(I)I"⟩, 3), (⟨"BargeWardsModel", "feversAt", "(I)I"⟩, 3)]
theorem lw_r2 : ∀ q ∈ lw_privs_2, lw_okq q := List.forall_mem_cons.mpr ⟨lw_p16, List.forall_mem_cons.mpr ⟨lw_p17, List.forall_mem_cons.mpr ⟨lw_p18, List.forall_mem_cons.mpr ⟨lw_p19, List.forall_mem_cons.mpr ⟨lw_p20, List.forall_mem_cons.mpr ⟨lw_p21, List.forall_mem_cons.mpr ⟨lw_p22, List.forall_mem_cons.mpr ⟨lw_p23, List.forall_mem_cons.mpr ⟨lw_p24, List.forall_mem_cons.mpr ⟨lw_p25, List.forall_mem_cons.mpr ⟨lw_p26, List.forall_mem_cons.mpr ⟨lw_p27, List.forall_mem_cons.mpr ⟨lw_p28, List.forall_mem_cons.mpr ⟨lw_p29, List.forall_mem_cons.mpr ⟨lw_p30, List.forall_mem_cons.mpr ⟨lw_p31, fun _ h => absurd h List.not_mem_nil⟩⟩⟩⟩⟩⟩⟩⟩⟩⟩⟩⟩⟩⟩⟩⟩
theorem lw_p32 : lw_okq (⟨"BargeWardsModel", "after", "(II)I"⟩, 3) := ⟨⟨by decide +kernel, by decide +kernel⟩, List.mem_of_getElem? (i := 589) (by decide +kernel), List.mem_of_getElem? (i := 880) (by decide +kernel), List.mem_of_getElem? (i := 881) (by decide +kernel)⟩
def lw_privs_3 : List (MethodName × Nat) := [(⟨"BargeWardsModel", "after", "(II)I"⟩, 3)]
theorem lw_r3 : ∀ q ∈ lw_privs_3, lw_okq q := List.forall_mem_cons.mpr ⟨lw_p32, fun _ h => absurd h List.not_mem_nil⟩
def lw_privs : List (MethodName × Nat) := lw_privs_1 ++ (lw_privs_2 ++ (lw_privs_3))
def lw_tbl : List Cond := k2_sels lw_privs ++ tables_1
theorem lw_privs_ok : ∀ q ∈ lw_privs, lw_okq q := by
  show ∀ q ∈ lw_privs_1 ++ (lw_privs_2 ++ (lw_privs_3)), lw_okq q
  exact List.forall_mem_append.mpr ⟨lw_r1, List.forall_mem_append.mpr ⟨lw_r2, lw_r3⟩⟩
/-- the streams that the claim lets the run draw from -/
abbrev lw_cs : List Choice := [Jvm.Choice.named "NaN.bits"]
theorem lw_bits : nanBits ∈ lw_cs := by first | decide | exact List.mem_cons_self | simp [lw_cs, nanBits]
-- ===== end of PART A; then your names; then what follows =====
end
section
/-! ===== BEGIN words of one list among another's, by their places ===== -/
theorem goodIn_r {big : List Cond} (ws : List Cond) (ps : List Nat) (hp : ws = ps.filterMap (fun i => big[i]?)) (h : ws.all goodWord = true) : GoodIn big ws := by
  intro w hw
  have h1 := List.all_eq_true.mp h w hw
  rw [hp] at hw
  obtain ⟨i, -, hi⟩ := List.mem_filterMap.mp hw
  have hm : w ∈ big := by first | exact List.mem_of_getElem? hi | exact List.getElem?_mem hi
  exact ⟨hm, good_of_word h1⟩
theorem goodIn_app {big a b : List Cond} (ha : GoodIn big a) (hb : GoodIn big b) : GoodIn big (a ++ b) := fun w h => (List.mem_append.mp h).elim (ha w) (hb w)
theorem goodIn_ca {big a b : List Cond} {c : Cond} (ha : GoodIn big (c :: a)) (hb : GoodIn big b) : GoodIn big (c :: (a ++ b)) := fun w h => (List.mem_cons.mp h).elim (fun e => ha w (List.mem_cons.mpr (Or.inl e))) (fun h => (List.mem_append.mp h).elim (fun h => ha w (List.mem_cons.mpr (Or.inr h))) (hb w))
theorem goodIn_sub {big ws : List Cond} (hm : ∀ w ∈ ws, w ∈ big) (h : ws.all goodWord = true) : GoodIn big ws := fun w hw => ⟨hm w hw, good_of_word (List.all_eq_true.mp h w hw)⟩
/-! ===== END ===== -/

/-! ===== BEGIN exceptions that leave a method, and their catching by the caller (launches without stack traces) ===== -/
section VXA
/-! The laws vx_back, vx_callV, vx_callS, vx_callSW, vx_throw0, vx_throwS follow proofs of the library, with one case more: JvmDerived/Free/Laws.lean (Back.of_free), Shelf42/LK1.lean (callV, callS), Shelf/KitTraced.lean (throwNew0V, throwNewS). -/
/-- where a method has thrown q: the class by its name, the cell, what was written, the world -/
def vx_T (XC : String → State → State → Prop) (st : State) (q : Addr) (t : State) (mc ms : Nat) (free : Addr → Prop) : Prop :=
  ∃ (E : String) (ce : Cell) (L : List Loc), XC E st t ∧ t.heap[q]? = some ce ∧ ce.vm = .none ∧ st.vm.findClass E = some ce.cls ∧ st.WarmedH t.vm ∧ st.sameButNew ({ t with vm := st.vm } : State) L mc ms ∧ ∀ z ∈ L, free z.base
def vx_Q (Qc : Array Value → State → Outcome → State → Prop) (XC : String → State → State → Prop) (mc ms : Nat) (free : Addr → Prop) : Array Value → State → Outcome → State → Prop := fun a st o t =>
  (Qc a st o t ∧ ∃ L, FrameEnd st o t L mc ms ∧ ∀ q ∈ L, free q.base) ∨ ∃ q, o = .threw q ∧ vx_T XC st q t mc ms free
/-- a callee that returns or throws -/
def vx_Met (l : Launch) (y : MethodName) (ws : List Cond) (rm : Room) (Pc : Array Value → State → Prop) (Qc : Array Value → State → Outcome → State → Prop) (XC : String → State → State → Prop) (mc ms : Nat) (free : Addr → Prop) : Prop :=
  MetFree l y (headSpec ws rm) Pc (fun _ _ _ _ _ => True) (vx_Q Qc XC mc ms free)
def vx_Post (XC : String → State → State → Prop) (mc ms : Nat) (free : Addr → Prop) : Pt → Array Value → Addr → Pt → Prop := fun A a q B =>
  ∃ (g : JFrame) (mk : MethodId) (t : State) (L : List Loc) (E : String) (ce : Cell), B.U.heap = t.heap ∧ B.U.vm = t.vm ∧ XC E (A.U.calling g mk a) t ∧ t.heap[q]? = some ce ∧ ce.vm = .none ∧ A.U.vm.findClass E = some ce.cls ∧ B.locs = A.locs ++ L ∧ (∀ z ∈ L, free z.base) ∧ B.cells = A.cells + mc ∧ B.slots = A.slots + ms
def vx_Back (l : Launch) (R : Room) (p : Program) (e : Env) (below : List Frame) (s : State) (sargs : Array Value) (y : MethodName) (len W9 : Nat)
    (Pre : Pt → Array Value → Prop) (Post : Pt → Array Value → Option Value → Pt → Prop) (PostX : Pt → Array Value → Addr → Pt → Prop) : Prop :=
  ∀ (m : MethodId) (meth : Method) (c : Code) (A : Pt) (g : JFrame) (ig : Instr) (mk : MethodId) (a : Array Value),
    Stand p l e R s m sargs below meth c A.U A.locs A.cells A.slots → g.method = m → g.locals.size = c.maxLocals → decode c.code g.pc = .ok (ig, len) →
    2 * g.monitorRoom + (g.stack.map fun v => v.category).sum ≤ W9 → A.U.methodNamed? y = some mk → Pre A a →
    (∃ (v : Option Value) (B : Pt), Stand p l e R s m sargs below meth c B.U B.locs B.cells B.slots ∧ Post A a v B ∧
      Steps p.tables e below (doInvoke e (A.U.setTop g) [] mk a).1 (B.U.setTop { g with pc := g.pc + len, stack := v.toList ++ g.stack })) ∨
    (∃ (q : Addr) (B : Pt), Stand p l e R s m sargs below meth c B.U B.locs B.cells B.slots ∧ PostX A a q B ∧
      Steps p.tables e below (doInvoke e (A.U.setTop g) [] mk a).1 ((B.U.setTop g).pushFrame (.throwing q)))
section Payer
variable {l : Launch} {R : Room} {p : Program} {e : Env} {below : List Frame} {s : State} {sargs : Array Value} {y : MethodName} {len W9 : Nat}
theorem vx_back {ws : List Cond} {rm : Room} {Pc : Array Value → State → Prop} {Qc : Array Value → State → Outcome → State → Prop} {XC : String → State → State → Prop} {mc ms : Nat} {free : Addr → Prop} {bytes : ByteArray} {maxL : Nat} {ret : Option FieldType}
    (hM : vx_Met l y ws rm Pc Qc XC mc ms free) (hblind : FrameBlind Pc) (hrc : rm.cells = mc) (hrs : rm.slots = ms)
    (hframes : rm.frames + 1 ≤ R.frames) (hlocals : W9 + (maxL + 11) + rm.locals ≤ R.locals)
    (hws : ∀ w ∈ ws, ∀ a' U, s.WarmedH U.vm → w.before a' U = true) (hcode : Cond.code y bytes maxL ret ∈ ws) (hinit : ∀ a' U, s.WarmedH U.vm → (Cond.initialized y.cls).before a' U = true) :
    vx_Back l R p e below s sargs y len W9 (PreOf R mc ms Pc) (PostOf Qc mc ms free) (vx_Post XC mc ms free) := by
  intro m meth c A g ig mk a X hg hsize hdg hW hn hp
  have h1 : (headSpec ws rm).pre.before a A.U = true := atoms_intro fun w hw => hws w hw _ _ X.warmed
  have h2 : (Cond.code y bytes maxL ret).before a A.U = true := hws _ hcode _ _ X.warmed
  have h3 : (Cond.initialized y.cls).before a A.U = true := hinit _ _ X.warmed
  have h4 : A.cells + (headSpec ws rm).room.cells ≤ R.cells := by rw [show (headSpec ws rm).room.cells = mc from hrc]; exact hp.1
  have h5 : A.slots + (headSpec ws rm).room.slots ≤ R.slots := by rw [show (headSpec ws rm).room.slots = ms from hrs]; exact hp.2.1
  have hPc : Pc a (A.U.calling g mk a) := hblind _ _ _ _ hp.2.2
  obtain ⟨U, Ls, c0, s0⟩ := A
  dsimp only [Pt.U, Pt.locs, Pt.cells, Pt.slots] at h1 h2 h3 h4 h5 X hn hPc ⊢
  obtain ⟨methY, cY, hmY, hcY, -, hlY, -, -, -, -⟩ := Cond.code_spec hn h2
  obtain ⟨kY, hkY, -⟩ := className_of_methodNamed hn
  have hinitY : kY.init = .initialized := Cond.initialized_spec (findClass_of_methodNamed hn) hkY h3
  have h : At U g.method c below := by rw [hg]; exact X.here
  have hlocals9 : W9 + (maxL + 11) + (headSpec ws rm).room.locals ≤ R.locals := hlocals
  have happ : (headSpec ws rm).appliesLoose y e.platform (U.calling g mk a) = true :=
    Spec.appliesLoose_calling (g := g) h hdg hn hkY hinitY
      (X.room_calling (g := g) (R' := (headSpec ws rm).room) hsize hmY hcY hframes (by rw [hlY]; omega) h4 h5) h1
  obtain ⟨mid, hmid⟩ := h.above
  have hfr : (U.setTop g).frames = (.java g :: mid) ++ below := by rw [State.frames_setTop' g h.top, hmid]; rfl
  obtain ⟨o, s₂, hsteps, -, hend, hq⟩ := Steps.callFree hM p X.admits X.cas X.clock (acts := []) hfr happ hPc trivial
  have hq' : vx_Q Qc XC mc ms free a (U.calling g mk a) o s₂ := hq
  rw [State.frames_setTop' g h.top] at hend
  obtain ⟨g₀, hg0⟩ := Option.isSome_iff_exists.mp h.top
  obtain ⟨r, hr⟩ := State.topJava?_eq_some.mp hg0
  have hr' : (({ U with heap := s₂.heap, slotsUsed := s₂.slotsUsed } : State).setVm s₂.vm).frames = .java g₀ :: r := hr
  rcases hq' with ⟨hqc, L, hfe, hL⟩ | ⟨q, rfl, E, ce, L, hx, hce, hcv, hcl, hW₂, hsm, hL⟩
  · obtain ⟨⟨v, rfl⟩, hW₂, e2, q2, q3, q4, q5, q6⟩ := id hfe
    have e3 : s₂ = ({ (U.calling g mk a).setFrames s₂.frames with heap := s₂.heap, slotsUsed := s₂.slotsUsed } : State).setVm s₂.vm := by
      have : s₂ = ({ s₂ with vm := (U.calling g mk a).vm } : State).setVm s₂.vm := rfl
      rw [e2] at this
      exact this
    obtain ⟨c₂, i₂, len₂, hc₂, hd₂, hf₂⟩ := hend
    have hW' : U.WarmedH s₂.vm := hW₂
    have hcc : c₂ = c := by
      have h1 : s₂.code? g.method = U.code? g.method := by
        rw [State.code?_eq, State.code?_eq, hW'.alike.method?]
      exact Option.some.inj (hc₂.symm.trans (h1.trans h.code))
    subst hcc
    have hlen : len₂ = len := by rw [hdg] at hd₂; cases hd₂; rfl
    subst hlen
    have hs₂ : s₂ = (({ U with heap := s₂.heap, slotsUsed := s₂.slotsUsed } : State).setVm s₂.vm).setTop { g with pc := g.pc + len₂, stack := v.toList ++ g.stack } := by
      refine e3.trans ?_
      rw [hf₂, State.calling_eq h.top, State.setFrames_setFrames, State.setTop_of_frames _ hr', hr]
      rfl
    have hsame : U.sameButNew ({ U with heap := s₂.heap, slotsUsed := s₂.slotsUsed } : State) L mc ms := by
      refine ⟨?_, q2, q3, q4, q5, q6⟩
      obtain ⟨t, ht, -⟩ := State.frames_cons hr
      show ({ U with heap := s₂.heap, slotsUsed := s₂.slotsUsed } : State) = { U.setFrames U.frames with heap := s₂.heap, slotsUsed := s₂.slotsUsed }
      rw [State.setFrames_self ht]
    subst hg
    refine Or.inl ⟨v, ⟨(({ U with heap := s₂.heap, slotsUsed := s₂.slotsUsed } : State).setVm s₂.vm), Ls ++ L, c0 + mc, s0 + ms⟩,
      ⟨X.admits, X.cas, X.clock, X.frames, X.room, X.hears, X.method, X.code, (X.here.setHeapUsed s₂.heap s₂.slotsUsed).setVm hW'.alike, X.tail, State.WarmedH.trans X.warmed hW', X.limits, X.bytes, X.same.trans (hsame.setVm s.vm)⟩,
      ⟨g, mk, s₂, L, rfl, rfl, hqc, rfl, hL, rfl, rfl⟩, ?_⟩
    show Steps p.tables e below _ ((({ U with heap := s₂.heap, slotsUsed := s₂.slotsUsed } : State).setVm s₂.vm).setTop { g with pc := g.pc + len₂, stack := v.toList ++ g.stack })
    rw [← hs₂]
    exact hsteps
  · obtain ⟨e2, q2, q3, q4, q5, q6⟩ := id hsm
    have e3 : s₂ = ({ (U.calling g mk a).setFrames s₂.frames with heap := s₂.heap, slotsUsed := s₂.slotsUsed } : State).setVm s₂.vm := by
      have : s₂ = ({ s₂ with vm := (U.calling g mk a).vm } : State).setVm s₂.vm := rfl
      rw [e2] at this
      exact this
    have hf₂ : s₂.frames = .throwing q :: .java g :: U.frames.tail := hend
    have hW' : U.WarmedH s₂.vm := hW₂
    have hs₂ : s₂ = ((({ U with heap := s₂.heap, slotsUsed := s₂.slotsUsed } : State).setVm s₂.vm).setTop g).pushFrame (.throwing q) := by
      refine e3.trans ?_
      rw [hf₂, State.calling_eq h.top, State.setFrames_setFrames, State.pushFrame, State.frames_setTop _ hr', State.setTop_of_frames _ hr', State.setFrames_setFrames, hr]
      rfl
    have hsame : U.sameButNew ({ U with heap := s₂.heap, slotsUsed := s₂.slotsUsed } : State) L mc ms := by
      refine ⟨?_, q2, q3, q4, q5, q6⟩
      obtain ⟨t, ht, -⟩ := State.frames_cons hr
      show ({ U with heap := s₂.heap, slotsUsed := s₂.slotsUsed } : State) = { U.setFrames U.frames with heap := s₂.heap, slotsUsed := s₂.slotsUsed }
      rw [State.setFrames_self ht]
    subst hg
    refine Or.inr ⟨q, ⟨(({ U with heap := s₂.heap, slotsUsed := s₂.slotsUsed } : State).setVm s₂.vm), Ls ++ L, c0 + mc, s0 + ms⟩,
      ⟨X.admits, X.cas, X.clock, X.frames, X.room, X.hears, X.method, X.code, (X.here.setHeapUsed s₂.heap s₂.slotsUsed).setVm hW'.alike, X.tail, State.WarmedH.trans X.warmed hW', X.limits, X.bytes, X.same.trans (hsame.setVm s.vm)⟩,
      ⟨g, mk, s₂, L, E, ce, rfl, rfl, hx, hce, hcv, hcl, rfl, hL, rfl, rfl⟩, ?_⟩
    show Steps p.tables e below _ (((({ U with heap := s₂.heap, slotsUsed := s₂.slotsUsed } : State).setVm s₂.vm).setTop g).pushFrame (.throwing q))
    rw [← hs₂]
    exact hsteps
end Payer
section Calls
variable {p : Program} {l : Launch} {e : Env} {R : Room} {s : State} {m : MethodId} {args : Array Value} {below : List Frame} {meth : Method} {c : Code} {T : State} {locs : List Loc} {cells slots : Nat}
theorem vx_callV (X : Stand p l e R s m args below meth c T locs cells slots) (hexec : p.tables.exec = Jvm.exec) {own C : String} {index : Nat} {y : MethodName} {bytes : ByteArray} {maxL : Nat} {ret : Option FieldType}
    (hown : s.vm.findClass own = some m.cls) (hlink : (Cond.methodLink own index y).before args s = true) (hinst : (Cond.instanceMethod y).before args s = true) (hsel : (Cond.selects C y y).before args s = true)
    (hcode : (Cond.code y bytes maxL ret).before args s = true) (hy : y.cls ≠ "java/lang/invoke/MethodHandle" ∧ y.cls ≠ "java/lang/invoke/VarHandle")
    {W9 : Nat} {Pre : Pt → Array Value → Prop} {Post : Pt → Array Value → Option Value → Pt → Prop} {PostX : Pt → Array Value → Addr → Pt → Prop} (hK : vx_Back l R p e below s args y 3 W9 Pre Post PostX)
    {b : Addr} {cellB : Cell} (hcell : T.heap[b]? = some cellB) (hobj : cellB.vm.isStatics = false) (hcls : s.vm.findClass C = some cellB.cls)
    {g : JFrame} (hg : g.method = m) (hsize : g.locals.size = c.maxLocals) {argsL rest : List Value} (hlen : ∀ sig, parseMethodDescriptor y.desc = some sig → argsL.length = sig.parameters.length)
    (hstack : g.stack = argsL.reverse ++ .ref b :: rest) (hW : 2 * g.monitorRoom + (rest.map fun v => v.category).sum ≤ W9) (hdg : decode c.code g.pc = .ok (.invokevirtual index, 3))
    (hpre : ∀ vm₁, s.WarmedH vm₁ → Pre ⟨T.setVm vm₁, locs, cells, slots⟩ (Value.ref b :: argsL).toArray) :
    (∃ (v : Option Value) (vm₁ : Vm) (B : Pt), s.WarmedH vm₁ ∧ Stand p l e R s m args below meth c B.U B.locs B.cells B.slots ∧ Post ⟨T.setVm vm₁, locs, cells, slots⟩ (Value.ref b :: argsL).toArray v B ∧
      ∀ target, Steps p.tables e below (B.U.setTop { g with pc := g.pc + 3, stack := v.toList ++ rest }) target → Steps p.tables e below (T.setTop g) target) ∨
    (∃ (q : Addr) (vm₁ : Vm) (B : Pt), s.WarmedH vm₁ ∧ Stand p l e R s m args below meth c B.U B.locs B.cells B.slots ∧ PostX ⟨T.setVm vm₁, locs, cells, slots⟩ (Value.ref b :: argsL).toArray q B ∧
      Steps p.tables e below (T.setTop g) ((B.U.setTop { g with stack := rest }).pushFrame (.throwing q))) := by
  obtain ⟨mk, methM, hnamed, hmethM, hstM, habM⟩ := Cond.instanceMethod_spec hinst
  obtain ⟨methM', cM, hmethM', -, -, -, -, -, -, hsigM⟩ := Cond.code_spec hnamed hcode
  cases hmethM.symm.trans hmethM'
  obtain ⟨c2, r2, m2, q1, q2, q3, q4, kP, hkP, hkPi⟩ := Cond.selects_spec hsel
  cases hcls.symm.trans q1
  cases (State.methodFound?_of_named hnamed hy).symm.trans q2
  cases hnamed.symm.trans q3
  have hselP : selectMethod e.platform s.vm cellB.cls mk = .method mk := by rw [Launch.admits_selectMethod X.admits]; exact q4
  obtain ⟨vm₁, X₁, hstep₁⟩ := X.invokevirtual hexec hown hlink hnamed hmethM hstM hkP hkPi hy (a := b) (cell := cellB) hcell
    (fun z h => by rw [h] at hobj; cases hobj) hselP hmethM habM hkP hkPi (g := g) hg (argsL := argsL) (rest := rest) (hlen _ hsigM) hstack hdg
  rcases hK m meth c ⟨T.setVm vm₁, locs, cells, slots⟩ { g with stack := rest } (.invokevirtual index) mk (Value.ref b :: argsL).toArray X₁ hg hsize hdg hW (X₁.named hnamed) (hpre vm₁ X₁.warmed) with ⟨v, B, X', hpost, hsteps⟩ | ⟨q, B, X', hpost, hsteps⟩
  · exact Or.inl ⟨v, vm₁, B, X₁.warmed, X', hpost, fun target h => hstep₁ _ fun acts => by rw [doInvoke_state]; exact hsteps.trans h⟩
  · exact Or.inr ⟨q, vm₁, B, X₁.warmed, X', hpost, hstep₁ _ fun acts => by rw [doInvoke_state]; exact hsteps⟩
theorem vx_callS (X : Stand p l e R s m args below meth c T locs cells slots) (hexec : p.tables.exec = Jvm.exec) {own : String} {index : Nat} {y : MethodName} {bytes : ByteArray} {maxL : Nat} {ret : Option FieldType}
    (hown : s.vm.findClass own = some m.cls) (hlink : (Cond.methodLink own index y).before args s = true) (hstat : (Cond.static y).before args s = true) (hinit : (Cond.initialized y.cls).before args s = true)
    (hcode : (Cond.code y bytes maxL ret).before args s = true) (hy : y.cls ≠ "java/lang/invoke/MethodHandle" ∧ y.cls ≠ "java/lang/invoke/VarHandle")
    {W9 : Nat} {Pre : Pt → Array Value → Prop} {Post : Pt → Array Value → Option Value → Pt → Prop} {PostX : Pt → Array Value → Addr → Pt → Prop} (hK : vx_Back l R p e below s args y 3 W9 Pre Post PostX)
    {g : JFrame} (hg : g.method = m) (hsize : g.locals.size = c.maxLocals) {argsL rest : List Value} (hlen : ∀ sig, parseMethodDescriptor y.desc = some sig → argsL.length = sig.parameters.length)
    (hstack : g.stack = argsL.reverse ++ rest) (hW : 2 * g.monitorRoom + (rest.map fun v => v.category).sum ≤ W9) (hdg : decode c.code g.pc = .ok (.invokestatic index, 3))
    (hpre : ∀ vm₁, s.WarmedH vm₁ → Pre ⟨T.setVm vm₁, locs, cells, slots⟩ argsL.toArray) :
    (∃ (v : Option Value) (vm₁ : Vm) (B : Pt), s.WarmedH vm₁ ∧ Stand p l e R s m args below meth c B.U B.locs B.cells B.slots ∧ Post ⟨T.setVm vm₁, locs, cells, slots⟩ argsL.toArray v B ∧
      ∀ target, Steps p.tables e below (B.U.setTop { g with pc := g.pc + 3, stack := v.toList ++ rest }) target → Steps p.tables e below (T.setTop g) target) ∨
    (∃ (q : Addr) (vm₁ : Vm) (B : Pt), s.WarmedH vm₁ ∧ Stand p l e R s m args below meth c B.U B.locs B.cells B.slots ∧ PostX ⟨T.setVm vm₁, locs, cells, slots⟩ argsL.toArray q B ∧
      Steps p.tables e below (T.setTop g) ((B.U.setTop { g with stack := rest }).pushFrame (.throwing q))) := by
  obtain ⟨mk, hnamed⟩ := Cond.code_named hcode
  obtain ⟨methM, cM, hmethM, -, -, -, -, -, -, hsigM⟩ := Cond.code_spec hnamed hcode
  have hstatic : methM.isStatic = true := Cond.static_spec hnamed hmethM hstat
  obtain ⟨kP, hkP, -⟩ := className_of_methodNamed hnamed
  have hinitP : kP.init = .initialized := Cond.initialized_spec (findClass_of_methodNamed hnamed) hkP hinit
  obtain ⟨vm₁, X₁, hstep₁⟩ := X.invokestatic hexec hown hlink hnamed hmethM hstatic hkP hinitP hy (g := g) hg (argsL := argsL) (rest := rest) (hlen _ hsigM) hstack hdg
  rcases hK m meth c ⟨T.setVm vm₁, locs, cells, slots⟩ { g with stack := rest } (.invokestatic index) mk argsL.toArray X₁ hg hsize hdg hW (X₁.named hnamed) (hpre vm₁ X₁.warmed) with ⟨v, B, X', hpost, hsteps⟩ | ⟨q, B, X', hpost, hsteps⟩
  · exact Or.inl ⟨v, vm₁, B, X₁.warmed, X', hpost, fun target h => hstep₁ _ fun acts => by rw [doInvoke_state]; exact hsteps.trans h⟩
  · exact Or.inr ⟨q, vm₁, B, X₁.warmed, X', hpost, hstep₁ _ fun acts => by rw [doInvoke_state]; exact hsteps⟩
end Calls
theorem vx_cls {s : State} {T : State} {vm₁ : Vm} {E : String} {k : ClassId} (hW : s.WarmedH vm₁) (h : (T.setVm vm₁).vm.findClass E = some k) : s.vm.findClass E = some k := by
  have h1 : vm₁.findClass E = some k := h
  rw [hW.alike.findClass] at h1
  exact h1
/-- the method's frame g, with q thrown over it -/
def vx_W (p : Program) (l : Launch) (e : Env) (R : Room) (s : State) (m : MethodId) (args : Array Value) (below : List Frame) (meth : Method) (c : Code) (H : Heap) (locs : List Loc) (cells slots : Nat) (Q : State → Prop) (g : JFrame) (q : Addr) : Prop :=
  ∀ T : State, T.heap = H → Stand p l e R s m args below meth c T locs cells slots → ∃ t, Steps p.tables e below ((T.setTop g).pushFrame (.throwing q)) t ∧ Q t
def vx_Run (p : Program) (l : Launch) (e : Env) (R : Room) (s : State) (m : MethodId) (args : Array Value) (below : List Frame) (meth : Method) (c : Code) (H : Heap) (locs : List Loc) (cells slots mc ms : Nat) (g : JFrame) (rest : List Value) (Qa : State → Outcome → State → Prop) (XC : String → State → State → Prop) (free : Addr → Prop) : Prop :=
  ∀ T : State, T.heap = H → Stand p l e R s m args below meth c T locs cells slots →
    (∃ (v : Option Value) (st₀ t T' : State) (L : List Loc), st₀.heap = H ∧ Stand p l e R s m args below meth c T' (locs ++ L) (cells + mc) (slots + ms) ∧ (∀ q ∈ L, free q.base) ∧ T'.heap = t.heap ∧ T'.vm = t.vm ∧ Qa st₀ (.returned v) t ∧
      Goes p e below T g T' { g with pc := g.pc + 3, stack := v.toList ++ rest }) ∨
    (∃ (q : Addr) (st₀ t T' : State) (L : List Loc) (E : String) (ce : Cell), st₀.heap = H ∧ Stand p l e R s m args below meth c T' (locs ++ L) (cells + mc) (slots + ms) ∧ (∀ z ∈ L, free z.base) ∧ T'.heap = t.heap ∧ T'.vm = t.vm ∧ XC E st₀ t ∧ t.heap[q]? = some ce ∧ ce.vm = .none ∧ s.vm.findClass E = some ce.cls ∧
      Steps p.tables e below (T.setTop g) ((T'.setTop { g with stack := rest }).pushFrame (.throwing q)))
def vx_X {S : Type} (px : S → Prop) (B : String → S → State → Prop) (A : Nat → Prop) : String → State → State → Prop := fun E st t => ∃ u : S, px u ∧ B E u t ∧ va_F A st t
section Runs
variable {p : Program} {l : Launch} {e : Env} {R : Room} {s : State} {m : MethodId} {args : Array Value} {below : List Frame} {meth : Method} {c : Code} {H : Heap} {locs : List Loc} {cells slots : Nat}
variable {y : MethodName} {bytes cc : ByteArray} {maxL nL mc ms n index : Nat} {ret : Option FieldType} {ws : List Cond} {rm : Room} {Pc : Array Value → State → Prop} {Qc : Array Value → State → Outcome → State → Prop} {XC : String → State → State → Prop} {free : Addr → Prop} {Ts : List Cond} {own C : String} {b : Addr} {As rest : List Value} {g : JFrame}
theorem vx_callBack (cb : CallB R s args own index y bytes maxL ret ws rm mc ms n) (hM : vx_Met l y ws rm Pc Qc XC mc ms free) (hbl : FrameBlind Pc) : vx_Back l R p e below s args y 3 8 (PreOf R mc ms Pc) (PostOf Qc mc ms free) (vx_Post XC mc ms free) := by
  obtain ⟨hrc, hrs, hfr, hlo, hws, hcw, -, hini, -⟩ := cb
  exact vx_back (bytes := bytes) (maxL := maxL) (ret := ret) hM hbl hrc hrs hfr hlo hws hcw (fun a' U hW => word_at hW (Or.inl (by first | rfl | simp [Cond.onTables, Cond.keeps, Cond.steady])) hini)
theorem vx_runV (S : CallFix p m c cc nL s args Ts own) (hM : vx_Met l y ws rm Pc Qc XC mc ms free) (cw : CallW R s args own C index y bytes maxL ret ws rm mc ms n) (hp : PreV s H C b Pc As)
    (hg : g.method = m) (hn : As.length = n) (hsize : g.locals.size = nL) (hstack : g.stack = As.reverse ++ .ref b :: rest) (hW : 2 * g.monitorRoom + (rest.map fun v => v.category).sum ≤ 8) (hdg : decode cc g.pc = .ok (.invokevirtual index, 3)) (hf : cells + mc ≤ R.cells ∧ slots + ms ≤ R.slots) :
    vx_Run p l e R s m args below meth c H locs cells slots mc ms g rest (Qc (Value.ref b :: As).toArray) XC free := by
  have hK : vx_Back l R p e below s args y 3 8 (PreOf R mc ms Pc) (PostOf Qc mc ms free) (vx_Post XC mc ms free) := vx_callBack cw.1 hM hp.1
  obtain ⟨⟨-, -, -, -, -, -, hcode, -, hy, hlen, hl⟩, hin, hse⟩ := cw
  obtain ⟨hx, hb, hml, ho, -⟩ := S
  obtain ⟨-, ⟨cellB, hcB, hoB, hclB⟩, hPc⟩ := hp
  intro T hT X
  rcases vx_callV X hx (C := C) (bytes := bytes) (maxL := maxL) (ret := ret) ho hl hin hse hcode hy hK (by rw [hT]; exact hcB) hoB hclB hg (hsize.trans hml.symm) (argsL := As) (rest := rest) (fun sig h => hn.trans (hlen sig h)) hstack hW (by rw [hb]; exact hdg)
    (fun vm₁ hW₁ => ⟨hf.1, hf.2, hPc (T.setVm vm₁) hT hW₁⟩) with ⟨v, vm₁, ⟨U', l2, c2, s2⟩, hW₁, X', ⟨g', mk, t, L, e1, e2, hq, h1, hL, h2, h3⟩, st⟩ | ⟨q, vm₁, ⟨U', l2, c2, s2⟩, hW₁, X', ⟨g', mk, t, L, E, ce, e1, e2, hq, hce, hcv, hcl, h1, hL, h2, h3⟩, st⟩
  · dsimp only [Pt.U, Pt.locs, Pt.cells, Pt.slots] at X' e1 e2 h1 h2 h3 st
    subst h1; subst h2; subst h3
    exact Or.inl ⟨v, (T.setVm vm₁).calling g' mk (Value.ref b :: As).toArray, t, U', L, hT, X', hL, e1, e2, hq, st⟩
  · dsimp only [Pt.U, Pt.locs, Pt.cells, Pt.slots] at X' e1 e2 h1 h2 h3 st hcl
    subst h1; subst h2; subst h3
    exact Or.inr ⟨q, (T.setVm vm₁).calling g' mk (Value.ref b :: As).toArray, t, U', L, E, ce, hT, X', hL, e1, e2, hq, hce, hcv, vx_cls hW₁ hcl, st⟩
theorem vx_runS (S : CallFix p m c cc nL s args Ts own) (hM : vx_Met l y ws rm Pc Qc XC mc ms free) (cw : CallB R s args own index y bytes maxL ret ws rm mc ms n ∧ (Cond.static y).before args s = true) (hp : PreS s H Pc As)
    (hg : g.method = m) (hn : As.length = n) (hsize : g.locals.size = nL) (hstack : g.stack = As.reverse ++ rest) (hW : 2 * g.monitorRoom + (rest.map fun v => v.category).sum ≤ 8) (hdg : decode cc g.pc = .ok (.invokestatic index, 3)) (hf : cells + mc ≤ R.cells ∧ slots + ms ≤ R.slots) :
    vx_Run p l e R s m args below meth c H locs cells slots mc ms g rest (Qc As.toArray) XC free := by
  have hK : vx_Back l R p e below s args y 3 8 (PreOf R mc ms Pc) (PostOf Qc mc ms free) (vx_Post XC mc ms free) := vx_callBack cw.1 hM hp.1
  obtain ⟨⟨-, -, -, -, -, -, hcode, hini, hy, hlen, hl⟩, hstt⟩ := cw
  obtain ⟨hx, hb, hml, ho, -⟩ := S
  intro T hT X
  rcases vx_callS X hx (bytes := bytes) (maxL := maxL) (ret := ret) ho hl hstt hini hcode hy hK hg (hsize.trans hml.symm) (argsL := As) (rest := rest) (fun sig h => hn.trans (hlen sig h)) hstack hW (by rw [hb]; exact hdg)
    (fun vm₁ hW₁ => ⟨hf.1, hf.2, hp.2 (T.setVm vm₁) hT hW₁⟩) with ⟨v, vm₁, ⟨U', l2, c2, s2⟩, hW₁, X', ⟨g', mk, t, L, e1, e2, hq, h1, hL, h2, h3⟩, st⟩ | ⟨q, vm₁, ⟨U', l2, c2, s2⟩, hW₁, X', ⟨g', mk, t, L, E, ce, e1, e2, hq, hce, hcv, hcl, h1, hL, h2, h3⟩, st⟩
  · dsimp only [Pt.U, Pt.locs, Pt.cells, Pt.slots] at X' e1 e2 h1 h2 h3 st
    subst h1; subst h2; subst h3
    exact Or.inl ⟨v, (T.setVm vm₁).calling g' mk As.toArray, t, U', L, hT, X', hL, e1, e2, hq, st⟩
  · dsimp only [Pt.U, Pt.locs, Pt.cells, Pt.slots] at X' e1 e2 h1 h2 h3 st hcl
    subst h1; subst h2; subst h3
    exact Or.inr ⟨q, (T.setVm vm₁).calling g' mk As.toArray, t, U', L, E, ce, hT, X', hL, e1, e2, hq, hce, hcv, vx_cls hW₁ hcl, st⟩
end Runs
section Rows
variable {p : Program} {l : Launch} {e : Env} {R : Room} {s : State} {m : MethodId} {args : Array Value} {below : List Frame} {meth : Method} {c : Code} {H : Heap} {locs : List Loc} {cells slots : Nat} {Q : State → Prop}
variable {mc ms : Nat} {free : Addr → Prop} {A0 A1 : Nat → Prop} {H0 : Heap} {a : Array Value} {pc : Nat} {ls : Array Slot} {st0 rest : List Value}
theorem vx_keep {st₀ t T' : State} {L : List Loc} (h0 : st₀.heap = H) (e1 : T'.heap = t.heap) (hS : va_S A0 H0 H locs) (hA : ∀ q, q < H.size → A1 q → A0 q) (hf : ∀ q, free q → A0 q) (hL : ∀ q ∈ L, free q.base) (hF : va_F A1 st₀ t) :
    H.size ≤ T'.heap.size ∧ (∀ q : Nat, q < H.size → ¬ A1 q → T'.heap[q]? = H[q]?) ∧ va_S A0 H0 T'.heap (locs ++ L) := by
  obtain ⟨hz, hk⟩ := hF
  rw [h0] at hz hk
  exact ⟨by rw [e1]; exact hz, fun q h1 h2 => by rw [e1]; exact hk q h1 h2,
    ⟨Nat.le_trans hS.1 (by rw [e1]; exact hz), fun q h1 h2 => by rw [e1, hk q (Nat.lt_of_lt_of_le h1 hS.1) (fun z => h2 (hA q (Nat.lt_of_lt_of_le h1 hS.1) z))]; exact hS.2.1 q h1 h2, fun q hq => by
      rcases List.mem_append.mp hq with h | h
      · exact hS.2.2 q h
      · exact hf _ (hL q h)⟩⟩
theorem vx_calli {S SX : Type} {post : Int32 → S → Prop} {px : SX → Prop} {B : S → State → Prop} {BX : String → SX → State → Prop} {AX : Nat → Prop} (hr : vx_Run p l e R s m args below meth c H locs cells slots mc ms (F0 m pc ls st0) rest (va_Qi post B A1 a) (vx_X px BX AX) free) (hS : va_S A0 H0 H locs) (hA : ∀ q, q < H.size → A1 q → A0 q) (hf : ∀ q, free q → A0 q) (hAX : ∀ q, q < H.size → AX q → A0 q)
    (kx : ∀ (E : String) (ce : Cell) (q9 : Addr) (u : SX) (t : State) (H1 : Heap) (locs1 : List Loc), t.heap = H1 → s.vm.Alike t.vm → px u → BX E u t → H.size ≤ H1.size → (∀ q : Nat, q < H.size → ¬ AX q → H1[q]? = H[q]?) → va_S A0 H0 H1 locs1 → H1[q9]? = some ce → ce.vm = .none → s.vm.findClass E = some ce.cls → vx_W p l e R s m args below meth c H1 locs1 (cells + mc) (slots + ms) Q (F0 m pc ls rest) q9)
    (kk : ∀ (r : Int32) (u : S) (t : State) (H1 : Heap) (locs1 : List Loc), t.heap = H1 → s.vm.Alike t.vm → post r u → B u t → H.size ≤ H1.size → (∀ q : Nat, q < H.size → ¬ A1 q → H1[q]? = H[q]?) → va_S A0 H0 H1 locs1 → W p l e R s m args below meth c H1 locs1 (cells + mc) (slots + ms) Q (F0 m (pc + 3) ls (.int r :: rest))) : W p l e R s m args below meth c H locs cells slots Q (F0 m pc ls st0) := by
  intro T hT X
  rcases hr T hT X with ⟨v, st₀, t, T', L, h0, X', hL, e1, e2, ⟨⟨r, u, hv, hp, hb⟩, hF⟩, st⟩ | ⟨q, st₀, t, T', L, E, ce, h0, X', hL, e1, e2, ⟨u, hp, hb, hF⟩, hce, hcv, hcl, st⟩
  · cases hv
    obtain ⟨k1, k2, k3⟩ := vx_keep h0 e1 hS hA hf hL hF
    obtain ⟨t2, a1, b1⟩ := kk r u t T'.heap (locs ++ L) e1.symm (by rw [← e2]; exact X'.warmed.alike) hp hb k1 k2 k3 T' rfl X'
    exact ⟨t2, st t2 a1, b1⟩
  · obtain ⟨k1, k2, k3⟩ := vx_keep h0 e1 hS hAX hf hL hF
    obtain ⟨t2, a1, b1⟩ := kx E ce q u t T'.heap (locs ++ L) e1.symm (by rw [← e2]; exact X'.warmed.alike) hp hb k1 k2 k3 (by rw [e1]; exact hce) hcv hcl T' rfl X'
    exact ⟨t2, st.trans a1, b1⟩
theorem vx_calll {S SX : Type} {post : Int64 → S → Prop} {px : SX → Prop} {B : S → State → Prop} {BX : String → SX → State → Prop} {AX : Nat → Prop} (hr : vx_Run p l e R s m args below meth c H locs cells slots mc ms (F0 m pc ls st0) rest (va_Ql post B A1 a) (vx_X px BX AX) free) (hS : va_S A0 H0 H locs) (hA : ∀ q, q < H.size → A1 q → A0 q) (hf : ∀ q, free q → A0 q) (hAX : ∀ q, q < H.size → AX q → A0 q)
    (kx : ∀ (E : String) (ce : Cell) (q9 : Addr) (u : SX) (t : State) (H1 : Heap) (locs1 : List Loc), t.heap = H1 → s.vm.Alike t.vm → px u → BX E u t → H.size ≤ H1.size → (∀ q : Nat, q < H.size → ¬ AX q → H1[q]? = H[q]?) → va_S A0 H0 H1 locs1 → H1[q9]? = some ce → ce.vm = .none → s.vm.findClass E = some ce.cls → vx_W p l e R s m args below meth c H1 locs1 (cells + mc) (slots + ms) Q (F0 m pc ls rest) q9)
    (kk : ∀ (r : Int64) (u : S) (t : State) (H1 : Heap) (locs1 : List Loc), t.heap = H1 → s.vm.Alike t.vm → post r u → B u t → H.size ≤ H1.size → (∀ q : Nat, q < H.size → ¬ A1 q → H1[q]? = H[q]?) → va_S A0 H0 H1 locs1 → W p l e R s m args below meth c H1 locs1 (cells + mc) (slots + ms) Q (F0 m (pc + 3) ls (.long r :: rest))) : W p l e R s m args below meth c H locs cells slots Q (F0 m pc ls st0) := by
  intro T hT X
  rcases hr T hT X with ⟨v, st₀, t, T', L, h0, X', hL, e1, e2, ⟨⟨r, u, hv, hp, hb⟩, hF⟩, st⟩ | ⟨q, st₀, t, T', L, E, ce, h0, X', hL, e1, e2, ⟨u, hp, hb, hF⟩, hce, hcv, hcl, st⟩
  · cases hv
    obtain ⟨k1, k2, k3⟩ := vx_keep h0 e1 hS hA hf hL hF
    obtain ⟨t2, a1, b1⟩ := kk r u t T'.heap (locs ++ L) e1.symm (by rw [← e2]; exact X'.warmed.alike) hp hb k1 k2 k3 T' rfl X'
    exact ⟨t2, st t2 a1, b1⟩
  · obtain ⟨k1, k2, k3⟩ := vx_keep h0 e1 hS hAX hf hL hF
    obtain ⟨t2, a1, b1⟩ := kx E ce q u t T'.heap (locs ++ L) e1.symm (by rw [← e2]; exact X'.warmed.alike) hp hb k1 k2 k3 (by rw [e1]; exact hce) hcv hcl T' rfl X'
    exact ⟨t2, st.trans a1, b1⟩
theorem vx_callf {S SX : Type} {post : UInt32 → S → Prop} {px : SX → Prop} {B : S → State → Prop} {BX : String → SX → State → Prop} {AX : Nat → Prop} (hr : vx_Run p l e R s m args below meth c H locs cells slots mc ms (F0 m pc ls st0) rest (va_Qf post B A1 a) (vx_X px BX AX) free) (hS : va_S A0 H0 H locs) (hA : ∀ q, q < H.size → A1 q → A0 q) (hf : ∀ q, free q → A0 q) (hAX : ∀ q, q < H.size → AX q → A0 q)
    (kx : ∀ (E : String) (ce : Cell) (q9 : Addr) (u : SX) (t : State) (H1 : Heap) (locs1 : List Loc), t.heap = H1 → s.vm.Alike t.vm → px u → BX E u t → H.size ≤ H1.size → (∀ q : Nat, q < H.size → ¬ AX q → H1[q]? = H[q]?) → va_S A0 H0 H1 locs1 → H1[q9]? = some ce → ce.vm = .none → s.vm.findClass E = some ce.cls → vx_W p l e R s m args below meth c H1 locs1 (cells + mc) (slots + ms) Q (F0 m pc ls rest) q9)
    (kk : ∀ (r : UInt32) (u : S) (t : State) (H1 : Heap) (locs1 : List Loc), t.heap = H1 → s.vm.Alike t.vm → post r u → B u t → H.size ≤ H1.size → (∀ q : Nat, q < H.size → ¬ A1 q → H1[q]? = H[q]?) → va_S A0 H0 H1 locs1 → W p l e R s m args below meth c H1 locs1 (cells + mc) (slots + ms) Q (F0 m (pc + 3) ls (.float r :: rest))) : W p l e R s m args below meth c H locs cells slots Q (F0 m pc ls st0) := by
  intro T hT X
  rcases hr T hT X with ⟨v, st₀, t, T', L, h0, X', hL, e1, e2, ⟨⟨r, u, hv, hp, hb⟩, hF⟩, st⟩ | ⟨q, st₀, t, T', L, E, ce, h0, X', hL, e1, e2, ⟨u, hp, hb, hF⟩, hce, hcv, hcl, st⟩
  · cases hv
    obtain ⟨k1, k2, k3⟩ := vx_keep h0 e1 hS hA hf hL hF
    obtain ⟨t2, a1, b1⟩ := kk r u t T'.heap (locs ++ L) e1.symm (by rw [← e2]; exact X'.warmed.alike) hp hb k1 k2 k3 T' rfl X'
    exact ⟨t2, st t2 a1, b1⟩
  · obtain ⟨k1, k2, k3⟩ := vx_keep h0 e1 hS hAX hf hL hF
    obtain ⟨t2, a1, b1⟩ := kx E ce q u t T'.heap (locs ++ L) e1.symm (by rw [← e2]; exact X'.warmed.alike) hp hb k1 k2 k3 (by rw [e1]; exact hce) hcv hcl T' rfl X'
    exact ⟨t2, st.trans a1, b1⟩
theorem vx_calld {S SX : Type} {post : UInt64 → S → Prop} {px : SX → Prop} {B : S → State → Prop} {BX : String → SX → State → Prop} {AX : Nat → Prop} (hr : vx_Run p l e R s m args below meth c H locs cells slots mc ms (F0 m pc ls st0) rest (va_Qd post B A1 a) (vx_X px BX AX) free) (hS : va_S A0 H0 H locs) (hA : ∀ q, q < H.size → A1 q → A0 q) (hf : ∀ q, free q → A0 q) (hAX : ∀ q, q < H.size → AX q → A0 q)
    (kx : ∀ (E : String) (ce : Cell) (q9 : Addr) (u : SX) (t : State) (H1 : Heap) (locs1 : List Loc), t.heap = H1 → s.vm.Alike t.vm → px u → BX E u t → H.size ≤ H1.size → (∀ q : Nat, q < H.size → ¬ AX q → H1[q]? = H[q]?) → va_S A0 H0 H1 locs1 → H1[q9]? = some ce → ce.vm = .none → s.vm.findClass E = some ce.cls → vx_W p l e R s m args below meth c H1 locs1 (cells + mc) (slots + ms) Q (F0 m pc ls rest) q9)
    (kk : ∀ (r : UInt64) (u : S) (t : State) (H1 : Heap) (locs1 : List Loc), t.heap = H1 → s.vm.Alike t.vm → post r u → B u t → H.size ≤ H1.size → (∀ q : Nat, q < H.size → ¬ A1 q → H1[q]? = H[q]?) → va_S A0 H0 H1 locs1 → W p l e R s m args below meth c H1 locs1 (cells + mc) (slots + ms) Q (F0 m (pc + 3) ls (.double r :: rest))) : W p l e R s m args below meth c H locs cells slots Q (F0 m pc ls st0) := by
  intro T hT X
  rcases hr T hT X with ⟨v, st₀, t, T', L, h0, X', hL, e1, e2, ⟨⟨r, u, hv, hp, hb⟩, hF⟩, st⟩ | ⟨q, st₀, t, T', L, E, ce, h0, X', hL, e1, e2, ⟨u, hp, hb, hF⟩, hce, hcv, hcl, st⟩
  · cases hv
    obtain ⟨k1, k2, k3⟩ := vx_keep h0 e1 hS hA hf hL hF
    obtain ⟨t2, a1, b1⟩ := kk r u t T'.heap (locs ++ L) e1.symm (by rw [← e2]; exact X'.warmed.alike) hp hb k1 k2 k3 T' rfl X'
    exact ⟨t2, st t2 a1, b1⟩
  · obtain ⟨k1, k2, k3⟩ := vx_keep h0 e1 hS hAX hf hL hF
    obtain ⟨t2, a1, b1⟩ := kx E ce q u t T'.heap (locs ++ L) e1.symm (by rw [← e2]; exact X'.warmed.alike) hp hb k1 k2 k3 (by rw [e1]; exact hce) hcv hcl T' rfl X'
    exact ⟨t2, st.trans a1, b1⟩
theorem vx_callv {S SX : Type} {post : S → Prop} {px : SX → Prop} {B : S → State → Prop} {BX : String → SX → State → Prop} {AX : Nat → Prop} (hr : vx_Run p l e R s m args below meth c H locs cells slots mc ms (F0 m pc ls st0) rest (va_Qv post B A1 a) (vx_X px BX AX) free) (hS : va_S A0 H0 H locs) (hA : ∀ q, q < H.size → A1 q → A0 q) (hf : ∀ q, free q → A0 q) (hAX : ∀ q, q < H.size → AX q → A0 q)
    (kx : ∀ (E : String) (ce : Cell) (q9 : Addr) (u : SX) (t : State) (H1 : Heap) (locs1 : List Loc), t.heap = H1 → s.vm.Alike t.vm → px u → BX E u t → H.size ≤ H1.size → (∀ q : Nat, q < H.size → ¬ AX q → H1[q]? = H[q]?) → va_S A0 H0 H1 locs1 → H1[q9]? = some ce → ce.vm = .none → s.vm.findClass E = some ce.cls → vx_W p l e R s m args below meth c H1 locs1 (cells + mc) (slots + ms) Q (F0 m pc ls rest) q9)
    (kk : ∀ (u : S) (t : State) (H1 : Heap) (locs1 : List Loc), t.heap = H1 → s.vm.Alike t.vm → post u → B u t → H.size ≤ H1.size → (∀ q : Nat, q < H.size → ¬ A1 q → H1[q]? = H[q]?) → va_S A0 H0 H1 locs1 → W p l e R s m args below meth c H1 locs1 (cells + mc) (slots + ms) Q (F0 m (pc + 3) ls (rest))) : W p l e R s m args below meth c H locs cells slots Q (F0 m pc ls st0) := by
  intro T hT X
  rcases hr T hT X with ⟨v, st₀, t, T', L, h0, X', hL, e1, e2, ⟨⟨u, hv, hp, hb⟩, hF⟩, st⟩ | ⟨q, st₀, t, T', L, E, ce, h0, X', hL, e1, e2, ⟨u, hp, hb, hF⟩, hce, hcv, hcl, st⟩
  · cases hv
    obtain ⟨k1, k2, k3⟩ := vx_keep h0 e1 hS hA hf hL hF
    obtain ⟨t2, a1, b1⟩ := kk u t T'.heap (locs ++ L) e1.symm (by rw [← e2]; exact X'.warmed.alike) hp hb k1 k2 k3 T' rfl X'
    exact ⟨t2, st t2 a1, b1⟩
  · obtain ⟨k1, k2, k3⟩ := vx_keep h0 e1 hS hAX hf hL hF
    obtain ⟨t2, a1, b1⟩ := kx E ce q u t T'.heap (locs ++ L) e1.symm (by rw [← e2]; exact X'.warmed.alike) hp hb k1 k2 k3 (by rw [e1]; exact hce) hcv hcl T' rfl X'
    exact ⟨t2, st.trans a1, b1⟩
/-- caught by the row x of this method's table; the rows ahead don't take it -/
theorem vx_catch {own name : String} {E : String} {ce : Cell} {q : Addr} (hown : s.vm.findClass own = some m.cls) (pre : List ExceptionTableEntry) (x : ExceptionTableEntry) (suf : List ExceptionTableEntry) (hsplit : c.exceptionTable.toList = pre ++ x :: suf)
    (hpass : ∀ z ∈ pre, covers z pc = false ∨ (z.catchType ≠ 0 ∧ ∃ nm : String, (Cond.classLink own z.catchType nm).before args s = true ∧ va_Nc E nm s)) (hx : covers x pc = true) (h0 : x.catchType ≠ 0)
    (hlink : (Cond.classLink own x.catchType name).before args s = true) (hcast : (Cond.castable E name).before args s = true) (hcell : H[q]? = some ce) (hv : ce.vm = .none) (hcl : s.vm.findClass E = some ce.cls)
    (kk : W p l e R s m args below meth c H locs cells slots Q (F0 m x.handlerPc ls [.ref q])) : vx_W p l e R s m args below meth c H locs cells slots Q (F0 m pc ls rest) q := by
  intro T hT X
  have hpl : e.platform.magicAccessors = ({} : Platform).magicAccessors := by rw [X.admits.platform]
  obtain ⟨c3, c4, hc3, hc4, hasg⟩ := Cond.castable_spec hcast
  cases Option.some.inj (hc3.symm.trans hcl)
  obtain ⟨c5, hc5, hcl5⟩ := Cond.classLink_spec hown hlink e.platform hpl
  cases Option.some.inj (hc4.symm.trans hc5)
  obtain ⟨vm', X', st⟩ := X.thenCaughtThrough q (g := F0 m pc ls rest) rfl (Steps.refl _) (by rw [hT]; exact hcell) (by rw [hv]; rfl) (by obtain ⟨k9, h9, -⟩ := Vm.findClass_spec hcl; exact ⟨k9, h9⟩) pre x suf hsplit
    (fun z hz => by
      rcases hpass z hz with h | ⟨hz0, nm, hl1, hn1⟩
      · exact Or.inl h
      · obtain ⟨c6, hc6, hcl6⟩ := Cond.classLink_spec hown hl1 e.platform hpl
        obtain ⟨a8, b8, h1, h2, h3⟩ := hn1
        cases Option.some.inj (h1.symm.trans hcl)
        cases Option.some.inj (h2.symm.trans hc6)
        exact Or.inr ⟨hz0, _, hcl6, h3⟩) hx (Or.inr ⟨h0, c4, hcl5, hasg⟩)
  obtain ⟨t, a1, b1⟩ := kk (T.setVm vm') hT X'
  exact ⟨t, st.trans a1, b1⟩
end Rows
section Ends
variable {p : Program} {l : Launch} {e : Env} {R : Room} {s : State} {m : MethodId} {args : Array Value} {below : List Frame} {meth : Method} {c : Code} {H : Heap} {locs : List Loc} {cells slots : Nat} {Q : State → Prop}
variable {mc ms : Nat} {free : Addr → Prop} {A0 A1 : Nat → Prop} {H0 : Heap} {a : Array Value} {ls : Array Slot} {st0 rest : List Value}
variable {Qc : Array Value → State → Outcome → State → Prop} {XC : String → State → State → Prop}
/-- what a body that may throw owes at its end -/
def vx_MQ (below : List Frame) (Qc : Array Value → State → Outcome → State → Prop) (XC : String → State → State → Prop) (a : Array Value) (s : State) (mc ms : Nat) (free : Addr → Prop) : State → Prop := fun t =>
  ∃ o, t.status = .running ∧ Ended t below o ∧ vx_Q Qc XC mc ms free a s o t
theorem vx_ret {g : JFrame} {mc ms : Nat} (k : W p l e R s m args below meth c H locs cells slots (MQ below Qc args s mc ms free) g) : W p l e R s m args below meth c H locs cells slots (vx_MQ below Qc XC args s mc ms free) g := by
  intro T hT X
  obtain ⟨t, a1, o, b1, b2, b3, b4⟩ := k T hT X
  exact ⟨t, a1, o, b1, b2, Or.inl ⟨b3, b4⟩⟩
/-- not caught here: it goes on to the caller -/
theorem vx_widen {g : JFrame} {q : Addr} {k n : Nat} (h1 : cells ≤ k) (h2 : slots ≤ n) (kk : vx_W p l e R s m args below meth c H locs k n Q g q) : vx_W p l e R s m args below meth c H locs cells slots Q g q := fun T hT X => kk T hT (stand_widen X h1 h2)
theorem vx_out {pc : Nat} {E : String} {ce : Cell} {q : Addr} {mc ms : Nat} (hout : ∀ x ∈ c.exceptionTable.toList, covers x pc = false) (hlocks : meth.locks = false) (hcell : H[q]? = some ce) (hv : ce.vm = .none) (hcl : s.vm.findClass E = some ce.cls)
    (hx : ∀ t : State, t.heap = H → s.vm.Alike t.vm → XC E s t) (hf : ∀ z ∈ locs, free z.base) (hc : cells ≤ mc) (hs : slots ≤ ms) :
    vx_W p l e R s m args below meth c H locs cells slots (vx_MQ below Qc XC args s mc ms free) (F0 m pc ls rest) q := by
  intro T hT X
  obtain ⟨st1, hrun, hend, hW, hsm⟩ := X.leaveThrown q (g := F0 m pc ls rest) rfl rfl rfl hout hlocks
  have hcell9 : (T.setFrames (.throwing q :: below)).heap[q]? = some ce := by
    show T.heap[q]? = some ce
    rw [hT]; exact hcell
  exact ⟨_, st1, .threw q, hrun, hend, Or.inr ⟨q, rfl, E, ce, locs, hx _ hT hW.alike, hcell9, hv, hcl, hW, hsm.mono hc hs, hf⟩⟩
theorem vx_frame {U : State} {k n : Nat} (h : s.sameButNew ({ U with vm := s.vm } : State) locs k n) : s.heap.size ≤ U.heap.size ∧ ∀ q : Nat, q < s.heap.size → (∀ z ∈ locs, z.base ≠ q) → U.heap[q]? = s.heap[q]? := by
  obtain ⟨-, h2, -, -, -, h6⟩ := h
  refine ⟨h2, fun q hq hz => ?_⟩
  obtain ⟨c9, e1, e2, e3, e4⟩ := h6 q _ (Array.getElem?_eq_getElem hq)
  have hs : c9.slots = (s.heap[q]).slots := Array.ext_getElem? fun i => e4 i fun hm => hz _ hm rfl
  have h9 : c9 = s.heap[q] := by
    rw [hs] at e2
    exact e2
  have e5 : U.heap[q]? = some c9 := e1
  rw [e5, h9, Array.getElem?_eq_getElem hq]
/-- the words of a throw but the four that speak of the heap -/
def vx_no (w : Cond) : Bool := decide (w ≠ .isRef (.static Bundle.tN "UNASSIGNED_STACK" Bundle.steD)) && decide (w ≠ .isRef (.static Bundle.tN "SUPPRESSED_SENTINEL" Bundle.listD)) && decide (w ≠ .laysStatic Bundle.tN "UNASSIGNED_STACK" Bundle.steD) && decide (w ≠ .laysStatic Bundle.tN "SUPPRESSED_SENTINEL" Bundle.listD)
def vx_at0 (own : String) (ic : Nat) (X : String) (names : List String) : List Cond := (Bundle.ownAtoms0 own ic X names).filter vx_no
def vx_atS (own : String) (ic : Nat) (X : String) (names : List String) : List Cond := (Bundle.ownAtoms own ic X names).filter vx_no
/-- a word that the tables alone decide, or a good one -/
def vx_ot (w : Cond) : Bool := w.onTables || goodWord w
theorem vx_ot_at {args a' : Array Value} {s U : State} {w : Cond} (hW : s.WarmedH U.vm) (hvm : s.vm = U.vm) (hg : vx_ot w = true) (h : w.before args s = true) : w.before a' U = true := by
  simp only [vx_ot, Bool.or_eq_true] at hg
  rcases hg with hg | hg
  · exact va_tabs hg hvm h
  · exact word_at hW (good_of_word hg) h
/-- a list's words: the good ones out of the method's own list, the others by premises of their own -/
theorem vx_hat {args : Array Value} {s : State} {L B : List Cond} (h1 : ∀ w ∈ L.filter goodWord, w.before args s = true) (h2 : ∀ w ∈ L.filter (fun w => !goodWord w), w ∈ B) (h3 : ∀ w ∈ B, w.before args s = true) : ∀ w ∈ L, w.before args s = true := by
  intro w hw
  by_cases g : goodWord w = true
  · exact h1 w (List.mem_filter.mpr ⟨hw, g⟩)
  · refine h3 w (h2 w (List.mem_filter.mpr ⟨hw, ?_⟩))
    show (!goodWord w) = true
    cases hgw : goodWord w
    · rfl
    · exact absurd hgw g
theorem vx_c {args : Array Value} {s : State} {w : Cond} {B : List Cond} (h : w.before args s = true) (t : ∀ w ∈ B, w.before args s = true) : ∀ w' ∈ w :: B, w'.before args s = true := fun w' h' => (List.mem_cons.mp h').elim (fun e => by rw [e]; exact h) (t w')
theorem vx_n {args : Array Value} {s : State} : ∀ w ∈ ([] : List Cond), w.before args s = true := fun _ h => nomatch h
theorem vx_own {args : Array Value} {s : State} {L : List Cond} (h1 : ∀ w ∈ L.filter vx_no, w.before args s = true)
    (hU : (Cond.isRef (.static Bundle.tN "UNASSIGNED_STACK" Bundle.steD)).before args s = true) (hN : (Cond.isRef (.static Bundle.tN "SUPPRESSED_SENTINEL" Bundle.listD)).before args s = true)
    (lU : (Cond.laysStatic Bundle.tN "UNASSIGNED_STACK" Bundle.steD).before args s = true) (lN : (Cond.laysStatic Bundle.tN "SUPPRESSED_SENTINEL" Bundle.listD).before args s = true) : ∀ w ∈ L, w.before args s = true := by
  intro w hw
  by_cases e1 : w = .isRef (.static Bundle.tN "UNASSIGNED_STACK" Bundle.steD)
  · rw [e1]; exact hU
  · by_cases e2 : w = .isRef (.static Bundle.tN "SUPPRESSED_SENTINEL" Bundle.listD)
    · rw [e2]; exact hN
    · by_cases e3 : w = .laysStatic Bundle.tN "UNASSIGNED_STACK" Bundle.steD
      · rw [e3]; exact lU
      · by_cases e4 : w = .laysStatic Bundle.tN "SUPPRESSED_SENTINEL" Bundle.listD
        · rw [e4]; exact lN
        · exact h1 w (List.mem_filter.mpr ⟨hw, by unfold vx_no; rw [decide_eq_true e1, decide_eq_true e2, decide_eq_true e3, decide_eq_true e4]; rfl⟩)
/-- where a static field lies, its class's statics cell in H -/
def vx_L (C n d : String) (A : Nat → Prop) (U : State) (H : Heap) : Prop := ∃ (c : ClassId) (k : Class) (i : Nat) (f : Field) (a : Nat) (cell : Cell), U.vm.findClass C = some c ∧ U.fieldFound? C n d = some (c, k, i, f) ∧ f.isStatic = true ∧ k.statics = some a ∧ H[a]? = some cell ∧ cell.vm.isStatics = true ∧ cell.cls = c ∧ f.slot < cell.slots.size ∧ k.staticTypes[f.slot]? = some f.type ∧ ¬ A a
theorem vx_L.moved {C n d : String} {A : Nat → Prop} {u U : State} {H : Heap} (hvm : u.vm.Alike U.vm) (h : vx_L C n d A u H) : vx_L C n d A U H := by
  obtain ⟨c, k, i, f, a, cell, h1, h2, h3, h4, h5, h6, h7, h8, h9, h10⟩ := h
  obtain ⟨k', hi', he⟩ := State.fieldFound?_setVm hvm h2
  exact ⟨c, k', i, f, a, cell, by rw [hvm.findClass]; exact h1, hi', h3, by rw [he]; exact h4, h5, h6, h7, h8, by rw [he]; exact h9, h10⟩
theorem vx_L.kept {C n d : String} {A : Nat → Prop} {U : State} {H H1 : Heap} (h : vx_L C n d A U H) (hq : ∀ a : Nat, a < H.size → ¬ A a → H1[a]? = H[a]?) : vx_L C n d A U H1 := by
  obtain ⟨c, k, i, f, a, cell, h1, h2, h3, h4, h5, h6, h7, h8, h9, h10⟩ := h
  exact ⟨c, k, i, f, a, cell, h1, h2, h3, h4, by rw [hq a (Array.getElem?_eq_some_iff.mp h5).1 h10]; exact h5, h6, h7, h8, h9, h10⟩
theorem vx_L.narrow {C n d : String} {A B : Nat → Prop} {U : State} {H : Heap} (h : vx_L C n d A U H) (hAB : ∀ q, B q → A q) : vx_L C n d B U H := by
  obtain ⟨c, k, i, f, a, cell, h1, h2, h3, h4, h5, h6, h7, h8, h9, h10⟩ := h
  exact ⟨c, k, i, f, a, cell, h1, h2, h3, h4, h5, h6, h7, h8, h9, fun z => h10 (hAB _ z)⟩
theorem vx_L.word {C n d : String} {A : Nat → Prop} {s : State} {args : Array Value} (h : vx_L C n d A s s.heap) : (Cond.laysStatic C n d).before args s = true := by
  obtain ⟨c, k, i, f, a, cell, h1, h2, h3, h4, h5, h6, h7, h8, h9, -⟩ := h
  show (Cond.laysStatic C n d).holds args s none s [] = true
  exact Cond.laysStatic_of h1 h2 h3 h4 h5 h6 h7 h8 h9
/-- .. and what it holds: null or some reference -/
def vx_Zq (C n d : String) (A : Nat → Prop) (U : State) (H : Heap) : Prop := va_Zq C n d A U H ∧ vx_L C n d A U H
theorem vx_Zq.moved {C n d : String} {A : Nat → Prop} {u U : State} {H : Heap} (hvm : u.vm.Alike U.vm) (h : vx_Zq C n d A u H) : vx_Zq C n d A U H := ⟨va_Zq.moved hvm h.1, vx_L.moved hvm h.2⟩
theorem vx_Zq.kept {C n d : String} {A : Nat → Prop} {U : State} {H H1 : Heap} (h : vx_Zq C n d A U H) (hq : ∀ a : Nat, a < H.size → ¬ A a → H1[a]? = H[a]?) : vx_Zq C n d A U H1 := ⟨va_Zq.kept h.1 hq, vx_L.kept h.2 hq⟩
theorem vx_Zq.narrow {C n d : String} {A B : Nat → Prop} {U : State} {H : Heap} (h : vx_Zq C n d A U H) (hAB : ∀ q, B q → A q) : vx_Zq C n d B U H := ⟨va_Zq.narrow h.1 hAB, vx_L.narrow h.2 hAB⟩
theorem vx_Zqof {args : Array Value} {s : State} {C n d : String} {A : Nat → Prop} (hl : (Cond.laysStatic C n d).before args s = true) (hini : (Cond.initialized C).before args s = true) (h : (Cond.isRef (.static C n d)).before args s = true) (hA : ∀ a : Nat, a < s.heap.size → ¬ A a) : vx_Zq C n d A s s.heap := by
  refine ⟨va_Zqof hl hini h hA, ?_⟩
  obtain ⟨c, k, i, f, a, cell, h1, h2, h3, h4, h5, h6, h7, h8, h9⟩ := Cond.laysStatic_spec hl
  exact ⟨c, k, i, f, a, cell, h1, h2, h3, h4, h5, h6, h7, h8, h9, hA a (Array.getElem?_eq_some_iff.mp h5).1⟩
theorem vx_isRef {C n d : String} {v : Value} {A : Nat → Prop} {s : State} {args : Array Value} (h : va_Z C n d v A s s.heap) (hv : v.isRef = true) : (Cond.isRef (.static C n d)).before args s = true := by
  obtain ⟨cf, kf, fi, f, a, cell, h1, h2, h3, h4, h5, h6, h7, -⟩ := h
  have he : (Term.static C n d).eval args s none [] s = some v := by
    simp [Term.eval, State.fieldNamed?, h1, h2, h4, h5, h6, h7]
  simp only [Cond.before, Cond.holds, Cond.value, he]
  cases v <;> simp_all [Value.isRef]
theorem vx_isRefq {C n d : String} {A : Nat → Prop} {s : State} {args : Array Value} (h : va_Zq C n d A s s.heap) : (Cond.isRef (.static C n d)).before args s = true := by
  rcases h with h | ⟨t, h⟩
  · exact vx_isRef h rfl
  · exact vx_isRef h rfl
/-- the same frame, seen from here: as if the method were called anew in this heap -/
theorem vx_rebase {T : State} (X : Stand p l e R s m args below meth c T locs cells slots) {R' : Room} (hf : R'.frames ≤ R.frames) (hl : R'.locals ≤ R.locals) (hc : cells + R'.cells ≤ R.cells) (hs : slots + R'.slots ≤ R.slots) :
    Stand p l e R' ((T.setVm s.vm).setFrames (.invoking m args :: below)) m args below meth c T [] 0 0 := by
  have htop : (T.setVm s.vm).topJava?.isSome := X.here.top
  have hF : ((T.setVm s.vm).setFrames (.invoking m args :: below)).frames = .invoking m args :: below := State.frames_setFrames _ (State.cur_lt_of_top htop)
  obtain ⟨g₀, hg0⟩ := Option.isSome_iff_exists.mp htop
  obtain ⟨r, hr⟩ := State.topJava?_eq_some.mp hg0
  have hl9 : e.platform.stackLimits (T.setVm s.vm).me = e.platform.stackLimits s.me := X.limits
  have hb9 : (T.setVm s.vm).me.stackBytes = s.me.stackBytes := X.bytes
  refine ⟨X.admits, X.cas, X.clock, hF, ?_, X.hears, X.method, X.code, X.here, X.tail, X.warmed, ?_, ?_, ?_⟩
  · have h := X.room
    have hU : ((T.setVm s.vm).setFrames (.invoking m args :: below)).localsInUse = s.localsInUse := by
      rw [State.localsInUse_invoking hF (meth := meth) (c := c) X.method X.code, State.localsInUse_invoking X.frames X.method X.code]
    simp only [State.hasRoom, Bool.and_eq_true, decide_eq_true_eq] at h ⊢
    obtain ⟨⟨⟨⟨h1, h2, h3, h4, h5, h6⟩, h7⟩, h8⟩, h9⟩ := h
    rw [X.frames, List.length_cons] at h2 h3
    have q1 := X.heapSize
    have q2 := X.used
    simp only [hF, hU, List.length_cons, State.stackLimits_setFrames, State.stackBytes_setFrames, hl9, hb9]
    refine ⟨⟨⟨⟨by omega, by omega, by omega, by omega, by omega, h6⟩, ?_⟩, ?_⟩, X.book⟩
    · show T.heap.size + R'.cells ≤ e.platform.maxCells
      omega
    · show T.slotsUsed + R'.slots ≤ e.platform.maxSlots
      omega
  · rw [State.stackLimits_setFrames]; rfl
  · rw [State.stackBytes_setFrames]; rfl
  · refine ⟨?_, Nat.le_refl _, Nat.le_refl _, ?_, ?_, fun a c9 h9 => ⟨c9, h9, rfl, rfl, fun _ _ => rfl⟩⟩
    · obtain ⟨t, ht, -⟩ := State.frames_cons hr
      show T.setVm s.vm = { ((T.setVm s.vm).setFrames (.invoking m args :: below)).setFrames (T.setVm s.vm).frames with heap := T.heap, slotsUsed := T.slotsUsed }
      rw [State.setFrames_setFrames, State.setFrames_self ht]
      rfl
    · show T.slotsUsed = T.slotsUsed + ((T.heap.toList.drop T.heap.size).map (·.slots.size)).sum
      rw [List.drop_eq_nil_of_le (Nat.le_of_eq Array.length_toList)]
      rfl
    · show ((T.heap.toList.drop T.heap.size).map (·.slots.size)).sum ≤ 0
      rw [List.drop_eq_nil_of_le (Nat.le_of_eq Array.length_toList)]
      exact Nat.le_refl _
/-- 'throw new E()': new; dup; invokespecial; athrow -/
theorem vx_throw0 {cc : ByteArray} {pc : Nat} (hexec : p.tables.exec = Jvm.exec) (hb : c.code = cc) (hl : l.stackTraces = false) {own cls : String} {names : List String} {ik ic mc ms : Nat} {A : Nat → Prop}
    (hown : s.vm.findClass own = some m.cls) (hcls : Bundle.fit cls = true) (hnames : ∀ n ∈ names, Bundle.fit n = true)
    (hk : (Cond.classLink own ik cls).before args s = true) (hini : (Cond.initialized cls).before args s = true) (hat : ∀ w ∈ vx_at0 own ic cls names, w.before args s = true)
    (hgood : ∀ w ∈ Cond.classLink own ik cls :: Cond.initialized cls :: vx_at0 own ic cls names, vx_ot w = true)
    (hU : vx_Zq Bundle.tN "UNASSIGNED_STACK" Bundle.steD A s s.heap) (hN : vx_Zq Bundle.tN "SUPPRESSED_SENTINEL" Bundle.listD A s s.heap) (hS : va_S A s.heap H locs) (hsize : ls.size = c.maxLocals)
    (d0 : decode cc pc = .ok (.new ik, 3)) (d3 : decode cc (pc + 3) = .ok (.dup, 1)) (d4 : decode cc (pc + 4) = .ok (.invokespecial ic, 3)) (d7 : decode cc (pc + 7) = .ok (.athrow, 1))
    (hout : ∀ x ∈ c.exceptionTable.toList, covers x (pc + 7) = false)
    (hRframes : names.length + 3 < R.frames) (hRlocals : (rest.map fun v => v.category).sum + (13 * (names.length + 1) + 42) ≤ R.locals) (hRcells : cells + 1 ≤ R.cells) (hRslots : slots + 6 ≤ R.slots) (hlocks : meth.locks = false)
    (hx : ∀ t : State, s.vm.Alike t.vm → H.size ≤ t.heap.size → (∀ q : Nat, q < H.size → t.heap[q]? = H[q]?) → XC cls s t)
    (hf : ∀ z ∈ locs, free z.base) (hc : cells + 1 ≤ mc) (hs : slots + 6 ≤ ms) :
    W p l e R s m args below meth c H locs cells slots (vx_MQ below Qc XC args s mc ms free) (F0 m pc ls rest) := by
  intro T hT X
  have htr : e.platform.stackTraces = false := (show e.platform.stackTraces = l.stackTraces by rw [X.admits.platform]).trans hl
  have Y := vx_rebase X (R' := { frames := R.frames, locals := R.locals, cells := 1, slots := 6 }) (Nat.le_refl _) (Nat.le_refl _) hRcells hRslots
  obtain ⟨s', hA⟩ : ∃ z, z = (T.setVm s.vm).setFrames (.invoking m args :: below) := ⟨_, rfl⟩
  rw [← hA] at Y
  have hvm : s'.vm = s.vm := by rw [hA]; rfl
  have hhp : s'.heap = H := by rw [hA]; exact hT
  have hW0 : s.WarmedH s'.vm := by rw [hvm]; exact State.WarmedH.refl s
  have hat' : ∀ w ∈ vx_at0 own ic cls names, w.before args s' = true := fun w hw => vx_ot_at hW0 hvm.symm (hgood w (List.mem_cons_of_mem _ (List.mem_cons_of_mem _ hw))) (hat w hw)
  have hk' : (Cond.classLink own ik cls).before args s' = true := vx_ot_at hW0 hvm.symm (hgood _ List.mem_cons_self) hk
  have hini' : (Cond.initialized cls).before args s' = true := vx_ot_at hW0 hvm.symm (hgood _ (List.mem_cons_of_mem _ List.mem_cons_self)) hini
  have hU' : vx_Zq Bundle.tN "UNASSIGNED_STACK" Bundle.steD A s' s'.heap := by rw [hhp]; exact vx_Zq.moved hW0.alike (hU.kept hS.2.1)
  have hN' : vx_Zq Bundle.tN "SUPPRESSED_SENTINEL" Bundle.listD A s' s'.heap := by rw [hhp]; exact vx_Zq.moved hW0.alike (hN.kept hS.2.1)
  have h : ∀ w ∈ Bundle.ownAtoms0 own ic cls names, w.before args s' = true := vx_own hat' (vx_isRefq hU'.1) (vx_isRefq hN'.1) hU'.2.word hN'.2.word
  have hown' : s'.vm.findClass own = some m.cls := by rw [hvm]; exact hown
  have hins : (Cond.instantiable cls 6).before args s' = true := h _ (by simp [Bundle.ownAtoms0])
  obtain ⟨vm₁, cX, kX, hfX, hkX, -, -, X₁, st1⟩ := Y.newCold hexec (own := own) (C := cls) (index := ik) (n := 6) hown' hk' hins hini'
    (g := F0 m pc ls rest) rfl (by rw [hb]; exact d0) (Nat.le_refl _) (Nat.le_refl _)
  generalize hT1 : (T.setVm vm₁).pushCell { cls := cX, slots := kX.instanceTypes.map defaultValue, vm := .none } = T1 at X₁ st1
  have hcat : (Value.ref T.heap.size).category = 1 := rfl
  have hcellA : T1.heap[T.heap.size]? = some (freshCell cX kX) := by rw [← hT1]; exact State.heap_pushCell_size _ _
  have d3' : decode c.code (pc + 3) = .ok (.dup, 1) := by rw [hb]; exact d3
  obtain ⟨U, hsteps, hrun, hend, hW, hsame, ce, hce, hO⟩ := X₁.ctorThrow0 hexec htr (own := own) (cls := cls) (names := names) (ic := ic) hown' hcls hnames h (fun x hx => nomatch hx) hfX hkX hcellA (by rw [hhp, hT]; exact Nat.le_refl _)
    (g := { method := m, pc := pc + 4, locals := ls, stack := .ref T.heap.size :: .ref T.heap.size :: rest, locked := none }) rfl hsize rfl rfl (rest := rest) rfl
    (by rw [hb]; exact d4) (by rw [hb]; exact d7) hout hRframes (by simp only [List.map_cons, List.sum_cons, hcat]; omega) hlocks
  obtain ⟨f1, f2⟩ := vx_frame hsame
  rw [hhp] at f1 f2
  have hWs : s.WarmedH U.vm := State.WarmedH.trans hW0 hW
  have hcl : s.vm.findClass cls = some ce.cls := by
    have h9 := hO.cls
    rw [hvm] at h9
    exact h9
  have hall : s.sameButNew ({ U with vm := s.vm } : State) locs mc ms := by
    subst hA
    obtain ⟨e1, e2⟩ := hsame
    rw [State.setFrames_setFrames] at e1
    have h2 : (T.setVm s.vm).sameButNew ({ U with vm := s.vm } : State) [] (0 + 1) (0 + 6) := ⟨e1, e2⟩
    have h3 := X.same.trans h2
    rw [List.append_nil] at h3
    exact h3.mono hc hs
  refine ⟨U, ?_, .threw T.heap.size, hrun, hend, Or.inr ⟨T.heap.size, rfl, cls, ce, locs, hx U hWs.alike f1 (fun q hq => f2 q hq (fun z hz => nomatch hz)), hce, hO.vm, hcl, hWs, hall, hf⟩⟩
  refine st1 _ ?_
  show Steps p.tables e below (T1.setTop { method := m, pc := pc + 3, locals := ls, stack := .ref T.heap.size :: rest, locked := none }) _
  jvm_step X₁.here [X₁.here.top, hexec, d3', Value.category]
  exact hsteps
/-- 'throw new E("text")': new; dup; ldc; invokespecial; athrow -/
theorem vx_throwS {cc : ByteArray} {pc : Nat} (hexec : p.tables.exec = Jvm.exec) (hb : c.code = cc) (hl : l.stackTraces = false) {own cls text : String} {names : List String} {ik is ic mc ms sa : Nat} {A : Nat → Prop}
    (hown : s.vm.findClass own = some m.cls) (hcls : Bundle.fit cls = true) (hnames : ∀ n ∈ names, Bundle.fit n = true)
    (hk : (Cond.classLink own ik cls).before args s = true) (hini : (Cond.initialized cls).before args s = true) (hstr : vk_R own is text sa s) (hat : ∀ w ∈ vx_atS own ic cls names, w.before args s = true)
    (hgood : ∀ w ∈ Cond.classLink own ik cls :: Cond.initialized cls :: vx_atS own ic cls names, vx_ot w = true)
    (hU : vx_Zq Bundle.tN "UNASSIGNED_STACK" Bundle.steD A s s.heap) (hN : vx_Zq Bundle.tN "SUPPRESSED_SENTINEL" Bundle.listD A s s.heap) (hS : va_S A s.heap H locs) (hsize : ls.size = c.maxLocals)
    (d0 : decode cc pc = .ok (.new ik, 3)) (d3 : decode cc (pc + 3) = .ok (.dup, 1)) (d4 : decode cc (pc + 4) = .ok (.ldc is, 2)) (d6 : decode cc (pc + 6) = .ok (.invokespecial ic, 3)) (d9 : decode cc (pc + 9) = .ok (.athrow, 1))
    (hout : ∀ x ∈ c.exceptionTable.toList, covers x (pc + 9) = false)
    (hRframes : names.length + 3 < R.frames) (hRlocals : (rest.map fun v => v.category).sum + (13 * (names.length + 1) + 43) ≤ R.locals) (hRcells : cells + 1 ≤ R.cells) (hRslots : slots + 6 ≤ R.slots) (hlocks : meth.locks = false)
    (hx : ∀ t : State, s.vm.Alike t.vm → H.size ≤ t.heap.size → (∀ q : Nat, q < H.size → t.heap[q]? = H[q]?) → XC cls s t)
    (hf : ∀ z ∈ locs, free z.base) (hc : cells + 1 ≤ mc) (hs : slots + 6 ≤ ms) :
    W p l e R s m args below meth c H locs cells slots (vx_MQ below Qc XC args s mc ms free) (F0 m pc ls rest) := by
  intro T hT X
  have htr : e.platform.stackTraces = false := (show e.platform.stackTraces = l.stackTraces by rw [X.admits.platform]).trans hl
  have Y := vx_rebase X (R' := { frames := R.frames, locals := R.locals, cells := 1, slots := 6 }) (Nat.le_refl _) (Nat.le_refl _) hRcells hRslots
  obtain ⟨s', hA⟩ : ∃ z, z = (T.setVm s.vm).setFrames (.invoking m args :: below) := ⟨_, rfl⟩
  rw [← hA] at Y
  have hvm : s'.vm = s.vm := by rw [hA]; rfl
  have hhp : s'.heap = H := by rw [hA]; exact hT
  have hW0 : s.WarmedH s'.vm := by rw [hvm]; exact State.WarmedH.refl s
  have hat' : ∀ w ∈ vx_atS own ic cls names, w.before args s' = true := fun w hw => vx_ot_at hW0 hvm.symm (hgood w (List.mem_cons_of_mem _ (List.mem_cons_of_mem _ hw))) (hat w hw)
  have hk' : (Cond.classLink own ik cls).before args s' = true := vx_ot_at hW0 hvm.symm (hgood _ List.mem_cons_self) hk
  have hini' : (Cond.initialized cls).before args s' = true := vx_ot_at hW0 hvm.symm (hgood _ (List.mem_cons_of_mem _ List.mem_cons_self)) hini
  have hU' : vx_Zq Bundle.tN "UNASSIGNED_STACK" Bundle.steD A s' s'.heap := by rw [hhp]; exact vx_Zq.moved hW0.alike (hU.kept hS.2.1)
  have hN' : vx_Zq Bundle.tN "SUPPRESSED_SENTINEL" Bundle.listD A s' s'.heap := by rw [hhp]; exact vx_Zq.moved hW0.alike (hN.kept hS.2.1)
  have h : ∀ w ∈ Bundle.ownAtoms own ic cls names, w.before args s' = true := vx_own hat' (vx_isRefq hU'.1) (vx_isRefq hN'.1) hU'.2.word hN'.2.word
  have hown' : s'.vm.findClass own = some m.cls := by rw [hvm]; exact hown
  have hins : (Cond.instantiable cls 6).before args s' = true := h _ (by simp [Bundle.ownAtoms])
  obtain ⟨vm₁, cX, kX, hfX, hkX, -, -, X₁, st1⟩ := Y.newCold hexec (own := own) (C := cls) (index := ik) (n := 6) hown' hk' hins hini'
    (g := F0 m pc ls rest) rfl (by rw [hb]; exact d0) (Nat.le_refl _) (Nat.le_refl _)
  generalize hT1 : (T.setVm vm₁).pushCell { cls := cX, slots := kX.instanceTypes.map defaultValue, vm := .none } = T1 at X₁ st1
  have hcat : (Value.ref T.heap.size).category = 1 := rfl
  have hcellA : T1.heap[T.heap.size]? = some (freshCell cX kX) := by rw [← hT1]; exact State.heap_pushCell_size _ _
  have d3' : decode c.code (pc + 3) = .ok (.dup, 1) := by rw [hb]; exact d3
  have d4' : decode c.code (pc + 4) = .ok (.ldc is, 2) := by rw [hb]; exact d4
  have hstr' : vk_R own is text sa s' := vk_R.warm hW0 hstr
  obtain ⟨U, hsteps, hrun, hend, hW, hsame, ce, hce, hO⟩ := X₁.ctorThrowS hexec htr (own := own) (cls := cls) (names := names) (ic := ic) hown' hcls hnames h (fun x hx => nomatch hx) hfX hkX hcellA (by rw [hhp, hT]; exact Nat.le_refl _) (msg := .ref sa) rfl
    (g := { method := m, pc := pc + 6, locals := ls, stack := .ref sa :: .ref T.heap.size :: .ref T.heap.size :: rest, locked := none }) rfl hsize rfl rfl (rest := rest) rfl
    (by rw [hb]; exact d6) (by rw [hb]; exact d9) hout hRframes (by simp only [List.map_cons, List.sum_cons, hcat]; omega) hlocks
  obtain ⟨f1, f2⟩ := vx_frame hsame
  rw [hhp] at f1 f2
  have hWs : s.WarmedH U.vm := State.WarmedH.trans hW0 hW
  have hcl : s.vm.findClass cls = some ce.cls := by
    have h9 := hO.cls
    rw [hvm] at h9
    exact h9
  have hall : s.sameButNew ({ U with vm := s.vm } : State) locs mc ms := by
    subst hA
    obtain ⟨e1, e2⟩ := hsame
    rw [State.setFrames_setFrames] at e1
    have h2 : (T.setVm s.vm).sameButNew ({ U with vm := s.vm } : State) [] (0 + 1) (0 + 6) := ⟨e1, e2⟩
    have h3 := X.same.trans h2
    rw [List.append_nil] at h3
    exact h3.mono hc hs
  refine ⟨U, ?_, .threw T.heap.size, hrun, hend, Or.inr ⟨T.heap.size, rfl, cls, ce, locs, hx U hWs.alike f1 (fun q hq => f2 q hq (fun z hz => nomatch hz)), hce, hO.vm, hcl, hWs, hall, hf⟩⟩
  refine st1 _ ?_
  show Steps p.tables e below (T1.setTop { method := m, pc := pc + 3, locals := ls, stack := .ref T.heap.size :: rest, locked := none }) _
  jvm_step X₁.here [X₁.here.top, hexec, d3', Value.category]
  exact X₁.ldcString hexec (own := own) (text := text) (index := is) (a := sa) hown' hstr'.1 hstr'.2
    (g := { method := m, pc := pc + 4, locals := ls, stack := .ref T.heap.size :: .ref T.heap.size :: rest, locked := none }) rfl d4' _ hsteps
/-- 'throw new E("text")', the text by a wide index -/
theorem vx_throwSW {cc : ByteArray} {pc : Nat} (hexec : p.tables.exec = Jvm.exec) (hb : c.code = cc) (hl : l.stackTraces = false) {own cls text : String} {names : List String} {ik is ic mc ms sa : Nat} {A : Nat → Prop}
    (hown : s.vm.findClass own = some m.cls) (hcls : Bundle.fit cls = true) (hnames : ∀ n ∈ names, Bundle.fit n = true)
    (hk : (Cond.classLink own ik cls).before args s = true) (hini : (Cond.initialized cls).before args s = true) (hstr : vk_R own is text sa s) (hat : ∀ w ∈ vx_atS own ic cls names, w.before args s = true)
    (hgood : ∀ w ∈ Cond.classLink own ik cls :: Cond.initialized cls :: vx_atS own ic cls names, vx_ot w = true)
    (hU : vx_Zq Bundle.tN "UNASSIGNED_STACK" Bundle.steD A s s.heap) (hN : vx_Zq Bundle.tN "SUPPRESSED_SENTINEL" Bundle.listD A s s.heap) (hS : va_S A s.heap H locs) (hsize : ls.size = c.maxLocals)
    (d0 : decode cc pc = .ok (.new ik, 3)) (d3 : decode cc (pc + 3) = .ok (.dup, 1)) (d4 : decode cc (pc + 4) = .ok (.ldc_w is, 3)) (d7 : decode cc (pc + 7) = .ok (.invokespecial ic, 3)) (d10 : decode cc (pc + 10) = .ok (.athrow, 1))
    (hout : ∀ x ∈ c.exceptionTable.toList, covers x (pc + 10) = false)
    (hRframes : names.length + 3 < R.frames) (hRlocals : (rest.map fun v => v.category).sum + (13 * (names.length + 1) + 43) ≤ R.locals) (hRcells : cells + 1 ≤ R.cells) (hRslots : slots + 6 ≤ R.slots) (hlocks : meth.locks = false)
    (hx : ∀ t : State, s.vm.Alike t.vm → H.size ≤ t.heap.size → (∀ q : Nat, q < H.size → t.heap[q]? = H[q]?) → XC cls s t)
    (hf : ∀ z ∈ locs, free z.base) (hc : cells + 1 ≤ mc) (hs : slots + 6 ≤ ms) :
    W p l e R s m args below meth c H locs cells slots (vx_MQ below Qc XC args s mc ms free) (F0 m pc ls rest) := by
  intro T hT X
  have htr : e.platform.stackTraces = false := (show e.platform.stackTraces = l.stackTraces by rw [X.admits.platform]).trans hl
  have Y := vx_rebase X (R' := { frames := R.frames, locals := R.locals, cells := 1, slots := 6 }) (Nat.le_refl _) (Nat.le_refl _) hRcells hRslots
  obtain ⟨s', hA⟩ : ∃ z, z = (T.setVm s.vm).setFrames (.invoking m args :: below) := ⟨_, rfl⟩
  rw [← hA] at Y
  have hvm : s'.vm = s.vm := by rw [hA]; rfl
  have hhp : s'.heap = H := by rw [hA]; exact hT
  have hW0 : s.WarmedH s'.vm := by rw [hvm]; exact State.WarmedH.refl s
  have hat' : ∀ w ∈ vx_atS own ic cls names, w.before args s' = true := fun w hw => vx_ot_at hW0 hvm.symm (hgood w (List.mem_cons_of_mem _ (List.mem_cons_of_mem _ hw))) (hat w hw)
  have hk' : (Cond.classLink own ik cls).before args s' = true := vx_ot_at hW0 hvm.symm (hgood _ List.mem_cons_self) hk
  have hini' : (Cond.initialized cls).before args s' = true := vx_ot_at hW0 hvm.symm (hgood _ (List.mem_cons_of_mem _ List.mem_cons_self)) hini
  have hU' : vx_Zq Bundle.tN "UNASSIGNED_STACK" Bundle.steD A s' s'.heap := by rw [hhp]; exact vx_Zq.moved hW0.alike (hU.kept hS.2.1)
  have hN' : vx_Zq Bundle.tN "SUPPRESSED_SENTINEL" Bundle.listD A s' s'.heap := by rw [hhp]; exact vx_Zq.moved hW0.alike (hN.kept hS.2.1)
  have h : ∀ w ∈ Bundle.ownAtoms own ic cls names, w.before args s' = true := vx_own hat' (vx_isRefq hU'.1) (vx_isRefq hN'.1) hU'.2.word hN'.2.word
  have hown' : s'.vm.findClass own = some m.cls := by rw [hvm]; exact hown
  have hins : (Cond.instantiable cls 6).before args s' = true := h _ (by simp [Bundle.ownAtoms])
  obtain ⟨vm₁, cX, kX, hfX, hkX, -, -, X₁, st1⟩ := Y.newCold hexec (own := own) (C := cls) (index := ik) (n := 6) hown' hk' hins hini'
    (g := F0 m pc ls rest) rfl (by rw [hb]; exact d0) (Nat.le_refl _) (Nat.le_refl _)
  generalize hT1 : (T.setVm vm₁).pushCell { cls := cX, slots := kX.instanceTypes.map defaultValue, vm := .none } = T1 at X₁ st1
  have hcat : (Value.ref T.heap.size).category = 1 := rfl
  have hcellA : T1.heap[T.heap.size]? = some (freshCell cX kX) := by rw [← hT1]; exact State.heap_pushCell_size _ _
  have d3' : decode c.code (pc + 3) = .ok (.dup, 1) := by rw [hb]; exact d3
  have d4' : decode c.code (pc + 4) = .ok (.ldc_w is, 3) := by rw [hb]; exact d4
  have hstr' : vk_R own is text sa s' := vk_R.warm hW0 hstr
  obtain ⟨U, hsteps, hrun, hend, hW, hsame, ce, hce, hO⟩ := X₁.ctorThrowS hexec htr (own := own) (cls := cls) (names := names) (ic := ic) hown' hcls hnames h (fun x hx => nomatch hx) hfX hkX hcellA (by rw [hhp, hT]; exact Nat.le_refl _) (msg := .ref sa) rfl
    (g := { method := m, pc := pc + 7, locals := ls, stack := .ref sa :: .ref T.heap.size :: .ref T.heap.size :: rest, locked := none }) rfl hsize rfl rfl (rest := rest) rfl
    (by rw [hb]; exact d7) (by rw [hb]; exact d10) hout hRframes (by simp only [List.map_cons, List.sum_cons, hcat]; omega) hlocks
  obtain ⟨f1, f2⟩ := vx_frame hsame
  rw [hhp] at f1 f2
  have hWs : s.WarmedH U.vm := State.WarmedH.trans hW0 hW
  have hcl : s.vm.findClass cls = some ce.cls := by
    have h9 := hO.cls
    rw [hvm] at h9
    exact h9
  have hall : s.sameButNew ({ U with vm := s.vm } : State) locs mc ms := by
    subst hA
    obtain ⟨e1, e2⟩ := hsame
    rw [State.setFrames_setFrames] at e1
    have h2 : (T.setVm s.vm).sameButNew ({ U with vm := s.vm } : State) [] (0 + 1) (0 + 6) := ⟨e1, e2⟩
    have h3 := X.same.trans h2
    rw [List.append_nil] at h3
    exact h3.mono hc hs
  refine ⟨U, ?_, .threw T.heap.size, hrun, hend, Or.inr ⟨T.heap.size, rfl, cls, ce, locs, hx U hWs.alike f1 (fun q hq => f2 q hq (fun z hz => nomatch hz)), hce, hO.vm, hcl, hWs, hall, hf⟩⟩
  refine st1 _ ?_
  show Steps p.tables e below (T1.setTop { method := m, pc := pc + 3, locals := ls, stack := .ref T.heap.size :: rest, locked := none }) _
  jvm_step X₁.here [X₁.here.top, hexec, d3', Value.category]
  exact X₁.ldcStringW hexec (own := own) (text := text) (index := is) (a := sa) hown' hstr'.1 hstr'.2
    (g := { method := m, pc := pc + 4, locals := ls, stack := .ref T.heap.size :: .ref T.heap.size :: rest, locked := none }) rfl d4' _ hsteps
end Ends
section Bodies
variable {l : Launch}
theorem vx_ofW {y : MethodName} {ws ws' : List Cond} {rm : Room} {Pc : Array Value → State → Prop} {Qc : Array Value → State → Outcome → State → Prop} {XC : String → State → State → Prop} {mc ms : Nat} {free : Addr → Prop} {cc : ByteArray} {maxL : Nat} {ret : Option FieldType}
    (hy : plainName y.cls = true) (hw : ws = Cond.code y cc maxL ret :: ws')
    (body : ∀ p e s m args below meth c s₁, BodyLoose p l y (headSpec ws rm) cc maxL ret e s m args below meth c s₁ → c.maxLocals = maxL → (∀ x ∈ c.exceptionTable.toList, False) → Pc args s →
      W p l e (headSpec ws rm).room s m args below meth c s.heap [] 0 0 (vx_MQ below Qc XC args s mc ms free) (entryFrame m args maxL)) : vx_Met l y ws rm Pc Qc XC mc ms free := by
  refine MetFree.of_bodyS (code := cc) (maxLocals := maxL) (ret := ret) hy ?_ ?_
  · intro args s m h hn
    obtain ⟨meth, c, h1, h2, h3, h4, h5, h6, -, -⟩ := Cond.code_spec hn (atoms_spec (ws := ws) h _ (by rw [hw]; exact List.mem_cons_self))
    exact ⟨meth, c, h1, h2, h3, h4, h5, h6⟩
  · intro p e s m args below meth c s₁ B hml hP _
    have hh0 : s₁.heap = s.heap := by rw [B.state]; rfl
    have ht : ∀ x ∈ c.exceptionTable.toList, False := by
      obtain ⟨meth9, c9, h1, h2, -, -, -, -, h7, -⟩ := Cond.code_spec B.named (atoms_spec (ws := ws) B.pre _ (by rw [hw]; exact List.mem_cons_self))
      cases Option.some.inj (h1.symm.trans B.method)
      cases Option.some.inj (h2.symm.trans (Stand.of_body B).code)
      intro x hx
      rw [Array.isEmpty_iff.mp h7] at hx
      cases hx
    obtain ⟨t, a1, o, b1, b2, b3⟩ := body p e s m args below meth c s₁ B hml ht hP s₁ hh0 (Stand.of_body B)
    exact ⟨t, o, a1, b1, b2, b3⟩
/-- the table of a body with handlers -/
theorem vx_table {p : Program} {x y : MethodName} {S : Spec} {cc bytes : ByteArray} {maxL maxL' : Nat} {ret ret' : Option FieldType} {e : Env} {s s₁ : State} {m : MethodId} {args : Array Value} {below : List Frame} {meth : Method} {c : Code} {hh : List (Nat × Nat × Nat × Nat)}
    (B : BodyLoose p l y S cc maxL ret e s m args below meth c s₁) (h : (Cond.codeWith y bytes maxL' ret' hh).before args s = true) : c.exceptionTable.toList = tableOf hh := by
  obtain ⟨m9, meth9, c9, hn9, h1, h2, -, -, h6, -⟩ := Cond.codeWith_spec h
  cases Option.some.inj (hn9.symm.trans B.named)
  cases Option.some.inj (h1.symm.trans B.method)
  cases Option.some.inj (h2.symm.trans (Stand.of_body B).code)
  rw [← h6, table_eq]
end Bodies
end VXA
/-! ===== END ===== -/
/-! ===== BEGIN a static call of a method with an exception table ===== -/
section VXS
variable {p : Program} {l : Launch} {e : Env} {R : Room} {s : State} {m : MethodId} {args : Array Value} {below : List Frame} {meth : Method} {c : Code} {T : State} {H : Heap} {locs : List Loc} {cells slots : Nat}
abbrev vx_CSW (R : Room) (s : State) (args : Array Value) (own : String) (index : Nat) (y : MethodName) (bytes : ByteArray) (maxL : Nat) (ret : Option FieldType) (hh : List (Nat × Nat × Nat × Nat)) (ws : List Cond) (rm : Room) (mc ms n : Nat) : Prop :=
  (rm.cells = mc ∧ rm.slots = ms ∧ rm.frames + 1 ≤ R.frames ∧ 8 + (maxL + 11) + rm.locals ≤ R.locals ∧ (∀ w ∈ ws, ∀ (a' : Array Value) (U : State), s.WarmedH U.vm → w.before a' U = true) ∧ Cond.codeWith y bytes maxL ret hh ∈ ws) ∧
  (Cond.codeWith y bytes maxL ret hh).before args s = true ∧ (Cond.initialized y.cls).before args s = true ∧ (y.cls ≠ "java/lang/invoke/MethodHandle" ∧ y.cls ≠ "java/lang/invoke/VarHandle") ∧
  (∀ sig, parseMethodDescriptor y.desc = some sig → n = sig.parameters.length) ∧ (Cond.methodLink own index y).before args s = true ∧ (Cond.static y).before args s = true
theorem vx_cwSW {own : String} {index maxL mc ms : Nat} {y : MethodName} {bytes : ByteArray} {ret : Option FieldType} {hh : List (Nat × Nat × Nat × Nat)} {Ts ws ws' : List Cond} {rm : Room} (n : Nat) (ht : ∀ w ∈ Ts, w.before args s = true) (hT : GoodIn Ts (va_wsS own index y ws)) (hw : ws = Cond.codeWith y bytes maxL ret hh :: ws') (hrc : rm.cells = mc) (hrs : rm.slots = ms)
    (hd : y.cls ≠ "java/lang/invoke/MethodHandle" ∧ y.cls ≠ "java/lang/invoke/VarHandle" ∧ (parseMethodDescriptor y.desc).map (fun d => d.parameters.length) = some n) (hR : rm.frames + 1 ≤ R.frames ∧ 8 + (maxL + 11) + rm.locals ≤ R.locals) :
    vx_CSW R s args own index y bytes maxL ret hh ws rm mc ms n := by
  have ok : ∀ w ∈ va_wsS own index y ws, w.before args s = true := fun w h => ht w (hT w h).1
  have hG : GoodIn Ts ws := fun w h => hT w (by unfold va_wsS; exact List.mem_append_right _ h)
  have hc : Cond.codeWith y bytes maxL ret hh ∈ ws := by rw [hw]; exact List.mem_cons_self
  refine ⟨⟨hrc, hrs, hR.1, hR.2, pay_in ht hG, hc⟩, ht _ (hG _ hc).1, ok _ (by simp [va_wsS]), ⟨hd.1, hd.2.1⟩, fun sig h => ?_, ok _ (by simp [va_wsS]), ok _ (by simp [va_wsS])⟩
  have h2 := hd.2.2
  rw [h] at h2
  exact (Option.some.inj h2).symm
theorem vx_callSW (X : Stand p l e R s m args below meth c T locs cells slots) (hexec : p.tables.exec = Jvm.exec) {own : String} {index : Nat} {y : MethodName} {bytes : ByteArray} {maxL : Nat} {ret : Option FieldType} {hh : List (Nat × Nat × Nat × Nat)}
    (hown : s.vm.findClass own = some m.cls) (hlink : (Cond.methodLink own index y).before args s = true) (hstat : (Cond.static y).before args s = true) (hinit : (Cond.initialized y.cls).before args s = true)
    (hcode : (Cond.codeWith y bytes maxL ret hh).before args s = true) (hy : y.cls ≠ "java/lang/invoke/MethodHandle" ∧ y.cls ≠ "java/lang/invoke/VarHandle")
    {W9 : Nat} {Pre : Pt → Array Value → Prop} {Post : Pt → Array Value → Option Value → Pt → Prop} (hK : Back l R p e below s args y 3 W9 Pre Post)
    {g : JFrame} (hg : g.method = m) (hsize : g.locals.size = c.maxLocals) {argsL rest : List Value} (hlen : ∀ sig, parseMethodDescriptor y.desc = some sig → argsL.length = sig.parameters.length)
    (hstack : g.stack = argsL.reverse ++ rest) (hW : 2 * g.monitorRoom + (rest.map fun v => v.category).sum ≤ W9) (hdg : decode c.code g.pc = .ok (.invokestatic index, 3))
    (hpre : ∀ vm₁, s.WarmedH vm₁ → Pre ⟨T.setVm vm₁, locs, cells, slots⟩ argsL.toArray) :
    ∃ (v : Option Value) (vm₁ : Vm) (B : Pt), s.WarmedH vm₁ ∧ Stand p l e R s m args below meth c B.U B.locs B.cells B.slots ∧ Post ⟨T.setVm vm₁, locs, cells, slots⟩ argsL.toArray v B ∧
      ∀ target, Steps p.tables e below (B.U.setTop { g with pc := g.pc + 3, stack := v.toList ++ rest }) target → Steps p.tables e below (T.setTop g) target := by
  obtain ⟨mk, methM, cM, hnamed, hmethM, -, -, -, -, -, -, hsigM⟩ := Cond.codeWith_spec hcode
  have hstatic : methM.isStatic = true := Cond.static_spec hnamed hmethM hstat
  obtain ⟨kP, hkP, -⟩ := className_of_methodNamed hnamed
  have hinitP : kP.init = .initialized := Cond.initialized_spec (findClass_of_methodNamed hnamed) hkP hinit
  obtain ⟨vm₁, X₁, hstep₁⟩ := X.invokestatic hexec hown hlink hnamed hmethM hstatic hkP hinitP hy (g := g) hg (argsL := argsL) (rest := rest) (hlen _ hsigM) hstack hdg
  obtain ⟨v, B, X', hpost, hsteps⟩ := hK m meth c ⟨T.setVm vm₁, locs, cells, slots⟩ { g with stack := rest } (.invokestatic index) mk argsL.toArray X₁ hg hsize hdg hW (X₁.named hnamed) (hpre vm₁ X₁.warmed)
  exact ⟨v, vm₁, B, X₁.warmed, X', hpost, fun target h => hstep₁ _ fun acts => by rw [doInvoke_state]; exact hsteps.trans h⟩
theorem vx_runSW {y : MethodName} {bytes cc : ByteArray} {maxL nL mc ms n index : Nat} {ret : Option FieldType} {hh : List (Nat × Nat × Nat × Nat)} {ws : List Cond} {rm : Room} {Pc : Array Value → State → Prop} {Qc : Array Value → State → Outcome → State → Prop} {free : Addr → Prop} {Ts : List Cond} {own : String} {As rest : List Value} {g : JFrame}
    (S : CallFix p m c cc nL s args Ts own) (hM : Met l y ws rm Pc Qc mc ms free) (cw : vx_CSW R s args own index y bytes maxL ret hh ws rm mc ms n) (hp : PreS s H Pc As)
    (hg : g.method = m) (hn : As.length = n) (hsize : g.locals.size = nL) (hstack : g.stack = As.reverse ++ rest) (hW : 2 * g.monitorRoom + (rest.map fun v => v.category).sum ≤ 8) (hdg : decode cc g.pc = .ok (.invokestatic index, 3)) (hf : cells + mc ≤ R.cells ∧ slots + ms ≤ R.slots) :
    va_Run p l e R s m args below meth c H locs cells slots mc ms g rest (Qc As.toArray) (free) := by
  obtain ⟨⟨hrc, hrs, hfr, hlo, hws, hcw⟩, hcode, hini, hy, hlen, hl, hstt⟩ := cw
  have hK : Back l R p e below s args y 3 8 (PreOf R mc ms Pc) (PostOf Qc mc ms free) := va_backW (hh := hh) (bytes := bytes) (maxL := maxL) (ret := ret) hM hp.1 hrc hrs hfr hlo hws hcw (fun a' U hW => word_at hW (Or.inl (by first | rfl | simp [Cond.onTables, Cond.keeps, Cond.steady])) hini)
  obtain ⟨hx, hb, hml, ho, -⟩ := S
  intro T hT X
  obtain ⟨v, vm₁, ⟨U', l2, c2, s2⟩, hW₁, X', ⟨g', mk, t, L, e1, e2, hq, h1, hL, h2, h3⟩, st⟩ := vx_callSW X hx (hh := hh) (bytes := bytes) (maxL := maxL) (ret := ret) ho hl hstt hini hcode hy hK hg (hsize.trans hml.symm) (argsL := As) (rest := rest) (fun sig h => hn.trans (hlen sig h)) hstack hW (by rw [hb]; exact hdg)
    (fun vm₁ hW₁ => ⟨hf.1, hf.2, hp.2 (T.setVm vm₁) hT hW₁⟩)
  dsimp only [Pt.U, Pt.locs, Pt.cells, Pt.slots] at X' e1 e2 h1 h2 h3 st
  subst h1; subst h2; subst h3
  exact ⟨v, (T.setVm vm₁).calling g' mk As.toArray, t, U', L, hT, X', hL, e1, e2, hq, st⟩
/-- not caught here, past rows that name other classes: it goes on to the caller -/
theorem vx_outP {p : Program} {l : Launch} {e : Env} {R : Room} {s : State} {m : MethodId} {args : Array Value} {below : List Frame} {meth : Method} {c : Code} {H : Heap} {locs : List Loc} {cells slots : Nat} {free : Addr → Prop} {ls : Array Slot} {rest : List Value} {Qc : Array Value → State → Outcome → State → Prop} {XC : String → State → State → Prop}
    {pc : Nat} {own E : String} {ce : Cell} {q : Addr} {mc ms : Nat} (hown : s.vm.findClass own = some m.cls) (hlocks : meth.locks = false)
    (hpass : ∀ z ∈ c.exceptionTable.toList, covers z pc = false ∨ (z.catchType ≠ 0 ∧ ∃ nm : String, (Cond.classLink own z.catchType nm).before args s = true ∧ va_Nc E nm s)) (hcell : H[q]? = some ce) (hv : ce.vm = .none) (hcl : s.vm.findClass E = some ce.cls)
    (hx : ∀ t : State, t.heap = H → s.vm.Alike t.vm → XC E s t) (hf : ∀ z ∈ locs, free z.base) (hc : cells ≤ mc) (hs : slots ≤ ms) :
    vx_W p l e R s m args below meth c H locs cells slots (vx_MQ below Qc XC args s mc ms free) (F0 m pc ls rest) q := by
  intro T hT X
  have hpl : e.platform.magicAccessors = ({} : Platform).magicAccessors := by rw [X.admits.platform]
  obtain ⟨vm', hW', X', st⟩ := X.outThrough hlocks q (g := F0 m pc ls rest) rfl rfl rfl (cell := ce) (by rw [hT]; exact hcell) (by rw [hv]; rfl)
    (by obtain ⟨k9, h9, -⟩ := Vm.findClass_spec hcl; exact ⟨k9, h9⟩) (fun z hz => by
      rcases hpass z hz with h | ⟨hz0, nm, hl1, hn1⟩
      · exact Or.inl h
      · obtain ⟨c6, hc6, hcl6⟩ := Cond.classLink_spec hown hl1 e.platform hpl
        obtain ⟨a8, b8, h1, h2, h3⟩ := hn1
        cases Option.some.inj (h1.symm.trans hcl)
        cases Option.some.inj (h2.symm.trans hc6)
        exact Or.inr ⟨hz0, _, hcl6, h3⟩)
  obtain ⟨g₀, hfr⟩ := X'.frames_eq
  have hcell9 : ((T.setVm vm').setFrames (.throwing q :: below)).heap[q]? = some ce := by
    show T.heap[q]? = some ce
    rw [hT]; exact hcell
  have hend : Ended ((T.setVm vm').setFrames (.throwing q :: below)) below (.threw q) := State.frames_setFrames _ (State.cur_lt_of_frames hfr)
  refine ⟨(T.setVm vm').setFrames (.throwing q :: below), ?_, .threw q, X'.here.running, hend, Or.inr ⟨q, rfl, E, ce, locs, hx _ hT (X'.ends _).1.alike, hcell9, hv, hcl, (X'.ends _).1, (X'.ends _).2.mono hc hs, hf⟩⟩
  rw [X.pushThrowing_eq]
  exact st
/-- a thing of a world lies in the heap -/
theorem vx_lt {D : va_G} {cl : List vw_C} {ws : va_W} {H1 : Heap} (h : va_P D cl ws H1) {k : Nat} {q : Nat × va_E} (hk : ws[k]? = some q) : q.1 < H1.size := (h k q hk).lt
end VXS
/-! ===== END ===== -/
/-! ===== BEGIN methods with a table of their own: called by a name, returning or throwing ===== -/
section VXH
/-! vx_backW, vx_callVX, vx_callSX, vx_callVW, vx_runVW, vx_runVX, vx_runSX, vx_ofWH follow the same proofs as their sisters above (Free/Laws.lean, Shelf42/LK1.lean); vx_outP calls Shelf42/NT130.lean (outThrough). -/
section
variable {l : Launch} {R : Room} {p : Program} {e : Env} {below : List Frame} {s : State} {sargs : Array Value} {y : MethodName} {len W9 : Nat}
theorem vx_backW {ws : List Cond} {rm : Room} {Pc : Array Value → State → Prop} {Qc : Array Value → State → Outcome → State → Prop} {XC : String → State → State → Prop} {mc ms : Nat} {free : Addr → Prop} {bytes : ByteArray} {maxL : Nat} {ret : Option FieldType} {hh : List (Nat × Nat × Nat × Nat)}
    (hM : vx_Met l y ws rm Pc Qc XC mc ms free) (hblind : FrameBlind Pc) (hrc : rm.cells = mc) (hrs : rm.slots = ms)
    (hframes : rm.frames + 1 ≤ R.frames) (hlocals : W9 + (maxL + 11) + rm.locals ≤ R.locals)
    (hws : ∀ w ∈ ws, ∀ a' U, s.WarmedH U.vm → w.before a' U = true) (hcode : Cond.codeWith y bytes maxL ret hh ∈ ws) (hinit : ∀ a' U, s.WarmedH U.vm → (Cond.initialized y.cls).before a' U = true) :
    vx_Back l R p e below s sargs y len W9 (PreOf R mc ms Pc) (PostOf Qc mc ms free) (vx_Post XC mc ms free) := by
  intro m meth c A g ig mk a X hg hsize hdg hW hn hp
  have h1 : (headSpec ws rm).pre.before a A.U = true := atoms_intro fun w hw => hws w hw _ _ X.warmed
  have h2 : (Cond.codeWith y bytes maxL ret hh).before a A.U = true := hws _ hcode _ _ X.warmed
  have h3 : (Cond.initialized y.cls).before a A.U = true := hinit _ _ X.warmed
  have h4 : A.cells + (headSpec ws rm).room.cells ≤ R.cells := by rw [show (headSpec ws rm).room.cells = mc from hrc]; exact hp.1
  have h5 : A.slots + (headSpec ws rm).room.slots ≤ R.slots := by rw [show (headSpec ws rm).room.slots = ms from hrs]; exact hp.2.1
  have hPc : Pc a (A.U.calling g mk a) := hblind _ _ _ _ hp.2.2
  obtain ⟨U, Ls, c0, s0⟩ := A
  dsimp only [Pt.U, Pt.locs, Pt.cells, Pt.slots] at h1 h2 h3 h4 h5 X hn hPc ⊢
  obtain ⟨m9, methY, cY, hn9, hmY, hcY, -, hlY, -⟩ := Cond.codeWith_spec h2
  cases Option.some.inj (hn9.symm.trans hn)
  obtain ⟨kY, hkY, -⟩ := className_of_methodNamed hn
  have hinitY : kY.init = .initialized := Cond.initialized_spec (findClass_of_methodNamed hn) hkY h3
  have h : At U g.method c below := by rw [hg]; exact X.here
  have hlocals9 : W9 + (maxL + 11) + (headSpec ws rm).room.locals ≤ R.locals := hlocals
  have happ : (headSpec ws rm).appliesLoose y e.platform (U.calling g mk a) = true :=
    Spec.appliesLoose_calling (g := g) h hdg hn hkY hinitY
      (X.room_calling (g := g) (R' := (headSpec ws rm).room) hsize hmY hcY hframes (by rw [hlY]; omega) h4 h5) h1
  obtain ⟨mid, hmid⟩ := h.above
  have hfr : (U.setTop g).frames = (.java g :: mid) ++ below := by rw [State.frames_setTop' g h.top, hmid]; rfl
  obtain ⟨o, s₂, hsteps, -, hend, hq⟩ := Steps.callFree hM p X.admits X.cas X.clock (acts := []) hfr happ hPc trivial
  have hq' : vx_Q Qc XC mc ms free a (U.calling g mk a) o s₂ := hq
  rw [State.frames_setTop' g h.top] at hend
  obtain ⟨g₀, hg0⟩ := Option.isSome_iff_exists.mp h.top
  obtain ⟨r, hr⟩ := State.topJava?_eq_some.mp hg0
  have hr' : (({ U with heap := s₂.heap, slotsUsed := s₂.slotsUsed } : State).setVm s₂.vm).frames = .java g₀ :: r := hr
  rcases hq' with ⟨hqc, L, hfe, hL⟩ | ⟨q, rfl, E, ce, L, hx, hce, hcv, hcl, hW₂, hsm, hL⟩
  · obtain ⟨⟨v, rfl⟩, hW₂, e2, q2, q3, q4, q5, q6⟩ := id hfe
    have e3 : s₂ = ({ (U.calling g mk a).setFrames s₂.frames with heap := s₂.heap, slotsUsed := s₂.slotsUsed } : State).setVm s₂.vm := by
      have : s₂ = ({ s₂ with vm := (U.calling g mk a).vm } : State).setVm s₂.vm := rfl
      rw [e2] at this
      exact this
    obtain ⟨c₂, i₂, len₂, hc₂, hd₂, hf₂⟩ := hend
    have hW' : U.WarmedH s₂.vm := hW₂
    have hcc : c₂ = c := by
      have h1 : s₂.code? g.method = U.code? g.method := by
        rw [State.code?_eq, State.code?_eq, hW'.alike.method?]
      exact Option.some.inj (hc₂.symm.trans (h1.trans h.code))
    subst hcc
    have hlen : len₂ = len := by rw [hdg] at hd₂; cases hd₂; rfl
    subst hlen
    have hs₂ : s₂ = (({ U with heap := s₂.heap, slotsUsed := s₂.slotsUsed } : State).setVm s₂.vm).setTop { g with pc := g.pc + len₂, stack := v.toList ++ g.stack } := by
      refine e3.trans ?_
      rw [hf₂, State.calling_eq h.top, State.setFrames_setFrames, State.setTop_of_frames _ hr', hr]
      rfl
    have hsame : U.sameButNew ({ U with heap := s₂.heap, slotsUsed := s₂.slotsUsed } : State) L mc ms := by
      refine ⟨?_, q2, q3, q4, q5, q6⟩
      obtain ⟨t, ht, -⟩ := State.frames_cons hr
      show ({ U with heap := s₂.heap, slotsUsed := s₂.slotsUsed } : State) = { U.setFrames U.frames with heap := s₂.heap, slotsUsed := s₂.slotsUsed }
      rw [State.setFrames_self ht]
    subst hg
    refine Or.inl ⟨v, ⟨(({ U with heap := s₂.heap, slotsUsed := s₂.slotsUsed } : State).setVm s₂.vm), Ls ++ L, c0 + mc, s0 + ms⟩,
      ⟨X.admits, X.cas, X.clock, X.frames, X.room, X.hears, X.method, X.code, (X.here.setHeapUsed s₂.heap s₂.slotsUsed).setVm hW'.alike, X.tail, State.WarmedH.trans X.warmed hW', X.limits, X.bytes, X.same.trans (hsame.setVm s.vm)⟩,
      ⟨g, mk, s₂, L, rfl, rfl, hqc, rfl, hL, rfl, rfl⟩, ?_⟩
    show Steps p.tables e below _ ((({ U with heap := s₂.heap, slotsUsed := s₂.slotsUsed } : State).setVm s₂.vm).setTop { g with pc := g.pc + len₂, stack := v.toList ++ g.stack })
    rw [← hs₂]
    exact hsteps
  · obtain ⟨e2, q2, q3, q4, q5, q6⟩ := id hsm
    have e3 : s₂ = ({ (U.calling g mk a).setFrames s₂.frames with heap := s₂.heap, slotsUsed := s₂.slotsUsed } : State).setVm s₂.vm := by
      have : s₂ = ({ s₂ with vm := (U.calling g mk a).vm } : State).setVm s₂.vm := rfl
      rw [e2] at this
      exact this
    have hf₂ : s₂.frames = .throwing q :: .java g :: U.frames.tail := hend
    have hW' : U.WarmedH s₂.vm := hW₂
    have hs₂ : s₂ = ((({ U with heap := s₂.heap, slotsUsed := s₂.slotsUsed } : State).setVm s₂.vm).setTop g).pushFrame (.throwing q) := by
      refine e3.trans ?_
      rw [hf₂, State.calling_eq h.top, State.setFrames_setFrames, State.pushFrame, State.frames_setTop _ hr', State.setTop_of_frames _ hr', State.setFrames_setFrames, hr]
      rfl
    have hsame : U.sameButNew ({ U with heap := s₂.heap, slotsUsed := s₂.slotsUsed } : State) L mc ms := by
      refine ⟨?_, q2, q3, q4, q5, q6⟩
      obtain ⟨t, ht, -⟩ := State.frames_cons hr
      show ({ U with heap := s₂.heap, slotsUsed := s₂.slotsUsed } : State) = { U.setFrames U.frames with heap := s₂.heap, slotsUsed := s₂.slotsUsed }
      rw [State.setFrames_self ht]
    subst hg
    refine Or.inr ⟨q, ⟨(({ U with heap := s₂.heap, slotsUsed := s₂.slotsUsed } : State).setVm s₂.vm), Ls ++ L, c0 + mc, s0 + ms⟩,
      ⟨X.admits, X.cas, X.clock, X.frames, X.room, X.hears, X.method, X.code, (X.here.setHeapUsed s₂.heap s₂.slotsUsed).setVm hW'.alike, X.tail, State.WarmedH.trans X.warmed hW', X.limits, X.bytes, X.same.trans (hsame.setVm s.vm)⟩,
      ⟨g, mk, s₂, L, E, ce, rfl, rfl, hx, hce, hcv, hcl, rfl, hL, rfl, rfl⟩, ?_⟩
    show Steps p.tables e below _ (((({ U with heap := s₂.heap, slotsUsed := s₂.slotsUsed } : State).setVm s₂.vm).setTop g).pushFrame (.throwing q))
    rw [← hs₂]
    exact hsteps
end
variable {p : Program} {l : Launch} {e : Env} {R : Room} {s : State} {m : MethodId} {args : Array Value} {below : List Frame} {meth : Method} {c : Code} {T : State} {H : Heap} {locs : List Loc} {cells slots : Nat}
theorem vx_callVX (X : Stand p l e R s m args below meth c T locs cells slots) (hexec : p.tables.exec = Jvm.exec) {own C : String} {index : Nat} {y : MethodName} {bytes : ByteArray} {maxL : Nat} {ret : Option FieldType} {hh : List (Nat × Nat × Nat × Nat)}
    (hown : s.vm.findClass own = some m.cls) (hlink : (Cond.methodLink own index y).before args s = true) (hinst : (Cond.instanceMethod y).before args s = true) (hsel : (Cond.selects C y y).before args s = true)
    (hcode : (Cond.codeWith y bytes maxL ret hh).before args s = true) (hy : y.cls ≠ "java/lang/invoke/MethodHandle" ∧ y.cls ≠ "java/lang/invoke/VarHandle")
    {W9 : Nat} {Pre : Pt → Array Value → Prop} {Post : Pt → Array Value → Option Value → Pt → Prop} {PostX : Pt → Array Value → Addr → Pt → Prop} (hK : vx_Back l R p e below s args y 3 W9 Pre Post PostX)
    {b : Addr} {cellB : Cell} (hcell : T.heap[b]? = some cellB) (hobj : cellB.vm.isStatics = false) (hcls : s.vm.findClass C = some cellB.cls)
    {g : JFrame} (hg : g.method = m) (hsize : g.locals.size = c.maxLocals) {argsL rest : List Value} (hlen : ∀ sig, parseMethodDescriptor y.desc = some sig → argsL.length = sig.parameters.length)
    (hstack : g.stack = argsL.reverse ++ .ref b :: rest) (hW : 2 * g.monitorRoom + (rest.map fun v => v.category).sum ≤ W9) (hdg : decode c.code g.pc = .ok (.invokevirtual index, 3))
    (hpre : ∀ vm₁, s.WarmedH vm₁ → Pre ⟨T.setVm vm₁, locs, cells, slots⟩ (Value.ref b :: argsL).toArray) :
    (∃ (v : Option Value) (vm₁ : Vm) (B : Pt), s.WarmedH vm₁ ∧ Stand p l e R s m args below meth c B.U B.locs B.cells B.slots ∧ Post ⟨T.setVm vm₁, locs, cells, slots⟩ (Value.ref b :: argsL).toArray v B ∧
      ∀ target, Steps p.tables e below (B.U.setTop { g with pc := g.pc + 3, stack := v.toList ++ rest }) target → Steps p.tables e below (T.setTop g) target) ∨
    (∃ (q : Addr) (vm₁ : Vm) (B : Pt), s.WarmedH vm₁ ∧ Stand p l e R s m args below meth c B.U B.locs B.cells B.slots ∧ PostX ⟨T.setVm vm₁, locs, cells, slots⟩ (Value.ref b :: argsL).toArray q B ∧
      Steps p.tables e below (T.setTop g) ((B.U.setTop { g with stack := rest }).pushFrame (.throwing q))) := by
  obtain ⟨mk, methM, hnamed, hmethM, hstM, habM⟩ := Cond.instanceMethod_spec hinst
  obtain ⟨m8, methM', cM, hn8, hmethM', -, -, -, -, -, -, hsigM⟩ := Cond.codeWith_spec hcode
  cases Option.some.inj (hn8.symm.trans hnamed)
  cases hmethM.symm.trans hmethM'
  obtain ⟨c2, r2, m2, q1, q2, q3, q4, kP, hkP, hkPi⟩ := Cond.selects_spec hsel
  cases hcls.symm.trans q1
  cases (State.methodFound?_of_named hnamed hy).symm.trans q2
  cases hnamed.symm.trans q3
  have hselP : selectMethod e.platform s.vm cellB.cls mk = .method mk := by rw [Launch.admits_selectMethod X.admits]; exact q4
  obtain ⟨vm₁, X₁, hstep₁⟩ := X.invokevirtual hexec hown hlink hnamed hmethM hstM hkP hkPi hy (a := b) (cell := cellB) hcell
    (fun z h => by rw [h] at hobj; cases hobj) hselP hmethM habM hkP hkPi (g := g) hg (argsL := argsL) (rest := rest) (hlen _ hsigM) hstack hdg
  rcases hK m meth c ⟨T.setVm vm₁, locs, cells, slots⟩ { g with stack := rest } (.invokevirtual index) mk (Value.ref b :: argsL).toArray X₁ hg hsize hdg hW (X₁.named hnamed) (hpre vm₁ X₁.warmed) with ⟨v, B, X', hpost, hsteps⟩ | ⟨q, B, X', hpost, hsteps⟩
  · exact Or.inl ⟨v, vm₁, B, X₁.warmed, X', hpost, fun target h => hstep₁ _ fun acts => by rw [doInvoke_state]; exact hsteps.trans h⟩
  · exact Or.inr ⟨q, vm₁, B, X₁.warmed, X', hpost, hstep₁ _ fun acts => by rw [doInvoke_state]; exact hsteps⟩
theorem vx_callSX (X : Stand p l e R s m args below meth c T locs cells slots) (hexec : p.tables.exec = Jvm.exec) {own : String} {index : Nat} {y : MethodName} {bytes : ByteArray} {maxL : Nat} {ret : Option FieldType} {hh : List (Nat × Nat × Nat × Nat)}
    (hown : s.vm.findClass own = some m.cls) (hlink : (Cond.methodLink own index y).before args s = true) (hstat : (Cond.static y).before args s = true) (hinit : (Cond.initialized y.cls).before args s = true)
    (hcode : (Cond.codeWith y bytes maxL ret hh).before args s = true) (hy : y.cls ≠ "java/lang/invoke/MethodHandle" ∧ y.cls ≠ "java/lang/invoke/VarHandle")
    {W9 : Nat} {Pre : Pt → Array Value → Prop} {Post : Pt → Array Value → Option Value → Pt → Prop} {PostX : Pt → Array Value → Addr → Pt → Prop} (hK : vx_Back l R p e below s args y 3 W9 Pre Post PostX)
    {g : JFrame} (hg : g.method = m) (hsize : g.locals.size = c.maxLocals) {argsL rest : List Value} (hlen : ∀ sig, parseMethodDescriptor y.desc = some sig → argsL.length = sig.parameters.length)
    (hstack : g.stack = argsL.reverse ++ rest) (hW : 2 * g.monitorRoom + (rest.map fun v => v.category).sum ≤ W9) (hdg : decode c.code g.pc = .ok (.invokestatic index, 3))
    (hpre : ∀ vm₁, s.WarmedH vm₁ → Pre ⟨T.setVm vm₁, locs, cells, slots⟩ argsL.toArray) :
    (∃ (v : Option Value) (vm₁ : Vm) (B : Pt), s.WarmedH vm₁ ∧ Stand p l e R s m args below meth c B.U B.locs B.cells B.slots ∧ Post ⟨T.setVm vm₁, locs, cells, slots⟩ argsL.toArray v B ∧
      ∀ target, Steps p.tables e below (B.U.setTop { g with pc := g.pc + 3, stack := v.toList ++ rest }) target → Steps p.tables e below (T.setTop g) target) ∨
    (∃ (q : Addr) (vm₁ : Vm) (B : Pt), s.WarmedH vm₁ ∧ Stand p l e R s m args below meth c B.U B.locs B.cells B.slots ∧ PostX ⟨T.setVm vm₁, locs, cells, slots⟩ argsL.toArray q B ∧
      Steps p.tables e below (T.setTop g) ((B.U.setTop { g with stack := rest }).pushFrame (.throwing q))) := by
  obtain ⟨mk, methM, cM, hnamed, hmethM, -, -, -, -, -, -, hsigM⟩ := Cond.codeWith_spec hcode
  have hstatic : methM.isStatic = true := Cond.static_spec hnamed hmethM hstat
  obtain ⟨kP, hkP, -⟩ := className_of_methodNamed hnamed
  have hinitP : kP.init = .initialized := Cond.initialized_spec (findClass_of_methodNamed hnamed) hkP hinit
  obtain ⟨vm₁, X₁, hstep₁⟩ := X.invokestatic hexec hown hlink hnamed hmethM hstatic hkP hinitP hy (g := g) hg (argsL := argsL) (rest := rest) (hlen _ hsigM) hstack hdg
  rcases hK m meth c ⟨T.setVm vm₁, locs, cells, slots⟩ { g with stack := rest } (.invokestatic index) mk argsL.toArray X₁ hg hsize hdg hW (X₁.named hnamed) (hpre vm₁ X₁.warmed) with ⟨v, B, X', hpost, hsteps⟩ | ⟨q, B, X', hpost, hsteps⟩
  · exact Or.inl ⟨v, vm₁, B, X₁.warmed, X', hpost, fun target h => hstep₁ _ fun acts => by rw [doInvoke_state]; exact hsteps.trans h⟩
  · exact Or.inr ⟨q, vm₁, B, X₁.warmed, X', hpost, hstep₁ _ fun acts => by rw [doInvoke_state]; exact hsteps⟩
theorem vx_callVW (X : Stand p l e R s m args below meth c T locs cells slots) (hexec : p.tables.exec = Jvm.exec) {own C : String} {index : Nat} {y : MethodName} {bytes : ByteArray} {maxL : Nat} {ret : Option FieldType} {hh : List (Nat × Nat × Nat × Nat)}
    (hown : s.vm.findClass own = some m.cls) (hlink : (Cond.methodLink own index y).before args s = true) (hinst : (Cond.instanceMethod y).before args s = true) (hsel : (Cond.selects C y y).before args s = true)
    (hcode : (Cond.codeWith y bytes maxL ret hh).before args s = true) (hy : y.cls ≠ "java/lang/invoke/MethodHandle" ∧ y.cls ≠ "java/lang/invoke/VarHandle")
    {W9 : Nat} {Pre : Pt → Array Value → Prop} {Post : Pt → Array Value → Option Value → Pt → Prop} (hK : Back l R p e below s args y 3 W9 Pre Post)
    {b : Addr} {cellB : Cell} (hcell : T.heap[b]? = some cellB) (hobj : cellB.vm.isStatics = false) (hcls : s.vm.findClass C = some cellB.cls)
    {g : JFrame} (hg : g.method = m) (hsize : g.locals.size = c.maxLocals) {argsL rest : List Value} (hlen : ∀ sig, parseMethodDescriptor y.desc = some sig → argsL.length = sig.parameters.length)
    (hstack : g.stack = argsL.reverse ++ .ref b :: rest) (hW : 2 * g.monitorRoom + (rest.map fun v => v.category).sum ≤ W9) (hdg : decode c.code g.pc = .ok (.invokevirtual index, 3))
    (hpre : ∀ vm₁, s.WarmedH vm₁ → Pre ⟨T.setVm vm₁, locs, cells, slots⟩ (Value.ref b :: argsL).toArray) :
    ∃ (v : Option Value) (vm₁ : Vm) (B : Pt), s.WarmedH vm₁ ∧ Stand p l e R s m args below meth c B.U B.locs B.cells B.slots ∧ Post ⟨T.setVm vm₁, locs, cells, slots⟩ (Value.ref b :: argsL).toArray v B ∧
      ∀ target, Steps p.tables e below (B.U.setTop { g with pc := g.pc + 3, stack := v.toList ++ rest }) target → Steps p.tables e below (T.setTop g) target := by
  obtain ⟨mk, methM, hnamed, hmethM, hstM, habM⟩ := Cond.instanceMethod_spec hinst
  obtain ⟨m8, methM', cM, hn8, hmethM', -, -, -, -, -, -, hsigM⟩ := Cond.codeWith_spec hcode
  cases Option.some.inj (hn8.symm.trans hnamed)
  cases hmethM.symm.trans hmethM'
  obtain ⟨c2, r2, m2, q1, q2, q3, q4, kP, hkP, hkPi⟩ := Cond.selects_spec hsel
  cases hcls.symm.trans q1
  cases (State.methodFound?_of_named hnamed hy).symm.trans q2
  cases hnamed.symm.trans q3
  have hselP : selectMethod e.platform s.vm cellB.cls mk = .method mk := by rw [Launch.admits_selectMethod X.admits]; exact q4
  obtain ⟨vm₁, X₁, hstep₁⟩ := X.invokevirtual hexec hown hlink hnamed hmethM hstM hkP hkPi hy (a := b) (cell := cellB) hcell
    (fun z h => by rw [h] at hobj; cases hobj) hselP hmethM habM hkP hkPi (g := g) hg (argsL := argsL) (rest := rest) (hlen _ hsigM) hstack hdg
  obtain ⟨v, B, X', hpost, hsteps⟩ := hK m meth c ⟨T.setVm vm₁, locs, cells, slots⟩ { g with stack := rest } (.invokevirtual index) mk (Value.ref b :: argsL).toArray X₁ hg hsize hdg hW (X₁.named hnamed) (hpre vm₁ X₁.warmed)
  exact ⟨v, vm₁, B, X₁.warmed, X', hpost, fun target h => hstep₁ _ fun acts => by rw [doInvoke_state]; exact hsteps.trans h⟩
abbrev vx_CVW (R : Room) (s : State) (args : Array Value) (own C : String) (index : Nat) (y : MethodName) (bytes : ByteArray) (maxL : Nat) (ret : Option FieldType) (hh : List (Nat × Nat × Nat × Nat)) (ws : List Cond) (rm : Room) (mc ms n : Nat) : Prop :=
  (rm.cells = mc ∧ rm.slots = ms ∧ rm.frames + 1 ≤ R.frames ∧ 8 + (maxL + 11) + rm.locals ≤ R.locals ∧ (∀ w ∈ ws, ∀ (a' : Array Value) (U : State), s.WarmedH U.vm → w.before a' U = true) ∧ Cond.codeWith y bytes maxL ret hh ∈ ws) ∧
  (Cond.codeWith y bytes maxL ret hh).before args s = true ∧ (Cond.initialized y.cls).before args s = true ∧ (y.cls ≠ "java/lang/invoke/MethodHandle" ∧ y.cls ≠ "java/lang/invoke/VarHandle") ∧
  (∀ sig, parseMethodDescriptor y.desc = some sig → n = sig.parameters.length) ∧ (Cond.methodLink own index y).before args s = true ∧ (Cond.instanceMethod y).before args s = true ∧ (Cond.selects C y y).before args s = true
theorem vx_cwVW {own C : String} {index maxL mc ms : Nat} {y : MethodName} {bytes : ByteArray} {ret : Option FieldType} {hh : List (Nat × Nat × Nat × Nat)} {Ts ws ws' : List Cond} {rm : Room} (n : Nat) (ht : ∀ w ∈ Ts, w.before args s = true) (hT : GoodIn Ts (wsV own index C y ws)) (hw : ws = Cond.codeWith y bytes maxL ret hh :: ws') (hrc : rm.cells = mc) (hrs : rm.slots = ms)
    (hd : y.cls = C ∧ y.cls ≠ "java/lang/invoke/MethodHandle" ∧ y.cls ≠ "java/lang/invoke/VarHandle" ∧ (parseMethodDescriptor y.desc).map (fun d => d.parameters.length) = some n) (hR : rm.frames + 1 ≤ R.frames ∧ 8 + (maxL + 11) + rm.locals ≤ R.locals) :
    vx_CVW R s args own C index y bytes maxL ret hh ws rm mc ms n := by
  obtain ⟨hC, hd⟩ := hd
  subst hC
  have ok : ∀ w ∈ wsV own index y.cls y ws, w.before args s = true := fun w h => ht w (hT w h).1
  have hG : GoodIn Ts ws := fun w h => hT w (by unfold wsV; exact List.mem_append_right _ h)
  have hc : Cond.codeWith y bytes maxL ret hh ∈ ws := by rw [hw]; exact List.mem_cons_self
  refine ⟨⟨hrc, hrs, hR.1, hR.2, pay_in ht hG, hc⟩, ht _ (hG _ hc).1, ok _ (by simp [wsV]), ⟨hd.1, hd.2.1⟩, fun sig h => ?_, ok _ (by simp [wsV]), ok _ (by simp [wsV]), ok _ (by simp [wsV])⟩
  have h2 := hd.2.2
  rw [h] at h2
  exact (Option.some.inj h2).symm
theorem vx_runVW {y : MethodName} {bytes cc : ByteArray} {maxL nL mc ms n index : Nat} {ret : Option FieldType} {hh : List (Nat × Nat × Nat × Nat)} {ws : List Cond} {rm : Room} {Pc : Array Value → State → Prop} {Qc : Array Value → State → Outcome → State → Prop} {free : Addr → Prop} {Ts : List Cond} {own C : String} {b : Addr} {As rest : List Value} {g : JFrame}
    (S : CallFix p m c cc nL s args Ts own) (hM : Met l y ws rm Pc Qc mc ms free) (cw : vx_CVW R s args own C index y bytes maxL ret hh ws rm mc ms n) (hp : PreV s H C b Pc As)
    (hg : g.method = m) (hn : As.length = n) (hsize : g.locals.size = nL) (hstack : g.stack = As.reverse ++ .ref b :: rest) (hW : 2 * g.monitorRoom + (rest.map fun v => v.category).sum ≤ 8) (hdg : decode cc g.pc = .ok (.invokevirtual index, 3)) (hf : cells + mc ≤ R.cells ∧ slots + ms ≤ R.slots) :
    va_Run p l e R s m args below meth c H locs cells slots mc ms g rest (Qc (Value.ref b :: As).toArray) free := by
  obtain ⟨⟨hrc, hrs, hfr, hlo, hws, hcw⟩, hcode, hini, hy, hlen, hl, hin, hse⟩ := cw
  have hK : Back l R p e below s args y 3 8 (PreOf R mc ms Pc) (PostOf Qc mc ms free) := va_backW (hh := hh) (bytes := bytes) (maxL := maxL) (ret := ret) hM hp.1 hrc hrs hfr hlo hws hcw (fun a' U hW => word_at hW (Or.inl (by first | rfl | simp [Cond.onTables, Cond.keeps, Cond.steady])) hini)
  obtain ⟨hx, hb, hml, ho, -⟩ := S
  obtain ⟨-, ⟨cellB, hcB, hoB, hclB⟩, hPc⟩ := hp
  intro T hT X
  obtain ⟨v, vm₁, ⟨U', l2, c2, s2⟩, hW₁, X', ⟨g', mk, t, L, e1, e2, hq, h1, hL, h2, h3⟩, st⟩ := vx_callVW X hx (C := C) (hh := hh) (bytes := bytes) (maxL := maxL) (ret := ret) ho hl hin hse hcode hy hK (by rw [hT]; exact hcB) hoB hclB hg (hsize.trans hml.symm) (argsL := As) (rest := rest) (fun sig h => hn.trans (hlen sig h)) hstack hW (by rw [hb]; exact hdg)
    (fun vm₁ hW₁ => ⟨hf.1, hf.2, hPc (T.setVm vm₁) hT hW₁⟩)
  dsimp only [Pt.U, Pt.locs, Pt.cells, Pt.slots] at X' e1 e2 h1 h2 h3 st
  subst h1; subst h2; subst h3
  exact ⟨v, (T.setVm vm₁).calling g' mk (Value.ref b :: As).toArray, t, U', L, hT, X', hL, e1, e2, hq, st⟩
section
variable {y : MethodName} {bytes cc : ByteArray} {maxL nL mc ms n index : Nat} {ret : Option FieldType} {ws : List Cond} {rm : Room} {Pc : Array Value → State → Prop} {Qc : Array Value → State → Outcome → State → Prop} {XC : String → State → State → Prop} {free : Addr → Prop} {Ts : List Cond} {own C : String} {b : Addr} {As rest : List Value} {g : JFrame}
theorem vx_runVX {hh : List (Nat × Nat × Nat × Nat)} (S : CallFix p m c cc nL s args Ts own) (hM : vx_Met l y ws rm Pc Qc XC mc ms free) (cw : vx_CVW R s args own C index y bytes maxL ret hh ws rm mc ms n) (hp : PreV s H C b Pc As)
    (hg : g.method = m) (hn : As.length = n) (hsize : g.locals.size = nL) (hstack : g.stack = As.reverse ++ .ref b :: rest) (hW : 2 * g.monitorRoom + (rest.map fun v => v.category).sum ≤ 8) (hdg : decode cc g.pc = .ok (.invokevirtual index, 3)) (hf : cells + mc ≤ R.cells ∧ slots + ms ≤ R.slots) :
    vx_Run p l e R s m args below meth c H locs cells slots mc ms g rest (Qc (Value.ref b :: As).toArray) XC free := by
  obtain ⟨⟨hrc, hrs, hfr, hlo, hws, hcw⟩, hcode, hini, hy, hlen, hl, hin, hse⟩ := cw
  have hK : vx_Back l R p e below s args y 3 8 (PreOf R mc ms Pc) (PostOf Qc mc ms free) (vx_Post XC mc ms free) := vx_backW (hh := hh) (bytes := bytes) (maxL := maxL) (ret := ret) hM hp.1 hrc hrs hfr hlo hws hcw (fun a' U hW => word_at hW (Or.inl (by first | rfl | simp [Cond.onTables, Cond.keeps, Cond.steady])) hini)
  obtain ⟨hx, hb, hml, ho, -⟩ := S
  obtain ⟨-, ⟨cellB, hcB, hoB, hclB⟩, hPc⟩ := hp
  intro T hT X
  rcases vx_callVX X hx (C := C) (hh := hh) (bytes := bytes) (maxL := maxL) (ret := ret) ho hl hin hse hcode hy hK (by rw [hT]; exact hcB) hoB hclB hg (hsize.trans hml.symm) (argsL := As) (rest := rest) (fun sig h => hn.trans (hlen sig h)) hstack hW (by rw [hb]; exact hdg)
    (fun vm₁ hW₁ => ⟨hf.1, hf.2, hPc (T.setVm vm₁) hT hW₁⟩) with ⟨v, vm₁, ⟨U', l2, c2, s2⟩, hW₁, X', ⟨g', mk, t, L, e1, e2, hq, h1, hL, h2, h3⟩, st⟩ | ⟨q, vm₁, ⟨U', l2, c2, s2⟩, hW₁, X', ⟨g', mk, t, L, E, ce, e1, e2, hq, hce, hcv, hcl, h1, hL, h2, h3⟩, st⟩
  · dsimp only [Pt.U, Pt.locs, Pt.cells, Pt.slots] at X' e1 e2 h1 h2 h3 st
    subst h1; subst h2; subst h3
    exact Or.inl ⟨v, (T.setVm vm₁).calling g' mk (Value.ref b :: As).toArray, t, U', L, hT, X', hL, e1, e2, hq, st⟩
  · dsimp only [Pt.U, Pt.locs, Pt.cells, Pt.slots] at X' e1 e2 h1 h2 h3 st hcl
    subst h1; subst h2; subst h3
    exact Or.inr ⟨q, (T.setVm vm₁).calling g' mk (Value.ref b :: As).toArray, t, U', L, E, ce, hT, X', hL, e1, e2, hq, hce, hcv, vx_cls hW₁ hcl, st⟩
theorem vx_runSX {hh : List (Nat × Nat × Nat × Nat)} (S : CallFix p m c cc nL s args Ts own) (hM : vx_Met l y ws rm Pc Qc XC mc ms free) (cw : vx_CSW R s args own index y bytes maxL ret hh ws rm mc ms n) (hp : PreS s H Pc As)
    (hg : g.method = m) (hn : As.length = n) (hsize : g.locals.size = nL) (hstack : g.stack = As.reverse ++ rest) (hW : 2 * g.monitorRoom + (rest.map fun v => v.category).sum ≤ 8) (hdg : decode cc g.pc = .ok (.invokestatic index, 3)) (hf : cells + mc ≤ R.cells ∧ slots + ms ≤ R.slots) :
    vx_Run p l e R s m args below meth c H locs cells slots mc ms g rest (Qc As.toArray) XC free := by
  obtain ⟨⟨hrc, hrs, hfr, hlo, hws, hcw⟩, hcode, hini, hy, hlen, hl, hstt⟩ := cw
  have hK : vx_Back l R p e below s args y 3 8 (PreOf R mc ms Pc) (PostOf Qc mc ms free) (vx_Post XC mc ms free) := vx_backW (hh := hh) (bytes := bytes) (maxL := maxL) (ret := ret) hM hp.1 hrc hrs hfr hlo hws hcw (fun a' U hW => word_at hW (Or.inl (by first | rfl | simp [Cond.onTables, Cond.keeps, Cond.steady])) hini)
  obtain ⟨hx, hb, hml, ho, -⟩ := S
  intro T hT X
  rcases vx_callSX X hx (hh := hh) (bytes := bytes) (maxL := maxL) (ret := ret) ho hl hstt hini hcode hy hK hg (hsize.trans hml.symm) (argsL := As) (rest := rest) (fun sig h => hn.trans (hlen sig h)) hstack hW (by rw [hb]; exact hdg)
    (fun vm₁ hW₁ => ⟨hf.1, hf.2, hp.2 (T.setVm vm₁) hT hW₁⟩) with ⟨v, vm₁, ⟨U', l2, c2, s2⟩, hW₁, X', ⟨g', mk, t, L, e1, e2, hq, h1, hL, h2, h3⟩, st⟩ | ⟨q, vm₁, ⟨U', l2, c2, s2⟩, hW₁, X', ⟨g', mk, t, L, E, ce, e1, e2, hq, hce, hcv, hcl, h1, hL, h2, h3⟩, st⟩
  · dsimp only [Pt.U, Pt.locs, Pt.cells, Pt.slots] at X' e1 e2 h1 h2 h3 st
    subst h1; subst h2; subst h3
    exact Or.inl ⟨v, (T.setVm vm₁).calling g' mk As.toArray, t, U', L, hT, X', hL, e1, e2, hq, st⟩
  · dsimp only [Pt.U, Pt.locs, Pt.cells, Pt.slots] at X' e1 e2 h1 h2 h3 st hcl
    subst h1; subst h2; subst h3
    exact Or.inr ⟨q, (T.setVm vm₁).calling g' mk As.toArray, t, U', L, E, ce, hT, X', hL, e1, e2, hq, hce, hcv, vx_cls hW₁ hcl, st⟩
end
end VXH
theorem vx_ofWH {l : Launch} {y : MethodName} {ws ws' : List Cond} {rm : Room} {Pc : Array Value → State → Prop} {Qc : Array Value → State → Outcome → State → Prop} {XC : String → State → State → Prop} {mc ms : Nat} {free : Addr → Prop} {cc : ByteArray} {maxL : Nat} {ret : Option FieldType} {hh : List (Nat × Nat × Nat × Nat)}
    (hy : plainName y.cls = true) (hw : ws = Cond.codeWith y cc maxL ret hh :: ws')
    (body : ∀ p e s m args below meth c s₁, BodyLoose p l y (headSpec ws rm) cc maxL ret e s m args below meth c s₁ → c.maxLocals = maxL → Pc args s →
      W p l e (headSpec ws rm).room s m args below meth c s.heap [] 0 0 (vx_MQ below Qc XC args s mc ms free) (entryFrame m args maxL)) : vx_Met l y ws rm Pc Qc XC mc ms free := by
  refine MetFree.of_bodyS (code := cc) (maxLocals := maxL) (ret := ret) hy ?_ ?_
  · intro args s m h hn
    obtain ⟨m9, meth, c, hn9, h1, h2, h3, h4, -, h5, h6, -⟩ := Cond.codeWith_spec (atoms_spec (ws := ws) h _ (by rw [hw]; exact List.mem_cons_self))
    cases hn.symm.trans hn9
    exact ⟨meth, c, h1, h2, h3, h4, h5, h6⟩
  · intro p e s m args below meth c s₁ B hml hP _
    have hh0 : s₁.heap = s.heap := by rw [B.state]; rfl
    obtain ⟨t, a1, o, b1, b2, b3⟩ := body p e s m args below meth c s₁ B hml hP s₁ hh0 (Stand.of_body B)
    exact ⟨t, o, a1, b1, b2, b3⟩
/-! ===== END ===== -/
end
section
def RX0 : String := "BargeWards$Town"
def TX0 : u_T := fun k => match k with
  | 0 => ("BargeWards$Town", "day", "I", false)
  | 1 => ("BargeWards$Town", "bowls", "I", false)
  | 2 => ("BargeWards$Town", "bowlsEaten", "I", false)
  | 3 => ("BargeWards$Town", "wards", "I", false)
  | 4 => ("BargeWards$Town", "places", "[I", true)
  | 5 => ("BargeWards$Town", "straw", "[I", true)
  | 6 => ("BargeWards$Town", "barges", "I", false)
  | 7 => ("BargeWards$Town", "kept", "[I", true)
  | 8 => ("BargeWards$Town", "toGo", "[I", true)
  | 9 => ("BargeWards$Town", "people", "I", false)
  | 10 => ("BargeWards$Town", "fever", "[I", true)
  | 11 => ("BargeWards$Town", "where", "[I", true)
  | 12 => ("BargeWards$Town", "number", "[I", true)
  | 13 => ("BargeWards$Town", "hungryDays", "[I", true)
  | 14 => ("BargeWards$Town", "hungryToday", "[Z", true)
  | _ => ("BargeWards$Town", "freeToday", "[I", true)
def tyX0 : Nat → FieldType := fun k => match k with
  | 0 => .int
  | 1 => .int
  | 2 => .int
  | 3 => .int
  | 4 => .array .int
  | 5 => .array .int
  | 6 => .int
  | 7 => .array .int
  | 8 => .array .int
  | 9 => .int
  | 10 => .array .int
  | 11 => .array .int
  | 12 => .array .int
  | 13 => .array .int
  | 14 => .array .boolean
  | _ => .array .int
abbrev wsX00 : List Cond := u_ws RX0 TX0 16
theorem nmX0 : ∀ a, a < 16 → ∀ b, b < 16 → a ≠ b → (TX0 a).2.1 ≠ (TX0 b).2.1 := by decide +kernel
theorem tyX0_ok : ∀ k, k < 16 → parseFieldDescriptor (TX0 k).2.2.1 = some (tyX0 k) := by decide +kernel
abbrev cX0_init : ByteArray := prog_2_method_1_code
def yX0_init : MethodName := ⟨RX0, "<init>", "()V"⟩
abbrev cX0_copyFrom : ByteArray := prog_2_method_2_code
def yX0_copyFrom : MethodName := ⟨RX0, "copyFrom", "(LBargeWards$Town;)V"⟩
abbrev cX0_openWard : ByteArray := prog_2_method_3_code
def yX0_openWard : MethodName := ⟨RX0, "openWard", "(I)I"⟩
abbrev cX0_openBarge : ByteArray := prog_2_method_4_code
def yX0_openBarge : MethodName := ⟨RX0, "openBarge", "(I)I"⟩
abbrev cX0_takeAboard : ByteArray := prog_2_method_5_code
def yX0_takeAboard : MethodName := ⟨RX0, "takeAboard", "(II)I"⟩
abbrev cX0_move : ByteArray := prog_2_method_6_code
def yX0_move : MethodName := ⟨RX0, "move", "(III)V"⟩
abbrev cX0_isAt : ByteArray := prog_2_method_7_code
def yX0_isAt : MethodName := ⟨RX0, "isAt", "(III)Z"⟩
abbrev cX0_numberOf : ByteArray := prog_2_method_8_code
def yX0_numberOf : MethodName := ⟨RX0, "numberOf", "(II)I"⟩
abbrev cX0_count : ByteArray := prog_2_method_9_code
def yX0_count : MethodName := ⟨RX0, "count", "(I)I"⟩
abbrev cX0_countAt : ByteArray := prog_2_method_10_code
def yX0_countAt : MethodName := ⟨RX0, "countAt", "(II)I"⟩
abbrev cX0_freeIn : ByteArray := prog_2_method_11_code
def yX0_freeIn : MethodName := ⟨RX0, "freeIn", "(I)I"⟩
abbrev cX0_feversInWard : ByteArray := prog_2_method_12_code
def yX0_feversInWard : MethodName := ⟨RX0, "feversInWard", "(I)I"⟩
abbrev cX0_highestFeverAboard : ByteArray := prog_2_method_13_code
def yX0_highestFeverAboard : MethodName := ⟨RX0, "highestFeverAboard", "(I)I"⟩
abbrev cX0_liveDays : ByteArray := prog_2_method_14_code
def yX0_liveDays : MethodName := ⟨RX0, "liveDays", "(I)V"⟩
abbrev cX0_giveBowls : ByteArray := prog_2_method_15_code
def yX0_giveBowls : MethodName := ⟨RX0, "giveBowls", "()V"⟩
abbrev cX0_changeFeversInWards : ByteArray := prog_2_method_16_code
def yX0_changeFeversInWards : MethodName := ⟨RX0, "changeFeversInWards", "()V"⟩
abbrev cX0_raiseFever : ByteArray := prog_2_method_17_code
def yX0_raiseFever : MethodName := ⟨RX0, "raiseFever", "(I)V"⟩
abbrev cX0_bringBargesNearer : ByteArray := prog_2_method_18_code
def yX0_bringBargesNearer : MethodName := ⟨RX0, "bringBargesNearer", "()V"⟩
abbrev cX0_spreadFever : ByteArray := prog_2_method_19_code
def yX0_spreadFever : MethodName := ⟨RX0, "spreadFever", "(I)V"⟩
abbrev cX0_countFeverish : ByteArray := prog_2_method_20_code
def yX0_countFeverish : MethodName := ⟨RX0, "countFeverish", "(I)I"⟩
abbrev cX0_ageStraw : ByteArray := prog_2_method_21_code
def yX0_ageStraw : MethodName := ⟨RX0, "ageStraw", "()V"⟩
abbrev cX0_leaveWards : ByteArray := prog_2_method_22_code
def yX0_leaveWards : MethodName := ⟨RX0, "leaveWards", "()V"⟩
abbrev cX0_landBarges : ByteArray := prog_2_method_23_code
def yX0_landBarges : MethodName := ⟨RX0, "landBarges", "()V"⟩
abbrev cX0_landAll : ByteArray := prog_2_method_24_code
def yX0_landAll : MethodName := ⟨RX0, "landAll", "(I)Z"⟩
abbrev cX0_takeFirstFreePlace : ByteArray := prog_2_method_25_code
def yX0_takeFirstFreePlace : MethodName := ⟨RX0, "takeFirstFreePlace", "()I"⟩
def RX1 : String := "BargeWards"
def TX1 : u_T := fun k => match k with
  | 0 => ("BargeWards", "town", "LBargeWards$Town;", true)
  | _ => ("BargeWards", "trial", "LBargeWards$Town;", true)
def tyX1 : Nat → FieldType := fun k => match k with
  | 0 => .object "BargeWards$Town"
  | _ => .object "BargeWards$Town"
abbrev wsX10 : List Cond := u_ws RX1 TX1 2
theorem nmX1 : ∀ a, a < 2 → ∀ b, b < 2 → a ≠ b → (TX1 a).2.1 ≠ (TX1 b).2.1 := by decide +kernel
theorem tyX1_ok : ∀ k, k < 2 → parseFieldDescriptor (TX1 k).2.2.1 = some (tyX1 k) := by decide +kernel
abbrev cX1_init : ByteArray := prog_1_method_1_code
def yX1_init : MethodName := ⟨RX1, "<init>", "()V"⟩
abbrev cX1_addWard : ByteArray := prog_1_method_2_code
def yX1_addWard : MethodName := ⟨RX1, "addWard", "(I)I"⟩
abbrev cX1_addBarge : ByteArray := prog_1_method_3_code
def yX1_addBarge : MethodName := ⟨RX1, "addBarge", "(I)I"⟩
abbrev cX1_board : ByteArray := prog_1_method_4_code
def yX1_board : MethodName := ⟨RX1, "board", "(II)I"⟩
abbrev cX1_setBowls : ByteArray := prog_1_method_5_code
def yX1_setBowls : MethodName := ⟨RX1, "setBowls", "(I)I"⟩
abbrev cX1_layStraw : ByteArray := prog_1_method_6_code
def yX1_layStraw : MethodName := ⟨RX1, "layStraw", "(I)I"⟩
abbrev cX1_carry : ByteArray := prog_1_method_7_code
def yX1_carry : MethodName := ⟨RX1, "carry", "(II)I"⟩
abbrev cX1_pass : ByteArray := prog_1_method_8_code
def yX1_pass : MethodName := ⟨RX1, "pass", "(I)I"⟩
abbrev cX1_feverOf : ByteArray := prog_1_method_9_code
def yX1_feverOf : MethodName := ⟨RX1, "feverOf", "(I)I"⟩
abbrev cX1_wardOf : ByteArray := prog_1_method_10_code
def yX1_wardOf : MethodName := ⟨RX1, "wardOf", "(I)I"⟩
abbrev cX1_bargeOf : ByteArray := prog_1_method_11_code
def yX1_bargeOf : MethodName := ⟨RX1, "bargeOf", "(I)I"⟩
abbrev cX1_isHome : ByteArray := prog_1_method_12_code
def yX1_isHome : MethodName := ⟨RX1, "isHome", "(I)Z"⟩
abbrev cX1_isInGreatHouse : ByteArray := prog_1_method_13_code
def yX1_isInGreatHouse : MethodName := ⟨RX1, "isInGreatHouse", "(I)Z"⟩
abbrev cX1_hungryDaysOf : ByteArray := prog_1_method_14_code
def yX1_hungryDaysOf : MethodName := ⟨RX1, "hungryDaysOf", "(I)I"⟩
abbrev cX1_placesOf : ByteArray := prog_1_method_15_code
def yX1_placesOf : MethodName := ⟨RX1, "placesOf", "(I)I"⟩
abbrev cX1_peopleIn : ByteArray := prog_1_method_16_code
def yX1_peopleIn : MethodName := ⟨RX1, "peopleIn", "(I)I"⟩
abbrev cX1_strawOf : ByteArray := prog_1_method_17_code
def yX1_strawOf : MethodName := ⟨RX1, "strawOf", "(I)I"⟩
abbrev cX1_feversIn : ByteArray := prog_1_method_18_code
def yX1_feversIn : MethodName := ⟨RX1, "feversIn", "(I)I"⟩
abbrev cX1_daysToGo : ByteArray := prog_1_method_19_code
def yX1_daysToGo : MethodName := ⟨RX1, "daysToGo", "(I)I"⟩
abbrev cX1_keptFor : ByteArray := prog_1_method_20_code
def yX1_keptFor : MethodName := ⟨RX1, "keptFor", "(I)I"⟩
abbrev cX1_peopleOn : ByteArray := prog_1_method_21_code
def yX1_peopleOn : MethodName := ⟨RX1, "peopleOn", "(I)I"⟩
abbrev cX1_highestFeverOn : ByteArray := prog_1_method_22_code
def yX1_highestFeverOn : MethodName := ⟨RX1, "highestFeverOn", "(I)I"⟩
abbrev cX1_day : ByteArray := prog_1_method_23_code
def yX1_day : MethodName := ⟨RX1, "day", "()I"⟩
abbrev cX1_wards : ByteArray := prog_1_method_24_code
def yX1_wards : MethodName := ⟨RX1, "wards", "()I"⟩
abbrev cX1_barges : ByteArray := prog_1_method_25_code
def yX1_barges : MethodName := ⟨RX1, "barges", "()I"⟩
abbrev cX1_people : ByteArray := prog_1_method_26_code
def yX1_people : MethodName := ⟨RX1, "people", "()I"⟩
abbrev cX1_bowls : ByteArray := prog_1_method_27_code
def yX1_bowls : MethodName := ⟨RX1, "bowls", "()I"⟩
abbrev cX1_freePlaces : ByteArray := prog_1_method_28_code
def yX1_freePlaces : MethodName := ⟨RX1, "freePlaces", "()I"⟩
abbrev cX1_bowlsShort : ByteArray := prog_1_method_29_code
def yX1_bowlsShort : MethodName := ⟨RX1, "bowlsShort", "()I"⟩
abbrev cX1_peopleHome : ByteArray := prog_1_method_30_code
def yX1_peopleHome : MethodName := ⟨RX1, "peopleHome", "()I"⟩
abbrev cX1_peopleInGreatHouse : ByteArray := prog_1_method_31_code
def yX1_peopleInGreatHouse : MethodName := ⟨RX1, "peopleInGreatHouse", "()I"⟩
abbrev cX1_bowlsEaten : ByteArray := prog_1_method_32_code
def yX1_bowlsEaten : MethodName := ⟨RX1, "bowlsEaten", "()I"⟩
abbrev cX1_daysUntilHome : ByteArray := prog_1_method_33_code
def yX1_daysUntilHome : MethodName := ⟨RX1, "daysUntilHome", "(I)I"⟩
abbrev cX1_homeAfter : ByteArray := prog_1_method_34_code
def yX1_homeAfter : MethodName := ⟨RX1, "homeAfter", "(I)I"⟩
abbrev cX1_greatHouseAfter : ByteArray := prog_1_method_35_code
def yX1_greatHouseAfter : MethodName := ⟨RX1, "greatHouseAfter", "(I)I"⟩
abbrev cX1_bestStraw : ByteArray := prog_1_method_36_code
def yX1_bestStraw : MethodName := ⟨RX1, "bestStraw", "(I)I"⟩
abbrev cX1_bowlsNeeded : ByteArray := prog_1_method_37_code
def yX1_bowlsNeeded : MethodName := ⟨RX1, "bowlsNeeded", "()I"⟩
abbrev cX1_meanFever : ByteArray := prog_1_method_38_code
def yX1_meanFever : MethodName := ⟨RX1, "meanFever", "()D"⟩
abbrev cX1_digest : ByteArray := prog_1_method_39_code
def yX1_digest : MethodName := ⟨RX1, "digest", "()J"⟩
abbrev cX1_digestWithWards : ByteArray := prog_1_method_40_code
def yX1_digestWithWards : MethodName := ⟨RX1, "digestWithWards", "(J)J"⟩
abbrev cX1_digestWithBarges : ByteArray := prog_1_method_41_code
def yX1_digestWithBarges : MethodName := ⟨RX1, "digestWithBarges", "(J)J"⟩
abbrev cX1_digestWithPeople : ByteArray := prog_1_method_42_code
def yX1_digestWithPeople : MethodName := ⟨RX1, "digestWithPeople", "(J)J"⟩
abbrev cX1_digestWith : ByteArray := prog_1_method_43_code
def yX1_digestWith : MethodName := ⟨RX1, "digestWith", "(JI)J"⟩
abbrev cX1_countBehind : ByteArray := prog_1_method_44_code
def yX1_countBehind : MethodName := ⟨RX1, "countBehind", "(II)I"⟩
abbrev cX1_homeWithFreshStraw : ByteArray := prog_1_method_45_code
def yX1_homeWithFreshStraw : MethodName := ⟨RX1, "homeWithFreshStraw", "(II)I"⟩
abbrev cX1_checkWard : ByteArray := prog_1_method_46_code
def yX1_checkWard : MethodName := ⟨RX1, "checkWard", "(I)V"⟩
abbrev cX1_checkBarge : ByteArray := prog_1_method_47_code
def yX1_checkBarge : MethodName := ⟨RX1, "checkBarge", "(I)V"⟩
abbrev cX1_checkPerson : ByteArray := prog_1_method_48_code
def yX1_checkPerson : MethodName := ⟨RX1, "checkPerson", "(I)V"⟩
abbrev cX1_checkDays : ByteArray := prog_1_method_49_code
def yX1_checkDays : MethodName := ⟨RX1, "checkDays", "(I)V"⟩
def RX2 : String := "BargeWardsModel$Town"
def TX2 : u_T := fun k => match k with
  | 0 => ("BargeWardsModel$Town", "day", "I", false)
  | 1 => ("BargeWardsModel$Town", "wards", "I", false)
  | 2 => ("BargeWardsModel$Town", "barges", "I", false)
  | 3 => ("BargeWardsModel$Town", "people", "I", false)
  | 4 => ("BargeWardsModel$Town", "bowls", "I", false)
  | 5 => ("BargeWardsModel$Town", "eaten", "I", false)
  | 6 => ("BargeWardsModel$Town", "places", "[I", true)
  | 7 => ("BargeWardsModel$Town", "straw", "[I", true)
  | 8 => ("BargeWardsModel$Town", "kept", "[I", true)
  | 9 => ("BargeWardsModel$Town", "toGo", "[I", true)
  | 10 => ("BargeWardsModel$Town", "fever", "[I", true)
  | 11 => ("BargeWardsModel$Town", "where", "[I", true)
  | _ => ("BargeWardsModel$Town", "hungry", "[I", true)
def tyX2 : Nat → FieldType := fun k => match k with
  | 0 => .int
  | 1 => .int
  | 2 => .int
  | 3 => .int
  | 4 => .int
  | 5 => .int
  | 6 => .array .int
  | 7 => .array .int
  | 8 => .array .int
  | 9 => .array .int
  | 10 => .array .int
  | 11 => .array .int
  | _ => .array .int
abbrev wsX20 : List Cond := u_ws RX2 TX2 13
theorem nmX2 : ∀ a, a < 13 → ∀ b, b < 13 → a ≠ b → (TX2 a).2.1 ≠ (TX2 b).2.1 := by decide +kernel
theorem tyX2_ok : ∀ k, k < 13 → parseFieldDescriptor (TX2 k).2.2.1 = some (tyX2 k) := by decide +kernel
abbrev cX2_init : ByteArray := prog_5_method_1_code
def yX2_init : MethodName := ⟨RX2, "<init>", "()V"⟩
abbrev cX2_copy : ByteArray := prog_5_method_2_code
def yX2_copy : MethodName := ⟨RX2, "copy", "([I[I)V"⟩
abbrev cX2_become : ByteArray := prog_5_method_3_code
def yX2_become : MethodName := ⟨RX2, "become", "(LBargeWardsModel$Town;)V"⟩
abbrev cX2_at : ByteArray := prog_5_method_4_code
def yX2_at : MethodName := ⟨RX2, "at", "(I)I"⟩
abbrev cX2_inWards : ByteArray := prog_5_method_5_code
def yX2_inWards : MethodName := ⟨RX2, "inWards", "()I"⟩
abbrev cX2_feed : ByteArray := prog_5_method_6_code
def yX2_feed : MethodName := ⟨RX2, "feed", "()V"⟩
abbrev cX2_keep : ByteArray := prog_5_method_7_code
def yX2_keep : MethodName := ⟨RX2, "keep", "(I)V"⟩
abbrev cX2_leaveWards : ByteArray := prog_5_method_8_code
def yX2_leaveWards : MethodName := ⟨RX2, "leaveWards", "()V"⟩
abbrev cX2_firstFree : ByteArray := prog_5_method_9_code
def yX2_firstFree : MethodName := ⟨RX2, "firstFree", "()I"⟩
abbrev cX2_land : ByteArray := prog_5_method_10_code
def yX2_land : MethodName := ⟨RX2, "land", "(I)V"⟩
abbrev cX2_pass : ByteArray := prog_5_method_11_code
def yX2_pass : MethodName := ⟨RX2, "pass", "()V"⟩
abbrev cX2_passOn : ByteArray := prog_5_method_12_code
def yX2_passOn : MethodName := ⟨RX2, "passOn", "(I)V"⟩
def RX3 : String := "BargeWardsModel"
def TX3 : u_T := fun k => match k with
  | 0 => ("BargeWardsModel", "thrown", "I", false)
  | 1 => ("BargeWardsModel", "t", "LBargeWardsModel$Town;", true)
  | _ => ("BargeWardsModel", "ahead", "LBargeWardsModel$Town;", true)
def tyX3 : Nat → FieldType := fun k => match k with
  | 0 => .int
  | 1 => .object "BargeWardsModel$Town"
  | _ => .object "BargeWardsModel$Town"
abbrev wsX30 : List Cond := u_ws RX3 TX3 3
theorem nmX3 : ∀ a, a < 3 → ∀ b, b < 3 → a ≠ b → (TX3 a).2.1 ≠ (TX3 b).2.1 := by decide +kernel
theorem tyX3_ok : ∀ k, k < 3 → parseFieldDescriptor (TX3 k).2.2.1 = some (tyX3 k) := by decide +kernel
abbrev cX3_init : ByteArray := prog_4_method_1_code
def yX3_init : MethodName := ⟨RX3, "<init>", "()V"⟩
abbrev cX3_thrown : ByteArray := prog_4_method_2_code
def yX3_thrown : MethodName := ⟨RX3, "thrown", "()I"⟩
abbrev cX3_no : ByteArray := prog_4_method_3_code
def yX3_no : MethodName := ⟨RX3, "no", "(I)I"⟩
abbrev cX3_isIn : ByteArray := prog_4_method_4_code
def yX3_isIn : MethodName := ⟨RX3, "isIn", "(III)Z"⟩
abbrev cX3_isWard : ByteArray := prog_4_method_5_code
def yX3_isWard : MethodName := ⟨RX3, "isWard", "(I)Z"⟩
abbrev cX3_isBarge : ByteArray := prog_4_method_6_code
def yX3_isBarge : MethodName := ⟨RX3, "isBarge", "(I)Z"⟩
abbrev cX3_isPerson : ByteArray := prog_4_method_7_code
def yX3_isPerson : MethodName := ⟨RX3, "isPerson", "(I)Z"⟩
abbrev cX3_addWard : ByteArray := prog_4_method_8_code
def yX3_addWard : MethodName := ⟨RX3, "addWard", "(I)I"⟩
abbrev cX3_addBarge : ByteArray := prog_4_method_9_code
def yX3_addBarge : MethodName := ⟨RX3, "addBarge", "(I)I"⟩
abbrev cX3_board : ByteArray := prog_4_method_10_code
def yX3_board : MethodName := ⟨RX3, "board", "(II)I"⟩
abbrev cX3_setBowls : ByteArray := prog_4_method_11_code
def yX3_setBowls : MethodName := ⟨RX3, "setBowls", "(I)I"⟩
abbrev cX3_layStraw : ByteArray := prog_4_method_12_code
def yX3_layStraw : MethodName := ⟨RX3, "layStraw", "(I)I"⟩
abbrev cX3_carry : ByteArray := prog_4_method_13_code
def yX3_carry : MethodName := ⟨RX3, "carry", "(II)I"⟩
abbrev cX3_pass : ByteArray := prog_4_method_14_code
def yX3_pass : MethodName := ⟨RX3, "pass", "(I)I"⟩
abbrev cX3_wardTold : ByteArray := prog_4_method_15_code
def yX3_wardTold : MethodName := ⟨RX3, "wardTold", "(I)I"⟩
abbrev cX3_bargeTold : ByteArray := prog_4_method_16_code
def yX3_bargeTold : MethodName := ⟨RX3, "bargeTold", "(I)I"⟩
abbrev cX3_feverOf : ByteArray := prog_4_method_17_code
def yX3_feverOf : MethodName := ⟨RX3, "feverOf", "(I)I"⟩
abbrev cX3_wardOf : ByteArray := prog_4_method_18_code
def yX3_wardOf : MethodName := ⟨RX3, "wardOf", "(I)I"⟩
abbrev cX3_bargeOf : ByteArray := prog_4_method_19_code
def yX3_bargeOf : MethodName := ⟨RX3, "bargeOf", "(I)I"⟩
abbrev cX3_isHome : ByteArray := prog_4_method_20_code
def yX3_isHome : MethodName := ⟨RX3, "isHome", "(I)Z"⟩
abbrev cX3_isInGreatHouse : ByteArray := prog_4_method_21_code
def yX3_isInGreatHouse : MethodName := ⟨RX3, "isInGreatHouse", "(I)Z"⟩
abbrev cX3_hungryDaysOf : ByteArray := prog_4_method_22_code
def yX3_hungryDaysOf : MethodName := ⟨RX3, "hungryDaysOf", "(I)I"⟩
abbrev cX3_feversAt : ByteArray := prog_4_method_23_code
def yX3_feversAt : MethodName := ⟨RX3, "feversAt", "(I)I"⟩
abbrev cX3_placesOf : ByteArray := prog_4_method_24_code
def yX3_placesOf : MethodName := ⟨RX3, "placesOf", "(I)I"⟩
abbrev cX3_peopleIn : ByteArray := prog_4_method_25_code
def yX3_peopleIn : MethodName := ⟨RX3, "peopleIn", "(I)I"⟩
abbrev cX3_strawOf : ByteArray := prog_4_method_26_code
def yX3_strawOf : MethodName := ⟨RX3, "strawOf", "(I)I"⟩
abbrev cX3_feversIn : ByteArray := prog_4_method_27_code
def yX3_feversIn : MethodName := ⟨RX3, "feversIn", "(I)I"⟩
abbrev cX3_daysToGo : ByteArray := prog_4_method_28_code
def yX3_daysToGo : MethodName := ⟨RX3, "daysToGo", "(I)I"⟩
abbrev cX3_keptFor : ByteArray := prog_4_method_29_code
def yX3_keptFor : MethodName := ⟨RX3, "keptFor", "(I)I"⟩
abbrev cX3_peopleOn : ByteArray := prog_4_method_30_code
def yX3_peopleOn : MethodName := ⟨RX3, "peopleOn", "(I)I"⟩
abbrev cX3_highestFeverOn : ByteArray := prog_4_method_31_code
def yX3_highestFeverOn : MethodName := ⟨RX3, "highestFeverOn", "(I)I"⟩
abbrev cX3_day : ByteArray := prog_4_method_32_code
def yX3_day : MethodName := ⟨RX3, "day", "()I"⟩
abbrev cX3_wards : ByteArray := prog_4_method_33_code
def yX3_wards : MethodName := ⟨RX3, "wards", "()I"⟩
abbrev cX3_barges : ByteArray := prog_4_method_34_code
def yX3_barges : MethodName := ⟨RX3, "barges", "()I"⟩
abbrev cX3_people : ByteArray := prog_4_method_35_code
def yX3_people : MethodName := ⟨RX3, "people", "()I"⟩
abbrev cX3_bowls : ByteArray := prog_4_method_36_code
def yX3_bowls : MethodName := ⟨RX3, "bowls", "()I"⟩
abbrev cX3_freePlaces : ByteArray := prog_4_method_37_code
def yX3_freePlaces : MethodName := ⟨RX3, "freePlaces", "()I"⟩
abbrev cX3_bowlsShort : ByteArray := prog_4_method_38_code
def yX3_bowlsShort : MethodName := ⟨RX3, "bowlsShort", "()I"⟩
abbrev cX3_peopleHome : ByteArray := prog_4_method_39_code
def yX3_peopleHome : MethodName := ⟨RX3, "peopleHome", "()I"⟩
abbrev cX3_peopleInGreatHouse : ByteArray := prog_4_method_40_code
def yX3_peopleInGreatHouse : MethodName := ⟨RX3, "peopleInGreatHouse", "()I"⟩
abbrev cX3_bowlsEaten : ByteArray := prog_4_method_41_code
def yX3_bowlsEaten : MethodName := ⟨RX3, "bowlsEaten", "()I"⟩
abbrev cX3_daysUntilHome : ByteArray := prog_4_method_42_code
def yX3_daysUntilHome : MethodName := ⟨RX3, "daysUntilHome", "(I)I"⟩
abbrev cX3_after : ByteArray := prog_4_method_43_code
def yX3_after : MethodName := ⟨RX3, "after", "(II)I"⟩
abbrev cX3_homeAfter : ByteArray := prog_4_method_44_code
def yX3_homeAfter : MethodName := ⟨RX3, "homeAfter", "(I)I"⟩
abbrev cX3_greatHouseAfter : ByteArray := prog_4_method_45_code
def yX3_greatHouseAfter : MethodName := ⟨RX3, "greatHouseAfter", "(I)I"⟩
abbrev cX3_bestStraw : ByteArray := prog_4_method_46_code
def yX3_bestStraw : MethodName := ⟨RX3, "bestStraw", "(I)I"⟩
abbrev cX3_bowlsNeeded : ByteArray := prog_4_method_47_code
def yX3_bowlsNeeded : MethodName := ⟨RX3, "bowlsNeeded", "()I"⟩
abbrev cX3_meanFever : ByteArray := prog_4_method_48_code
def yX3_meanFever : MethodName := ⟨RX3, "meanFever", "()D"⟩
abbrev cX3_digest : ByteArray := prog_4_method_49_code
def yX3_digest : MethodName := ⟨RX3, "digest", "()J"⟩
def RJ9 : String := "java/lang/Math"
def TJ9 : u_T := fun k => match k with
  | _ => ("", "", "", false)
def tyJ9 : Nat → FieldType := fun k => match k with
  | _ => .int
abbrev wsJ90 : List Cond := u_ws RJ9 TJ9 0
theorem nmJ9 : ∀ a, a < 0 → ∀ b, b < 0 → a ≠ b → (TJ9 a).2.1 ≠ (TJ9 b).2.1 := by decide +kernel
theorem tyJ9_ok : ∀ k, k < 0 → parseFieldDescriptor (TJ9 k).2.2.1 = some (tyJ9 k) := by decide +kernel
abbrev cJ9_max_7cf53 : ByteArray := prog_10_method_65_code
def yJ9_max_7cf53 : MethodName := ⟨RJ9, "max", "(II)I"⟩
abbrev cJ9_min_7cf53 : ByteArray := prog_10_method_69_code
def yJ9_min_7cf53 : MethodName := ⟨RJ9, "min", "(II)I"⟩
def RJ0 : String := "java/lang/String"
def TJ0 : u_T := fun k => match k with
  | _ => ("", "", "", false)
def tyJ0 : Nat → FieldType := fun k => match k with
  | _ => .int
abbrev wsJ00 : List Cond := u_ws RJ0 TJ0 0
theorem nmJ0 : ∀ a, a < 0 → ∀ b, b < 0 → a ≠ b → (TJ0 a).2.1 ≠ (TJ0 b).2.1 := by decide +kernel
theorem tyJ0_ok : ∀ k, k < 0 → parseFieldDescriptor (TJ0 k).2.2.1 = some (tyJ0 k) := by decide +kernel
def RJ10 : String := "java/lang/System"
def TJ10 : u_T := fun k => match k with
  | _ => ("", "", "", false)
def tyJ10 : Nat → FieldType := fun k => match k with
  | _ => .int
abbrev wsJ100 : List Cond := u_ws RJ10 TJ10 0
theorem nmJ10 : ∀ a, a < 0 → ∀ b, b < 0 → a ≠ b → (TJ10 a).2.1 ≠ (TJ10 b).2.1 := by decide +kernel
theorem tyJ10_ok : ∀ k, k < 0 → parseFieldDescriptor (TJ10 k).2.2.1 = some (tyJ10 k) := by decide +kernel
def RL : String := "BargeWardsLaw"
abbrev cL_addWard : ByteArray := method_3_code
def yL_addWard : MethodName := ⟨RL, "addWard", "(LBargeWards;I[J)I"⟩
abbrev cL_addBarge : ByteArray := method_4_code
def yL_addBarge : MethodName := ⟨RL, "addBarge", "(LBargeWards;I[J)I"⟩
abbrev cL_board : ByteArray := method_5_code
def yL_board : MethodName := ⟨RL, "board", "(LBargeWards;II[J)I"⟩
abbrev cL_setBowls : ByteArray := method_6_code
def yL_setBowls : MethodName := ⟨RL, "setBowls", "(LBargeWards;I[J)I"⟩
abbrev cL_layStraw : ByteArray := method_7_code
def yL_layStraw : MethodName := ⟨RL, "layStraw", "(LBargeWards;I[J)I"⟩
abbrev cL_carry : ByteArray := method_8_code
def yL_carry : MethodName := ⟨RL, "carry", "(LBargeWards;II[J)I"⟩
abbrev cL_pass : ByteArray := method_9_code
def yL_pass : MethodName := ⟨RL, "pass", "(LBargeWards;I[J)I"⟩
abbrev cL_feverOf : ByteArray := method_10_code
def yL_feverOf : MethodName := ⟨RL, "feverOf", "(LBargeWards;I[J)I"⟩
abbrev cL_wardOf : ByteArray := method_11_code
def yL_wardOf : MethodName := ⟨RL, "wardOf", "(LBargeWards;I[J)I"⟩
abbrev cL_bargeOf : ByteArray := method_12_code
def yL_bargeOf : MethodName := ⟨RL, "bargeOf", "(LBargeWards;I[J)I"⟩
abbrev cL_isHome : ByteArray := method_13_code
def yL_isHome : MethodName := ⟨RL, "isHome", "(LBargeWards;I[J)I"⟩
abbrev cL_isInGreatHouse : ByteArray := method_14_code
def yL_isInGreatHouse : MethodName := ⟨RL, "isInGreatHouse", "(LBargeWards;I[J)I"⟩
abbrev cL_hungryDaysOf : ByteArray := method_15_code
def yL_hungryDaysOf : MethodName := ⟨RL, "hungryDaysOf", "(LBargeWards;I[J)I"⟩
abbrev cL_placesOf : ByteArray := method_16_code
def yL_placesOf : MethodName := ⟨RL, "placesOf", "(LBargeWards;I[J)I"⟩
abbrev cL_peopleIn : ByteArray := method_17_code
def yL_peopleIn : MethodName := ⟨RL, "peopleIn", "(LBargeWards;I[J)I"⟩
abbrev cL_strawOf : ByteArray := method_18_code
def yL_strawOf : MethodName := ⟨RL, "strawOf", "(LBargeWards;I[J)I"⟩
abbrev cL_feversIn : ByteArray := method_19_code
def yL_feversIn : MethodName := ⟨RL, "feversIn", "(LBargeWards;I[J)I"⟩
abbrev cL_daysToGo : ByteArray := method_20_code
def yL_daysToGo : MethodName := ⟨RL, "daysToGo", "(LBargeWards;I[J)I"⟩
abbrev cL_keptFor : ByteArray := method_21_code
def yL_keptFor : MethodName := ⟨RL, "keptFor", "(LBargeWards;I[J)I"⟩
abbrev cL_peopleOn : ByteArray := method_22_code
def yL_peopleOn : MethodName := ⟨RL, "peopleOn", "(LBargeWards;I[J)I"⟩
abbrev cL_highestFeverOn : ByteArray := method_23_code
def yL_highestFeverOn : MethodName := ⟨RL, "highestFeverOn", "(LBargeWards;I[J)I"⟩
abbrev cL_daysUntilHome : ByteArray := method_24_code
def yL_daysUntilHome : MethodName := ⟨RL, "daysUntilHome", "(LBargeWards;I[J)I"⟩
abbrev cL_homeAfter : ByteArray := method_25_code
def yL_homeAfter : MethodName := ⟨RL, "homeAfter", "(LBargeWards;I[J)I"⟩
abbrev cL_greatHouseAfter : ByteArray := method_26_code
def yL_greatHouseAfter : MethodName := ⟨RL, "greatHouseAfter", "(LBargeWards;I[J)I"⟩
abbrev cL_bestStraw : ByteArray := method_27_code
def yL_bestStraw : MethodName := ⟨RL, "bestStraw", "(LBargeWards;I[J)I"⟩
abbrev cL_law : ByteArray := code
def yL_law : MethodName := ⟨RL, "law", "([I)Z"⟩
def wsX0_init : List Cond := .code yX0_init cX0_init 1 none :: ([.methodLink RX0 3 objectInit, .instanceMethod objectInit, .code objectInit ⟨#[0xb1]⟩ 1 none, .fieldLink RX0 9 "BargeWards$Town" "bowls" "I", .arrayClass .int, .fieldLink RX0 15 "BargeWards$Town" "places" "[I", .fieldLink RX0 19 "BargeWards$Town" "straw" "[I", .fieldLink RX0 22 "BargeWards$Town" "kept" "[I", .fieldLink RX0 25 "BargeWards$Town" "toGo" "[I", .fieldLink RX0 28 "BargeWards$Town" "fever" "[I", .fieldLink RX0 31 "BargeWards$Town" "where" "[I", .fieldLink RX0 34 "BargeWards$Town" "number" "[I", .fieldLink RX0 37 "BargeWards$Town" "hungryDays" "[I", .arrayClass .boolean, .fieldLink RX0 40 "BargeWards$Town" "hungryToday" "[Z", .fieldLink RX0 44 "BargeWards$Town" "freeToday" "[I"] ++ wsX00)
def wsX0_copyFrom : List Cond := .code yX0_copyFrom cX0_copyFrom 2 none :: ([.fieldLink RX0 47 "BargeWards$Town" "day" "I", .fieldLink RX0 9 "BargeWards$Town" "bowls" "I", .fieldLink RX0 50 "BargeWards$Town" "bowlsEaten" "I", .fieldLink RX0 53 "BargeWards$Town" "wards" "I", .fieldLink RX0 56 "BargeWards$Town" "barges" "I", .fieldLink RX0 59 "BargeWards$Town" "people" "I", .fieldLink RX0 15 "BargeWards$Town" "places" "[I", .methodLink RX0 62 arraycopyName, .native arraycopyName, .static arraycopyName, .initialized "java/lang/System", .fieldLink RX0 19 "BargeWards$Town" "straw" "[I", .fieldLink RX0 22 "BargeWards$Town" "kept" "[I", .fieldLink RX0 25 "BargeWards$Town" "toGo" "[I", .fieldLink RX0 28 "BargeWards$Town" "fever" "[I", .fieldLink RX0 31 "BargeWards$Town" "where" "[I", .fieldLink RX0 34 "BargeWards$Town" "number" "[I", .fieldLink RX0 37 "BargeWards$Town" "hungryDays" "[I"] ++ wsX00)
def wsX0_openWard : List Cond := .code yX0_openWard cX0_openWard 3 (some .int) :: ([.fieldLink RX0 53 "BargeWards$Town" "wards" "I", .fieldLink RX0 15 "BargeWards$Town" "places" "[I"] ++ wsX00)
def wsX0_openBarge : List Cond := .code yX0_openBarge cX0_openBarge 3 (some .int) :: ([.fieldLink RX0 56 "BargeWards$Town" "barges" "I", .fieldLink RX0 22 "BargeWards$Town" "kept" "[I", .fieldLink RX0 25 "BargeWards$Town" "toGo" "[I"] ++ wsX00)
def wsX0_move : List Cond := .code yX0_move cX0_move 4 none :: ([.fieldLink RX0 31 "BargeWards$Town" "where" "[I", .fieldLink RX0 34 "BargeWards$Town" "number" "[I"] ++ wsX00)
def wsX0_takeAboard : List Cond := .code yX0_takeAboard cX0_takeAboard 4 (some .int) :: ([.fieldLink RX0 59 "BargeWards$Town" "people" "I", .fieldLink RX0 28 "BargeWards$Town" "fever" "[I", .fieldLink RX0 25 "BargeWards$Town" "toGo" "[I", .fieldLink RX0 22 "BargeWards$Town" "kept" "[I", .methodLink RX0 68 yX0_move, .instanceMethod yX0_move, .selects RX0 yX0_move yX0_move, .initialized RX0, .code yX0_move cX0_move 4 none, .fieldLink RX0 31 "BargeWards$Town" "where" "[I", .fieldLink RX0 34 "BargeWards$Town" "number" "[I"] ++ wsX00)
def wsX0_isAt : List Cond := .code yX0_isAt cX0_isAt 4 (some .boolean) :: ([.fieldLink RX0 31 "BargeWards$Town" "where" "[I", .fieldLink RX0 34 "BargeWards$Town" "number" "[I"] ++ wsX00)
def wsX0_numberOf : List Cond := .code yX0_numberOf cX0_numberOf 3 (some .int) :: ([.fieldLink RX0 31 "BargeWards$Town" "where" "[I", .fieldLink RX0 34 "BargeWards$Town" "number" "[I"] ++ wsX00)
def wsX0_count : List Cond := .code yX0_count cX0_count 4 (some .int) :: ([.fieldLink RX0 59 "BargeWards$Town" "people" "I", .fieldLink RX0 31 "BargeWards$Town" "where" "[I"] ++ wsX00)
def wsX0_countAt : List Cond := .code yX0_countAt cX0_countAt 5 (some .int) :: ([.fieldLink RX0 59 "BargeWards$Town" "people" "I", .methodLink RX0 72 yX0_isAt, .instanceMethod yX0_isAt, .selects RX0 yX0_isAt yX0_isAt, .initialized RX0, .code yX0_isAt cX0_isAt 4 (some .boolean), .fieldLink RX0 31 "BargeWards$Town" "where" "[I", .fieldLink RX0 34 "BargeWards$Town" "number" "[I"] ++ wsX00)
def wsX0_freeIn : List Cond := .code yX0_freeIn cX0_freeIn 2 (some .int) :: ([.fieldLink RX0 15 "BargeWards$Town" "places" "[I", .methodLink RX0 76 yX0_countAt, .instanceMethod yX0_countAt, .selects RX0 yX0_countAt yX0_countAt, .initialized RX0, .code yX0_countAt cX0_countAt 5 (some .int), .fieldLink RX0 59 "BargeWards$Town" "people" "I", .methodLink RX0 72 yX0_isAt, .instanceMethod yX0_isAt, .selects RX0 yX0_isAt yX0_isAt, .code yX0_isAt cX0_isAt 4 (some .boolean), .fieldLink RX0 31 "BargeWards$Town" "where" "[I", .fieldLink RX0 34 "BargeWards$Town" "number" "[I"] ++ wsX00)
def wsX0_feversInWard : List Cond := .code yX0_feversInWard cX0_feversInWard 4 (some .int) :: ([.fieldLink RX0 59 "BargeWards$Town" "people" "I", .fieldLink RX0 28 "BargeWards$Town" "fever" "[I", .methodLink RX0 72 yX0_isAt, .instanceMethod yX0_isAt, .selects RX0 yX0_isAt yX0_isAt, .initialized RX0, .code yX0_isAt cX0_isAt 4 (some .boolean), .fieldLink RX0 31 "BargeWards$Town" "where" "[I", .fieldLink RX0 34 "BargeWards$Town" "number" "[I"] ++ wsX00)
def wsX0_highestFeverAboard : List Cond := .code yX0_highestFeverAboard cX0_highestFeverAboard 4 (some .int) :: ([.fieldLink RX0 59 "BargeWards$Town" "people" "I", .fieldLink RX0 28 "BargeWards$Town" "fever" "[I", .methodLink RX0 80 Lib.Math.max.name, .static Lib.Math.max.name, .initialized "java/lang/Math", .code Lib.Math.max.name Lib.Math.max.code 2 (some .int), .methodLink RX0 72 yX0_isAt, .instanceMethod yX0_isAt, .selects RX0 yX0_isAt yX0_isAt, .initialized RX0, .code yX0_isAt cX0_isAt 4 (some .boolean), .fieldLink RX0 31 "BargeWards$Town" "where" "[I", .fieldLink RX0 34 "BargeWards$Town" "number" "[I"] ++ wsX00)
def wsX0_giveBowls : List Cond := .code yX0_giveBowls cX0_giveBowls 4 none :: ([.fieldLink RX0 9 "BargeWards$Town" "bowls" "I", .fieldLink RX0 53 "BargeWards$Town" "wards" "I", .fieldLink RX0 59 "BargeWards$Town" "people" "I", .fieldLink RX0 40 "BargeWards$Town" "hungryToday" "[Z", .fieldLink RX0 37 "BargeWards$Town" "hungryDays" "[I", .fieldLink RX0 50 "BargeWards$Town" "bowlsEaten" "I", .methodLink RX0 72 yX0_isAt, .instanceMethod yX0_isAt, .selects RX0 yX0_isAt yX0_isAt, .initialized RX0, .code yX0_isAt cX0_isAt 4 (some .boolean), .fieldLink RX0 31 "BargeWards$Town" "where" "[I", .fieldLink RX0 34 "BargeWards$Town" "number" "[I"] ++ wsX00)
def wsX0_raiseFever : List Cond := .code yX0_raiseFever cX0_raiseFever 2 none :: ([.fieldLink RX0 28 "BargeWards$Town" "fever" "[I", .methodLink RX0 107 Lib.Math.min.name, .static Lib.Math.min.name, .initialized "java/lang/Math", .code Lib.Math.min.name Lib.Math.min.code 2 (some .int)] ++ wsX00)
def wsX0_changeFeversInWards : List Cond := .code yX0_changeFeversInWards cX0_changeFeversInWards 4 none :: ([.fieldLink RX0 53 "BargeWards$Town" "wards" "I", .fieldLink RX0 19 "BargeWards$Town" "straw" "[I", .fieldLink RX0 59 "BargeWards$Town" "people" "I", .fieldLink RX0 40 "BargeWards$Town" "hungryToday" "[Z", .fieldLink RX0 28 "BargeWards$Town" "fever" "[I", .methodLink RX0 80 Lib.Math.max.name, .static Lib.Math.max.name, .initialized "java/lang/Math", .code Lib.Math.max.name Lib.Math.max.code 2 (some .int), .methodLink RX0 72 yX0_isAt, .instanceMethod yX0_isAt, .selects RX0 yX0_isAt yX0_isAt, .initialized RX0, .code yX0_isAt cX0_isAt 4 (some .boolean), .fieldLink RX0 31 "BargeWards$Town" "where" "[I", .fieldLink RX0 34 "BargeWards$Town" "number" "[I", .methodLink RX0 103 yX0_raiseFever, .instanceMethod yX0_raiseFever, .selects RX0 yX0_raiseFever yX0_raiseFever, .code yX0_raiseFever cX0_raiseFever 2 none, .methodLink RX0 107 Lib.Math.min.name, .static Lib.Math.min.name, .code Lib.Math.min.name Lib.Math.min.code 2 (some .int)] ++ wsX00)
def wsX0_countFeverish : List Cond := .code yX0_countFeverish cX0_countFeverish 4 (some .int) :: ([.fieldLink RX0 59 "BargeWards$Town" "people" "I", .fieldLink RX0 28 "BargeWards$Town" "fever" "[I", .methodLink RX0 72 yX0_isAt, .instanceMethod yX0_isAt, .selects RX0 yX0_isAt yX0_isAt, .initialized RX0, .code yX0_isAt cX0_isAt 4 (some .boolean), .fieldLink RX0 31 "BargeWards$Town" "where" "[I", .fieldLink RX0 34 "BargeWards$Town" "number" "[I"] ++ wsX00)
def wsX0_spreadFever : List Cond := .code yX0_spreadFever cX0_spreadFever 5 none :: ([.fieldLink RX0 59 "BargeWards$Town" "people" "I", .fieldLink RX0 28 "BargeWards$Town" "fever" "[I", .methodLink RX0 113 yX0_countFeverish, .instanceMethod yX0_countFeverish, .selects RX0 yX0_countFeverish yX0_countFeverish, .initialized RX0, .code yX0_countFeverish cX0_countFeverish 4 (some .int), .methodLink RX0 72 yX0_isAt, .instanceMethod yX0_isAt, .selects RX0 yX0_isAt yX0_isAt, .code yX0_isAt cX0_isAt 4 (some .boolean), .fieldLink RX0 31 "BargeWards$Town" "where" "[I", .fieldLink RX0 34 "BargeWards$Town" "number" "[I", .methodLink RX0 103 yX0_raiseFever, .instanceMethod yX0_raiseFever, .selects RX0 yX0_raiseFever yX0_raiseFever, .code yX0_raiseFever cX0_raiseFever 2 none, .methodLink RX0 107 Lib.Math.min.name, .static Lib.Math.min.name, .initialized "java/lang/Math", .code Lib.Math.min.name Lib.Math.min.code 2 (some .int)] ++ wsX00)
def wsX0_bringBargesNearer_r1 : List Cond := [Cond.fieldLink RX0 56 "BargeWards$Town" "barges" "I", Cond.fieldLink RX0 25 "BargeWards$Town" "toGo" "[I", Cond.methodLink RX0 110 yX0_spreadFever, Cond.instanceMethod yX0_spreadFever, Cond.selects RX0 yX0_spreadFever yX0_spreadFever, Cond.initialized RX0, Cond.code yX0_spreadFever cX0_spreadFever 5 none, Cond.fieldLink RX0 59 "BargeWards$Town" "people" "I", Cond.fieldLink RX0 28 "BargeWards$Town" "fever" "[I", Cond.methodLink RX0 113 yX0_countFeverish, Cond.instanceMethod yX0_countFeverish, Cond.selects RX0 yX0_countFeverish yX0_countFeverish, Cond.code yX0_countFeverish cX0_countFeverish 4 (some .int), Cond.methodLink RX0 72 yX0_isAt, Cond.instanceMethod yX0_isAt, Cond.selects RX0 yX0_isAt yX0_isAt, Cond.code yX0_isAt cX0_isAt 4 (some .boolean), Cond.fieldLink RX0 31 "BargeWards$Town" "where" "[I", Cond.fieldLink RX0 34 "BargeWards$Town" "number" "[I", Cond.methodLink RX0 103 yX0_raiseFever, Cond.instanceMethod yX0_raiseFever, Cond.selects RX0 yX0_raiseFever yX0_raiseFever, Cond.code yX0_raiseFever cX0_raiseFever 2 none, Cond.methodLink RX0 107 Lib.Math.min.name]
def wsX0_bringBargesNearer_r2 : List Cond := [Cond.static Lib.Math.min.name, Cond.initialized "java/lang/Math", Cond.code Lib.Math.min.name Lib.Math.min.code 2 (some .int)]
def wsX0_bringBargesNearer : List Cond := .code yX0_bringBargesNearer cX0_bringBargesNearer 2 none :: ((wsX0_bringBargesNearer_r1 ++ wsX0_bringBargesNearer_r2) ++ wsX00)
def wsX0_ageStraw : List Cond := .code yX0_ageStraw cX0_ageStraw 2 none :: ([.fieldLink RX0 53 "BargeWards$Town" "wards" "I", .fieldLink RX0 19 "BargeWards$Town" "straw" "[I"] ++ wsX00)
def wsX0_leaveWards : List Cond := .code yX0_leaveWards cX0_leaveWards 2 none :: ([.fieldLink RX0 59 "BargeWards$Town" "people" "I", .fieldLink RX0 31 "BargeWards$Town" "where" "[I", .fieldLink RX0 28 "BargeWards$Town" "fever" "[I", .methodLink RX0 68 yX0_move, .instanceMethod yX0_move, .selects RX0 yX0_move yX0_move, .initialized RX0, .code yX0_move cX0_move 4 none, .fieldLink RX0 34 "BargeWards$Town" "number" "[I"] ++ wsX00)
def wsX0_takeFirstFreePlace : List Cond := .code yX0_takeFirstFreePlace cX0_takeFirstFreePlace 2 (some .int) :: ([.fieldLink RX0 53 "BargeWards$Town" "wards" "I", .fieldLink RX0 44 "BargeWards$Town" "freeToday" "[I"] ++ wsX00)
def wsX0_landAll : List Cond := .code yX0_landAll cX0_landAll 5 (some .boolean) :: ([.fieldLink RX0 59 "BargeWards$Town" "people" "I", .fieldLink RX0 28 "BargeWards$Town" "fever" "[I", .methodLink RX0 72 yX0_isAt, .instanceMethod yX0_isAt, .selects RX0 yX0_isAt yX0_isAt, .initialized RX0, .code yX0_isAt cX0_isAt 4 (some .boolean), .fieldLink RX0 31 "BargeWards$Town" "where" "[I", .fieldLink RX0 34 "BargeWards$Town" "number" "[I", .methodLink RX0 68 yX0_move, .instanceMethod yX0_move, .selects RX0 yX0_move yX0_move, .code yX0_move cX0_move 4 none, .methodLink RX0 124 yX0_takeFirstFreePlace, .instanceMethod yX0_takeFirstFreePlace, .selects RX0 yX0_takeFirstFreePlace yX0_takeFirstFreePlace, .code yX0_takeFirstFreePlace cX0_takeFirstFreePlace 2 (some .int), .fieldLink RX0 53 "BargeWards$Town" "wards" "I", .fieldLink RX0 44 "BargeWards$Town" "freeToday" "[I"] ++ wsX00)
def wsX0_landBarges_r1 : List Cond := [Cond.fieldLink RX0 53 "BargeWards$Town" "wards" "I", Cond.fieldLink RX0 44 "BargeWards$Town" "freeToday" "[I", Cond.fieldLink RX0 56 "BargeWards$Town" "barges" "I", Cond.fieldLink RX0 25 "BargeWards$Town" "toGo" "[I", Cond.fieldLink RX0 22 "BargeWards$Town" "kept" "[I", Cond.methodLink RX0 117 yX0_freeIn, Cond.instanceMethod yX0_freeIn, Cond.selects RX0 yX0_freeIn yX0_freeIn, Cond.initialized RX0, Cond.code yX0_freeIn cX0_freeIn 2 (some .int), Cond.fieldLink RX0 15 "BargeWards$Town" "places" "[I", Cond.methodLink RX0 76 yX0_countAt, Cond.instanceMethod yX0_countAt, Cond.selects RX0 yX0_countAt yX0_countAt, Cond.code yX0_countAt cX0_countAt 5 (some .int), Cond.fieldLink RX0 59 "BargeWards$Town" "people" "I", Cond.methodLink RX0 72 yX0_isAt, Cond.instanceMethod yX0_isAt, Cond.selects RX0 yX0_isAt yX0_isAt, Cond.code yX0_isAt cX0_isAt 4 (some .boolean), Cond.fieldLink RX0 31 "BargeWards$Town" "where" "[I", Cond.fieldLink RX0 34 "BargeWards$Town" "number" "[I", Cond.methodLink RX0 120 yX0_landAll, Cond.instanceMethod yX0_landAll]
def wsX0_landBarges_r2 : List Cond := [Cond.selects RX0 yX0_landAll yX0_landAll, Cond.code yX0_landAll cX0_landAll 5 (some .boolean), Cond.fieldLink RX0 28 "BargeWards$Town" "fever" "[I", Cond.methodLink RX0 68 yX0_move, Cond.instanceMethod yX0_move, Cond.selects RX0 yX0_move yX0_move, Cond.code yX0_move cX0_move 4 none, Cond.methodLink RX0 124 yX0_takeFirstFreePlace, Cond.instanceMethod yX0_takeFirstFreePlace, Cond.selects RX0 yX0_takeFirstFreePlace yX0_takeFirstFreePlace, Cond.code yX0_takeFirstFreePlace cX0_takeFirstFreePlace 2 (some .int)]
def wsX0_landBarges : List Cond := .code yX0_landBarges cX0_landBarges 2 none :: ((wsX0_landBarges_r1 ++ wsX0_landBarges_r2) ++ wsX00)
def wsX0_liveDays_r1 : List Cond := [Cond.fieldLink RX0 47 "BargeWards$Town" "day" "I", Cond.methodLink RX0 85 yX0_giveBowls, Cond.instanceMethod yX0_giveBowls, Cond.selects RX0 yX0_giveBowls yX0_giveBowls, Cond.initialized RX0, Cond.code yX0_giveBowls cX0_giveBowls 4 none, Cond.fieldLink RX0 9 "BargeWards$Town" "bowls" "I", Cond.fieldLink RX0 53 "BargeWards$Town" "wards" "I", Cond.fieldLink RX0 59 "BargeWards$Town" "people" "I", Cond.fieldLink RX0 40 "BargeWards$Town" "hungryToday" "[Z", Cond.fieldLink RX0 37 "BargeWards$Town" "hungryDays" "[I", Cond.fieldLink RX0 50 "BargeWards$Town" "bowlsEaten" "I", Cond.methodLink RX0 72 yX0_isAt, Cond.instanceMethod yX0_isAt, Cond.selects RX0 yX0_isAt yX0_isAt, Cond.code yX0_isAt cX0_isAt 4 (some .boolean), Cond.fieldLink RX0 31 "BargeWards$Town" "where" "[I", Cond.fieldLink RX0 34 "BargeWards$Town" "number" "[I", Cond.methodLink RX0 88 yX0_changeFeversInWards, Cond.instanceMethod yX0_changeFeversInWards, Cond.selects RX0 yX0_changeFeversInWards yX0_changeFeversInWards, Cond.code yX0_changeFeversInWards cX0_changeFeversInWards 4 none, Cond.fieldLink RX0 19 "BargeWards$Town" "straw" "[I", Cond.fieldLink RX0 28 "BargeWards$Town" "fever" "[I"]
def wsX0_liveDays_r2 : List Cond := [Cond.methodLink RX0 80 Lib.Math.max.name, Cond.static Lib.Math.max.name, Cond.initialized "java/lang/Math", Cond.code Lib.Math.max.name Lib.Math.max.code 2 (some .int), Cond.methodLink RX0 103 yX0_raiseFever, Cond.instanceMethod yX0_raiseFever, Cond.selects RX0 yX0_raiseFever yX0_raiseFever, Cond.code yX0_raiseFever cX0_raiseFever 2 none, Cond.methodLink RX0 107 Lib.Math.min.name, Cond.static Lib.Math.min.name, Cond.code Lib.Math.min.name Lib.Math.min.code 2 (some .int), Cond.methodLink RX0 91 yX0_bringBargesNearer, Cond.instanceMethod yX0_bringBargesNearer, Cond.selects RX0 yX0_bringBargesNearer yX0_bringBargesNearer, Cond.code yX0_bringBargesNearer cX0_bringBargesNearer 2 none, Cond.fieldLink RX0 56 "BargeWards$Town" "barges" "I", Cond.fieldLink RX0 25 "BargeWards$Town" "toGo" "[I", Cond.methodLink RX0 110 yX0_spreadFever, Cond.instanceMethod yX0_spreadFever, Cond.selects RX0 yX0_spreadFever yX0_spreadFever, Cond.code yX0_spreadFever cX0_spreadFever 5 none, Cond.methodLink RX0 113 yX0_countFeverish, Cond.instanceMethod yX0_countFeverish, Cond.selects RX0 yX0_countFeverish yX0_countFeverish]
def wsX0_liveDays_r3 : List Cond := [Cond.code yX0_countFeverish cX0_countFeverish 4 (some .int), Cond.methodLink RX0 94 yX0_ageStraw, Cond.instanceMethod yX0_ageStraw, Cond.selects RX0 yX0_ageStraw yX0_ageStraw, Cond.code yX0_ageStraw cX0_ageStraw 2 none, Cond.methodLink RX0 97 yX0_leaveWards, Cond.instanceMethod yX0_leaveWards, Cond.selects RX0 yX0_leaveWards yX0_leaveWards, Cond.code yX0_leaveWards cX0_leaveWards 2 none, Cond.methodLink RX0 68 yX0_move, Cond.instanceMethod yX0_move, Cond.selects RX0 yX0_move yX0_move, Cond.code yX0_move cX0_move 4 none, Cond.methodLink RX0 100 yX0_landBarges, Cond.instanceMethod yX0_landBarges, Cond.selects RX0 yX0_landBarges yX0_landBarges, Cond.code yX0_landBarges cX0_landBarges 2 none, Cond.fieldLink RX0 44 "BargeWards$Town" "freeToday" "[I", Cond.fieldLink RX0 22 "BargeWards$Town" "kept" "[I", Cond.methodLink RX0 117 yX0_freeIn, Cond.instanceMethod yX0_freeIn, Cond.selects RX0 yX0_freeIn yX0_freeIn, Cond.code yX0_freeIn cX0_freeIn 2 (some .int), Cond.fieldLink RX0 15 "BargeWards$Town" "places" "[I"]
def wsX0_liveDays_r4 : List Cond := [Cond.methodLink RX0 76 yX0_countAt, Cond.instanceMethod yX0_countAt, Cond.selects RX0 yX0_countAt yX0_countAt, Cond.code yX0_countAt cX0_countAt 5 (some .int), Cond.methodLink RX0 120 yX0_landAll, Cond.instanceMethod yX0_landAll, Cond.selects RX0 yX0_landAll yX0_landAll, Cond.code yX0_landAll cX0_landAll 5 (some .boolean), Cond.methodLink RX0 124 yX0_takeFirstFreePlace, Cond.instanceMethod yX0_takeFirstFreePlace, Cond.selects RX0 yX0_takeFirstFreePlace yX0_takeFirstFreePlace, Cond.code yX0_takeFirstFreePlace cX0_takeFirstFreePlace 2 (some .int)]
def wsX0_liveDays : List Cond := .code yX0_liveDays cX0_liveDays 3 none :: ((wsX0_liveDays_r1 ++ (wsX0_liveDays_r2 ++ (wsX0_liveDays_r3 ++ wsX0_liveDays_r4))) ++ wsX00)
def wsX1_init_r1 : List Cond := [Cond.methodLink RX1 1 objectInit, Cond.instanceMethod objectInit, Cond.code objectInit ⟨#[0xb1]⟩ 1 none, Cond.classLink RX1 7 RX0, Cond.instantiable RX0 16, Cond.initialized RX0, Cond.fieldLink RX1 10 "BargeWards" "town" "LBargeWards$Town;", Cond.fieldLink RX1 16 "BargeWards" "trial" "LBargeWards$Town;", Cond.methodLink RX1 9 yX0_init, Cond.instanceMethod yX0_init, Cond.code yX0_init cX0_init 1 none, Cond.methodLink RX0 3 objectInit, Cond.fieldLink RX0 9 "BargeWards$Town" "bowls" "I", Cond.arrayClass .int, Cond.fieldLink RX0 15 "BargeWards$Town" "places" "[I", Cond.fieldLink RX0 19 "BargeWards$Town" "straw" "[I", Cond.fieldLink RX0 22 "BargeWards$Town" "kept" "[I", Cond.fieldLink RX0 25 "BargeWards$Town" "toGo" "[I", Cond.fieldLink RX0 28 "BargeWards$Town" "fever" "[I", Cond.fieldLink RX0 31 "BargeWards$Town" "where" "[I", Cond.fieldLink RX0 34 "BargeWards$Town" "number" "[I", Cond.fieldLink RX0 37 "BargeWards$Town" "hungryDays" "[I", Cond.arrayClass .boolean, Cond.fieldLink RX0 40 "BargeWards$Town" "hungryToday" "[Z"]
def wsX1_init_r2 : List Cond := [Cond.fieldLink RX0 44 "BargeWards$Town" "freeToday" "[I"]
def wsX1_init : List Cond := .code yX1_init cX1_init 1 none :: ((wsX1_init_r1 ++ wsX1_init_r2) ++ wsX00 ++ wsX10)
def wsX1_addWard : List Cond := .code yX1_addWard cX1_addWard 2 (some .int) :: ([.classLink RX1 19 "java/lang/IllegalArgumentException", .initialized "java/lang/IllegalArgumentException", .classLink RX1 30 "java/lang/IllegalStateException", .initialized "java/lang/IllegalStateException", .fieldLink RX1 10 "BargeWards" "town" "LBargeWards$Town;", .fieldLink RX1 26 "BargeWards$Town" "wards" "I", .methodLink RX1 35 yX0_openWard, .instanceMethod yX0_openWard, .selects RX0 yX0_openWard yX0_openWard, .initialized RX0, .code yX0_openWard cX0_openWard 3 (some .int), .fieldLink RX0 53 "BargeWards$Town" "wards" "I", .fieldLink RX0 15 "BargeWards$Town" "places" "[I"] ++ wsX10 ++ wsX00 ++ (vx_atS RX1 23 "java/lang/IllegalArgumentException" ["java/lang/RuntimeException", "java/lang/Exception"]).filter goodWord ++ (vx_atS RX1 34 "java/lang/IllegalStateException" ["java/lang/RuntimeException", "java/lang/Exception"]).filter goodWord)
def wsX1_addBarge : List Cond := .code yX1_addBarge cX1_addBarge 2 (some .int) :: ([.classLink RX1 19 "java/lang/IllegalArgumentException", .initialized "java/lang/IllegalArgumentException", .classLink RX1 30 "java/lang/IllegalStateException", .initialized "java/lang/IllegalStateException", .fieldLink RX1 10 "BargeWards" "town" "LBargeWards$Town;", .fieldLink RX1 41 "BargeWards$Town" "barges" "I", .methodLink RX1 46 yX0_openBarge, .instanceMethod yX0_openBarge, .selects RX0 yX0_openBarge yX0_openBarge, .initialized RX0, .code yX0_openBarge cX0_openBarge 3 (some .int), .fieldLink RX0 56 "BargeWards$Town" "barges" "I", .fieldLink RX0 22 "BargeWards$Town" "kept" "[I", .fieldLink RX0 25 "BargeWards$Town" "toGo" "[I"] ++ wsX10 ++ wsX00 ++ (vx_atS RX1 23 "java/lang/IllegalArgumentException" ["java/lang/RuntimeException", "java/lang/Exception"]).filter goodWord ++ (vx_atS RX1 34 "java/lang/IllegalStateException" ["java/lang/RuntimeException", "java/lang/Exception"]).filter goodWord)
def wsX1_checkBarge : List Cond := .code yX1_checkBarge cX1_checkBarge 2 none :: ([.classLink RX1 170 "java/lang/IndexOutOfBoundsException", .initialized "java/lang/IndexOutOfBoundsException", .fieldLink RX1 10 "BargeWards" "town" "LBargeWards$Town;", .fieldLink RX1 41 "BargeWards$Town" "barges" "I"] ++ wsX10 ++ wsX00 ++ (vx_atS RX1 174 "java/lang/IndexOutOfBoundsException" ["java/lang/RuntimeException", "java/lang/Exception"]).filter goodWord)
def wsX1_board_r1 : List Cond := [Cond.classLink RX1 19 "java/lang/IllegalArgumentException", Cond.initialized "java/lang/IllegalArgumentException", Cond.classLink RX1 30 "java/lang/IllegalStateException", Cond.initialized "java/lang/IllegalStateException", Cond.fieldLink RX1 10 "BargeWards" "town" "LBargeWards$Town;", Cond.fieldLink RX1 55 "BargeWards$Town" "people" "I", Cond.methodLink RX1 49 yX1_checkBarge, Cond.instanceMethod yX1_checkBarge, Cond.selects RX1 yX1_checkBarge yX1_checkBarge, Cond.initialized RX1, Cond.code yX1_checkBarge cX1_checkBarge 2 none, Cond.classLink RX1 170 "java/lang/IndexOutOfBoundsException", Cond.initialized "java/lang/IndexOutOfBoundsException", Cond.fieldLink RX1 41 "BargeWards$Town" "barges" "I", Cond.methodLink RX1 60 yX0_takeAboard, Cond.instanceMethod yX0_takeAboard, Cond.selects RX0 yX0_takeAboard yX0_takeAboard, Cond.initialized RX0, Cond.code yX0_takeAboard cX0_takeAboard 4 (some .int), Cond.fieldLink RX0 59 "BargeWards$Town" "people" "I", Cond.fieldLink RX0 28 "BargeWards$Town" "fever" "[I", Cond.fieldLink RX0 25 "BargeWards$Town" "toGo" "[I", Cond.fieldLink RX0 22 "BargeWards$Town" "kept" "[I", Cond.methodLink RX0 68 yX0_move]
def wsX1_board_r2 : List Cond := [Cond.instanceMethod yX0_move, Cond.selects RX0 yX0_move yX0_move, Cond.code yX0_move cX0_move 4 none, Cond.fieldLink RX0 31 "BargeWards$Town" "where" "[I", Cond.fieldLink RX0 34 "BargeWards$Town" "number" "[I"]
def wsX1_board : List Cond := .code yX1_board cX1_board 3 (some .int) :: ((wsX1_board_r1 ++ wsX1_board_r2) ++ wsX10 ++ wsX00 ++ (vx_atS RX1 23 "java/lang/IllegalArgumentException" ["java/lang/RuntimeException", "java/lang/Exception"]).filter goodWord ++ (vx_atS RX1 34 "java/lang/IllegalStateException" ["java/lang/RuntimeException", "java/lang/Exception"]).filter goodWord ++ (vx_atS RX1 174 "java/lang/IndexOutOfBoundsException" ["java/lang/RuntimeException", "java/lang/Exception"]).filter goodWord)
def wsX1_setBowls : List Cond := .code yX1_setBowls cX1_setBowls 3 (some .int) :: ([.classLink RX1 19 "java/lang/IllegalArgumentException", .initialized "java/lang/IllegalArgumentException", .fieldLink RX1 10 "BargeWards" "town" "LBargeWards$Town;", .fieldLink RX1 66 "BargeWards$Town" "bowls" "I"] ++ wsX10 ++ wsX00 ++ (vx_atS RX1 23 "java/lang/IllegalArgumentException" ["java/lang/RuntimeException", "java/lang/Exception"]).filter goodWord)
def wsX1_checkWard : List Cond := .code yX1_checkWard cX1_checkWard 2 none :: ([.classLink RX1 170 "java/lang/IndexOutOfBoundsException", .initialized "java/lang/IndexOutOfBoundsException", .fieldLink RX1 10 "BargeWards" "town" "LBargeWards$Town;", .fieldLink RX1 26 "BargeWards$Town" "wards" "I"] ++ wsX10 ++ wsX00 ++ (vx_atS RX1 174 "java/lang/IndexOutOfBoundsException" ["java/lang/RuntimeException", "java/lang/Exception"]).filter goodWord)
def wsX1_layStraw : List Cond := .code yX1_layStraw cX1_layStraw 3 (some .int) :: ([.fieldLink RX1 10 "BargeWards" "town" "LBargeWards$Town;", .fieldLink RX1 72 "BargeWards$Town" "straw" "[I", .methodLink RX1 69 yX1_checkWard, .instanceMethod yX1_checkWard, .selects RX1 yX1_checkWard yX1_checkWard, .initialized RX1, .code yX1_checkWard cX1_checkWard 2 none, .classLink RX1 170 "java/lang/IndexOutOfBoundsException", .initialized "java/lang/IndexOutOfBoundsException", .fieldLink RX1 26 "BargeWards$Town" "wards" "I"] ++ wsX10 ++ wsX00 ++ (vx_atS RX1 174 "java/lang/IndexOutOfBoundsException" ["java/lang/RuntimeException", "java/lang/Exception"]).filter goodWord)
def wsX1_checkPerson : List Cond := .code yX1_checkPerson cX1_checkPerson 2 none :: ([.classLink RX1 170 "java/lang/IndexOutOfBoundsException", .initialized "java/lang/IndexOutOfBoundsException", .fieldLink RX1 10 "BargeWards" "town" "LBargeWards$Town;", .fieldLink RX1 55 "BargeWards$Town" "people" "I"] ++ wsX10 ++ wsX00 ++ (vx_atS RX1 174 "java/lang/IndexOutOfBoundsException" ["java/lang/RuntimeException", "java/lang/Exception"]).filter goodWord)
def wsX1_carry_r1 : List Cond := [Cond.classLink RX1 30 "java/lang/IllegalStateException", Cond.initialized "java/lang/IllegalStateException", Cond.fieldLink RX1 10 "BargeWards" "town" "LBargeWards$Town;", Cond.methodLink RX1 76 yX1_checkPerson, Cond.instanceMethod yX1_checkPerson, Cond.selects RX1 yX1_checkPerson yX1_checkPerson, Cond.initialized RX1, Cond.code yX1_checkPerson cX1_checkPerson 2 none, Cond.classLink RX1 170 "java/lang/IndexOutOfBoundsException", Cond.initialized "java/lang/IndexOutOfBoundsException", Cond.fieldLink RX1 55 "BargeWards$Town" "people" "I", Cond.methodLink RX1 69 yX1_checkWard, Cond.instanceMethod yX1_checkWard, Cond.selects RX1 yX1_checkWard yX1_checkWard, Cond.code yX1_checkWard cX1_checkWard 2 none, Cond.fieldLink RX1 26 "BargeWards$Town" "wards" "I", Cond.methodLink RX1 79 yX0_numberOf, Cond.instanceMethod yX0_numberOf, Cond.selects RX0 yX0_numberOf yX0_numberOf, Cond.initialized RX0, Cond.code yX0_numberOf cX0_numberOf 3 (some .int), Cond.fieldLink RX0 31 "BargeWards$Town" "where" "[I", Cond.fieldLink RX0 34 "BargeWards$Town" "number" "[I", Cond.methodLink RX1 86 yX0_freeIn]
def wsX1_carry_r2 : List Cond := [Cond.instanceMethod yX0_freeIn, Cond.selects RX0 yX0_freeIn yX0_freeIn, Cond.code yX0_freeIn cX0_freeIn 2 (some .int), Cond.fieldLink RX0 15 "BargeWards$Town" "places" "[I", Cond.methodLink RX0 76 yX0_countAt, Cond.instanceMethod yX0_countAt, Cond.selects RX0 yX0_countAt yX0_countAt, Cond.code yX0_countAt cX0_countAt 5 (some .int), Cond.fieldLink RX0 59 "BargeWards$Town" "people" "I", Cond.methodLink RX0 72 yX0_isAt, Cond.instanceMethod yX0_isAt, Cond.selects RX0 yX0_isAt yX0_isAt, Cond.code yX0_isAt cX0_isAt 4 (some .boolean), Cond.methodLink RX1 91 yX0_move, Cond.instanceMethod yX0_move, Cond.selects RX0 yX0_move yX0_move, Cond.code yX0_move cX0_move 4 none]
def wsX1_carry : List Cond := .code yX1_carry cX1_carry 4 (some .int) :: ((wsX1_carry_r1 ++ wsX1_carry_r2) ++ wsX10 ++ wsX00 ++ (vx_atS RX1 34 "java/lang/IllegalStateException" ["java/lang/RuntimeException", "java/lang/Exception"]).filter goodWord ++ (vx_atS RX1 174 "java/lang/IndexOutOfBoundsException" ["java/lang/RuntimeException", "java/lang/Exception"]).filter goodWord)
def wsX1_checkDays : List Cond := .code yX1_checkDays cX1_checkDays 1 none :: ([.classLink RX1 19 "java/lang/IllegalArgumentException", .initialized "java/lang/IllegalArgumentException"] ++ (vx_atS RX1 23 "java/lang/IllegalArgumentException" ["java/lang/RuntimeException", "java/lang/Exception"]).filter goodWord)
def wsX1_pass_r1 : List Cond := [Cond.fieldLink RX1 10 "BargeWards" "town" "LBargeWards$Town;", Cond.methodLink RX1 95 yX1_checkDays, Cond.static yX1_checkDays, Cond.initialized RX1, Cond.code yX1_checkDays cX1_checkDays 1 none, Cond.classLink RX1 19 "java/lang/IllegalArgumentException", Cond.initialized "java/lang/IllegalArgumentException", Cond.methodLink RX1 98 yX0_count, Cond.instanceMethod yX0_count, Cond.selects RX0 yX0_count yX0_count, Cond.initialized RX0, Cond.code yX0_count cX0_count 4 (some .int), Cond.fieldLink RX0 59 "BargeWards$Town" "people" "I", Cond.fieldLink RX0 31 "BargeWards$Town" "where" "[I", Cond.methodLink RX1 101 yX0_liveDays, Cond.instanceMethod yX0_liveDays, Cond.selects RX0 yX0_liveDays yX0_liveDays, Cond.code yX0_liveDays cX0_liveDays 3 none, Cond.fieldLink RX0 47 "BargeWards$Town" "day" "I", Cond.methodLink RX0 85 yX0_giveBowls, Cond.instanceMethod yX0_giveBowls, Cond.selects RX0 yX0_giveBowls yX0_giveBowls, Cond.code yX0_giveBowls cX0_giveBowls 4 none, Cond.fieldLink RX0 9 "BargeWards$Town" "bowls" "I"]
def wsX1_pass_r2 : List Cond := [Cond.fieldLink RX0 53 "BargeWards$Town" "wards" "I", Cond.fieldLink RX0 40 "BargeWards$Town" "hungryToday" "[Z", Cond.fieldLink RX0 37 "BargeWards$Town" "hungryDays" "[I", Cond.fieldLink RX0 50 "BargeWards$Town" "bowlsEaten" "I", Cond.methodLink RX0 72 yX0_isAt, Cond.instanceMethod yX0_isAt, Cond.selects RX0 yX0_isAt yX0_isAt, Cond.code yX0_isAt cX0_isAt 4 (some .boolean), Cond.fieldLink RX0 34 "BargeWards$Town" "number" "[I", Cond.methodLink RX0 88 yX0_changeFeversInWards, Cond.instanceMethod yX0_changeFeversInWards, Cond.selects RX0 yX0_changeFeversInWards yX0_changeFeversInWards, Cond.code yX0_changeFeversInWards cX0_changeFeversInWards 4 none, Cond.fieldLink RX0 19 "BargeWards$Town" "straw" "[I", Cond.fieldLink RX0 28 "BargeWards$Town" "fever" "[I", Cond.methodLink RX0 80 Lib.Math.max.name, Cond.static Lib.Math.max.name, Cond.initialized "java/lang/Math", Cond.code Lib.Math.max.name Lib.Math.max.code 2 (some .int), Cond.methodLink RX0 103 yX0_raiseFever, Cond.instanceMethod yX0_raiseFever, Cond.selects RX0 yX0_raiseFever yX0_raiseFever, Cond.code yX0_raiseFever cX0_raiseFever 2 none, Cond.methodLink RX0 107 Lib.Math.min.name]
def wsX1_pass_r3 : List Cond := [Cond.static Lib.Math.min.name, Cond.code Lib.Math.min.name Lib.Math.min.code 2 (some .int), Cond.methodLink RX0 91 yX0_bringBargesNearer, Cond.instanceMethod yX0_bringBargesNearer, Cond.selects RX0 yX0_bringBargesNearer yX0_bringBargesNearer, Cond.code yX0_bringBargesNearer cX0_bringBargesNearer 2 none, Cond.fieldLink RX0 56 "BargeWards$Town" "barges" "I", Cond.fieldLink RX0 25 "BargeWards$Town" "toGo" "[I", Cond.methodLink RX0 110 yX0_spreadFever, Cond.instanceMethod yX0_spreadFever, Cond.selects RX0 yX0_spreadFever yX0_spreadFever, Cond.code yX0_spreadFever cX0_spreadFever 5 none, Cond.methodLink RX0 113 yX0_countFeverish, Cond.instanceMethod yX0_countFeverish, Cond.selects RX0 yX0_countFeverish yX0_countFeverish, Cond.code yX0_countFeverish cX0_countFeverish 4 (some .int), Cond.methodLink RX0 94 yX0_ageStraw, Cond.instanceMethod yX0_ageStraw, Cond.selects RX0 yX0_ageStraw yX0_ageStraw, Cond.code yX0_ageStraw cX0_ageStraw 2 none, Cond.methodLink RX0 97 yX0_leaveWards, Cond.instanceMethod yX0_leaveWards, Cond.selects RX0 yX0_leaveWards yX0_leaveWards, Cond.code yX0_leaveWards cX0_leaveWards 2 none]
def wsX1_pass_r4 : List Cond := [Cond.methodLink RX0 68 yX0_move, Cond.instanceMethod yX0_move, Cond.selects RX0 yX0_move yX0_move, Cond.code yX0_move cX0_move 4 none, Cond.methodLink RX0 100 yX0_landBarges, Cond.instanceMethod yX0_landBarges, Cond.selects RX0 yX0_landBarges yX0_landBarges, Cond.code yX0_landBarges cX0_landBarges 2 none, Cond.fieldLink RX0 44 "BargeWards$Town" "freeToday" "[I", Cond.fieldLink RX0 22 "BargeWards$Town" "kept" "[I", Cond.methodLink RX0 117 yX0_freeIn, Cond.instanceMethod yX0_freeIn, Cond.selects RX0 yX0_freeIn yX0_freeIn, Cond.code yX0_freeIn cX0_freeIn 2 (some .int), Cond.fieldLink RX0 15 "BargeWards$Town" "places" "[I", Cond.methodLink RX0 76 yX0_countAt, Cond.instanceMethod yX0_countAt, Cond.selects RX0 yX0_countAt yX0_countAt, Cond.code yX0_countAt cX0_countAt 5 (some .int), Cond.methodLink RX0 120 yX0_landAll, Cond.instanceMethod yX0_landAll, Cond.selects RX0 yX0_landAll yX0_landAll, Cond.code yX0_landAll cX0_landAll 5 (some .boolean), Cond.methodLink RX0 124 yX0_takeFirstFreePlace]
def wsX1_pass_r5 : List Cond := [Cond.instanceMethod yX0_takeFirstFreePlace, Cond.selects RX0 yX0_takeFirstFreePlace yX0_takeFirstFreePlace, Cond.code yX0_takeFirstFreePlace cX0_takeFirstFreePlace 2 (some .int)]
def wsX1_pass : List Cond := .code yX1_pass cX1_pass 3 (some .int) :: ((wsX1_pass_r1 ++ (wsX1_pass_r2 ++ (wsX1_pass_r3 ++ (wsX1_pass_r4 ++ wsX1_pass_r5)))) ++ wsX10 ++ wsX00 ++ (vx_atS RX1 23 "java/lang/IllegalArgumentException" ["java/lang/RuntimeException", "java/lang/Exception"]).filter goodWord)
def wsX1_feverOf : List Cond := .code yX1_feverOf cX1_feverOf 2 (some .int) :: ([.fieldLink RX1 10 "BargeWards" "town" "LBargeWards$Town;", .fieldLink RX1 104 "BargeWards$Town" "fever" "[I", .methodLink RX1 76 yX1_checkPerson, .instanceMethod yX1_checkPerson, .selects RX1 yX1_checkPerson yX1_checkPerson, .initialized RX1, .code yX1_checkPerson cX1_checkPerson 2 none, .classLink RX1 170 "java/lang/IndexOutOfBoundsException", .initialized "java/lang/IndexOutOfBoundsException", .fieldLink RX1 55 "BargeWards$Town" "people" "I"] ++ wsX10 ++ wsX00 ++ (vx_atS RX1 174 "java/lang/IndexOutOfBoundsException" ["java/lang/RuntimeException", "java/lang/Exception"]).filter goodWord)
def wsX1_wardOf : List Cond := .code yX1_wardOf cX1_wardOf 2 (some .int) :: ([.fieldLink RX1 10 "BargeWards" "town" "LBargeWards$Town;", .methodLink RX1 76 yX1_checkPerson, .instanceMethod yX1_checkPerson, .selects RX1 yX1_checkPerson yX1_checkPerson, .initialized RX1, .code yX1_checkPerson cX1_checkPerson 2 none, .classLink RX1 170 "java/lang/IndexOutOfBoundsException", .initialized "java/lang/IndexOutOfBoundsException", .fieldLink RX1 55 "BargeWards$Town" "people" "I", .methodLink RX1 79 yX0_numberOf, .instanceMethod yX0_numberOf, .selects RX0 yX0_numberOf yX0_numberOf, .initialized RX0, .code yX0_numberOf cX0_numberOf 3 (some .int), .fieldLink RX0 31 "BargeWards$Town" "where" "[I", .fieldLink RX0 34 "BargeWards$Town" "number" "[I"] ++ wsX10 ++ wsX00 ++ (vx_atS RX1 174 "java/lang/IndexOutOfBoundsException" ["java/lang/RuntimeException", "java/lang/Exception"]).filter goodWord)
def wsX1_bargeOf : List Cond := .code yX1_bargeOf cX1_bargeOf 2 (some .int) :: ([.fieldLink RX1 10 "BargeWards" "town" "LBargeWards$Town;", .methodLink RX1 76 yX1_checkPerson, .instanceMethod yX1_checkPerson, .selects RX1 yX1_checkPerson yX1_checkPerson, .initialized RX1, .code yX1_checkPerson cX1_checkPerson 2 none, .classLink RX1 170 "java/lang/IndexOutOfBoundsException", .initialized "java/lang/IndexOutOfBoundsException", .fieldLink RX1 55 "BargeWards$Town" "people" "I", .methodLink RX1 79 yX0_numberOf, .instanceMethod yX0_numberOf, .selects RX0 yX0_numberOf yX0_numberOf, .initialized RX0, .code yX0_numberOf cX0_numberOf 3 (some .int), .fieldLink RX0 31 "BargeWards$Town" "where" "[I", .fieldLink RX0 34 "BargeWards$Town" "number" "[I"] ++ wsX10 ++ wsX00 ++ (vx_atS RX1 174 "java/lang/IndexOutOfBoundsException" ["java/lang/RuntimeException", "java/lang/Exception"]).filter goodWord)
def wsX1_isHome : List Cond := .code yX1_isHome cX1_isHome 2 (some .boolean) :: ([.fieldLink RX1 10 "BargeWards" "town" "LBargeWards$Town;", .fieldLink RX1 107 "BargeWards$Town" "where" "[I", .methodLink RX1 76 yX1_checkPerson, .instanceMethod yX1_checkPerson, .selects RX1 yX1_checkPerson yX1_checkPerson, .initialized RX1, .code yX1_checkPerson cX1_checkPerson 2 none, .classLink RX1 170 "java/lang/IndexOutOfBoundsException", .initialized "java/lang/IndexOutOfBoundsException", .fieldLink RX1 55 "BargeWards$Town" "people" "I"] ++ wsX10 ++ wsX00 ++ (vx_atS RX1 174 "java/lang/IndexOutOfBoundsException" ["java/lang/RuntimeException", "java/lang/Exception"]).filter goodWord)
def wsX1_isInGreatHouse : List Cond := .code yX1_isInGreatHouse cX1_isInGreatHouse 2 (some .boolean) :: ([.fieldLink RX1 10 "BargeWards" "town" "LBargeWards$Town;", .fieldLink RX1 107 "BargeWards$Town" "where" "[I", .methodLink RX1 76 yX1_checkPerson, .instanceMethod yX1_checkPerson, .selects RX1 yX1_checkPerson yX1_checkPerson, .initialized RX1, .code yX1_checkPerson cX1_checkPerson 2 none, .classLink RX1 170 "java/lang/IndexOutOfBoundsException", .initialized "java/lang/IndexOutOfBoundsException", .fieldLink RX1 55 "BargeWards$Town" "people" "I"] ++ wsX10 ++ wsX00 ++ (vx_atS RX1 174 "java/lang/IndexOutOfBoundsException" ["java/lang/RuntimeException", "java/lang/Exception"]).filter goodWord)
def wsX1_hungryDaysOf : List Cond := .code yX1_hungryDaysOf cX1_hungryDaysOf 2 (some .int) :: ([.fieldLink RX1 10 "BargeWards" "town" "LBargeWards$Town;", .fieldLink RX1 110 "BargeWards$Town" "hungryDays" "[I", .methodLink RX1 76 yX1_checkPerson, .instanceMethod yX1_checkPerson, .selects RX1 yX1_checkPerson yX1_checkPerson, .initialized RX1, .code yX1_checkPerson cX1_checkPerson 2 none, .classLink RX1 170 "java/lang/IndexOutOfBoundsException", .initialized "java/lang/IndexOutOfBoundsException", .fieldLink RX1 55 "BargeWards$Town" "people" "I"] ++ wsX10 ++ wsX00 ++ (vx_atS RX1 174 "java/lang/IndexOutOfBoundsException" ["java/lang/RuntimeException", "java/lang/Exception"]).filter goodWord)
def wsX1_placesOf : List Cond := .code yX1_placesOf cX1_placesOf 2 (some .int) :: ([.fieldLink RX1 10 "BargeWards" "town" "LBargeWards$Town;", .fieldLink RX1 113 "BargeWards$Town" "places" "[I", .methodLink RX1 69 yX1_checkWard, .instanceMethod yX1_checkWard, .selects RX1 yX1_checkWard yX1_checkWard, .initialized RX1, .code yX1_checkWard cX1_checkWard 2 none, .classLink RX1 170 "java/lang/IndexOutOfBoundsException", .initialized "java/lang/IndexOutOfBoundsException", .fieldLink RX1 26 "BargeWards$Town" "wards" "I"] ++ wsX10 ++ wsX00 ++ (vx_atS RX1 174 "java/lang/IndexOutOfBoundsException" ["java/lang/RuntimeException", "java/lang/Exception"]).filter goodWord)
def wsX1_peopleIn : List Cond := .code yX1_peopleIn cX1_peopleIn 2 (some .int) :: ([.fieldLink RX1 10 "BargeWards" "town" "LBargeWards$Town;", .methodLink RX1 69 yX1_checkWard, .instanceMethod yX1_checkWard, .selects RX1 yX1_checkWard yX1_checkWard, .initialized RX1, .code yX1_checkWard cX1_checkWard 2 none, .classLink RX1 170 "java/lang/IndexOutOfBoundsException", .initialized "java/lang/IndexOutOfBoundsException", .fieldLink RX1 26 "BargeWards$Town" "wards" "I", .methodLink RX1 116 yX0_countAt, .instanceMethod yX0_countAt, .selects RX0 yX0_countAt yX0_countAt, .initialized RX0, .code yX0_countAt cX0_countAt 5 (some .int), .fieldLink RX0 59 "BargeWards$Town" "people" "I", .methodLink RX0 72 yX0_isAt, .instanceMethod yX0_isAt, .selects RX0 yX0_isAt yX0_isAt, .code yX0_isAt cX0_isAt 4 (some .boolean), .fieldLink RX0 31 "BargeWards$Town" "where" "[I", .fieldLink RX0 34 "BargeWards$Town" "number" "[I"] ++ wsX10 ++ wsX00 ++ (vx_atS RX1 174 "java/lang/IndexOutOfBoundsException" ["java/lang/RuntimeException", "java/lang/Exception"]).filter goodWord)
def wsX1_strawOf : List Cond := .code yX1_strawOf cX1_strawOf 2 (some .int) :: ([.fieldLink RX1 10 "BargeWards" "town" "LBargeWards$Town;", .fieldLink RX1 72 "BargeWards$Town" "straw" "[I", .methodLink RX1 69 yX1_checkWard, .instanceMethod yX1_checkWard, .selects RX1 yX1_checkWard yX1_checkWard, .initialized RX1, .code yX1_checkWard cX1_checkWard 2 none, .classLink RX1 170 "java/lang/IndexOutOfBoundsException", .initialized "java/lang/IndexOutOfBoundsException", .fieldLink RX1 26 "BargeWards$Town" "wards" "I"] ++ wsX10 ++ wsX00 ++ (vx_atS RX1 174 "java/lang/IndexOutOfBoundsException" ["java/lang/RuntimeException", "java/lang/Exception"]).filter goodWord)
def wsX1_feversIn : List Cond := .code yX1_feversIn cX1_feversIn 2 (some .int) :: ([.fieldLink RX1 10 "BargeWards" "town" "LBargeWards$Town;", .methodLink RX1 69 yX1_checkWard, .instanceMethod yX1_checkWard, .selects RX1 yX1_checkWard yX1_checkWard, .initialized RX1, .code yX1_checkWard cX1_checkWard 2 none, .classLink RX1 170 "java/lang/IndexOutOfBoundsException", .initialized "java/lang/IndexOutOfBoundsException", .fieldLink RX1 26 "BargeWards$Town" "wards" "I", .methodLink RX1 119 yX0_feversInWard, .instanceMethod yX0_feversInWard, .selects RX0 yX0_feversInWard yX0_feversInWard, .initialized RX0, .code yX0_feversInWard cX0_feversInWard 4 (some .int), .fieldLink RX0 59 "BargeWards$Town" "people" "I", .fieldLink RX0 28 "BargeWards$Town" "fever" "[I", .methodLink RX0 72 yX0_isAt, .instanceMethod yX0_isAt, .selects RX0 yX0_isAt yX0_isAt, .code yX0_isAt cX0_isAt 4 (some .boolean), .fieldLink RX0 31 "BargeWards$Town" "where" "[I", .fieldLink RX0 34 "BargeWards$Town" "number" "[I"] ++ wsX10 ++ wsX00 ++ (vx_atS RX1 174 "java/lang/IndexOutOfBoundsException" ["java/lang/RuntimeException", "java/lang/Exception"]).filter goodWord)
def wsX1_daysToGo : List Cond := .code yX1_daysToGo cX1_daysToGo 2 (some .int) :: ([.fieldLink RX1 10 "BargeWards" "town" "LBargeWards$Town;", .fieldLink RX1 122 "BargeWards$Town" "toGo" "[I", .methodLink RX1 49 yX1_checkBarge, .instanceMethod yX1_checkBarge, .selects RX1 yX1_checkBarge yX1_checkBarge, .initialized RX1, .code yX1_checkBarge cX1_checkBarge 2 none, .classLink RX1 170 "java/lang/IndexOutOfBoundsException", .initialized "java/lang/IndexOutOfBoundsException", .fieldLink RX1 41 "BargeWards$Town" "barges" "I"] ++ wsX10 ++ wsX00 ++ (vx_atS RX1 174 "java/lang/IndexOutOfBoundsException" ["java/lang/RuntimeException", "java/lang/Exception"]).filter goodWord)
def wsX1_keptFor : List Cond := .code yX1_keptFor cX1_keptFor 2 (some .int) :: ([.fieldLink RX1 10 "BargeWards" "town" "LBargeWards$Town;", .fieldLink RX1 125 "BargeWards$Town" "kept" "[I", .methodLink RX1 49 yX1_checkBarge, .instanceMethod yX1_checkBarge, .selects RX1 yX1_checkBarge yX1_checkBarge, .initialized RX1, .code yX1_checkBarge cX1_checkBarge 2 none, .classLink RX1 170 "java/lang/IndexOutOfBoundsException", .initialized "java/lang/IndexOutOfBoundsException", .fieldLink RX1 41 "BargeWards$Town" "barges" "I"] ++ wsX10 ++ wsX00 ++ (vx_atS RX1 174 "java/lang/IndexOutOfBoundsException" ["java/lang/RuntimeException", "java/lang/Exception"]).filter goodWord)
def wsX1_peopleOn : List Cond := .code yX1_peopleOn cX1_peopleOn 2 (some .int) :: ([.fieldLink RX1 10 "BargeWards" "town" "LBargeWards$Town;", .methodLink RX1 49 yX1_checkBarge, .instanceMethod yX1_checkBarge, .selects RX1 yX1_checkBarge yX1_checkBarge, .initialized RX1, .code yX1_checkBarge cX1_checkBarge 2 none, .classLink RX1 170 "java/lang/IndexOutOfBoundsException", .initialized "java/lang/IndexOutOfBoundsException", .fieldLink RX1 41 "BargeWards$Town" "barges" "I", .methodLink RX1 116 yX0_countAt, .instanceMethod yX0_countAt, .selects RX0 yX0_countAt yX0_countAt, .initialized RX0, .code yX0_countAt cX0_countAt 5 (some .int), .fieldLink RX0 59 "BargeWards$Town" "people" "I", .methodLink RX0 72 yX0_isAt, .instanceMethod yX0_isAt, .selects RX0 yX0_isAt yX0_isAt, .code yX0_isAt cX0_isAt 4 (some .boolean), .fieldLink RX0 31 "BargeWards$Town" "where" "[I", .fieldLink RX0 34 "BargeWards$Town" "number" "[I"] ++ wsX10 ++ wsX00 ++ (vx_atS RX1 174 "java/lang/IndexOutOfBoundsException" ["java/lang/RuntimeException", "java/lang/Exception"]).filter goodWord)
def wsX1_highestFeverOn_r1 : List Cond := [Cond.fieldLink RX1 10 "BargeWards" "town" "LBargeWards$Town;", Cond.methodLink RX1 49 yX1_checkBarge, Cond.instanceMethod yX1_checkBarge, Cond.selects RX1 yX1_checkBarge yX1_checkBarge, Cond.initialized RX1, Cond.code yX1_checkBarge cX1_checkBarge 2 none, Cond.classLink RX1 170 "java/lang/IndexOutOfBoundsException", Cond.initialized "java/lang/IndexOutOfBoundsException", Cond.fieldLink RX1 41 "BargeWards$Town" "barges" "I", Cond.methodLink RX1 128 yX0_highestFeverAboard, Cond.instanceMethod yX0_highestFeverAboard, Cond.selects RX0 yX0_highestFeverAboard yX0_highestFeverAboard, Cond.initialized RX0, Cond.code yX0_highestFeverAboard cX0_highestFeverAboard 4 (some .int), Cond.fieldLink RX0 59 "BargeWards$Town" "people" "I", Cond.fieldLink RX0 28 "BargeWards$Town" "fever" "[I", Cond.methodLink RX0 80 Lib.Math.max.name, Cond.static Lib.Math.max.name, Cond.initialized "java/lang/Math", Cond.code Lib.Math.max.name Lib.Math.max.code 2 (some .int), Cond.methodLink RX0 72 yX0_isAt, Cond.instanceMethod yX0_isAt, Cond.selects RX0 yX0_isAt yX0_isAt, Cond.code yX0_isAt cX0_isAt 4 (some .boolean)]
def wsX1_highestFeverOn_r2 : List Cond := [Cond.fieldLink RX0 31 "BargeWards$Town" "where" "[I", Cond.fieldLink RX0 34 "BargeWards$Town" "number" "[I"]
def wsX1_highestFeverOn : List Cond := .code yX1_highestFeverOn cX1_highestFeverOn 2 (some .int) :: ((wsX1_highestFeverOn_r1 ++ wsX1_highestFeverOn_r2) ++ wsX10 ++ wsX00 ++ (vx_atS RX1 174 "java/lang/IndexOutOfBoundsException" ["java/lang/RuntimeException", "java/lang/Exception"]).filter goodWord)
def wsX1_day : List Cond := .code yX1_day cX1_day 1 (some .int) :: ([.fieldLink RX1 10 "BargeWards" "town" "LBargeWards$Town;", .fieldLink RX1 131 "BargeWards$Town" "day" "I"] ++ wsX10 ++ wsX00)
def wsX1_wards : List Cond := .code yX1_wards cX1_wards 1 (some .int) :: ([.fieldLink RX1 10 "BargeWards" "town" "LBargeWards$Town;", .fieldLink RX1 26 "BargeWards$Town" "wards" "I"] ++ wsX10 ++ wsX00)
def wsX1_barges : List Cond := .code yX1_barges cX1_barges 1 (some .int) :: ([.fieldLink RX1 10 "BargeWards" "town" "LBargeWards$Town;", .fieldLink RX1 41 "BargeWards$Town" "barges" "I"] ++ wsX10 ++ wsX00)
def wsX1_people : List Cond := .code yX1_people cX1_people 1 (some .int) :: ([.fieldLink RX1 10 "BargeWards" "town" "LBargeWards$Town;", .fieldLink RX1 55 "BargeWards$Town" "people" "I"] ++ wsX10 ++ wsX00)
def wsX1_bowls : List Cond := .code yX1_bowls cX1_bowls 1 (some .int) :: ([.fieldLink RX1 10 "BargeWards" "town" "LBargeWards$Town;", .fieldLink RX1 66 "BargeWards$Town" "bowls" "I"] ++ wsX10 ++ wsX00)
def wsX1_freePlaces : List Cond := .code yX1_freePlaces cX1_freePlaces 3 (some .int) :: ([.fieldLink RX1 10 "BargeWards" "town" "LBargeWards$Town;", .fieldLink RX1 26 "BargeWards$Town" "wards" "I", .methodLink RX1 86 yX0_freeIn, .instanceMethod yX0_freeIn, .selects RX0 yX0_freeIn yX0_freeIn, .initialized RX0, .code yX0_freeIn cX0_freeIn 2 (some .int), .fieldLink RX0 15 "BargeWards$Town" "places" "[I", .methodLink RX0 76 yX0_countAt, .instanceMethod yX0_countAt, .selects RX0 yX0_countAt yX0_countAt, .code yX0_countAt cX0_countAt 5 (some .int), .fieldLink RX0 59 "BargeWards$Town" "people" "I", .methodLink RX0 72 yX0_isAt, .instanceMethod yX0_isAt, .selects RX0 yX0_isAt yX0_isAt, .code yX0_isAt cX0_isAt 4 (some .boolean), .fieldLink RX0 31 "BargeWards$Town" "where" "[I", .fieldLink RX0 34 "BargeWards$Town" "number" "[I"] ++ wsX10 ++ wsX00)
def wsX1_bowlsShort : List Cond := .code yX1_bowlsShort cX1_bowlsShort 1 (some .int) :: ([.fieldLink RX1 10 "BargeWards" "town" "LBargeWards$Town;", .fieldLink RX1 66 "BargeWards$Town" "bowls" "I", .methodLink RX1 134 Lib.Math.max.name, .static Lib.Math.max.name, .initialized "java/lang/Math", .code Lib.Math.max.name Lib.Math.max.code 2 (some .int), .methodLink RX1 98 yX0_count, .instanceMethod yX0_count, .selects RX0 yX0_count yX0_count, .initialized RX0, .code yX0_count cX0_count 4 (some .int), .fieldLink RX0 59 "BargeWards$Town" "people" "I", .fieldLink RX0 31 "BargeWards$Town" "where" "[I"] ++ wsX10 ++ wsX00)
def wsX1_peopleHome : List Cond := .code yX1_peopleHome cX1_peopleHome 1 (some .int) :: ([.fieldLink RX1 10 "BargeWards" "town" "LBargeWards$Town;", .methodLink RX1 98 yX0_count, .instanceMethod yX0_count, .selects RX0 yX0_count yX0_count, .initialized RX0, .code yX0_count cX0_count 4 (some .int), .fieldLink RX0 59 "BargeWards$Town" "people" "I", .fieldLink RX0 31 "BargeWards$Town" "where" "[I"] ++ wsX10 ++ wsX00)
def wsX1_peopleInGreatHouse : List Cond := .code yX1_peopleInGreatHouse cX1_peopleInGreatHouse 1 (some .int) :: ([.fieldLink RX1 10 "BargeWards" "town" "LBargeWards$Town;", .methodLink RX1 98 yX0_count, .instanceMethod yX0_count, .selects RX0 yX0_count yX0_count, .initialized RX0, .code yX0_count cX0_count 4 (some .int), .fieldLink RX0 59 "BargeWards$Town" "people" "I", .fieldLink RX0 31 "BargeWards$Town" "where" "[I"] ++ wsX10 ++ wsX00)
def wsX1_bowlsEaten : List Cond := .code yX1_bowlsEaten cX1_bowlsEaten 1 (some .int) :: ([.fieldLink RX1 10 "BargeWards" "town" "LBargeWards$Town;", .fieldLink RX1 139 "BargeWards$Town" "bowlsEaten" "I"] ++ wsX10 ++ wsX00)
def wsX1_daysUntilHome_r1 : List Cond := [Cond.fieldLink RX1 16 "BargeWards" "trial" "LBargeWards$Town;", Cond.fieldLink RX1 10 "BargeWards" "town" "LBargeWards$Town;", Cond.fieldLink RX1 107 "BargeWards$Town" "where" "[I", Cond.methodLink RX1 76 yX1_checkPerson, Cond.instanceMethod yX1_checkPerson, Cond.selects RX1 yX1_checkPerson yX1_checkPerson, Cond.initialized RX1, Cond.code yX1_checkPerson cX1_checkPerson 2 none, Cond.classLink RX1 170 "java/lang/IndexOutOfBoundsException", Cond.initialized "java/lang/IndexOutOfBoundsException", Cond.fieldLink RX1 55 "BargeWards$Town" "people" "I", Cond.methodLink RX1 142 yX0_copyFrom, Cond.instanceMethod yX0_copyFrom, Cond.selects RX0 yX0_copyFrom yX0_copyFrom, Cond.initialized RX0, Cond.code yX0_copyFrom cX0_copyFrom 2 none, Cond.fieldLink RX0 47 "BargeWards$Town" "day" "I", Cond.fieldLink RX0 9 "BargeWards$Town" "bowls" "I", Cond.fieldLink RX0 50 "BargeWards$Town" "bowlsEaten" "I", Cond.fieldLink RX0 53 "BargeWards$Town" "wards" "I", Cond.fieldLink RX0 56 "BargeWards$Town" "barges" "I", Cond.fieldLink RX0 59 "BargeWards$Town" "people" "I", Cond.fieldLink RX0 15 "BargeWards$Town" "places" "[I", Cond.methodLink RX0 62 arraycopyName]
def wsX1_daysUntilHome_r2 : List Cond := [Cond.native arraycopyName, Cond.static arraycopyName, Cond.initialized "java/lang/System", Cond.fieldLink RX0 19 "BargeWards$Town" "straw" "[I", Cond.fieldLink RX0 22 "BargeWards$Town" "kept" "[I", Cond.fieldLink RX0 25 "BargeWards$Town" "toGo" "[I", Cond.fieldLink RX0 28 "BargeWards$Town" "fever" "[I", Cond.fieldLink RX0 31 "BargeWards$Town" "where" "[I", Cond.fieldLink RX0 34 "BargeWards$Town" "number" "[I", Cond.fieldLink RX0 37 "BargeWards$Town" "hungryDays" "[I", Cond.methodLink RX1 101 yX0_liveDays, Cond.instanceMethod yX0_liveDays, Cond.selects RX0 yX0_liveDays yX0_liveDays, Cond.code yX0_liveDays cX0_liveDays 3 none, Cond.methodLink RX0 85 yX0_giveBowls, Cond.instanceMethod yX0_giveBowls, Cond.selects RX0 yX0_giveBowls yX0_giveBowls, Cond.code yX0_giveBowls cX0_giveBowls 4 none, Cond.fieldLink RX0 40 "BargeWards$Town" "hungryToday" "[Z", Cond.methodLink RX0 72 yX0_isAt, Cond.instanceMethod yX0_isAt, Cond.selects RX0 yX0_isAt yX0_isAt, Cond.code yX0_isAt cX0_isAt 4 (some .boolean), Cond.methodLink RX0 88 yX0_changeFeversInWards]
def wsX1_daysUntilHome_r3 : List Cond := [Cond.instanceMethod yX0_changeFeversInWards, Cond.selects RX0 yX0_changeFeversInWards yX0_changeFeversInWards, Cond.code yX0_changeFeversInWards cX0_changeFeversInWards 4 none, Cond.methodLink RX0 80 Lib.Math.max.name, Cond.static Lib.Math.max.name, Cond.initialized "java/lang/Math", Cond.code Lib.Math.max.name Lib.Math.max.code 2 (some .int), Cond.methodLink RX0 103 yX0_raiseFever, Cond.instanceMethod yX0_raiseFever, Cond.selects RX0 yX0_raiseFever yX0_raiseFever, Cond.code yX0_raiseFever cX0_raiseFever 2 none, Cond.methodLink RX0 107 Lib.Math.min.name, Cond.static Lib.Math.min.name, Cond.code Lib.Math.min.name Lib.Math.min.code 2 (some .int), Cond.methodLink RX0 91 yX0_bringBargesNearer, Cond.instanceMethod yX0_bringBargesNearer, Cond.selects RX0 yX0_bringBargesNearer yX0_bringBargesNearer, Cond.code yX0_bringBargesNearer cX0_bringBargesNearer 2 none, Cond.methodLink RX0 110 yX0_spreadFever, Cond.instanceMethod yX0_spreadFever, Cond.selects RX0 yX0_spreadFever yX0_spreadFever, Cond.code yX0_spreadFever cX0_spreadFever 5 none, Cond.methodLink RX0 113 yX0_countFeverish, Cond.instanceMethod yX0_countFeverish]
def wsX1_daysUntilHome_r4 : List Cond := [Cond.selects RX0 yX0_countFeverish yX0_countFeverish, Cond.code yX0_countFeverish cX0_countFeverish 4 (some .int), Cond.methodLink RX0 94 yX0_ageStraw, Cond.instanceMethod yX0_ageStraw, Cond.selects RX0 yX0_ageStraw yX0_ageStraw, Cond.code yX0_ageStraw cX0_ageStraw 2 none, Cond.methodLink RX0 97 yX0_leaveWards, Cond.instanceMethod yX0_leaveWards, Cond.selects RX0 yX0_leaveWards yX0_leaveWards, Cond.code yX0_leaveWards cX0_leaveWards 2 none, Cond.methodLink RX0 68 yX0_move, Cond.instanceMethod yX0_move, Cond.selects RX0 yX0_move yX0_move, Cond.code yX0_move cX0_move 4 none, Cond.methodLink RX0 100 yX0_landBarges, Cond.instanceMethod yX0_landBarges, Cond.selects RX0 yX0_landBarges yX0_landBarges, Cond.code yX0_landBarges cX0_landBarges 2 none, Cond.fieldLink RX0 44 "BargeWards$Town" "freeToday" "[I", Cond.methodLink RX0 117 yX0_freeIn, Cond.instanceMethod yX0_freeIn, Cond.selects RX0 yX0_freeIn yX0_freeIn, Cond.code yX0_freeIn cX0_freeIn 2 (some .int), Cond.methodLink RX0 76 yX0_countAt]
def wsX1_daysUntilHome_r5 : List Cond := [Cond.instanceMethod yX0_countAt, Cond.selects RX0 yX0_countAt yX0_countAt, Cond.code yX0_countAt cX0_countAt 5 (some .int), Cond.methodLink RX0 120 yX0_landAll, Cond.instanceMethod yX0_landAll, Cond.selects RX0 yX0_landAll yX0_landAll, Cond.code yX0_landAll cX0_landAll 5 (some .boolean), Cond.methodLink RX0 124 yX0_takeFirstFreePlace, Cond.instanceMethod yX0_takeFirstFreePlace, Cond.selects RX0 yX0_takeFirstFreePlace yX0_takeFirstFreePlace, Cond.code yX0_takeFirstFreePlace cX0_takeFirstFreePlace 2 (some .int)]
def wsX1_daysUntilHome : List Cond := .code yX1_daysUntilHome cX1_daysUntilHome 3 (some .int) :: ((wsX1_daysUntilHome_r1 ++ (wsX1_daysUntilHome_r2 ++ (wsX1_daysUntilHome_r3 ++ (wsX1_daysUntilHome_r4 ++ wsX1_daysUntilHome_r5)))) ++ wsX10 ++ wsX00 ++ (vx_atS RX1 174 "java/lang/IndexOutOfBoundsException" ["java/lang/RuntimeException", "java/lang/Exception"]).filter goodWord)
def wsX1_countBehind_r1 : List Cond := [Cond.fieldLink RX1 16 "BargeWards" "trial" "LBargeWards$Town;", Cond.fieldLink RX1 10 "BargeWards" "town" "LBargeWards$Town;", Cond.methodLink RX1 142 yX0_copyFrom, Cond.instanceMethod yX0_copyFrom, Cond.selects RX0 yX0_copyFrom yX0_copyFrom, Cond.initialized RX0, Cond.code yX0_copyFrom cX0_copyFrom 2 none, Cond.fieldLink RX0 47 "BargeWards$Town" "day" "I", Cond.fieldLink RX0 9 "BargeWards$Town" "bowls" "I", Cond.fieldLink RX0 50 "BargeWards$Town" "bowlsEaten" "I", Cond.fieldLink RX0 53 "BargeWards$Town" "wards" "I", Cond.fieldLink RX0 56 "BargeWards$Town" "barges" "I", Cond.fieldLink RX0 59 "BargeWards$Town" "people" "I", Cond.fieldLink RX0 15 "BargeWards$Town" "places" "[I", Cond.methodLink RX0 62 arraycopyName, Cond.native arraycopyName, Cond.static arraycopyName, Cond.initialized "java/lang/System", Cond.fieldLink RX0 19 "BargeWards$Town" "straw" "[I", Cond.fieldLink RX0 22 "BargeWards$Town" "kept" "[I", Cond.fieldLink RX0 25 "BargeWards$Town" "toGo" "[I", Cond.fieldLink RX0 28 "BargeWards$Town" "fever" "[I", Cond.fieldLink RX0 31 "BargeWards$Town" "where" "[I", Cond.fieldLink RX0 34 "BargeWards$Town" "number" "[I"]
def wsX1_countBehind_r2 : List Cond := [Cond.fieldLink RX0 37 "BargeWards$Town" "hungryDays" "[I", Cond.methodLink RX1 101 yX0_liveDays, Cond.instanceMethod yX0_liveDays, Cond.selects RX0 yX0_liveDays yX0_liveDays, Cond.code yX0_liveDays cX0_liveDays 3 none, Cond.methodLink RX0 85 yX0_giveBowls, Cond.instanceMethod yX0_giveBowls, Cond.selects RX0 yX0_giveBowls yX0_giveBowls, Cond.code yX0_giveBowls cX0_giveBowls 4 none, Cond.fieldLink RX0 40 "BargeWards$Town" "hungryToday" "[Z", Cond.methodLink RX0 72 yX0_isAt, Cond.instanceMethod yX0_isAt, Cond.selects RX0 yX0_isAt yX0_isAt, Cond.code yX0_isAt cX0_isAt 4 (some .boolean), Cond.methodLink RX0 88 yX0_changeFeversInWards, Cond.instanceMethod yX0_changeFeversInWards, Cond.selects RX0 yX0_changeFeversInWards yX0_changeFeversInWards, Cond.code yX0_changeFeversInWards cX0_changeFeversInWards 4 none, Cond.methodLink RX0 80 Lib.Math.max.name, Cond.static Lib.Math.max.name, Cond.initialized "java/lang/Math", Cond.code Lib.Math.max.name Lib.Math.max.code 2 (some .int), Cond.methodLink RX0 103 yX0_raiseFever, Cond.instanceMethod yX0_raiseFever]
def wsX1_countBehind_r3 : List Cond := [Cond.selects RX0 yX0_raiseFever yX0_raiseFever, Cond.code yX0_raiseFever cX0_raiseFever 2 none, Cond.methodLink RX0 107 Lib.Math.min.name, Cond.static Lib.Math.min.name, Cond.code Lib.Math.min.name Lib.Math.min.code 2 (some .int), Cond.methodLink RX0 91 yX0_bringBargesNearer, Cond.instanceMethod yX0_bringBargesNearer, Cond.selects RX0 yX0_bringBargesNearer yX0_bringBargesNearer, Cond.code yX0_bringBargesNearer cX0_bringBargesNearer 2 none, Cond.methodLink RX0 110 yX0_spreadFever, Cond.instanceMethod yX0_spreadFever, Cond.selects RX0 yX0_spreadFever yX0_spreadFever, Cond.code yX0_spreadFever cX0_spreadFever 5 none, Cond.methodLink RX0 113 yX0_countFeverish, Cond.instanceMethod yX0_countFeverish, Cond.selects RX0 yX0_countFeverish yX0_countFeverish, Cond.code yX0_countFeverish cX0_countFeverish 4 (some .int), Cond.methodLink RX0 94 yX0_ageStraw, Cond.instanceMethod yX0_ageStraw, Cond.selects RX0 yX0_ageStraw yX0_ageStraw, Cond.code yX0_ageStraw cX0_ageStraw 2 none, Cond.methodLink RX0 97 yX0_leaveWards, Cond.instanceMethod yX0_leaveWards, Cond.selects RX0 yX0_leaveWards yX0_leaveWards]
def wsX1_countBehind_r4 : List Cond := [Cond.code yX0_leaveWards cX0_leaveWards 2 none, Cond.methodLink RX0 68 yX0_move, Cond.instanceMethod yX0_move, Cond.selects RX0 yX0_move yX0_move, Cond.code yX0_move cX0_move 4 none, Cond.methodLink RX0 100 yX0_landBarges, Cond.instanceMethod yX0_landBarges, Cond.selects RX0 yX0_landBarges yX0_landBarges, Cond.code yX0_landBarges cX0_landBarges 2 none, Cond.fieldLink RX0 44 "BargeWards$Town" "freeToday" "[I", Cond.methodLink RX0 117 yX0_freeIn, Cond.instanceMethod yX0_freeIn, Cond.selects RX0 yX0_freeIn yX0_freeIn, Cond.code yX0_freeIn cX0_freeIn 2 (some .int), Cond.methodLink RX0 76 yX0_countAt, Cond.instanceMethod yX0_countAt, Cond.selects RX0 yX0_countAt yX0_countAt, Cond.code yX0_countAt cX0_countAt 5 (some .int), Cond.methodLink RX0 120 yX0_landAll, Cond.instanceMethod yX0_landAll, Cond.selects RX0 yX0_landAll yX0_landAll, Cond.code yX0_landAll cX0_landAll 5 (some .boolean), Cond.methodLink RX0 124 yX0_takeFirstFreePlace, Cond.instanceMethod yX0_takeFirstFreePlace]
def wsX1_countBehind_r5 : List Cond := [Cond.selects RX0 yX0_takeFirstFreePlace yX0_takeFirstFreePlace, Cond.code yX0_takeFirstFreePlace cX0_takeFirstFreePlace 2 (some .int), Cond.methodLink RX1 98 yX0_count, Cond.instanceMethod yX0_count, Cond.selects RX0 yX0_count yX0_count, Cond.code yX0_count cX0_count 4 (some .int)]
def wsX1_countBehind : List Cond := .code yX1_countBehind cX1_countBehind 3 (some .int) :: ((wsX1_countBehind_r1 ++ (wsX1_countBehind_r2 ++ (wsX1_countBehind_r3 ++ (wsX1_countBehind_r4 ++ wsX1_countBehind_r5)))) ++ wsX10 ++ wsX00)
def wsX1_homeAfter_r1 : List Cond := [Cond.methodLink RX1 95 yX1_checkDays, Cond.static yX1_checkDays, Cond.initialized RX1, Cond.code yX1_checkDays cX1_checkDays 1 none, Cond.classLink RX1 19 "java/lang/IllegalArgumentException", Cond.initialized "java/lang/IllegalArgumentException", Cond.methodLink RX1 146 yX1_countBehind, Cond.instanceMethod yX1_countBehind, Cond.selects RX1 yX1_countBehind yX1_countBehind, Cond.code yX1_countBehind cX1_countBehind 3 (some .int), Cond.fieldLink RX1 16 "BargeWards" "trial" "LBargeWards$Town;", Cond.fieldLink RX1 10 "BargeWards" "town" "LBargeWards$Town;", Cond.methodLink RX1 142 yX0_copyFrom, Cond.instanceMethod yX0_copyFrom, Cond.selects RX0 yX0_copyFrom yX0_copyFrom, Cond.initialized RX0, Cond.code yX0_copyFrom cX0_copyFrom 2 none, Cond.fieldLink RX0 47 "BargeWards$Town" "day" "I", Cond.fieldLink RX0 9 "BargeWards$Town" "bowls" "I", Cond.fieldLink RX0 50 "BargeWards$Town" "bowlsEaten" "I", Cond.fieldLink RX0 53 "BargeWards$Town" "wards" "I", Cond.fieldLink RX0 56 "BargeWards$Town" "barges" "I", Cond.fieldLink RX0 59 "BargeWards$Town" "people" "I", Cond.fieldLink RX0 15 "BargeWards$Town" "places" "[I"]
def wsX1_homeAfter_r2 : List Cond := [Cond.methodLink RX0 62 arraycopyName, Cond.native arraycopyName, Cond.static arraycopyName, Cond.initialized "java/lang/System", Cond.fieldLink RX0 19 "BargeWards$Town" "straw" "[I", Cond.fieldLink RX0 22 "BargeWards$Town" "kept" "[I", Cond.fieldLink RX0 25 "BargeWards$Town" "toGo" "[I", Cond.fieldLink RX0 28 "BargeWards$Town" "fever" "[I", Cond.fieldLink RX0 31 "BargeWards$Town" "where" "[I", Cond.fieldLink RX0 34 "BargeWards$Town" "number" "[I", Cond.fieldLink RX0 37 "BargeWards$Town" "hungryDays" "[I", Cond.methodLink RX1 101 yX0_liveDays, Cond.instanceMethod yX0_liveDays, Cond.selects RX0 yX0_liveDays yX0_liveDays, Cond.code yX0_liveDays cX0_liveDays 3 none, Cond.methodLink RX0 85 yX0_giveBowls, Cond.instanceMethod yX0_giveBowls, Cond.selects RX0 yX0_giveBowls yX0_giveBowls, Cond.code yX0_giveBowls cX0_giveBowls 4 none, Cond.fieldLink RX0 40 "BargeWards$Town" "hungryToday" "[Z", Cond.methodLink RX0 72 yX0_isAt, Cond.instanceMethod yX0_isAt, Cond.selects RX0 yX0_isAt yX0_isAt, Cond.code yX0_isAt cX0_isAt 4 (some .boolean)]
def wsX1_homeAfter_r3 : List Cond := [Cond.methodLink RX0 88 yX0_changeFeversInWards, Cond.instanceMethod yX0_changeFeversInWards, Cond.selects RX0 yX0_changeFeversInWards yX0_changeFeversInWards, Cond.code yX0_changeFeversInWards cX0_changeFeversInWards 4 none, Cond.methodLink RX0 80 Lib.Math.max.name, Cond.static Lib.Math.max.name, Cond.initialized "java/lang/Math", Cond.code Lib.Math.max.name Lib.Math.max.code 2 (some .int), Cond.methodLink RX0 103 yX0_raiseFever, Cond.instanceMethod yX0_raiseFever, Cond.selects RX0 yX0_raiseFever yX0_raiseFever, Cond.code yX0_raiseFever cX0_raiseFever 2 none, Cond.methodLink RX0 107 Lib.Math.min.name, Cond.static Lib.Math.min.name, Cond.code Lib.Math.min.name Lib.Math.min.code 2 (some .int), Cond.methodLink RX0 91 yX0_bringBargesNearer, Cond.instanceMethod yX0_bringBargesNearer, Cond.selects RX0 yX0_bringBargesNearer yX0_bringBargesNearer, Cond.code yX0_bringBargesNearer cX0_bringBargesNearer 2 none, Cond.methodLink RX0 110 yX0_spreadFever, Cond.instanceMethod yX0_spreadFever, Cond.selects RX0 yX0_spreadFever yX0_spreadFever, Cond.code yX0_spreadFever cX0_spreadFever 5 none, Cond.methodLink RX0 113 yX0_countFeverish]
def wsX1_homeAfter_r4 : List Cond := [Cond.instanceMethod yX0_countFeverish, Cond.selects RX0 yX0_countFeverish yX0_countFeverish, Cond.code yX0_countFeverish cX0_countFeverish 4 (some .int), Cond.methodLink RX0 94 yX0_ageStraw, Cond.instanceMethod yX0_ageStraw, Cond.selects RX0 yX0_ageStraw yX0_ageStraw, Cond.code yX0_ageStraw cX0_ageStraw 2 none, Cond.methodLink RX0 97 yX0_leaveWards, Cond.instanceMethod yX0_leaveWards, Cond.selects RX0 yX0_leaveWards yX0_leaveWards, Cond.code yX0_leaveWards cX0_leaveWards 2 none, Cond.methodLink RX0 68 yX0_move, Cond.instanceMethod yX0_move, Cond.selects RX0 yX0_move yX0_move, Cond.code yX0_move cX0_move 4 none, Cond.methodLink RX0 100 yX0_landBarges, Cond.instanceMethod yX0_landBarges, Cond.selects RX0 yX0_landBarges yX0_landBarges, Cond.code yX0_landBarges cX0_landBarges 2 none, Cond.fieldLink RX0 44 "BargeWards$Town" "freeToday" "[I", Cond.methodLink RX0 117 yX0_freeIn, Cond.instanceMethod yX0_freeIn, Cond.selects RX0 yX0_freeIn yX0_freeIn, Cond.code yX0_freeIn cX0_freeIn 2 (some .int)]
def wsX1_homeAfter_r5 : List Cond := [Cond.methodLink RX0 76 yX0_countAt, Cond.instanceMethod yX0_countAt, Cond.selects RX0 yX0_countAt yX0_countAt, Cond.code yX0_countAt cX0_countAt 5 (some .int), Cond.methodLink RX0 120 yX0_landAll, Cond.instanceMethod yX0_landAll, Cond.selects RX0 yX0_landAll yX0_landAll, Cond.code yX0_landAll cX0_landAll 5 (some .boolean), Cond.methodLink RX0 124 yX0_takeFirstFreePlace, Cond.instanceMethod yX0_takeFirstFreePlace, Cond.selects RX0 yX0_takeFirstFreePlace yX0_takeFirstFreePlace, Cond.code yX0_takeFirstFreePlace cX0_takeFirstFreePlace 2 (some .int), Cond.methodLink RX1 98 yX0_count, Cond.instanceMethod yX0_count, Cond.selects RX0 yX0_count yX0_count, Cond.code yX0_count cX0_count 4 (some .int)]
def wsX1_homeAfter : List Cond := .code yX1_homeAfter cX1_homeAfter 2 (some .int) :: ((wsX1_homeAfter_r1 ++ (wsX1_homeAfter_r2 ++ (wsX1_homeAfter_r3 ++ (wsX1_homeAfter_r4 ++ wsX1_homeAfter_r5)))) ++ wsX10 ++ wsX00 ++ (vx_atS RX1 23 "java/lang/IllegalArgumentException" ["java/lang/RuntimeException", "java/lang/Exception"]).filter goodWord)
def wsX1_greatHouseAfter_r1 : List Cond := [Cond.methodLink RX1 95 yX1_checkDays, Cond.static yX1_checkDays, Cond.initialized RX1, Cond.code yX1_checkDays cX1_checkDays 1 none, Cond.classLink RX1 19 "java/lang/IllegalArgumentException", Cond.initialized "java/lang/IllegalArgumentException", Cond.methodLink RX1 146 yX1_countBehind, Cond.instanceMethod yX1_countBehind, Cond.selects RX1 yX1_countBehind yX1_countBehind, Cond.code yX1_countBehind cX1_countBehind 3 (some .int), Cond.fieldLink RX1 16 "BargeWards" "trial" "LBargeWards$Town;", Cond.fieldLink RX1 10 "BargeWards" "town" "LBargeWards$Town;", Cond.methodLink RX1 142 yX0_copyFrom, Cond.instanceMethod yX0_copyFrom, Cond.selects RX0 yX0_copyFrom yX0_copyFrom, Cond.initialized RX0, Cond.code yX0_copyFrom cX0_copyFrom 2 none, Cond.fieldLink RX0 47 "BargeWards$Town" "day" "I", Cond.fieldLink RX0 9 "BargeWards$Town" "bowls" "I", Cond.fieldLink RX0 50 "BargeWards$Town" "bowlsEaten" "I", Cond.fieldLink RX0 53 "BargeWards$Town" "wards" "I", Cond.fieldLink RX0 56 "BargeWards$Town" "barges" "I", Cond.fieldLink RX0 59 "BargeWards$Town" "people" "I", Cond.fieldLink RX0 15 "BargeWards$Town" "places" "[I"]
def wsX1_greatHouseAfter_r2 : List Cond := [Cond.methodLink RX0 62 arraycopyName, Cond.native arraycopyName, Cond.static arraycopyName, Cond.initialized "java/lang/System", Cond.fieldLink RX0 19 "BargeWards$Town" "straw" "[I", Cond.fieldLink RX0 22 "BargeWards$Town" "kept" "[I", Cond.fieldLink RX0 25 "BargeWards$Town" "toGo" "[I", Cond.fieldLink RX0 28 "BargeWards$Town" "fever" "[I", Cond.fieldLink RX0 31 "BargeWards$Town" "where" "[I", Cond.fieldLink RX0 34 "BargeWards$Town" "number" "[I", Cond.fieldLink RX0 37 "BargeWards$Town" "hungryDays" "[I", Cond.methodLink RX1 101 yX0_liveDays, Cond.instanceMethod yX0_liveDays, Cond.selects RX0 yX0_liveDays yX0_liveDays, Cond.code yX0_liveDays cX0_liveDays 3 none, Cond.methodLink RX0 85 yX0_giveBowls, Cond.instanceMethod yX0_giveBowls, Cond.selects RX0 yX0_giveBowls yX0_giveBowls, Cond.code yX0_giveBowls cX0_giveBowls 4 none, Cond.fieldLink RX0 40 "BargeWards$Town" "hungryToday" "[Z", Cond.methodLink RX0 72 yX0_isAt, Cond.instanceMethod yX0_isAt, Cond.selects RX0 yX0_isAt yX0_isAt, Cond.code yX0_isAt cX0_isAt 4 (some .boolean)]
def wsX1_greatHouseAfter_r3 : List Cond := [Cond.methodLink RX0 88 yX0_changeFeversInWards, Cond.instanceMethod yX0_changeFeversInWards, Cond.selects RX0 yX0_changeFeversInWards yX0_changeFeversInWards, Cond.code yX0_changeFeversInWards cX0_changeFeversInWards 4 none, Cond.methodLink RX0 80 Lib.Math.max.name, Cond.static Lib.Math.max.name, Cond.initialized "java/lang/Math", Cond.code Lib.Math.max.name Lib.Math.max.code 2 (some .int), Cond.methodLink RX0 103 yX0_raiseFever, Cond.instanceMethod yX0_raiseFever, Cond.selects RX0 yX0_raiseFever yX0_raiseFever, Cond.code yX0_raiseFever cX0_raiseFever 2 none, Cond.methodLink RX0 107 Lib.Math.min.name, Cond.static Lib.Math.min.name, Cond.code Lib.Math.min.name Lib.Math.min.code 2 (some .int), Cond.methodLink RX0 91 yX0_bringBargesNearer, Cond.instanceMethod yX0_bringBargesNearer, Cond.selects RX0 yX0_bringBargesNearer yX0_bringBargesNearer, Cond.code yX0_bringBargesNearer cX0_bringBargesNearer 2 none, Cond.methodLink RX0 110 yX0_spreadFever, Cond.instanceMethod yX0_spreadFever, Cond.selects RX0 yX0_spreadFever yX0_spreadFever, Cond.code yX0_spreadFever cX0_spreadFever 5 none, Cond.methodLink RX0 113 yX0_countFeverish]
def wsX1_greatHouseAfter_r4 : List Cond := [Cond.instanceMethod yX0_countFeverish, Cond.selects RX0 yX0_countFeverish yX0_countFeverish, Cond.code yX0_countFeverish cX0_countFeverish 4 (some .int), Cond.methodLink RX0 94 yX0_ageStraw, Cond.instanceMethod yX0_ageStraw, Cond.selects RX0 yX0_ageStraw yX0_ageStraw, Cond.code yX0_ageStraw cX0_ageStraw 2 none, Cond.methodLink RX0 97 yX0_leaveWards, Cond.instanceMethod yX0_leaveWards, Cond.selects RX0 yX0_leaveWards yX0_leaveWards, Cond.code yX0_leaveWards cX0_leaveWards 2 none, Cond.methodLink RX0 68 yX0_move, Cond.instanceMethod yX0_move, Cond.selects RX0 yX0_move yX0_move, Cond.code yX0_move cX0_move 4 none, Cond.methodLink RX0 100 yX0_landBarges, Cond.instanceMethod yX0_landBarges, Cond.selects RX0 yX0_landBarges yX0_landBarges, Cond.code yX0_landBarges cX0_landBarges 2 none, Cond.fieldLink RX0 44 "BargeWards$Town" "freeToday" "[I", Cond.methodLink RX0 117 yX0_freeIn, Cond.instanceMethod yX0_freeIn, Cond.selects RX0 yX0_freeIn yX0_freeIn, Cond.code yX0_freeIn cX0_freeIn 2 (some .int)]
def wsX1_greatHouseAfter_r5 : List Cond := [Cond.methodLink RX0 76 yX0_countAt, Cond.instanceMethod yX0_countAt, Cond.selects RX0 yX0_countAt yX0_countAt, Cond.code yX0_countAt cX0_countAt 5 (some .int), Cond.methodLink RX0 120 yX0_landAll, Cond.instanceMethod yX0_landAll, Cond.selects RX0 yX0_landAll yX0_landAll, Cond.code yX0_landAll cX0_landAll 5 (some .boolean), Cond.methodLink RX0 124 yX0_takeFirstFreePlace, Cond.instanceMethod yX0_takeFirstFreePlace, Cond.selects RX0 yX0_takeFirstFreePlace yX0_takeFirstFreePlace, Cond.code yX0_takeFirstFreePlace cX0_takeFirstFreePlace 2 (some .int), Cond.methodLink RX1 98 yX0_count, Cond.instanceMethod yX0_count, Cond.selects RX0 yX0_count yX0_count, Cond.code yX0_count cX0_count 4 (some .int)]
def wsX1_greatHouseAfter : List Cond := .code yX1_greatHouseAfter cX1_greatHouseAfter 2 (some .int) :: ((wsX1_greatHouseAfter_r1 ++ (wsX1_greatHouseAfter_r2 ++ (wsX1_greatHouseAfter_r3 ++ (wsX1_greatHouseAfter_r4 ++ wsX1_greatHouseAfter_r5)))) ++ wsX10 ++ wsX00 ++ (vx_atS RX1 23 "java/lang/IllegalArgumentException" ["java/lang/RuntimeException", "java/lang/Exception"]).filter goodWord)
def wsX1_homeWithFreshStraw_r1 : List Cond := [Cond.fieldLink RX1 16 "BargeWards" "trial" "LBargeWards$Town;", Cond.fieldLink RX1 10 "BargeWards" "town" "LBargeWards$Town;", Cond.fieldLink RX1 72 "BargeWards$Town" "straw" "[I", Cond.methodLink RX1 142 yX0_copyFrom, Cond.instanceMethod yX0_copyFrom, Cond.selects RX0 yX0_copyFrom yX0_copyFrom, Cond.initialized RX0, Cond.code yX0_copyFrom cX0_copyFrom 2 none, Cond.fieldLink RX0 47 "BargeWards$Town" "day" "I", Cond.fieldLink RX0 9 "BargeWards$Town" "bowls" "I", Cond.fieldLink RX0 50 "BargeWards$Town" "bowlsEaten" "I", Cond.fieldLink RX0 53 "BargeWards$Town" "wards" "I", Cond.fieldLink RX0 56 "BargeWards$Town" "barges" "I", Cond.fieldLink RX0 59 "BargeWards$Town" "people" "I", Cond.fieldLink RX0 15 "BargeWards$Town" "places" "[I", Cond.methodLink RX0 62 arraycopyName, Cond.native arraycopyName, Cond.static arraycopyName, Cond.initialized "java/lang/System", Cond.fieldLink RX0 19 "BargeWards$Town" "straw" "[I", Cond.fieldLink RX0 22 "BargeWards$Town" "kept" "[I", Cond.fieldLink RX0 25 "BargeWards$Town" "toGo" "[I", Cond.fieldLink RX0 28 "BargeWards$Town" "fever" "[I", Cond.fieldLink RX0 31 "BargeWards$Town" "where" "[I"]
def wsX1_homeWithFreshStraw_r2 : List Cond := [Cond.fieldLink RX0 34 "BargeWards$Town" "number" "[I", Cond.fieldLink RX0 37 "BargeWards$Town" "hungryDays" "[I", Cond.methodLink RX1 101 yX0_liveDays, Cond.instanceMethod yX0_liveDays, Cond.selects RX0 yX0_liveDays yX0_liveDays, Cond.code yX0_liveDays cX0_liveDays 3 none, Cond.methodLink RX0 85 yX0_giveBowls, Cond.instanceMethod yX0_giveBowls, Cond.selects RX0 yX0_giveBowls yX0_giveBowls, Cond.code yX0_giveBowls cX0_giveBowls 4 none, Cond.fieldLink RX0 40 "BargeWards$Town" "hungryToday" "[Z", Cond.methodLink RX0 72 yX0_isAt, Cond.instanceMethod yX0_isAt, Cond.selects RX0 yX0_isAt yX0_isAt, Cond.code yX0_isAt cX0_isAt 4 (some .boolean), Cond.methodLink RX0 88 yX0_changeFeversInWards, Cond.instanceMethod yX0_changeFeversInWards, Cond.selects RX0 yX0_changeFeversInWards yX0_changeFeversInWards, Cond.code yX0_changeFeversInWards cX0_changeFeversInWards 4 none, Cond.methodLink RX0 80 Lib.Math.max.name, Cond.static Lib.Math.max.name, Cond.initialized "java/lang/Math", Cond.code Lib.Math.max.name Lib.Math.max.code 2 (some .int), Cond.methodLink RX0 103 yX0_raiseFever]
def wsX1_homeWithFreshStraw_r3 : List Cond := [Cond.instanceMethod yX0_raiseFever, Cond.selects RX0 yX0_raiseFever yX0_raiseFever, Cond.code yX0_raiseFever cX0_raiseFever 2 none, Cond.methodLink RX0 107 Lib.Math.min.name, Cond.static Lib.Math.min.name, Cond.code Lib.Math.min.name Lib.Math.min.code 2 (some .int), Cond.methodLink RX0 91 yX0_bringBargesNearer, Cond.instanceMethod yX0_bringBargesNearer, Cond.selects RX0 yX0_bringBargesNearer yX0_bringBargesNearer, Cond.code yX0_bringBargesNearer cX0_bringBargesNearer 2 none, Cond.methodLink RX0 110 yX0_spreadFever, Cond.instanceMethod yX0_spreadFever, Cond.selects RX0 yX0_spreadFever yX0_spreadFever, Cond.code yX0_spreadFever cX0_spreadFever 5 none, Cond.methodLink RX0 113 yX0_countFeverish, Cond.instanceMethod yX0_countFeverish, Cond.selects RX0 yX0_countFeverish yX0_countFeverish, Cond.code yX0_countFeverish cX0_countFeverish 4 (some .int), Cond.methodLink RX0 94 yX0_ageStraw, Cond.instanceMethod yX0_ageStraw, Cond.selects RX0 yX0_ageStraw yX0_ageStraw, Cond.code yX0_ageStraw cX0_ageStraw 2 none, Cond.methodLink RX0 97 yX0_leaveWards, Cond.instanceMethod yX0_leaveWards]
def wsX1_homeWithFreshStraw_r4 : List Cond := [Cond.selects RX0 yX0_leaveWards yX0_leaveWards, Cond.code yX0_leaveWards cX0_leaveWards 2 none, Cond.methodLink RX0 68 yX0_move, Cond.instanceMethod yX0_move, Cond.selects RX0 yX0_move yX0_move, Cond.code yX0_move cX0_move 4 none, Cond.methodLink RX0 100 yX0_landBarges, Cond.instanceMethod yX0_landBarges, Cond.selects RX0 yX0_landBarges yX0_landBarges, Cond.code yX0_landBarges cX0_landBarges 2 none, Cond.fieldLink RX0 44 "BargeWards$Town" "freeToday" "[I", Cond.methodLink RX0 117 yX0_freeIn, Cond.instanceMethod yX0_freeIn, Cond.selects RX0 yX0_freeIn yX0_freeIn, Cond.code yX0_freeIn cX0_freeIn 2 (some .int), Cond.methodLink RX0 76 yX0_countAt, Cond.instanceMethod yX0_countAt, Cond.selects RX0 yX0_countAt yX0_countAt, Cond.code yX0_countAt cX0_countAt 5 (some .int), Cond.methodLink RX0 120 yX0_landAll, Cond.instanceMethod yX0_landAll, Cond.selects RX0 yX0_landAll yX0_landAll, Cond.code yX0_landAll cX0_landAll 5 (some .boolean), Cond.methodLink RX0 124 yX0_takeFirstFreePlace]
def wsX1_homeWithFreshStraw_r5 : List Cond := [Cond.instanceMethod yX0_takeFirstFreePlace, Cond.selects RX0 yX0_takeFirstFreePlace yX0_takeFirstFreePlace, Cond.code yX0_takeFirstFreePlace cX0_takeFirstFreePlace 2 (some .int), Cond.methodLink RX1 98 yX0_count, Cond.instanceMethod yX0_count, Cond.selects RX0 yX0_count yX0_count, Cond.code yX0_count cX0_count 4 (some .int)]
def wsX1_homeWithFreshStraw : List Cond := .code yX1_homeWithFreshStraw cX1_homeWithFreshStraw 3 (some .int) :: ((wsX1_homeWithFreshStraw_r1 ++ (wsX1_homeWithFreshStraw_r2 ++ (wsX1_homeWithFreshStraw_r3 ++ (wsX1_homeWithFreshStraw_r4 ++ wsX1_homeWithFreshStraw_r5)))) ++ wsX10 ++ wsX00)
def wsX1_bestStraw_r1 : List Cond := [Cond.fieldLink RX1 10 "BargeWards" "town" "LBargeWards$Town;", Cond.fieldLink RX1 26 "BargeWards$Town" "wards" "I", Cond.methodLink RX1 95 yX1_checkDays, Cond.static yX1_checkDays, Cond.initialized RX1, Cond.code yX1_checkDays cX1_checkDays 1 none, Cond.classLink RX1 19 "java/lang/IllegalArgumentException", Cond.initialized "java/lang/IllegalArgumentException", Cond.methodLink RX1 146 yX1_countBehind, Cond.instanceMethod yX1_countBehind, Cond.selects RX1 yX1_countBehind yX1_countBehind, Cond.code yX1_countBehind cX1_countBehind 3 (some .int), Cond.fieldLink RX1 16 "BargeWards" "trial" "LBargeWards$Town;", Cond.methodLink RX1 142 yX0_copyFrom, Cond.instanceMethod yX0_copyFrom, Cond.selects RX0 yX0_copyFrom yX0_copyFrom, Cond.initialized RX0, Cond.code yX0_copyFrom cX0_copyFrom 2 none, Cond.fieldLink RX0 47 "BargeWards$Town" "day" "I", Cond.fieldLink RX0 9 "BargeWards$Town" "bowls" "I", Cond.fieldLink RX0 50 "BargeWards$Town" "bowlsEaten" "I", Cond.fieldLink RX0 53 "BargeWards$Town" "wards" "I", Cond.fieldLink RX0 56 "BargeWards$Town" "barges" "I", Cond.fieldLink RX0 59 "BargeWards$Town" "people" "I"]
def wsX1_bestStraw_r2 : List Cond := [Cond.fieldLink RX0 15 "BargeWards$Town" "places" "[I", Cond.methodLink RX0 62 arraycopyName, Cond.native arraycopyName, Cond.static arraycopyName, Cond.initialized "java/lang/System", Cond.fieldLink RX0 19 "BargeWards$Town" "straw" "[I", Cond.fieldLink RX0 22 "BargeWards$Town" "kept" "[I", Cond.fieldLink RX0 25 "BargeWards$Town" "toGo" "[I", Cond.fieldLink RX0 28 "BargeWards$Town" "fever" "[I", Cond.fieldLink RX0 31 "BargeWards$Town" "where" "[I", Cond.fieldLink RX0 34 "BargeWards$Town" "number" "[I", Cond.fieldLink RX0 37 "BargeWards$Town" "hungryDays" "[I", Cond.methodLink RX1 101 yX0_liveDays, Cond.instanceMethod yX0_liveDays, Cond.selects RX0 yX0_liveDays yX0_liveDays, Cond.code yX0_liveDays cX0_liveDays 3 none, Cond.methodLink RX0 85 yX0_giveBowls, Cond.instanceMethod yX0_giveBowls, Cond.selects RX0 yX0_giveBowls yX0_giveBowls, Cond.code yX0_giveBowls cX0_giveBowls 4 none, Cond.fieldLink RX0 40 "BargeWards$Town" "hungryToday" "[Z", Cond.methodLink RX0 72 yX0_isAt, Cond.instanceMethod yX0_isAt, Cond.selects RX0 yX0_isAt yX0_isAt]
def wsX1_bestStraw_r3 : List Cond := [Cond.code yX0_isAt cX0_isAt 4 (some .boolean), Cond.methodLink RX0 88 yX0_changeFeversInWards, Cond.instanceMethod yX0_changeFeversInWards, Cond.selects RX0 yX0_changeFeversInWards yX0_changeFeversInWards, Cond.code yX0_changeFeversInWards cX0_changeFeversInWards 4 none, Cond.methodLink RX0 80 Lib.Math.max.name, Cond.static Lib.Math.max.name, Cond.initialized "java/lang/Math", Cond.code Lib.Math.max.name Lib.Math.max.code 2 (some .int), Cond.methodLink RX0 103 yX0_raiseFever, Cond.instanceMethod yX0_raiseFever, Cond.selects RX0 yX0_raiseFever yX0_raiseFever, Cond.code yX0_raiseFever cX0_raiseFever 2 none, Cond.methodLink RX0 107 Lib.Math.min.name, Cond.static Lib.Math.min.name, Cond.code Lib.Math.min.name Lib.Math.min.code 2 (some .int), Cond.methodLink RX0 91 yX0_bringBargesNearer, Cond.instanceMethod yX0_bringBargesNearer, Cond.selects RX0 yX0_bringBargesNearer yX0_bringBargesNearer, Cond.code yX0_bringBargesNearer cX0_bringBargesNearer 2 none, Cond.methodLink RX0 110 yX0_spreadFever, Cond.instanceMethod yX0_spreadFever, Cond.selects RX0 yX0_spreadFever yX0_spreadFever, Cond.code yX0_spreadFever cX0_spreadFever 5 none]
def wsX1_bestStraw_r4 : List Cond := [Cond.methodLink RX0 113 yX0_countFeverish, Cond.instanceMethod yX0_countFeverish, Cond.selects RX0 yX0_countFeverish yX0_countFeverish, Cond.code yX0_countFeverish cX0_countFeverish 4 (some .int), Cond.methodLink RX0 94 yX0_ageStraw, Cond.instanceMethod yX0_ageStraw, Cond.selects RX0 yX0_ageStraw yX0_ageStraw, Cond.code yX0_ageStraw cX0_ageStraw 2 none, Cond.methodLink RX0 97 yX0_leaveWards, Cond.instanceMethod yX0_leaveWards, Cond.selects RX0 yX0_leaveWards yX0_leaveWards, Cond.code yX0_leaveWards cX0_leaveWards 2 none, Cond.methodLink RX0 68 yX0_move, Cond.instanceMethod yX0_move, Cond.selects RX0 yX0_move yX0_move, Cond.code yX0_move cX0_move 4 none, Cond.methodLink RX0 100 yX0_landBarges, Cond.instanceMethod yX0_landBarges, Cond.selects RX0 yX0_landBarges yX0_landBarges, Cond.code yX0_landBarges cX0_landBarges 2 none, Cond.fieldLink RX0 44 "BargeWards$Town" "freeToday" "[I", Cond.methodLink RX0 117 yX0_freeIn, Cond.instanceMethod yX0_freeIn, Cond.selects RX0 yX0_freeIn yX0_freeIn]
def wsX1_bestStraw_r5 : List Cond := [Cond.code yX0_freeIn cX0_freeIn 2 (some .int), Cond.methodLink RX0 76 yX0_countAt, Cond.instanceMethod yX0_countAt, Cond.selects RX0 yX0_countAt yX0_countAt, Cond.code yX0_countAt cX0_countAt 5 (some .int), Cond.methodLink RX0 120 yX0_landAll, Cond.instanceMethod yX0_landAll, Cond.selects RX0 yX0_landAll yX0_landAll, Cond.code yX0_landAll cX0_landAll 5 (some .boolean), Cond.methodLink RX0 124 yX0_takeFirstFreePlace, Cond.instanceMethod yX0_takeFirstFreePlace, Cond.selects RX0 yX0_takeFirstFreePlace yX0_takeFirstFreePlace, Cond.code yX0_takeFirstFreePlace cX0_takeFirstFreePlace 2 (some .int), Cond.methodLink RX1 98 yX0_count, Cond.instanceMethod yX0_count, Cond.selects RX0 yX0_count yX0_count, Cond.code yX0_count cX0_count 4 (some .int), Cond.methodLink RX1 149 yX1_homeWithFreshStraw, Cond.instanceMethod yX1_homeWithFreshStraw, Cond.selects RX1 yX1_homeWithFreshStraw yX1_homeWithFreshStraw, Cond.code yX1_homeWithFreshStraw cX1_homeWithFreshStraw 3 (some .int), Cond.fieldLink RX1 72 "BargeWards$Town" "straw" "[I"]
def wsX1_bestStraw : List Cond := .code yX1_bestStraw cX1_bestStraw 6 (some .int) :: ((wsX1_bestStraw_r1 ++ (wsX1_bestStraw_r2 ++ (wsX1_bestStraw_r3 ++ (wsX1_bestStraw_r4 ++ wsX1_bestStraw_r5)))) ++ wsX10 ++ wsX00 ++ (vx_atS RX1 23 "java/lang/IllegalArgumentException" ["java/lang/RuntimeException", "java/lang/Exception"]).filter goodWord)
def wsX1_bowlsNeeded : List Cond := .code yX1_bowlsNeeded cX1_bowlsNeeded 1 (some .int) :: ([.fieldLink RX1 10 "BargeWards" "town" "LBargeWards$Town;", .methodLink RX1 98 yX0_count, .instanceMethod yX0_count, .selects RX0 yX0_count yX0_count, .initialized RX0, .code yX0_count cX0_count 4 (some .int), .fieldLink RX0 59 "BargeWards$Town" "people" "I", .fieldLink RX0 31 "BargeWards$Town" "where" "[I"] ++ wsX10 ++ wsX00)
def wsX1_meanFever : List Cond := .code yX1_meanFever cX1_meanFever 4 (some .double) :: ([.fieldLink RX1 10 "BargeWards" "town" "LBargeWards$Town;", .fieldLink RX1 26 "BargeWards$Town" "wards" "I", .methodLink RX1 98 yX0_count, .instanceMethod yX0_count, .selects RX0 yX0_count yX0_count, .initialized RX0, .code yX0_count cX0_count 4 (some .int), .fieldLink RX0 59 "BargeWards$Town" "people" "I", .fieldLink RX0 31 "BargeWards$Town" "where" "[I", .methodLink RX1 119 yX0_feversInWard, .instanceMethod yX0_feversInWard, .selects RX0 yX0_feversInWard yX0_feversInWard, .code yX0_feversInWard cX0_feversInWard 4 (some .int), .fieldLink RX0 28 "BargeWards$Town" "fever" "[I", .methodLink RX0 72 yX0_isAt, .instanceMethod yX0_isAt, .selects RX0 yX0_isAt yX0_isAt, .code yX0_isAt cX0_isAt 4 (some .boolean), .fieldLink RX0 34 "BargeWards$Town" "number" "[I"] ++ wsX10 ++ wsX00)
def wsX1_digestWith : List Cond := .code yX1_digestWith cX1_digestWith 3 (some .long) :: ([.constantLong RX1 168 (31)])
def wsX1_digestWithWards_r1 : List Cond := [Cond.fieldLink RX1 10 "BargeWards" "town" "LBargeWards$Town;", Cond.fieldLink RX1 26 "BargeWards$Town" "wards" "I", Cond.fieldLink RX1 113 "BargeWards$Town" "places" "[I", Cond.fieldLink RX1 72 "BargeWards$Town" "straw" "[I", Cond.methodLink RX1 154 yX1_digestWith, Cond.static yX1_digestWith, Cond.initialized RX1, Cond.code yX1_digestWith cX1_digestWith 3 (some .long), Cond.constantLong RX1 168 (31), Cond.methodLink RX1 116 yX0_countAt, Cond.instanceMethod yX0_countAt, Cond.selects RX0 yX0_countAt yX0_countAt, Cond.initialized RX0, Cond.code yX0_countAt cX0_countAt 5 (some .int), Cond.fieldLink RX0 59 "BargeWards$Town" "people" "I", Cond.methodLink RX0 72 yX0_isAt, Cond.instanceMethod yX0_isAt, Cond.selects RX0 yX0_isAt yX0_isAt, Cond.code yX0_isAt cX0_isAt 4 (some .boolean), Cond.fieldLink RX0 31 "BargeWards$Town" "where" "[I", Cond.fieldLink RX0 34 "BargeWards$Town" "number" "[I", Cond.methodLink RX1 119 yX0_feversInWard, Cond.instanceMethod yX0_feversInWard, Cond.selects RX0 yX0_feversInWard yX0_feversInWard]
def wsX1_digestWithWards_r2 : List Cond := [Cond.code yX0_feversInWard cX0_feversInWard 4 (some .int), Cond.fieldLink RX0 28 "BargeWards$Town" "fever" "[I"]
def wsX1_digestWithWards : List Cond := .code yX1_digestWithWards cX1_digestWithWards 6 (some .long) :: ((wsX1_digestWithWards_r1 ++ wsX1_digestWithWards_r2) ++ wsX10 ++ wsX00)
def wsX1_digestWithBarges : List Cond := .code yX1_digestWithBarges cX1_digestWithBarges 6 (some .long) :: ([.fieldLink RX1 10 "BargeWards" "town" "LBargeWards$Town;", .fieldLink RX1 41 "BargeWards$Town" "barges" "I", .fieldLink RX1 122 "BargeWards$Town" "toGo" "[I", .fieldLink RX1 125 "BargeWards$Town" "kept" "[I", .methodLink RX1 154 yX1_digestWith, .static yX1_digestWith, .initialized RX1, .code yX1_digestWith cX1_digestWith 3 (some .long), .constantLong RX1 168 (31), .methodLink RX1 116 yX0_countAt, .instanceMethod yX0_countAt, .selects RX0 yX0_countAt yX0_countAt, .initialized RX0, .code yX0_countAt cX0_countAt 5 (some .int), .fieldLink RX0 59 "BargeWards$Town" "people" "I", .methodLink RX0 72 yX0_isAt, .instanceMethod yX0_isAt, .selects RX0 yX0_isAt yX0_isAt, .code yX0_isAt cX0_isAt 4 (some .boolean), .fieldLink RX0 31 "BargeWards$Town" "where" "[I", .fieldLink RX0 34 "BargeWards$Town" "number" "[I"] ++ wsX10 ++ wsX00)
def wsX1_digestWithPeople : List Cond := .code yX1_digestWithPeople cX1_digestWithPeople 6 (some .long) :: ([.fieldLink RX1 10 "BargeWards" "town" "LBargeWards$Town;", .fieldLink RX1 55 "BargeWards$Town" "people" "I", .fieldLink RX1 104 "BargeWards$Town" "fever" "[I", .fieldLink RX1 107 "BargeWards$Town" "where" "[I", .fieldLink RX1 110 "BargeWards$Town" "hungryDays" "[I", .methodLink RX1 154 yX1_digestWith, .static yX1_digestWith, .initialized RX1, .code yX1_digestWith cX1_digestWith 3 (some .long), .constantLong RX1 168 (31), .methodLink RX1 79 yX0_numberOf, .instanceMethod yX0_numberOf, .selects RX0 yX0_numberOf yX0_numberOf, .initialized RX0, .code yX0_numberOf cX0_numberOf 3 (some .int), .fieldLink RX0 31 "BargeWards$Town" "where" "[I", .fieldLink RX0 34 "BargeWards$Town" "number" "[I"] ++ wsX10 ++ wsX00)
def wsX1_digest_r1 : List Cond := [Cond.constantLong RX1 152 (1877), Cond.fieldLink RX1 10 "BargeWards" "town" "LBargeWards$Town;", Cond.fieldLink RX1 131 "BargeWards$Town" "day" "I", Cond.fieldLink RX1 26 "BargeWards$Town" "wards" "I", Cond.fieldLink RX1 41 "BargeWards$Town" "barges" "I", Cond.fieldLink RX1 55 "BargeWards$Town" "people" "I", Cond.fieldLink RX1 66 "BargeWards$Town" "bowls" "I", Cond.fieldLink RX1 139 "BargeWards$Town" "bowlsEaten" "I", Cond.methodLink RX1 154 yX1_digestWith, Cond.static yX1_digestWith, Cond.initialized RX1, Cond.code yX1_digestWith cX1_digestWith 3 (some .long), Cond.constantLong RX1 168 (31), Cond.methodLink RX1 158 yX1_digestWithWards, Cond.instanceMethod yX1_digestWithWards, Cond.selects RX1 yX1_digestWithWards yX1_digestWithWards, Cond.code yX1_digestWithWards cX1_digestWithWards 6 (some .long), Cond.fieldLink RX1 113 "BargeWards$Town" "places" "[I", Cond.fieldLink RX1 72 "BargeWards$Town" "straw" "[I", Cond.methodLink RX1 116 yX0_countAt, Cond.instanceMethod yX0_countAt, Cond.selects RX0 yX0_countAt yX0_countAt, Cond.initialized RX0, Cond.code yX0_countAt cX0_countAt 5 (some .int)]
def wsX1_digest_r2 : List Cond := [Cond.fieldLink RX0 59 "BargeWards$Town" "people" "I", Cond.methodLink RX0 72 yX0_isAt, Cond.instanceMethod yX0_isAt, Cond.selects RX0 yX0_isAt yX0_isAt, Cond.code yX0_isAt cX0_isAt 4 (some .boolean), Cond.fieldLink RX0 31 "BargeWards$Town" "where" "[I", Cond.fieldLink RX0 34 "BargeWards$Town" "number" "[I", Cond.methodLink RX1 119 yX0_feversInWard, Cond.instanceMethod yX0_feversInWard, Cond.selects RX0 yX0_feversInWard yX0_feversInWard, Cond.code yX0_feversInWard cX0_feversInWard 4 (some .int), Cond.fieldLink RX0 28 "BargeWards$Town" "fever" "[I", Cond.methodLink RX1 162 yX1_digestWithBarges, Cond.instanceMethod yX1_digestWithBarges, Cond.selects RX1 yX1_digestWithBarges yX1_digestWithBarges, Cond.code yX1_digestWithBarges cX1_digestWithBarges 6 (some .long), Cond.fieldLink RX1 122 "BargeWards$Town" "toGo" "[I", Cond.fieldLink RX1 125 "BargeWards$Town" "kept" "[I", Cond.methodLink RX1 165 yX1_digestWithPeople, Cond.instanceMethod yX1_digestWithPeople, Cond.selects RX1 yX1_digestWithPeople yX1_digestWithPeople, Cond.code yX1_digestWithPeople cX1_digestWithPeople 6 (some .long), Cond.fieldLink RX1 104 "BargeWards$Town" "fever" "[I", Cond.fieldLink RX1 107 "BargeWards$Town" "where" "[I"]
def wsX1_digest_r3 : List Cond := [Cond.fieldLink RX1 110 "BargeWards$Town" "hungryDays" "[I", Cond.methodLink RX1 79 yX0_numberOf, Cond.instanceMethod yX0_numberOf, Cond.selects RX0 yX0_numberOf yX0_numberOf, Cond.code yX0_numberOf cX0_numberOf 3 (some .int)]
def wsX1_digest : List Cond := .code yX1_digest cX1_digest 3 (some .long) :: ((wsX1_digest_r1 ++ (wsX1_digest_r2 ++ wsX1_digest_r3)) ++ wsX10 ++ wsX00)
def wsX2_init : List Cond := .code yX2_init cX2_init 1 none :: ([.methodLink RX2 3 objectInit, .instanceMethod objectInit, .code objectInit ⟨#[0xb1]⟩ 1 none, .fieldLink RX2 9 "BargeWardsModel$Town" "bowls" "I", .arrayClass .int, .fieldLink RX2 15 "BargeWardsModel$Town" "places" "[I", .fieldLink RX2 19 "BargeWardsModel$Town" "straw" "[I", .fieldLink RX2 22 "BargeWardsModel$Town" "kept" "[I", .fieldLink RX2 25 "BargeWardsModel$Town" "toGo" "[I", .fieldLink RX2 28 "BargeWardsModel$Town" "fever" "[I", .fieldLink RX2 31 "BargeWardsModel$Town" "where" "[I", .fieldLink RX2 34 "BargeWardsModel$Town" "hungry" "[I"] ++ wsX20)
def wsX2_copy : List Cond := .code yX2_copy cX2_copy 2 none :: ([.methodLink RX2 37 arraycopyName, .native arraycopyName, .static arraycopyName, .initialized "java/lang/System"])
def wsX2_become : List Cond := .code yX2_become cX2_become 2 none :: ([.fieldLink RX2 43 "BargeWardsModel$Town" "day" "I", .fieldLink RX2 46 "BargeWardsModel$Town" "wards" "I", .fieldLink RX2 49 "BargeWardsModel$Town" "barges" "I", .fieldLink RX2 52 "BargeWardsModel$Town" "people" "I", .fieldLink RX2 9 "BargeWardsModel$Town" "bowls" "I", .fieldLink RX2 55 "BargeWardsModel$Town" "eaten" "I", .fieldLink RX2 15 "BargeWardsModel$Town" "places" "[I", .fieldLink RX2 19 "BargeWardsModel$Town" "straw" "[I", .fieldLink RX2 22 "BargeWardsModel$Town" "kept" "[I", .fieldLink RX2 25 "BargeWardsModel$Town" "toGo" "[I", .fieldLink RX2 28 "BargeWardsModel$Town" "fever" "[I", .fieldLink RX2 31 "BargeWardsModel$Town" "where" "[I", .fieldLink RX2 34 "BargeWardsModel$Town" "hungry" "[I", .methodLink RX2 58 yX2_copy, .static yX2_copy, .initialized RX2, .code yX2_copy cX2_copy 2 none, .methodLink RX2 37 arraycopyName, .native arraycopyName, .static arraycopyName, .initialized "java/lang/System"] ++ wsX20)
def wsX2_at : List Cond := .code yX2_at cX2_at 4 (some .int) :: ([.fieldLink RX2 52 "BargeWardsModel$Town" "people" "I", .fieldLink RX2 31 "BargeWardsModel$Town" "where" "[I"] ++ wsX20)
def wsX2_inWards : List Cond := .code yX2_inWards cX2_inWards 3 (some .int) :: ([.fieldLink RX2 52 "BargeWardsModel$Town" "people" "I", .fieldLink RX2 31 "BargeWardsModel$Town" "where" "[I", .fieldLink RX2 46 "BargeWardsModel$Town" "wards" "I"] ++ wsX20)
def wsX2_feed : List Cond := .code yX2_feed cX2_feed 5 none :: ([.fieldLink RX2 9 "BargeWardsModel$Town" "bowls" "I", .fieldLink RX2 46 "BargeWardsModel$Town" "wards" "I", .fieldLink RX2 52 "BargeWardsModel$Town" "people" "I", .fieldLink RX2 31 "BargeWardsModel$Town" "where" "[I", .fieldLink RX2 34 "BargeWardsModel$Town" "hungry" "[I", .fieldLink RX2 55 "BargeWardsModel$Town" "eaten" "I", .fieldLink RX2 28 "BargeWardsModel$Town" "fever" "[I", .fieldLink RX2 19 "BargeWardsModel$Town" "straw" "[I", .methodLink RX2 62 Lib.Math.min.name, .static Lib.Math.min.name, .initialized "java/lang/Math", .code Lib.Math.min.name Lib.Math.min.code 2 (some .int), .methodLink RX2 68 Lib.Math.max.name, .static Lib.Math.max.name, .code Lib.Math.max.name Lib.Math.max.code 2 (some .int)] ++ wsX20)
def wsX2_keep : List Cond := .code yX2_keep cX2_keep 5 none :: ([.fieldLink RX2 25 "BargeWardsModel$Town" "toGo" "[I", .fieldLink RX2 52 "BargeWardsModel$Town" "people" "I", .fieldLink RX2 31 "BargeWardsModel$Town" "where" "[I", .fieldLink RX2 28 "BargeWardsModel$Town" "fever" "[I", .methodLink RX2 62 Lib.Math.min.name, .static Lib.Math.min.name, .initialized "java/lang/Math", .code Lib.Math.min.name Lib.Math.min.code 2 (some .int)] ++ wsX20)
def wsX2_leaveWards : List Cond := .code yX2_leaveWards cX2_leaveWards 2 none :: ([.fieldLink RX2 52 "BargeWardsModel$Town" "people" "I", .fieldLink RX2 31 "BargeWardsModel$Town" "where" "[I", .fieldLink RX2 46 "BargeWardsModel$Town" "wards" "I", .fieldLink RX2 28 "BargeWardsModel$Town" "fever" "[I"] ++ wsX20)
def wsX2_firstFree : List Cond := .code yX2_firstFree cX2_firstFree 2 (some .int) :: ([.fieldLink RX2 46 "BargeWardsModel$Town" "wards" "I", .fieldLink RX2 15 "BargeWardsModel$Town" "places" "[I", .methodLink RX2 71 yX2_at, .instanceMethod yX2_at, .selects RX2 yX2_at yX2_at, .initialized RX2, .code yX2_at cX2_at 4 (some .int), .fieldLink RX2 52 "BargeWardsModel$Town" "people" "I", .fieldLink RX2 31 "BargeWardsModel$Town" "where" "[I"] ++ wsX20)
def wsX2_land : List Cond := .code yX2_land cX2_land 4 none :: ([.fieldLink RX2 25 "BargeWardsModel$Town" "toGo" "[I", .fieldLink RX2 52 "BargeWardsModel$Town" "people" "I", .fieldLink RX2 31 "BargeWardsModel$Town" "where" "[I", .fieldLink RX2 28 "BargeWardsModel$Town" "fever" "[I", .fieldLink RX2 22 "BargeWardsModel$Town" "kept" "[I", .methodLink RX2 75 yX2_firstFree, .instanceMethod yX2_firstFree, .selects RX2 yX2_firstFree yX2_firstFree, .initialized RX2, .code yX2_firstFree cX2_firstFree 2 (some .int), .fieldLink RX2 46 "BargeWardsModel$Town" "wards" "I", .fieldLink RX2 15 "BargeWardsModel$Town" "places" "[I", .methodLink RX2 71 yX2_at, .instanceMethod yX2_at, .selects RX2 yX2_at yX2_at, .code yX2_at cX2_at 4 (some .int)] ++ wsX20)
def wsX2_pass_r1 : List Cond := [Cond.fieldLink RX2 49 "BargeWardsModel$Town" "barges" "I", Cond.fieldLink RX2 46 "BargeWardsModel$Town" "wards" "I", Cond.fieldLink RX2 19 "BargeWardsModel$Town" "straw" "[I", Cond.fieldLink RX2 43 "BargeWardsModel$Town" "day" "I", Cond.methodLink RX2 79 yX2_feed, Cond.instanceMethod yX2_feed, Cond.selects RX2 yX2_feed yX2_feed, Cond.initialized RX2, Cond.code yX2_feed cX2_feed 5 none, Cond.fieldLink RX2 9 "BargeWardsModel$Town" "bowls" "I", Cond.fieldLink RX2 52 "BargeWardsModel$Town" "people" "I", Cond.fieldLink RX2 31 "BargeWardsModel$Town" "where" "[I", Cond.fieldLink RX2 34 "BargeWardsModel$Town" "hungry" "[I", Cond.fieldLink RX2 55 "BargeWardsModel$Town" "eaten" "I", Cond.fieldLink RX2 28 "BargeWardsModel$Town" "fever" "[I", Cond.methodLink RX2 62 Lib.Math.min.name, Cond.static Lib.Math.min.name, Cond.initialized "java/lang/Math", Cond.code Lib.Math.min.name Lib.Math.min.code 2 (some .int), Cond.methodLink RX2 68 Lib.Math.max.name, Cond.static Lib.Math.max.name, Cond.code Lib.Math.max.name Lib.Math.max.code 2 (some .int), Cond.methodLink RX2 82 yX2_keep, Cond.instanceMethod yX2_keep]
def wsX2_pass_r2 : List Cond := [Cond.selects RX2 yX2_keep yX2_keep, Cond.code yX2_keep cX2_keep 5 none, Cond.fieldLink RX2 25 "BargeWardsModel$Town" "toGo" "[I", Cond.methodLink RX2 86 yX2_leaveWards, Cond.instanceMethod yX2_leaveWards, Cond.selects RX2 yX2_leaveWards yX2_leaveWards, Cond.code yX2_leaveWards cX2_leaveWards 2 none, Cond.methodLink RX2 89 yX2_land, Cond.instanceMethod yX2_land, Cond.selects RX2 yX2_land yX2_land, Cond.code yX2_land cX2_land 4 none, Cond.fieldLink RX2 22 "BargeWardsModel$Town" "kept" "[I", Cond.methodLink RX2 75 yX2_firstFree, Cond.instanceMethod yX2_firstFree, Cond.selects RX2 yX2_firstFree yX2_firstFree, Cond.code yX2_firstFree cX2_firstFree 2 (some .int), Cond.fieldLink RX2 15 "BargeWardsModel$Town" "places" "[I", Cond.methodLink RX2 71 yX2_at, Cond.instanceMethod yX2_at, Cond.selects RX2 yX2_at yX2_at, Cond.code yX2_at cX2_at 4 (some .int)]
def wsX2_pass : List Cond := .code yX2_pass cX2_pass 2 none :: ((wsX2_pass_r1 ++ wsX2_pass_r2) ++ wsX20)
def wsX2_passOn_r1 : List Cond := [Cond.methodLink RX2 92 yX2_pass, Cond.instanceMethod yX2_pass, Cond.selects RX2 yX2_pass yX2_pass, Cond.initialized RX2, Cond.code yX2_pass cX2_pass 2 none, Cond.fieldLink RX2 49 "BargeWardsModel$Town" "barges" "I", Cond.fieldLink RX2 46 "BargeWardsModel$Town" "wards" "I", Cond.fieldLink RX2 19 "BargeWardsModel$Town" "straw" "[I", Cond.fieldLink RX2 43 "BargeWardsModel$Town" "day" "I", Cond.methodLink RX2 79 yX2_feed, Cond.instanceMethod yX2_feed, Cond.selects RX2 yX2_feed yX2_feed, Cond.code yX2_feed cX2_feed 5 none, Cond.fieldLink RX2 9 "BargeWardsModel$Town" "bowls" "I", Cond.fieldLink RX2 52 "BargeWardsModel$Town" "people" "I", Cond.fieldLink RX2 31 "BargeWardsModel$Town" "where" "[I", Cond.fieldLink RX2 34 "BargeWardsModel$Town" "hungry" "[I", Cond.fieldLink RX2 55 "BargeWardsModel$Town" "eaten" "I", Cond.fieldLink RX2 28 "BargeWardsModel$Town" "fever" "[I", Cond.methodLink RX2 62 Lib.Math.min.name, Cond.static Lib.Math.min.name, Cond.initialized "java/lang/Math", Cond.code Lib.Math.min.name Lib.Math.min.code 2 (some .int), Cond.methodLink RX2 68 Lib.Math.max.name]
def wsX2_passOn_r2 : List Cond := [Cond.static Lib.Math.max.name, Cond.code Lib.Math.max.name Lib.Math.max.code 2 (some .int), Cond.methodLink RX2 82 yX2_keep, Cond.instanceMethod yX2_keep, Cond.selects RX2 yX2_keep yX2_keep, Cond.code yX2_keep cX2_keep 5 none, Cond.fieldLink RX2 25 "BargeWardsModel$Town" "toGo" "[I", Cond.methodLink RX2 86 yX2_leaveWards, Cond.instanceMethod yX2_leaveWards, Cond.selects RX2 yX2_leaveWards yX2_leaveWards, Cond.code yX2_leaveWards cX2_leaveWards 2 none, Cond.methodLink RX2 89 yX2_land, Cond.instanceMethod yX2_land, Cond.selects RX2 yX2_land yX2_land, Cond.code yX2_land cX2_land 4 none, Cond.fieldLink RX2 22 "BargeWardsModel$Town" "kept" "[I", Cond.methodLink RX2 75 yX2_firstFree, Cond.instanceMethod yX2_firstFree, Cond.selects RX2 yX2_firstFree yX2_firstFree, Cond.code yX2_firstFree cX2_firstFree 2 (some .int), Cond.fieldLink RX2 15 "BargeWardsModel$Town" "places" "[I", Cond.methodLink RX2 71 yX2_at, Cond.instanceMethod yX2_at, Cond.selects RX2 yX2_at yX2_at]
def wsX2_passOn_r3 : List Cond := [Cond.code yX2_at cX2_at 4 (some .int)]
def wsX2_passOn : List Cond := .code yX2_passOn cX2_passOn 3 none :: ((wsX2_passOn_r1 ++ (wsX2_passOn_r2 ++ wsX2_passOn_r3)) ++ wsX20)
def wsX3_init : List Cond := .code yX3_init cX3_init 1 none :: ([.methodLink RX3 1 objectInit, .instanceMethod objectInit, .code objectInit ⟨#[0xb1]⟩ 1 none, .classLink RX3 7 RX2, .instantiable RX2 13, .initialized RX2, .fieldLink RX3 10 "BargeWardsModel" "t" "LBargeWardsModel$Town;", .fieldLink RX3 16 "BargeWardsModel" "ahead" "LBargeWardsModel$Town;", .instanceMethod yX2_init, .code yX2_init cX2_init 1 none, .methodLink RX2 3 objectInit, .fieldLink RX2 9 "BargeWardsModel$Town" "bowls" "I", .arrayClass .int, .fieldLink RX2 15 "BargeWardsModel$Town" "places" "[I", .fieldLink RX2 19 "BargeWardsModel$Town" "straw" "[I", .fieldLink RX2 22 "BargeWardsModel$Town" "kept" "[I", .fieldLink RX2 25 "BargeWardsModel$Town" "toGo" "[I", .fieldLink RX2 28 "BargeWardsModel$Town" "fever" "[I", .fieldLink RX2 31 "BargeWardsModel$Town" "where" "[I", .fieldLink RX2 34 "BargeWardsModel$Town" "hungry" "[I"] ++ wsX20 ++ wsX30)
def wsX3_thrown : List Cond := .code yX3_thrown cX3_thrown 1 (some .int) :: ([.fieldLink RX3 19 "BargeWardsModel" "thrown" "I"] ++ wsX30)
def wsX3_no : List Cond := .code yX3_no cX3_no 2 (some .int) :: ([.fieldLink RX3 19 "BargeWardsModel" "thrown" "I"] ++ wsX30)
def wsX3_isIn : List Cond := .code yX3_isIn cX3_isIn 3 (some .boolean) :: ([])
def wsX3_isWard : List Cond := .code yX3_isWard cX3_isWard 2 (some .boolean) :: ([.fieldLink RX3 10 "BargeWardsModel" "t" "LBargeWardsModel$Town;", .methodLink RX3 26 yX3_isIn, .static yX3_isIn, .initialized RX3, .code yX3_isIn cX3_isIn 3 (some .boolean)] ++ wsX30 ++ wsX20)
def wsX3_isBarge : List Cond := .code yX3_isBarge cX3_isBarge 2 (some .boolean) :: ([.fieldLink RX3 10 "BargeWardsModel" "t" "LBargeWardsModel$Town;", .methodLink RX3 26 yX3_isIn, .static yX3_isIn, .initialized RX3, .code yX3_isIn cX3_isIn 3 (some .boolean)] ++ wsX30 ++ wsX20)
def wsX3_isPerson : List Cond := .code yX3_isPerson cX3_isPerson 2 (some .boolean) :: ([.fieldLink RX3 10 "BargeWardsModel" "t" "LBargeWardsModel$Town;", .methodLink RX3 26 yX3_isIn, .static yX3_isIn, .initialized RX3, .code yX3_isIn cX3_isIn 3 (some .boolean)] ++ wsX30 ++ wsX20)
def wsX3_addWard : List Cond := .code yX3_addWard cX3_addWard 2 (some .int) :: ([.fieldLink RX3 19 "BargeWardsModel" "thrown" "I", .fieldLink RX3 10 "BargeWardsModel" "t" "LBargeWardsModel$Town;", .methodLink RX3 26 yX3_isIn, .static yX3_isIn, .initialized RX3, .code yX3_isIn cX3_isIn 3 (some .boolean), .methodLink RX3 36 yX3_no, .instanceMethod yX3_no, .selects RX3 yX3_no yX3_no, .code yX3_no cX3_no 2 (some .int)] ++ wsX30 ++ wsX20)
def wsX3_addBarge : List Cond := .code yX3_addBarge cX3_addBarge 2 (some .int) :: ([.fieldLink RX3 19 "BargeWardsModel" "thrown" "I", .fieldLink RX3 10 "BargeWardsModel" "t" "LBargeWardsModel$Town;", .methodLink RX3 26 yX3_isIn, .static yX3_isIn, .initialized RX3, .code yX3_isIn cX3_isIn 3 (some .boolean), .methodLink RX3 36 yX3_no, .instanceMethod yX3_no, .selects RX3 yX3_no yX3_no, .code yX3_no cX3_no 2 (some .int)] ++ wsX30 ++ wsX20)
def wsX3_board : List Cond := .code yX3_board cX3_board 3 (some .int) :: ([.fieldLink RX3 19 "BargeWardsModel" "thrown" "I", .fieldLink RX3 10 "BargeWardsModel" "t" "LBargeWardsModel$Town;", .methodLink RX3 50 yX3_isBarge, .instanceMethod yX3_isBarge, .selects RX3 yX3_isBarge yX3_isBarge, .initialized RX3, .code yX3_isBarge cX3_isBarge 2 (some .boolean), .methodLink RX3 26 yX3_isIn, .static yX3_isIn, .code yX3_isIn cX3_isIn 3 (some .boolean), .methodLink RX3 36 yX3_no, .instanceMethod yX3_no, .selects RX3 yX3_no yX3_no, .code yX3_no cX3_no 2 (some .int)] ++ wsX30 ++ wsX20)
def wsX3_setBowls : List Cond := .code yX3_setBowls cX3_setBowls 3 (some .int) :: ([.fieldLink RX3 19 "BargeWardsModel" "thrown" "I", .fieldLink RX3 10 "BargeWardsModel" "t" "LBargeWardsModel$Town;", .methodLink RX3 26 yX3_isIn, .static yX3_isIn, .initialized RX3, .code yX3_isIn cX3_isIn 3 (some .boolean), .methodLink RX3 36 yX3_no, .instanceMethod yX3_no, .selects RX3 yX3_no yX3_no, .code yX3_no cX3_no 2 (some .int)] ++ wsX30 ++ wsX20)
def wsX3_layStraw : List Cond := .code yX3_layStraw cX3_layStraw 3 (some .int) :: ([.fieldLink RX3 19 "BargeWardsModel" "thrown" "I", .fieldLink RX3 10 "BargeWardsModel" "t" "LBargeWardsModel$Town;", .methodLink RX3 63 yX3_isWard, .instanceMethod yX3_isWard, .selects RX3 yX3_isWard yX3_isWard, .initialized RX3, .code yX3_isWard cX3_isWard 2 (some .boolean), .methodLink RX3 26 yX3_isIn, .static yX3_isIn, .code yX3_isIn cX3_isIn 3 (some .boolean), .methodLink RX3 36 yX3_no, .instanceMethod yX3_no, .selects RX3 yX3_no yX3_no, .code yX3_no cX3_no 2 (some .int)] ++ wsX30 ++ wsX20)
def wsX3_carry_r1 : List Cond := [Cond.fieldLink RX3 19 "BargeWardsModel" "thrown" "I", Cond.fieldLink RX3 10 "BargeWardsModel" "t" "LBargeWardsModel$Town;", Cond.methodLink RX3 69 yX3_isPerson, Cond.instanceMethod yX3_isPerson, Cond.selects RX3 yX3_isPerson yX3_isPerson, Cond.initialized RX3, Cond.code yX3_isPerson cX3_isPerson 2 (some .boolean), Cond.methodLink RX3 26 yX3_isIn, Cond.static yX3_isIn, Cond.code yX3_isIn cX3_isIn 3 (some .boolean), Cond.methodLink RX3 63 yX3_isWard, Cond.instanceMethod yX3_isWard, Cond.selects RX3 yX3_isWard yX3_isWard, Cond.code yX3_isWard cX3_isWard 2 (some .boolean), Cond.methodLink RX3 36 yX3_no, Cond.instanceMethod yX3_no, Cond.selects RX3 yX3_no yX3_no, Cond.code yX3_no cX3_no 2 (some .int), Cond.methodLink RX3 72 yX2_at, Cond.instanceMethod yX2_at, Cond.selects RX2 yX2_at yX2_at, Cond.initialized RX2, Cond.code yX2_at cX2_at 4 (some .int), Cond.fieldLink RX2 52 "BargeWardsModel$Town" "people" "I"]
def wsX3_carry_r2 : List Cond := [Cond.fieldLink RX2 31 "BargeWardsModel$Town" "where" "[I"]
def wsX3_carry : List Cond := .code yX3_carry cX3_carry 4 (some .int) :: ((wsX3_carry_r1 ++ wsX3_carry_r2) ++ wsX30 ++ wsX20)
def wsX3_pass_r1 : List Cond := [Cond.fieldLink RX3 19 "BargeWardsModel" "thrown" "I", Cond.fieldLink RX3 10 "BargeWardsModel" "t" "LBargeWardsModel$Town;", Cond.methodLink RX3 26 yX3_isIn, Cond.static yX3_isIn, Cond.initialized RX3, Cond.code yX3_isIn cX3_isIn 3 (some .boolean), Cond.methodLink RX3 36 yX3_no, Cond.instanceMethod yX3_no, Cond.selects RX3 yX3_no yX3_no, Cond.code yX3_no cX3_no 2 (some .int), Cond.methodLink RX3 72 yX2_at, Cond.instanceMethod yX2_at, Cond.selects RX2 yX2_at yX2_at, Cond.initialized RX2, Cond.code yX2_at cX2_at 4 (some .int), Cond.fieldLink RX2 52 "BargeWardsModel$Town" "people" "I", Cond.fieldLink RX2 31 "BargeWardsModel$Town" "where" "[I", Cond.methodLink RX3 75 yX2_passOn, Cond.instanceMethod yX2_passOn, Cond.selects RX2 yX2_passOn yX2_passOn, Cond.code yX2_passOn cX2_passOn 3 none, Cond.methodLink RX2 92 yX2_pass, Cond.instanceMethod yX2_pass, Cond.selects RX2 yX2_pass yX2_pass]
def wsX3_pass_r2 : List Cond := [Cond.code yX2_pass cX2_pass 2 none, Cond.fieldLink RX2 49 "BargeWardsModel$Town" "barges" "I", Cond.fieldLink RX2 46 "BargeWardsModel$Town" "wards" "I", Cond.fieldLink RX2 19 "BargeWardsModel$Town" "straw" "[I", Cond.fieldLink RX2 43 "BargeWardsModel$Town" "day" "I", Cond.methodLink RX2 79 yX2_feed, Cond.instanceMethod yX2_feed, Cond.selects RX2 yX2_feed yX2_feed, Cond.code yX2_feed cX2_feed 5 none, Cond.fieldLink RX2 9 "BargeWardsModel$Town" "bowls" "I", Cond.fieldLink RX2 34 "BargeWardsModel$Town" "hungry" "[I", Cond.fieldLink RX2 55 "BargeWardsModel$Town" "eaten" "I", Cond.fieldLink RX2 28 "BargeWardsModel$Town" "fever" "[I", Cond.methodLink RX2 62 Lib.Math.min.name, Cond.static Lib.Math.min.name, Cond.initialized "java/lang/Math", Cond.code Lib.Math.min.name Lib.Math.min.code 2 (some .int), Cond.methodLink RX2 68 Lib.Math.max.name, Cond.static Lib.Math.max.name, Cond.code Lib.Math.max.name Lib.Math.max.code 2 (some .int), Cond.methodLink RX2 82 yX2_keep, Cond.instanceMethod yX2_keep, Cond.selects RX2 yX2_keep yX2_keep, Cond.code yX2_keep cX2_keep 5 none]
def wsX3_pass_r3 : List Cond := [Cond.fieldLink RX2 25 "BargeWardsModel$Town" "toGo" "[I", Cond.methodLink RX2 86 yX2_leaveWards, Cond.instanceMethod yX2_leaveWards, Cond.selects RX2 yX2_leaveWards yX2_leaveWards, Cond.code yX2_leaveWards cX2_leaveWards 2 none, Cond.methodLink RX2 89 yX2_land, Cond.instanceMethod yX2_land, Cond.selects RX2 yX2_land yX2_land, Cond.code yX2_land cX2_land 4 none, Cond.fieldLink RX2 22 "BargeWardsModel$Town" "kept" "[I", Cond.methodLink RX2 75 yX2_firstFree, Cond.instanceMethod yX2_firstFree, Cond.selects RX2 yX2_firstFree yX2_firstFree, Cond.code yX2_firstFree cX2_firstFree 2 (some .int), Cond.fieldLink RX2 15 "BargeWardsModel$Town" "places" "[I", Cond.methodLink RX2 71 yX2_at]
def wsX3_pass : List Cond := .code yX3_pass cX3_pass 3 (some .int) :: ((wsX3_pass_r1 ++ (wsX3_pass_r2 ++ wsX3_pass_r3)) ++ wsX30 ++ wsX20)
def wsX3_wardTold : List Cond := .code yX3_wardTold cX3_wardTold 2 (some .int) :: ([.fieldLink RX3 10 "BargeWardsModel" "t" "LBargeWardsModel$Town;"] ++ wsX30 ++ wsX20)
def wsX3_bargeTold : List Cond := .code yX3_bargeTold cX3_bargeTold 2 (some .int) :: ([.fieldLink RX3 10 "BargeWardsModel" "t" "LBargeWardsModel$Town;", .methodLink RX3 26 yX3_isIn, .static yX3_isIn, .initialized RX3, .code yX3_isIn cX3_isIn 3 (some .boolean)] ++ wsX30 ++ wsX20)
def wsX3_feverOf : List Cond := .code yX3_feverOf cX3_feverOf 2 (some .int) :: ([.fieldLink RX3 19 "BargeWardsModel" "thrown" "I", .fieldLink RX3 10 "BargeWardsModel" "t" "LBargeWardsModel$Town;", .methodLink RX3 69 yX3_isPerson, .instanceMethod yX3_isPerson, .selects RX3 yX3_isPerson yX3_isPerson, .initialized RX3, .code yX3_isPerson cX3_isPerson 2 (some .boolean), .methodLink RX3 26 yX3_isIn, .static yX3_isIn, .code yX3_isIn cX3_isIn 3 (some .boolean), .methodLink RX3 36 yX3_no, .instanceMethod yX3_no, .selects RX3 yX3_no yX3_no, .code yX3_no cX3_no 2 (some .int)] ++ wsX30 ++ wsX20)
def wsX3_wardOf : List Cond := .code yX3_wardOf cX3_wardOf 2 (some .int) :: ([.fieldLink RX3 19 "BargeWardsModel" "thrown" "I", .methodLink RX3 69 yX3_isPerson, .instanceMethod yX3_isPerson, .selects RX3 yX3_isPerson yX3_isPerson, .initialized RX3, .code yX3_isPerson cX3_isPerson 2 (some .boolean), .fieldLink RX3 10 "BargeWardsModel" "t" "LBargeWardsModel$Town;", .methodLink RX3 26 yX3_isIn, .static yX3_isIn, .code yX3_isIn cX3_isIn 3 (some .boolean), .methodLink RX3 79 yX3_wardTold, .instanceMethod yX3_wardTold, .selects RX3 yX3_wardTold yX3_wardTold, .code yX3_wardTold cX3_wardTold 2 (some .int), .methodLink RX3 36 yX3_no, .instanceMethod yX3_no, .selects RX3 yX3_no yX3_no, .code yX3_no cX3_no 2 (some .int)] ++ wsX30 ++ wsX20)
def wsX3_bargeOf : List Cond := .code yX3_bargeOf cX3_bargeOf 2 (some .int) :: ([.fieldLink RX3 19 "BargeWardsModel" "thrown" "I", .methodLink RX3 69 yX3_isPerson, .instanceMethod yX3_isPerson, .selects RX3 yX3_isPerson yX3_isPerson, .initialized RX3, .code yX3_isPerson cX3_isPerson 2 (some .boolean), .fieldLink RX3 10 "BargeWardsModel" "t" "LBargeWardsModel$Town;", .methodLink RX3 26 yX3_isIn, .static yX3_isIn, .code yX3_isIn cX3_isIn 3 (some .boolean), .methodLink RX3 82 yX3_bargeTold, .instanceMethod yX3_bargeTold, .selects RX3 yX3_bargeTold yX3_bargeTold, .code yX3_bargeTold cX3_bargeTold 2 (some .int), .methodLink RX3 36 yX3_no, .instanceMethod yX3_no, .selects RX3 yX3_no yX3_no, .code yX3_no cX3_no 2 (some .int)] ++ wsX30 ++ wsX20)
def wsX3_isHome : List Cond := .code yX3_isHome cX3_isHome 2 (some .boolean) :: ([.fieldLink RX3 19 "BargeWardsModel" "thrown" "I", .fieldLink RX3 10 "BargeWardsModel" "t" "LBargeWardsModel$Town;", .methodLink RX3 69 yX3_isPerson, .instanceMethod yX3_isPerson, .selects RX3 yX3_isPerson yX3_isPerson, .initialized RX3, .code yX3_isPerson cX3_isPerson 2 (some .boolean), .methodLink RX3 26 yX3_isIn, .static yX3_isIn, .code yX3_isIn cX3_isIn 3 (some .boolean)] ++ wsX30 ++ wsX20)
def wsX3_isInGreatHouse : List Cond := .code yX3_isInGreatHouse cX3_isInGreatHouse 2 (some .boolean) :: ([.fieldLink RX3 19 "BargeWardsModel" "thrown" "I", .fieldLink RX3 10 "BargeWardsModel" "t" "LBargeWardsModel$Town;", .methodLink RX3 69 yX3_isPerson, .instanceMethod yX3_isPerson, .selects RX3 yX3_isPerson yX3_isPerson, .initialized RX3, .code yX3_isPerson cX3_isPerson 2 (some .boolean), .methodLink RX3 26 yX3_isIn, .static yX3_isIn, .code yX3_isIn cX3_isIn 3 (some .boolean)] ++ wsX30 ++ wsX20)
def wsX3_hungryDaysOf : List Cond := .code yX3_hungryDaysOf cX3_hungryDaysOf 2 (some .int) :: ([.fieldLink RX3 19 "BargeWardsModel" "thrown" "I", .fieldLink RX3 10 "BargeWardsModel" "t" "LBargeWardsModel$Town;", .methodLink RX3 69 yX3_isPerson, .instanceMethod yX3_isPerson, .selects RX3 yX3_isPerson yX3_isPerson, .initialized RX3, .code yX3_isPerson cX3_isPerson 2 (some .boolean), .methodLink RX3 26 yX3_isIn, .static yX3_isIn, .code yX3_isIn cX3_isIn 3 (some .boolean), .methodLink RX3 36 yX3_no, .instanceMethod yX3_no, .selects RX3 yX3_no yX3_no, .code yX3_no cX3_no 2 (some .int)] ++ wsX30 ++ wsX20)
def wsX3_feversAt : List Cond := .code yX3_feversAt cX3_feversAt 4 (some .int) :: ([.fieldLink RX3 10 "BargeWardsModel" "t" "LBargeWardsModel$Town;"] ++ wsX30 ++ wsX20)
def wsX3_placesOf : List Cond := .code yX3_placesOf cX3_placesOf 2 (some .int) :: ([.fieldLink RX3 19 "BargeWardsModel" "thrown" "I", .fieldLink RX3 10 "BargeWardsModel" "t" "LBargeWardsModel$Town;", .methodLink RX3 63 yX3_isWard, .instanceMethod yX3_isWard, .selects RX3 yX3_isWard yX3_isWard, .initialized RX3, .code yX3_isWard cX3_isWard 2 (some .boolean), .methodLink RX3 26 yX3_isIn, .static yX3_isIn, .code yX3_isIn cX3_isIn 3 (some .boolean), .methodLink RX3 36 yX3_no, .instanceMethod yX3_no, .selects RX3 yX3_no yX3_no, .code yX3_no cX3_no 2 (some .int)] ++ wsX30 ++ wsX20)
def wsX3_peopleIn : List Cond := .code yX3_peopleIn cX3_peopleIn 2 (some .int) :: ([.fieldLink RX3 19 "BargeWardsModel" "thrown" "I", .fieldLink RX3 10 "BargeWardsModel" "t" "LBargeWardsModel$Town;", .methodLink RX3 63 yX3_isWard, .instanceMethod yX3_isWard, .selects RX3 yX3_isWard yX3_isWard, .initialized RX3, .code yX3_isWard cX3_isWard 2 (some .boolean), .methodLink RX3 26 yX3_isIn, .static yX3_isIn, .code yX3_isIn cX3_isIn 3 (some .boolean), .methodLink RX3 72 yX2_at, .instanceMethod yX2_at, .selects RX2 yX2_at yX2_at, .initialized RX2, .code yX2_at cX2_at 4 (some .int), .fieldLink RX2 52 "BargeWardsModel$Town" "people" "I", .fieldLink RX2 31 "BargeWardsModel$Town" "where" "[I", .methodLink RX3 36 yX3_no, .instanceMethod yX3_no, .selects RX3 yX3_no yX3_no, .code yX3_no cX3_no 2 (some .int)] ++ wsX30 ++ wsX20)
def wsX3_strawOf : List Cond := .code yX3_strawOf cX3_strawOf 2 (some .int) :: ([.fieldLink RX3 19 "BargeWardsModel" "thrown" "I", .fieldLink RX3 10 "BargeWardsModel" "t" "LBargeWardsModel$Town;", .methodLink RX3 63 yX3_isWard, .instanceMethod yX3_isWard, .selects RX3 yX3_isWard yX3_isWard, .initialized RX3, .code yX3_isWard cX3_isWard 2 (some .boolean), .methodLink RX3 26 yX3_isIn, .static yX3_isIn, .code yX3_isIn cX3_isIn 3 (some .boolean), .methodLink RX3 36 yX3_no, .instanceMethod yX3_no, .selects RX3 yX3_no yX3_no, .code yX3_no cX3_no 2 (some .int)] ++ wsX30 ++ wsX20)
def wsX3_feversIn : List Cond := .code yX3_feversIn cX3_feversIn 2 (some .int) :: ([.fieldLink RX3 19 "BargeWardsModel" "thrown" "I", .methodLink RX3 63 yX3_isWard, .instanceMethod yX3_isWard, .selects RX3 yX3_isWard yX3_isWard, .initialized RX3, .code yX3_isWard cX3_isWard 2 (some .boolean), .fieldLink RX3 10 "BargeWardsModel" "t" "LBargeWardsModel$Town;", .methodLink RX3 26 yX3_isIn, .static yX3_isIn, .code yX3_isIn cX3_isIn 3 (some .boolean), .methodLink RX3 88 yX3_feversAt, .instanceMethod yX3_feversAt, .selects RX3 yX3_feversAt yX3_feversAt, .code yX3_feversAt cX3_feversAt 4 (some .int), .methodLink RX3 36 yX3_no, .instanceMethod yX3_no, .selects RX3 yX3_no yX3_no, .code yX3_no cX3_no 2 (some .int)] ++ wsX30 ++ wsX20)
def wsX3_daysToGo : List Cond := .code yX3_daysToGo cX3_daysToGo 2 (some .int) :: ([.fieldLink RX3 19 "BargeWardsModel" "thrown" "I", .fieldLink RX3 10 "BargeWardsModel" "t" "LBargeWardsModel$Town;", .methodLink RX3 50 yX3_isBarge, .instanceMethod yX3_isBarge, .selects RX3 yX3_isBarge yX3_isBarge, .initialized RX3, .code yX3_isBarge cX3_isBarge 2 (some .boolean), .methodLink RX3 26 yX3_isIn, .static yX3_isIn, .code yX3_isIn cX3_isIn 3 (some .boolean), .methodLink RX3 36 yX3_no, .instanceMethod yX3_no, .selects RX3 yX3_no yX3_no, .code yX3_no cX3_no 2 (some .int)] ++ wsX30 ++ wsX20)
def wsX3_keptFor : List Cond := .code yX3_keptFor cX3_keptFor 2 (some .int) :: ([.fieldLink RX3 19 "BargeWardsModel" "thrown" "I", .fieldLink RX3 10 "BargeWardsModel" "t" "LBargeWardsModel$Town;", .methodLink RX3 50 yX3_isBarge, .instanceMethod yX3_isBarge, .selects RX3 yX3_isBarge yX3_isBarge, .initialized RX3, .code yX3_isBarge cX3_isBarge 2 (some .boolean), .methodLink RX3 26 yX3_isIn, .static yX3_isIn, .code yX3_isIn cX3_isIn 3 (some .boolean), .methodLink RX3 36 yX3_no, .instanceMethod yX3_no, .selects RX3 yX3_no yX3_no, .code yX3_no cX3_no 2 (some .int)] ++ wsX30 ++ wsX20)
def wsX3_peopleOn : List Cond := .code yX3_peopleOn cX3_peopleOn 2 (some .int) :: ([.fieldLink RX3 19 "BargeWardsModel" "thrown" "I", .fieldLink RX3 10 "BargeWardsModel" "t" "LBargeWardsModel$Town;", .methodLink RX3 50 yX3_isBarge, .instanceMethod yX3_isBarge, .selects RX3 yX3_isBarge yX3_isBarge, .initialized RX3, .code yX3_isBarge cX3_isBarge 2 (some .boolean), .methodLink RX3 26 yX3_isIn, .static yX3_isIn, .code yX3_isIn cX3_isIn 3 (some .boolean), .methodLink RX3 72 yX2_at, .instanceMethod yX2_at, .selects RX2 yX2_at yX2_at, .initialized RX2, .code yX2_at cX2_at 4 (some .int), .fieldLink RX2 52 "BargeWardsModel$Town" "people" "I", .fieldLink RX2 31 "BargeWardsModel$Town" "where" "[I", .methodLink RX3 36 yX3_no, .instanceMethod yX3_no, .selects RX3 yX3_no yX3_no, .code yX3_no cX3_no 2 (some .int)] ++ wsX30 ++ wsX20)
def wsX3_highestFeverOn : List Cond := .code yX3_highestFeverOn cX3_highestFeverOn 4 (some .int) :: ([.fieldLink RX3 19 "BargeWardsModel" "thrown" "I", .fieldLink RX3 10 "BargeWardsModel" "t" "LBargeWardsModel$Town;", .methodLink RX3 91 Lib.Math.max.name, .static Lib.Math.max.name, .initialized "java/lang/Math", .code Lib.Math.max.name Lib.Math.max.code 2 (some .int), .methodLink RX3 50 yX3_isBarge, .instanceMethod yX3_isBarge, .selects RX3 yX3_isBarge yX3_isBarge, .initialized RX3, .code yX3_isBarge cX3_isBarge 2 (some .boolean), .methodLink RX3 26 yX3_isIn, .static yX3_isIn, .code yX3_isIn cX3_isIn 3 (some .boolean), .methodLink RX3 36 yX3_no, .instanceMethod yX3_no, .selects RX3 yX3_no yX3_no, .code yX3_no cX3_no 2 (some .int)] ++ wsX30 ++ wsX20)
def wsX3_day : List Cond := .code yX3_day cX3_day 1 (some .int) :: ([.fieldLink RX3 19 "BargeWardsModel" "thrown" "I", .fieldLink RX3 10 "BargeWardsModel" "t" "LBargeWardsModel$Town;"] ++ wsX30 ++ wsX20)
def wsX3_wards : List Cond := .code yX3_wards cX3_wards 1 (some .int) :: ([.fieldLink RX3 19 "BargeWardsModel" "thrown" "I", .fieldLink RX3 10 "BargeWardsModel" "t" "LBargeWardsModel$Town;"] ++ wsX30 ++ wsX20)
def wsX3_barges : List Cond := .code yX3_barges cX3_barges 1 (some .int) :: ([.fieldLink RX3 19 "BargeWardsModel" "thrown" "I", .fieldLink RX3 10 "BargeWardsModel" "t" "LBargeWardsModel$Town;"] ++ wsX30 ++ wsX20)
def wsX3_people : List Cond := .code yX3_people cX3_people 1 (some .int) :: ([.fieldLink RX3 19 "BargeWardsModel" "thrown" "I", .fieldLink RX3 10 "BargeWardsModel" "t" "LBargeWardsModel$Town;"] ++ wsX30 ++ wsX20)
def wsX3_bowls : List Cond := .code yX3_bowls cX3_bowls 1 (some .int) :: ([.fieldLink RX3 19 "BargeWardsModel" "thrown" "I", .fieldLink RX3 10 "BargeWardsModel" "t" "LBargeWardsModel$Town;"] ++ wsX30 ++ wsX20)
def wsX3_freePlaces : List Cond := .code yX3_freePlaces cX3_freePlaces 3 (some .int) :: ([.fieldLink RX3 19 "BargeWardsModel" "thrown" "I", .fieldLink RX3 10 "BargeWardsModel" "t" "LBargeWardsModel$Town;", .methodLink RX3 100 yX2_inWards, .instanceMethod yX2_inWards, .selects RX2 yX2_inWards yX2_inWards, .initialized RX2, .code yX2_inWards cX2_inWards 3 (some .int), .fieldLink RX2 52 "BargeWardsModel$Town" "people" "I", .fieldLink RX2 31 "BargeWardsModel$Town" "where" "[I", .fieldLink RX2 46 "BargeWardsModel$Town" "wards" "I"] ++ wsX30 ++ wsX20)
def wsX3_bowlsShort : List Cond := .code yX3_bowlsShort cX3_bowlsShort 1 (some .int) :: ([.fieldLink RX3 19 "BargeWardsModel" "thrown" "I", .fieldLink RX3 10 "BargeWardsModel" "t" "LBargeWardsModel$Town;", .methodLink RX3 91 Lib.Math.max.name, .static Lib.Math.max.name, .initialized "java/lang/Math", .code Lib.Math.max.name Lib.Math.max.code 2 (some .int), .methodLink RX3 100 yX2_inWards, .instanceMethod yX2_inWards, .selects RX2 yX2_inWards yX2_inWards, .initialized RX2, .code yX2_inWards cX2_inWards 3 (some .int), .fieldLink RX2 52 "BargeWardsModel$Town" "people" "I", .fieldLink RX2 31 "BargeWardsModel$Town" "where" "[I", .fieldLink RX2 46 "BargeWardsModel$Town" "wards" "I"] ++ wsX30 ++ wsX20)
def wsX3_peopleHome : List Cond := .code yX3_peopleHome cX3_peopleHome 1 (some .int) :: ([.fieldLink RX3 19 "BargeWardsModel" "thrown" "I", .fieldLink RX3 10 "BargeWardsModel" "t" "LBargeWardsModel$Town;", .methodLink RX3 72 yX2_at, .instanceMethod yX2_at, .selects RX2 yX2_at yX2_at, .initialized RX2, .code yX2_at cX2_at 4 (some .int), .fieldLink RX2 52 "BargeWardsModel$Town" "people" "I", .fieldLink RX2 31 "BargeWardsModel$Town" "where" "[I"] ++ wsX30 ++ wsX20)
def wsX3_peopleInGreatHouse : List Cond := .code yX3_peopleInGreatHouse cX3_peopleInGreatHouse 1 (some .int) :: ([.fieldLink RX3 19 "BargeWardsModel" "thrown" "I", .fieldLink RX3 10 "BargeWardsModel" "t" "LBargeWardsModel$Town;", .methodLink RX3 72 yX2_at, .instanceMethod yX2_at, .selects RX2 yX2_at yX2_at, .initialized RX2, .code yX2_at cX2_at 4 (some .int), .fieldLink RX2 52 "BargeWardsModel$Town" "people" "I", .fieldLink RX2 31 "BargeWardsModel$Town" "where" "[I"] ++ wsX30 ++ wsX20)
def wsX3_bowlsEaten : List Cond := .code yX3_bowlsEaten cX3_bowlsEaten 1 (some .int) :: ([.fieldLink RX3 19 "BargeWardsModel" "thrown" "I", .fieldLink RX3 10 "BargeWardsModel" "t" "LBargeWardsModel$Town;"] ++ wsX30 ++ wsX20)
def wsX3_daysUntilHome_r1 : List Cond := [Cond.fieldLink RX3 19 "BargeWardsModel" "thrown" "I", Cond.fieldLink RX3 16 "BargeWardsModel" "ahead" "LBargeWardsModel$Town;", Cond.fieldLink RX3 10 "BargeWardsModel" "t" "LBargeWardsModel$Town;", Cond.methodLink RX3 69 yX3_isPerson, Cond.instanceMethod yX3_isPerson, Cond.selects RX3 yX3_isPerson yX3_isPerson, Cond.initialized RX3, Cond.code yX3_isPerson cX3_isPerson 2 (some .boolean), Cond.methodLink RX3 26 yX3_isIn, Cond.static yX3_isIn, Cond.code yX3_isIn cX3_isIn 3 (some .boolean), Cond.methodLink RX3 36 yX3_no, Cond.instanceMethod yX3_no, Cond.selects RX3 yX3_no yX3_no, Cond.code yX3_no cX3_no 2 (some .int), Cond.methodLink RX3 107 yX2_become, Cond.instanceMethod yX2_become, Cond.selects RX2 yX2_become yX2_become, Cond.initialized RX2, Cond.code yX2_become cX2_become 2 none, Cond.fieldLink RX2 43 "BargeWardsModel$Town" "day" "I", Cond.fieldLink RX2 46 "BargeWardsModel$Town" "wards" "I", Cond.fieldLink RX2 49 "BargeWardsModel$Town" "barges" "I", Cond.fieldLink RX2 52 "BargeWardsModel$Town" "people" "I"]
def wsX3_daysUntilHome_r2 : List Cond := [Cond.fieldLink RX2 9 "BargeWardsModel$Town" "bowls" "I", Cond.fieldLink RX2 55 "BargeWardsModel$Town" "eaten" "I", Cond.fieldLink RX2 15 "BargeWardsModel$Town" "places" "[I", Cond.fieldLink RX2 19 "BargeWardsModel$Town" "straw" "[I", Cond.fieldLink RX2 22 "BargeWardsModel$Town" "kept" "[I", Cond.fieldLink RX2 25 "BargeWardsModel$Town" "toGo" "[I", Cond.fieldLink RX2 28 "BargeWardsModel$Town" "fever" "[I", Cond.fieldLink RX2 31 "BargeWardsModel$Town" "where" "[I", Cond.fieldLink RX2 34 "BargeWardsModel$Town" "hungry" "[I", Cond.methodLink RX2 58 yX2_copy, Cond.static yX2_copy, Cond.code yX2_copy cX2_copy 2 none, Cond.methodLink RX2 37 arraycopyName, Cond.native arraycopyName, Cond.static arraycopyName, Cond.initialized "java/lang/System", Cond.methodLink RX3 111 yX2_pass, Cond.instanceMethod yX2_pass, Cond.selects RX2 yX2_pass yX2_pass, Cond.code yX2_pass cX2_pass 2 none, Cond.methodLink RX2 79 yX2_feed, Cond.instanceMethod yX2_feed, Cond.selects RX2 yX2_feed yX2_feed, Cond.code yX2_feed cX2_feed 5 none]
def wsX3_daysUntilHome_r3 : List Cond := [Cond.methodLink RX2 62 Lib.Math.min.name, Cond.static Lib.Math.min.name, Cond.initialized "java/lang/Math", Cond.code Lib.Math.min.name Lib.Math.min.code 2 (some .int), Cond.methodLink RX2 68 Lib.Math.max.name, Cond.static Lib.Math.max.name, Cond.code Lib.Math.max.name Lib.Math.max.code 2 (some .int), Cond.methodLink RX2 82 yX2_keep, Cond.instanceMethod yX2_keep, Cond.selects RX2 yX2_keep yX2_keep, Cond.code yX2_keep cX2_keep 5 none, Cond.methodLink RX2 86 yX2_leaveWards, Cond.instanceMethod yX2_leaveWards, Cond.selects RX2 yX2_leaveWards yX2_leaveWards, Cond.code yX2_leaveWards cX2_leaveWards 2 none, Cond.methodLink RX2 89 yX2_land, Cond.instanceMethod yX2_land, Cond.selects RX2 yX2_land yX2_land, Cond.code yX2_land cX2_land 4 none, Cond.methodLink RX2 75 yX2_firstFree, Cond.instanceMethod yX2_firstFree, Cond.selects RX2 yX2_firstFree yX2_firstFree, Cond.code yX2_firstFree cX2_firstFree 2 (some .int), Cond.methodLink RX2 71 yX2_at]
def wsX3_daysUntilHome_r4 : List Cond := [Cond.instanceMethod yX2_at, Cond.selects RX2 yX2_at yX2_at, Cond.code yX2_at cX2_at 4 (some .int)]
def wsX3_daysUntilHome : List Cond := .code yX3_daysUntilHome cX3_daysUntilHome 3 (some .int) :: ((wsX3_daysUntilHome_r1 ++ (wsX3_daysUntilHome_r2 ++ (wsX3_daysUntilHome_r3 ++ wsX3_daysUntilHome_r4))) ++ wsX30 ++ wsX20)
def wsX3_after_r1 : List Cond := [Cond.fieldLink RX3 19 "BargeWardsModel" "thrown" "I", Cond.fieldLink RX3 16 "BargeWardsModel" "ahead" "LBargeWardsModel$Town;", Cond.fieldLink RX3 10 "BargeWardsModel" "t" "LBargeWardsModel$Town;", Cond.methodLink RX3 26 yX3_isIn, Cond.static yX3_isIn, Cond.initialized RX3, Cond.code yX3_isIn cX3_isIn 3 (some .boolean), Cond.methodLink RX3 36 yX3_no, Cond.instanceMethod yX3_no, Cond.selects RX3 yX3_no yX3_no, Cond.code yX3_no cX3_no 2 (some .int), Cond.methodLink RX3 107 yX2_become, Cond.instanceMethod yX2_become, Cond.selects RX2 yX2_become yX2_become, Cond.initialized RX2, Cond.code yX2_become cX2_become 2 none, Cond.fieldLink RX2 43 "BargeWardsModel$Town" "day" "I", Cond.fieldLink RX2 46 "BargeWardsModel$Town" "wards" "I", Cond.fieldLink RX2 49 "BargeWardsModel$Town" "barges" "I", Cond.fieldLink RX2 52 "BargeWardsModel$Town" "people" "I", Cond.fieldLink RX2 9 "BargeWardsModel$Town" "bowls" "I", Cond.fieldLink RX2 55 "BargeWardsModel$Town" "eaten" "I", Cond.fieldLink RX2 15 "BargeWardsModel$Town" "places" "[I", Cond.fieldLink RX2 19 "BargeWardsModel$Town" "straw" "[I"]
def wsX3_after_r2 : List Cond := [Cond.fieldLink RX2 22 "BargeWardsModel$Town" "kept" "[I", Cond.fieldLink RX2 25 "BargeWardsModel$Town" "toGo" "[I", Cond.fieldLink RX2 28 "BargeWardsModel$Town" "fever" "[I", Cond.fieldLink RX2 31 "BargeWardsModel$Town" "where" "[I", Cond.fieldLink RX2 34 "BargeWardsModel$Town" "hungry" "[I", Cond.methodLink RX2 58 yX2_copy, Cond.static yX2_copy, Cond.code yX2_copy cX2_copy 2 none, Cond.methodLink RX2 37 arraycopyName, Cond.native arraycopyName, Cond.static arraycopyName, Cond.initialized "java/lang/System", Cond.methodLink RX3 75 yX2_passOn, Cond.instanceMethod yX2_passOn, Cond.selects RX2 yX2_passOn yX2_passOn, Cond.code yX2_passOn cX2_passOn 3 none, Cond.methodLink RX2 92 yX2_pass, Cond.instanceMethod yX2_pass, Cond.selects RX2 yX2_pass yX2_pass, Cond.code yX2_pass cX2_pass 2 none, Cond.methodLink RX2 79 yX2_feed, Cond.instanceMethod yX2_feed, Cond.selects RX2 yX2_feed yX2_feed, Cond.code yX2_feed cX2_feed 5 none]
def wsX3_after_r3 : List Cond := [Cond.methodLink RX2 62 Lib.Math.min.name, Cond.static Lib.Math.min.name, Cond.initialized "java/lang/Math", Cond.code Lib.Math.min.name Lib.Math.min.code 2 (some .int), Cond.methodLink RX2 68 Lib.Math.max.name, Cond.static Lib.Math.max.name, Cond.code Lib.Math.max.name Lib.Math.max.code 2 (some .int), Cond.methodLink RX2 82 yX2_keep, Cond.instanceMethod yX2_keep, Cond.selects RX2 yX2_keep yX2_keep, Cond.code yX2_keep cX2_keep 5 none, Cond.methodLink RX2 86 yX2_leaveWards, Cond.instanceMethod yX2_leaveWards, Cond.selects RX2 yX2_leaveWards yX2_leaveWards, Cond.code yX2_leaveWards cX2_leaveWards 2 none, Cond.methodLink RX2 89 yX2_land, Cond.instanceMethod yX2_land, Cond.selects RX2 yX2_land yX2_land, Cond.code yX2_land cX2_land 4 none, Cond.methodLink RX2 75 yX2_firstFree, Cond.instanceMethod yX2_firstFree, Cond.selects RX2 yX2_firstFree yX2_firstFree, Cond.code yX2_firstFree cX2_firstFree 2 (some .int), Cond.methodLink RX2 71 yX2_at]
def wsX3_after_r4 : List Cond := [Cond.instanceMethod yX2_at, Cond.selects RX2 yX2_at yX2_at, Cond.code yX2_at cX2_at 4 (some .int), Cond.methodLink RX3 72 yX2_at]
def wsX3_after : List Cond := .code yX3_after cX3_after 3 (some .int) :: ((wsX3_after_r1 ++ (wsX3_after_r2 ++ (wsX3_after_r3 ++ wsX3_after_r4))) ++ wsX30 ++ wsX20)
def wsX3_homeAfter_r1 : List Cond := [Cond.methodLink RX3 114 yX3_after, Cond.instanceMethod yX3_after, Cond.selects RX3 yX3_after yX3_after, Cond.initialized RX3, Cond.code yX3_after cX3_after 3 (some .int), Cond.fieldLink RX3 19 "BargeWardsModel" "thrown" "I", Cond.fieldLink RX3 16 "BargeWardsModel" "ahead" "LBargeWardsModel$Town;", Cond.fieldLink RX3 10 "BargeWardsModel" "t" "LBargeWardsModel$Town;", Cond.methodLink RX3 26 yX3_isIn, Cond.static yX3_isIn, Cond.code yX3_isIn cX3_isIn 3 (some .boolean), Cond.methodLink RX3 36 yX3_no, Cond.instanceMethod yX3_no, Cond.selects RX3 yX3_no yX3_no, Cond.code yX3_no cX3_no 2 (some .int), Cond.methodLink RX3 107 yX2_become, Cond.instanceMethod yX2_become, Cond.selects RX2 yX2_become yX2_become, Cond.initialized RX2, Cond.code yX2_become cX2_become 2 none, Cond.fieldLink RX2 43 "BargeWardsModel$Town" "day" "I", Cond.fieldLink RX2 46 "BargeWardsModel$Town" "wards" "I", Cond.fieldLink RX2 49 "BargeWardsModel$Town" "barges" "I", Cond.fieldLink RX2 52 "BargeWardsModel$Town" "people" "I"]
def wsX3_homeAfter_r2 : List Cond := [Cond.fieldLink RX2 9 "BargeWardsModel$Town" "bowls" "I", Cond.fieldLink RX2 55 "BargeWardsModel$Town" "eaten" "I", Cond.fieldLink RX2 15 "BargeWardsModel$Town" "places" "[I", Cond.fieldLink RX2 19 "BargeWardsModel$Town" "straw" "[I", Cond.fieldLink RX2 22 "BargeWardsModel$Town" "kept" "[I", Cond.fieldLink RX2 25 "BargeWardsModel$Town" "toGo" "[I", Cond.fieldLink RX2 28 "BargeWardsModel$Town" "fever" "[I", Cond.fieldLink RX2 31 "BargeWardsModel$Town" "where" "[I", Cond.fieldLink RX2 34 "BargeWardsModel$Town" "hungry" "[I", Cond.methodLink RX2 58 yX2_copy, Cond.static yX2_copy, Cond.code yX2_copy cX2_copy 2 none, Cond.methodLink RX2 37 arraycopyName, Cond.native arraycopyName, Cond.static arraycopyName, Cond.initialized "java/lang/System", Cond.methodLink RX3 75 yX2_passOn, Cond.instanceMethod yX2_passOn, Cond.selects RX2 yX2_passOn yX2_passOn, Cond.code yX2_passOn cX2_passOn 3 none, Cond.methodLink RX2 92 yX2_pass, Cond.instanceMethod yX2_pass, Cond.selects RX2 yX2_pass yX2_pass, Cond.code yX2_pass cX2_pass 2 none]
def wsX3_homeAfter_r3 : List Cond := [Cond.methodLink RX2 79 yX2_feed, Cond.instanceMethod yX2_feed, Cond.selects RX2 yX2_feed yX2_feed, Cond.code yX2_feed cX2_feed 5 none, Cond.methodLink RX2 62 Lib.Math.min.name, Cond.static Lib.Math.min.name, Cond.initialized "java/lang/Math", Cond.code Lib.Math.min.name Lib.Math.min.code 2 (some .int), Cond.methodLink RX2 68 Lib.Math.max.name, Cond.static Lib.Math.max.name, Cond.code Lib.Math.max.name Lib.Math.max.code 2 (some .int), Cond.methodLink RX2 82 yX2_keep, Cond.instanceMethod yX2_keep, Cond.selects RX2 yX2_keep yX2_keep, Cond.code yX2_keep cX2_keep 5 none, Cond.methodLink RX2 86 yX2_leaveWards, Cond.instanceMethod yX2_leaveWards, Cond.selects RX2 yX2_leaveWards yX2_leaveWards, Cond.code yX2_leaveWards cX2_leaveWards 2 none, Cond.methodLink RX2 89 yX2_land, Cond.instanceMethod yX2_land, Cond.selects RX2 yX2_land yX2_land, Cond.code yX2_land cX2_land 4 none, Cond.methodLink RX2 75 yX2_firstFree]
def wsX3_homeAfter_r4 : List Cond := [Cond.instanceMethod yX2_firstFree, Cond.selects RX2 yX2_firstFree yX2_firstFree, Cond.code yX2_firstFree cX2_firstFree 2 (some .int), Cond.methodLink RX2 71 yX2_at, Cond.instanceMethod yX2_at, Cond.selects RX2 yX2_at yX2_at, Cond.code yX2_at cX2_at 4 (some .int), Cond.methodLink RX3 72 yX2_at]
def wsX3_homeAfter : List Cond := .code yX3_homeAfter cX3_homeAfter 2 (some .int) :: ((wsX3_homeAfter_r1 ++ (wsX3_homeAfter_r2 ++ (wsX3_homeAfter_r3 ++ wsX3_homeAfter_r4))) ++ wsX30 ++ wsX20)
def wsX3_greatHouseAfter_r1 : List Cond := [Cond.methodLink RX3 114 yX3_after, Cond.instanceMethod yX3_after, Cond.selects RX3 yX3_after yX3_after, Cond.initialized RX3, Cond.code yX3_after cX3_after 3 (some .int), Cond.fieldLink RX3 19 "BargeWardsModel" "thrown" "I", Cond.fieldLink RX3 16 "BargeWardsModel" "ahead" "LBargeWardsModel$Town;", Cond.fieldLink RX3 10 "BargeWardsModel" "t" "LBargeWardsModel$Town;", Cond.methodLink RX3 26 yX3_isIn, Cond.static yX3_isIn, Cond.code yX3_isIn cX3_isIn 3 (some .boolean), Cond.methodLink RX3 36 yX3_no, Cond.instanceMethod yX3_no, Cond.selects RX3 yX3_no yX3_no, Cond.code yX3_no cX3_no 2 (some .int), Cond.methodLink RX3 107 yX2_become, Cond.instanceMethod yX2_become, Cond.selects RX2 yX2_become yX2_become, Cond.initialized RX2, Cond.code yX2_become cX2_become 2 none, Cond.fieldLink RX2 43 "BargeWardsModel$Town" "day" "I", Cond.fieldLink RX2 46 "BargeWardsModel$Town" "wards" "I", Cond.fieldLink RX2 49 "BargeWardsModel$Town" "barges" "I", Cond.fieldLink RX2 52 "BargeWardsModel$Town" "people" "I"]
def wsX3_greatHouseAfter_r2 : List Cond := [Cond.fieldLink RX2 9 "BargeWardsModel$Town" "bowls" "I", Cond.fieldLink RX2 55 "BargeWardsModel$Town" "eaten" "I", Cond.fieldLink RX2 15 "BargeWardsModel$Town" "places" "[I", Cond.fieldLink RX2 19 "BargeWardsModel$Town" "straw" "[I", Cond.fieldLink RX2 22 "BargeWardsModel$Town" "kept" "[I", Cond.fieldLink RX2 25 "BargeWardsModel$Town" "toGo" "[I", Cond.fieldLink RX2 28 "BargeWardsModel$Town" "fever" "[I", Cond.fieldLink RX2 31 "BargeWardsModel$Town" "where" "[I", Cond.fieldLink RX2 34 "BargeWardsModel$Town" "hungry" "[I", Cond.methodLink RX2 58 yX2_copy, Cond.static yX2_copy, Cond.code yX2_copy cX2_copy 2 none, Cond.methodLink RX2 37 arraycopyName, Cond.native arraycopyName, Cond.static arraycopyName, Cond.initialized "java/lang/System", Cond.methodLink RX3 75 yX2_passOn, Cond.instanceMethod yX2_passOn, Cond.selects RX2 yX2_passOn yX2_passOn, Cond.code yX2_passOn cX2_passOn 3 none, Cond.methodLink RX2 92 yX2_pass, Cond.instanceMethod yX2_pass, Cond.selects RX2 yX2_pass yX2_pass, Cond.code yX2_pass cX2_pass 2 none]
def wsX3_greatHouseAfter_r3 : List Cond := [Cond.methodLink RX2 79 yX2_feed, Cond.instanceMethod yX2_feed, Cond.selects RX2 yX2_feed yX2_feed, Cond.code yX2_feed cX2_feed 5 none, Cond.methodLink RX2 62 Lib.Math.min.name, Cond.static Lib.Math.min.name, Cond.initialized "java/lang/Math", Cond.code Lib.Math.min.name Lib.Math.min.code 2 (some .int), Cond.methodLink RX2 68 Lib.Math.max.name, Cond.static Lib.Math.max.name, Cond.code Lib.Math.max.name Lib.Math.max.code 2 (some .int), Cond.methodLink RX2 82 yX2_keep, Cond.instanceMethod yX2_keep, Cond.selects RX2 yX2_keep yX2_keep, Cond.code yX2_keep cX2_keep 5 none, Cond.methodLink RX2 86 yX2_leaveWards, Cond.instanceMethod yX2_leaveWards, Cond.selects RX2 yX2_leaveWards yX2_leaveWards, Cond.code yX2_leaveWards cX2_leaveWards 2 none, Cond.methodLink RX2 89 yX2_land, Cond.instanceMethod yX2_land, Cond.selects RX2 yX2_land yX2_land, Cond.code yX2_land cX2_land 4 none, Cond.methodLink RX2 75 yX2_firstFree]
def wsX3_greatHouseAfter_r4 : List Cond := [Cond.instanceMethod yX2_firstFree, Cond.selects RX2 yX2_firstFree yX2_firstFree, Cond.code yX2_firstFree cX2_firstFree 2 (some .int), Cond.methodLink RX2 71 yX2_at, Cond.instanceMethod yX2_at, Cond.selects RX2 yX2_at yX2_at, Cond.code yX2_at cX2_at 4 (some .int), Cond.methodLink RX3 72 yX2_at]
def wsX3_greatHouseAfter : List Cond := .code yX3_greatHouseAfter cX3_greatHouseAfter 2 (some .int) :: ((wsX3_greatHouseAfter_r1 ++ (wsX3_greatHouseAfter_r2 ++ (wsX3_greatHouseAfter_r3 ++ wsX3_greatHouseAfter_r4))) ++ wsX30 ++ wsX20)
def wsX3_bestStraw_r1 : List Cond := [Cond.fieldLink RX3 19 "BargeWardsModel" "thrown" "I", Cond.fieldLink RX3 10 "BargeWardsModel" "t" "LBargeWardsModel$Town;", Cond.fieldLink RX3 16 "BargeWardsModel" "ahead" "LBargeWardsModel$Town;", Cond.methodLink RX3 26 yX3_isIn, Cond.static yX3_isIn, Cond.initialized RX3, Cond.code yX3_isIn cX3_isIn 3 (some .boolean), Cond.methodLink RX3 36 yX3_no, Cond.instanceMethod yX3_no, Cond.selects RX3 yX3_no yX3_no, Cond.code yX3_no cX3_no 2 (some .int), Cond.methodLink RX3 114 yX3_after, Cond.instanceMethod yX3_after, Cond.selects RX3 yX3_after yX3_after, Cond.code yX3_after cX3_after 3 (some .int), Cond.methodLink RX3 107 yX2_become, Cond.instanceMethod yX2_become, Cond.selects RX2 yX2_become yX2_become, Cond.initialized RX2, Cond.code yX2_become cX2_become 2 none, Cond.fieldLink RX2 43 "BargeWardsModel$Town" "day" "I", Cond.fieldLink RX2 46 "BargeWardsModel$Town" "wards" "I", Cond.fieldLink RX2 49 "BargeWardsModel$Town" "barges" "I", Cond.fieldLink RX2 52 "BargeWardsModel$Town" "people" "I"]
def wsX3_bestStraw_r2 : List Cond := [Cond.fieldLink RX2 9 "BargeWardsModel$Town" "bowls" "I", Cond.fieldLink RX2 55 "BargeWardsModel$Town" "eaten" "I", Cond.fieldLink RX2 15 "BargeWardsModel$Town" "places" "[I", Cond.fieldLink RX2 19 "BargeWardsModel$Town" "straw" "[I", Cond.fieldLink RX2 22 "BargeWardsModel$Town" "kept" "[I", Cond.fieldLink RX2 25 "BargeWardsModel$Town" "toGo" "[I", Cond.fieldLink RX2 28 "BargeWardsModel$Town" "fever" "[I", Cond.fieldLink RX2 31 "BargeWardsModel$Town" "where" "[I", Cond.fieldLink RX2 34 "BargeWardsModel$Town" "hungry" "[I", Cond.methodLink RX2 58 yX2_copy, Cond.static yX2_copy, Cond.code yX2_copy cX2_copy 2 none, Cond.methodLink RX2 37 arraycopyName, Cond.native arraycopyName, Cond.static arraycopyName, Cond.initialized "java/lang/System", Cond.methodLink RX3 75 yX2_passOn, Cond.instanceMethod yX2_passOn, Cond.selects RX2 yX2_passOn yX2_passOn, Cond.code yX2_passOn cX2_passOn 3 none, Cond.methodLink RX2 92 yX2_pass, Cond.instanceMethod yX2_pass, Cond.selects RX2 yX2_pass yX2_pass, Cond.code yX2_pass cX2_pass 2 none]
def wsX3_bestStraw_r3 : List Cond := [Cond.methodLink RX2 79 yX2_feed, Cond.instanceMethod yX2_feed, Cond.selects RX2 yX2_feed yX2_feed, Cond.code yX2_feed cX2_feed 5 none, Cond.methodLink RX2 62 Lib.Math.min.name, Cond.static Lib.Math.min.name, Cond.initialized "java/lang/Math", Cond.code Lib.Math.min.name Lib.Math.min.code 2 (some .int), Cond.methodLink RX2 68 Lib.Math.max.name, Cond.static Lib.Math.max.name, Cond.code Lib.Math.max.name Lib.Math.max.code 2 (some .int), Cond.methodLink RX2 82 yX2_keep, Cond.instanceMethod yX2_keep, Cond.selects RX2 yX2_keep yX2_keep, Cond.code yX2_keep cX2_keep 5 none, Cond.methodLink RX2 86 yX2_leaveWards, Cond.instanceMethod yX2_leaveWards, Cond.selects RX2 yX2_leaveWards yX2_leaveWards, Cond.code yX2_leaveWards cX2_leaveWards 2 none, Cond.methodLink RX2 89 yX2_land, Cond.instanceMethod yX2_land, Cond.selects RX2 yX2_land yX2_land, Cond.code yX2_land cX2_land 4 none, Cond.methodLink RX2 75 yX2_firstFree]
def wsX3_bestStraw_r4 : List Cond := [Cond.instanceMethod yX2_firstFree, Cond.selects RX2 yX2_firstFree yX2_firstFree, Cond.code yX2_firstFree cX2_firstFree 2 (some .int), Cond.methodLink RX2 71 yX2_at, Cond.instanceMethod yX2_at, Cond.selects RX2 yX2_at yX2_at, Cond.code yX2_at cX2_at 4 (some .int), Cond.methodLink RX3 72 yX2_at]
def wsX3_bestStraw : List Cond := .code yX3_bestStraw cX3_bestStraw 5 (some .int) :: ((wsX3_bestStraw_r1 ++ (wsX3_bestStraw_r2 ++ (wsX3_bestStraw_r3 ++ wsX3_bestStraw_r4))) ++ wsX30 ++ wsX20)
def wsX3_bowlsNeeded : List Cond := .code yX3_bowlsNeeded cX3_bowlsNeeded 1 (some .int) :: ([.fieldLink RX3 19 "BargeWardsModel" "thrown" "I", .fieldLink RX3 10 "BargeWardsModel" "t" "LBargeWardsModel$Town;", .methodLink RX3 100 yX2_inWards, .instanceMethod yX2_inWards, .selects RX2 yX2_inWards yX2_inWards, .initialized RX2, .code yX2_inWards cX2_inWards 3 (some .int), .fieldLink RX2 52 "BargeWardsModel$Town" "people" "I", .fieldLink RX2 31 "BargeWardsModel$Town" "where" "[I", .fieldLink RX2 46 "BargeWardsModel$Town" "wards" "I"] ++ wsX30 ++ wsX20)
def wsX3_meanFever : List Cond := .code yX3_meanFever cX3_meanFever 3 (some .double) :: ([.fieldLink RX3 19 "BargeWardsModel" "thrown" "I", .fieldLink RX3 10 "BargeWardsModel" "t" "LBargeWardsModel$Town;", .methodLink RX3 88 yX3_feversAt, .instanceMethod yX3_feversAt, .selects RX3 yX3_feversAt yX3_feversAt, .initialized RX3, .code yX3_feversAt cX3_feversAt 4 (some .int), .methodLink RX3 100 yX2_inWards, .instanceMethod yX2_inWards, .selects RX2 yX2_inWards yX2_inWards, .initialized RX2, .code yX2_inWards cX2_inWards 3 (some .int), .fieldLink RX2 52 "BargeWardsModel$Town" "people" "I", .fieldLink RX2 31 "BargeWardsModel$Town" "where" "[I", .fieldLink RX2 46 "BargeWardsModel$Town" "wards" "I"] ++ wsX30 ++ wsX20)
def wsX3_digest_r1 : List Cond := [Cond.fieldLink RX3 19 "BargeWardsModel" "thrown" "I", Cond.arrayClass .int, Cond.fieldLink RX3 10 "BargeWardsModel" "t" "LBargeWardsModel$Town;", Cond.constantLong RX3 117 (1877), Cond.constantLong RX3 119 (31), Cond.methodLink RX3 72 yX2_at, Cond.instanceMethod yX2_at, Cond.selects RX2 yX2_at yX2_at, Cond.initialized RX2, Cond.code yX2_at cX2_at 4 (some .int), Cond.fieldLink RX2 52 "BargeWardsModel$Town" "people" "I", Cond.fieldLink RX2 31 "BargeWardsModel$Town" "where" "[I", Cond.methodLink RX3 88 yX3_feversAt, Cond.instanceMethod yX3_feversAt, Cond.selects RX3 yX3_feversAt yX3_feversAt, Cond.initialized RX3, Cond.code yX3_feversAt cX3_feversAt 4 (some .int), Cond.methodLink RX3 79 yX3_wardTold, Cond.instanceMethod yX3_wardTold, Cond.selects RX3 yX3_wardTold yX3_wardTold, Cond.code yX3_wardTold cX3_wardTold 2 (some .int), Cond.methodLink RX3 82 yX3_bargeTold, Cond.instanceMethod yX3_bargeTold, Cond.selects RX3 yX3_bargeTold yX3_bargeTold]
def wsX3_digest_r2 : List Cond := [Cond.code yX3_bargeTold cX3_bargeTold 2 (some .int), Cond.methodLink RX3 26 yX3_isIn, Cond.static yX3_isIn, Cond.code yX3_isIn cX3_isIn 3 (some .boolean)]
def wsX3_digest : List Cond := .code yX3_digest cX3_digest 8 (some .long) :: ((wsX3_digest_r1 ++ wsX3_digest_r2) ++ wsX30 ++ wsX20)
def wsJ9_max_7cf53 : List Cond := .code yJ9_max_7cf53 cJ9_max_7cf53 2 (some .int) :: ([])
def wsJ9_min_7cf53 : List Cond := .code yJ9_min_7cf53 cJ9_min_7cf53 2 (some .int) :: ([])
def wsL_addWard : List Cond := .codeWith yL_addWard cL_addWard 4 (some .int) [(0, 9, 12, 13), (0, 9, 15, 15)] :: ([.classLink RL 13 "java/lang/IllegalArgumentException", .classLink RL 15 "java/lang/IllegalStateException", .methodLink RL 7 yX1_addWard, .instanceMethod yX1_addWard, .selects RX1 yX1_addWard yX1_addWard, .initialized RX1, .code yX1_addWard cX1_addWard 2 (some .int), .classLink RX1 19 "java/lang/IllegalArgumentException", .initialized "java/lang/IllegalArgumentException", .classLink RX1 30 "java/lang/IllegalStateException", .initialized "java/lang/IllegalStateException", .fieldLink RX1 10 "BargeWards" "town" "LBargeWards$Town;", .fieldLink RX1 26 "BargeWards$Town" "wards" "I", .methodLink RX1 35 yX0_openWard, .instanceMethod yX0_openWard, .selects RX0 yX0_openWard yX0_openWard, .initialized RX0, .code yX0_openWard cX0_openWard 3 (some .int), .fieldLink RX0 53 "BargeWards$Town" "wards" "I", .fieldLink RX0 15 "BargeWards$Town" "places" "[I"] ++ wsX10 ++ wsX00 ++ (vx_atS RX1 23 "java/lang/IllegalArgumentException" ["java/lang/RuntimeException", "java/lang/Exception"]).filter goodWord ++ (vx_atS RX1 34 "java/lang/IllegalStateException" ["java/lang/RuntimeException", "java/lang/Exception"]).filter goodWord)
def wsL_addBarge : List Cond := .codeWith yL_addBarge cL_addBarge 4 (some .int) [(0, 9, 12, 13), (0, 9, 15, 15)] :: ([.classLink RL 13 "java/lang/IllegalArgumentException", .classLink RL 15 "java/lang/IllegalStateException", .methodLink RL 17 yX1_addBarge, .instanceMethod yX1_addBarge, .selects RX1 yX1_addBarge yX1_addBarge, .initialized RX1, .code yX1_addBarge cX1_addBarge 2 (some .int), .classLink RX1 19 "java/lang/IllegalArgumentException", .initialized "java/lang/IllegalArgumentException", .classLink RX1 30 "java/lang/IllegalStateException", .initialized "java/lang/IllegalStateException", .fieldLink RX1 10 "BargeWards" "town" "LBargeWards$Town;", .fieldLink RX1 41 "BargeWards$Town" "barges" "I", .methodLink RX1 46 yX0_openBarge, .instanceMethod yX0_openBarge, .selects RX0 yX0_openBarge yX0_openBarge, .initialized RX0, .code yX0_openBarge cX0_openBarge 3 (some .int), .fieldLink RX0 56 "BargeWards$Town" "barges" "I", .fieldLink RX0 22 "BargeWards$Town" "kept" "[I", .fieldLink RX0 25 "BargeWards$Town" "toGo" "[I"] ++ wsX10 ++ wsX00 ++ (vx_atS RX1 23 "java/lang/IllegalArgumentException" ["java/lang/RuntimeException", "java/lang/Exception"]).filter goodWord ++ (vx_atS RX1 34 "java/lang/IllegalStateException" ["java/lang/RuntimeException", "java/lang/Exception"]).filter goodWord)
def wsL_board_r1 : List Cond := [Cond.classLink RL 24 "java/lang/IndexOutOfBoundsException", Cond.classLink RL 13 "java/lang/IllegalArgumentException", Cond.classLink RL 15 "java/lang/IllegalStateException", Cond.methodLink RL 20 yX1_board, Cond.instanceMethod yX1_board, Cond.selects RX1 yX1_board yX1_board, Cond.initialized RX1, Cond.code yX1_board cX1_board 3 (some .int), Cond.classLink RX1 19 "java/lang/IllegalArgumentException", Cond.initialized "java/lang/IllegalArgumentException", Cond.classLink RX1 30 "java/lang/IllegalStateException", Cond.initialized "java/lang/IllegalStateException", Cond.fieldLink RX1 10 "BargeWards" "town" "LBargeWards$Town;", Cond.fieldLink RX1 55 "BargeWards$Town" "people" "I", Cond.methodLink RX1 49 yX1_checkBarge, Cond.instanceMethod yX1_checkBarge, Cond.selects RX1 yX1_checkBarge yX1_checkBarge, Cond.code yX1_checkBarge cX1_checkBarge 2 none, Cond.classLink RX1 170 "java/lang/IndexOutOfBoundsException", Cond.initialized "java/lang/IndexOutOfBoundsException", Cond.fieldLink RX1 41 "BargeWards$Town" "barges" "I", Cond.methodLink RX1 60 yX0_takeAboard, Cond.instanceMethod yX0_takeAboard, Cond.selects RX0 yX0_takeAboard yX0_takeAboard]
def wsL_board_r2 : List Cond := [Cond.initialized RX0, Cond.code yX0_takeAboard cX0_takeAboard 4 (some .int), Cond.fieldLink RX0 59 "BargeWards$Town" "people" "I", Cond.fieldLink RX0 28 "BargeWards$Town" "fever" "[I", Cond.fieldLink RX0 25 "BargeWards$Town" "toGo" "[I", Cond.fieldLink RX0 22 "BargeWards$Town" "kept" "[I", Cond.methodLink RX0 68 yX0_move, Cond.instanceMethod yX0_move, Cond.selects RX0 yX0_move yX0_move, Cond.code yX0_move cX0_move 4 none, Cond.fieldLink RX0 31 "BargeWards$Town" "where" "[I", Cond.fieldLink RX0 34 "BargeWards$Town" "number" "[I"]
def wsL_board : List Cond := .codeWith yL_board cL_board 5 (some .int) [(0, 10, 13, 24), (0, 10, 17, 13), (0, 10, 21, 15)] :: ((wsL_board_r1 ++ wsL_board_r2) ++ wsX10 ++ wsX00 ++ (vx_atS RX1 23 "java/lang/IllegalArgumentException" ["java/lang/RuntimeException", "java/lang/Exception"]).filter goodWord ++ (vx_atS RX1 34 "java/lang/IllegalStateException" ["java/lang/RuntimeException", "java/lang/Exception"]).filter goodWord ++ (vx_atS RX1 174 "java/lang/IndexOutOfBoundsException" ["java/lang/RuntimeException", "java/lang/Exception"]).filter goodWord)
def wsL_setBowls : List Cond := .codeWith yL_setBowls cL_setBowls 4 (some .int) [(0, 9, 12, 13)] :: ([.classLink RL 13 "java/lang/IllegalArgumentException", .methodLink RL 26 yX1_setBowls, .instanceMethod yX1_setBowls, .selects RX1 yX1_setBowls yX1_setBowls, .initialized RX1, .code yX1_setBowls cX1_setBowls 3 (some .int), .classLink RX1 19 "java/lang/IllegalArgumentException", .initialized "java/lang/IllegalArgumentException", .fieldLink RX1 10 "BargeWards" "town" "LBargeWards$Town;", .fieldLink RX1 66 "BargeWards$Town" "bowls" "I"] ++ wsX10 ++ wsX00 ++ (vx_atS RX1 23 "java/lang/IllegalArgumentException" ["java/lang/RuntimeException", "java/lang/Exception"]).filter goodWord)
def wsL_layStraw : List Cond := .codeWith yL_layStraw cL_layStraw 4 (some .int) [(0, 9, 12, 24)] :: ([.classLink RL 24 "java/lang/IndexOutOfBoundsException", .methodLink RL 29 yX1_layStraw, .instanceMethod yX1_layStraw, .selects RX1 yX1_layStraw yX1_layStraw, .initialized RX1, .code yX1_layStraw cX1_layStraw 3 (some .int), .fieldLink RX1 10 "BargeWards" "town" "LBargeWards$Town;", .fieldLink RX1 72 "BargeWards$Town" "straw" "[I", .methodLink RX1 69 yX1_checkWard, .instanceMethod yX1_checkWard, .selects RX1 yX1_checkWard yX1_checkWard, .code yX1_checkWard cX1_checkWard 2 none, .classLink RX1 170 "java/lang/IndexOutOfBoundsException", .initialized "java/lang/IndexOutOfBoundsException", .fieldLink RX1 26 "BargeWards$Town" "wards" "I"] ++ wsX10 ++ wsX00 ++ (vx_atS RX1 174 "java/lang/IndexOutOfBoundsException" ["java/lang/RuntimeException", "java/lang/Exception"]).filter goodWord)
def wsL_carry_r1 : List Cond := [Cond.classLink RL 24 "java/lang/IndexOutOfBoundsException", Cond.classLink RL 15 "java/lang/IllegalStateException", Cond.methodLink RL 32 yX1_carry, Cond.instanceMethod yX1_carry, Cond.selects RX1 yX1_carry yX1_carry, Cond.initialized RX1, Cond.code yX1_carry cX1_carry 4 (some .int), Cond.classLink RX1 30 "java/lang/IllegalStateException", Cond.initialized "java/lang/IllegalStateException", Cond.fieldLink RX1 10 "BargeWards" "town" "LBargeWards$Town;", Cond.methodLink RX1 76 yX1_checkPerson, Cond.instanceMethod yX1_checkPerson, Cond.selects RX1 yX1_checkPerson yX1_checkPerson, Cond.code yX1_checkPerson cX1_checkPerson 2 none, Cond.classLink RX1 170 "java/lang/IndexOutOfBoundsException", Cond.initialized "java/lang/IndexOutOfBoundsException", Cond.fieldLink RX1 55 "BargeWards$Town" "people" "I", Cond.methodLink RX1 69 yX1_checkWard, Cond.instanceMethod yX1_checkWard, Cond.selects RX1 yX1_checkWard yX1_checkWard, Cond.code yX1_checkWard cX1_checkWard 2 none, Cond.fieldLink RX1 26 "BargeWards$Town" "wards" "I", Cond.methodLink RX1 79 yX0_numberOf, Cond.instanceMethod yX0_numberOf]
def wsL_carry_r2 : List Cond := [Cond.selects RX0 yX0_numberOf yX0_numberOf, Cond.initialized RX0, Cond.code yX0_numberOf cX0_numberOf 3 (some .int), Cond.fieldLink RX0 31 "BargeWards$Town" "where" "[I", Cond.fieldLink RX0 34 "BargeWards$Town" "number" "[I", Cond.methodLink RX1 86 yX0_freeIn, Cond.instanceMethod yX0_freeIn, Cond.selects RX0 yX0_freeIn yX0_freeIn, Cond.code yX0_freeIn cX0_freeIn 2 (some .int), Cond.fieldLink RX0 15 "BargeWards$Town" "places" "[I", Cond.methodLink RX0 76 yX0_countAt, Cond.instanceMethod yX0_countAt, Cond.selects RX0 yX0_countAt yX0_countAt, Cond.code yX0_countAt cX0_countAt 5 (some .int), Cond.fieldLink RX0 59 "BargeWards$Town" "people" "I", Cond.methodLink RX0 72 yX0_isAt, Cond.instanceMethod yX0_isAt, Cond.selects RX0 yX0_isAt yX0_isAt, Cond.code yX0_isAt cX0_isAt 4 (some .boolean), Cond.methodLink RX1 91 yX0_move, Cond.instanceMethod yX0_move, Cond.selects RX0 yX0_move yX0_move, Cond.code yX0_move cX0_move 4 none]
def wsL_carry : List Cond := .codeWith yL_carry cL_carry 5 (some .int) [(0, 10, 13, 24), (0, 10, 17, 15)] :: ((wsL_carry_r1 ++ wsL_carry_r2) ++ wsX10 ++ wsX00 ++ (vx_atS RX1 34 "java/lang/IllegalStateException" ["java/lang/RuntimeException", "java/lang/Exception"]).filter goodWord ++ (vx_atS RX1 174 "java/lang/IndexOutOfBoundsException" ["java/lang/RuntimeException", "java/lang/Exception"]).filter goodWord)
def wsL_pass_r1 : List Cond := [Cond.classLink RL 13 "java/lang/IllegalArgumentException", Cond.methodLink RL 35 yX1_pass, Cond.instanceMethod yX1_pass, Cond.selects RX1 yX1_pass yX1_pass, Cond.initialized RX1, Cond.code yX1_pass cX1_pass 3 (some .int), Cond.fieldLink RX1 10 "BargeWards" "town" "LBargeWards$Town;", Cond.methodLink RX1 95 yX1_checkDays, Cond.static yX1_checkDays, Cond.code yX1_checkDays cX1_checkDays 1 none, Cond.classLink RX1 19 "java/lang/IllegalArgumentException", Cond.initialized "java/lang/IllegalArgumentException", Cond.methodLink RX1 98 yX0_count, Cond.instanceMethod yX0_count, Cond.selects RX0 yX0_count yX0_count, Cond.initialized RX0, Cond.code yX0_count cX0_count 4 (some .int), Cond.fieldLink RX0 59 "BargeWards$Town" "people" "I", Cond.fieldLink RX0 31 "BargeWards$Town" "where" "[I", Cond.methodLink RX1 101 yX0_liveDays, Cond.instanceMethod yX0_liveDays, Cond.selects RX0 yX0_liveDays yX0_liveDays, Cond.code yX0_liveDays cX0_liveDays 3 none, Cond.fieldLink RX0 47 "BargeWards$Town" "day" "I"]
def wsL_pass_r2 : List Cond := [Cond.methodLink RX0 85 yX0_giveBowls, Cond.instanceMethod yX0_giveBowls, Cond.selects RX0 yX0_giveBowls yX0_giveBowls, Cond.code yX0_giveBowls cX0_giveBowls 4 none, Cond.fieldLink RX0 9 "BargeWards$Town" "bowls" "I", Cond.fieldLink RX0 53 "BargeWards$Town" "wards" "I", Cond.fieldLink RX0 40 "BargeWards$Town" "hungryToday" "[Z", Cond.fieldLink RX0 37 "BargeWards$Town" "hungryDays" "[I", Cond.fieldLink RX0 50 "BargeWards$Town" "bowlsEaten" "I", Cond.methodLink RX0 72 yX0_isAt, Cond.instanceMethod yX0_isAt, Cond.selects RX0 yX0_isAt yX0_isAt, Cond.code yX0_isAt cX0_isAt 4 (some .boolean), Cond.fieldLink RX0 34 "BargeWards$Town" "number" "[I", Cond.methodLink RX0 88 yX0_changeFeversInWards, Cond.instanceMethod yX0_changeFeversInWards, Cond.selects RX0 yX0_changeFeversInWards yX0_changeFeversInWards, Cond.code yX0_changeFeversInWards cX0_changeFeversInWards 4 none, Cond.fieldLink RX0 19 "BargeWards$Town" "straw" "[I", Cond.fieldLink RX0 28 "BargeWards$Town" "fever" "[I", Cond.methodLink RX0 80 Lib.Math.max.name, Cond.static Lib.Math.max.name, Cond.initialized "java/lang/Math", Cond.code Lib.Math.max.name Lib.Math.max.code 2 (some .int)]
def wsL_pass_r3 : List Cond := [Cond.methodLink RX0 103 yX0_raiseFever, Cond.instanceMethod yX0_raiseFever, Cond.selects RX0 yX0_raiseFever yX0_raiseFever, Cond.code yX0_raiseFever cX0_raiseFever 2 none, Cond.methodLink RX0 107 Lib.Math.min.name, Cond.static Lib.Math.min.name, Cond.code Lib.Math.min.name Lib.Math.min.code 2 (some .int), Cond.methodLink RX0 91 yX0_bringBargesNearer, Cond.instanceMethod yX0_bringBargesNearer, Cond.selects RX0 yX0_bringBargesNearer yX0_bringBargesNearer, Cond.code yX0_bringBargesNearer cX0_bringBargesNearer 2 none, Cond.fieldLink RX0 56 "BargeWards$Town" "barges" "I", Cond.fieldLink RX0 25 "BargeWards$Town" "toGo" "[I", Cond.methodLink RX0 110 yX0_spreadFever, Cond.instanceMethod yX0_spreadFever, Cond.selects RX0 yX0_spreadFever yX0_spreadFever, Cond.code yX0_spreadFever cX0_spreadFever 5 none, Cond.methodLink RX0 113 yX0_countFeverish, Cond.instanceMethod yX0_countFeverish, Cond.selects RX0 yX0_countFeverish yX0_countFeverish, Cond.code yX0_countFeverish cX0_countFeverish 4 (some .int), Cond.methodLink RX0 94 yX0_ageStraw, Cond.instanceMethod yX0_ageStraw, Cond.selects RX0 yX0_ageStraw yX0_ageStraw]
def wsL_pass_r4 : List Cond := [Cond.code yX0_ageStraw cX0_ageStraw 2 none, Cond.methodLink RX0 97 yX0_leaveWards, Cond.instanceMethod yX0_leaveWards, Cond.selects RX0 yX0_leaveWards yX0_leaveWards, Cond.code yX0_leaveWards cX0_leaveWards 2 none, Cond.methodLink RX0 68 yX0_move, Cond.instanceMethod yX0_move, Cond.selects RX0 yX0_move yX0_move, Cond.code yX0_move cX0_move 4 none, Cond.methodLink RX0 100 yX0_landBarges, Cond.instanceMethod yX0_landBarges, Cond.selects RX0 yX0_landBarges yX0_landBarges, Cond.code yX0_landBarges cX0_landBarges 2 none, Cond.fieldLink RX0 44 "BargeWards$Town" "freeToday" "[I", Cond.fieldLink RX0 22 "BargeWards$Town" "kept" "[I", Cond.methodLink RX0 117 yX0_freeIn, Cond.instanceMethod yX0_freeIn, Cond.selects RX0 yX0_freeIn yX0_freeIn, Cond.code yX0_freeIn cX0_freeIn 2 (some .int), Cond.fieldLink RX0 15 "BargeWards$Town" "places" "[I", Cond.methodLink RX0 76 yX0_countAt, Cond.instanceMethod yX0_countAt, Cond.selects RX0 yX0_countAt yX0_countAt, Cond.code yX0_countAt cX0_countAt 5 (some .int)]
def wsL_pass_r5 : List Cond := [Cond.methodLink RX0 120 yX0_landAll, Cond.instanceMethod yX0_landAll, Cond.selects RX0 yX0_landAll yX0_landAll, Cond.code yX0_landAll cX0_landAll 5 (some .boolean), Cond.methodLink RX0 124 yX0_takeFirstFreePlace, Cond.instanceMethod yX0_takeFirstFreePlace, Cond.selects RX0 yX0_takeFirstFreePlace yX0_takeFirstFreePlace, Cond.code yX0_takeFirstFreePlace cX0_takeFirstFreePlace 2 (some .int)]
def wsL_pass : List Cond := .codeWith yL_pass cL_pass 4 (some .int) [(0, 9, 12, 13)] :: ((wsL_pass_r1 ++ (wsL_pass_r2 ++ (wsL_pass_r3 ++ (wsL_pass_r4 ++ wsL_pass_r5)))) ++ wsX10 ++ wsX00 ++ (vx_atS RX1 23 "java/lang/IllegalArgumentException" ["java/lang/RuntimeException", "java/lang/Exception"]).filter goodWord)
def wsL_feverOf : List Cond := .codeWith yL_feverOf cL_feverOf 4 (some .int) [(0, 9, 12, 24)] :: ([.classLink RL 24 "java/lang/IndexOutOfBoundsException", .methodLink RL 38 yX1_feverOf, .instanceMethod yX1_feverOf, .selects RX1 yX1_feverOf yX1_feverOf, .initialized RX1, .code yX1_feverOf cX1_feverOf 2 (some .int), .fieldLink RX1 10 "BargeWards" "town" "LBargeWards$Town;", .fieldLink RX1 104 "BargeWards$Town" "fever" "[I", .methodLink RX1 76 yX1_checkPerson, .instanceMethod yX1_checkPerson, .selects RX1 yX1_checkPerson yX1_checkPerson, .code yX1_checkPerson cX1_checkPerson 2 none, .classLink RX1 170 "java/lang/IndexOutOfBoundsException", .initialized "java/lang/IndexOutOfBoundsException", .fieldLink RX1 55 "BargeWards$Town" "people" "I"] ++ wsX10 ++ wsX00 ++ (vx_atS RX1 174 "java/lang/IndexOutOfBoundsException" ["java/lang/RuntimeException", "java/lang/Exception"]).filter goodWord)
def wsL_wardOf : List Cond := .codeWith yL_wardOf cL_wardOf 4 (some .int) [(0, 9, 12, 24)] :: ([.classLink RL 24 "java/lang/IndexOutOfBoundsException", .methodLink RL 41 yX1_wardOf, .instanceMethod yX1_wardOf, .selects RX1 yX1_wardOf yX1_wardOf, .initialized RX1, .code yX1_wardOf cX1_wardOf 2 (some .int), .fieldLink RX1 10 "BargeWards" "town" "LBargeWards$Town;", .methodLink RX1 76 yX1_checkPerson, .instanceMethod yX1_checkPerson, .selects RX1 yX1_checkPerson yX1_checkPerson, .code yX1_checkPerson cX1_checkPerson 2 none, .classLink RX1 170 "java/lang/IndexOutOfBoundsException", .initialized "java/lang/IndexOutOfBoundsException", .fieldLink RX1 55 "BargeWards$Town" "people" "I", .methodLink RX1 79 yX0_numberOf, .instanceMethod yX0_numberOf, .selects RX0 yX0_numberOf yX0_numberOf, .initialized RX0, .code yX0_numberOf cX0_numberOf 3 (some .int), .fieldLink RX0 31 "BargeWards$Town" "where" "[I", .fieldLink RX0 34 "BargeWards$Town" "number" "[I"] ++ wsX10 ++ wsX00 ++ (vx_atS RX1 174 "java/lang/IndexOutOfBoundsException" ["java/lang/RuntimeException", "java/lang/Exception"]).filter goodWord)
def wsL_bargeOf : List Cond := .codeWith yL_bargeOf cL_bargeOf 4 (some .int) [(0, 9, 12, 24)] :: ([.classLink RL 24 "java/lang/IndexOutOfBoundsException", .methodLink RL 44 yX1_bargeOf, .instanceMethod yX1_bargeOf, .selects RX1 yX1_bargeOf yX1_bargeOf, .initialized RX1, .code yX1_bargeOf cX1_bargeOf 2 (some .int), .fieldLink RX1 10 "BargeWards" "town" "LBargeWards$Town;", .methodLink RX1 76 yX1_checkPerson, .instanceMethod yX1_checkPerson, .selects RX1 yX1_checkPerson yX1_checkPerson, .code yX1_checkPerson cX1_checkPerson 2 none, .classLink RX1 170 "java/lang/IndexOutOfBoundsException", .initialized "java/lang/IndexOutOfBoundsException", .fieldLink RX1 55 "BargeWards$Town" "people" "I", .methodLink RX1 79 yX0_numberOf, .instanceMethod yX0_numberOf, .selects RX0 yX0_numberOf yX0_numberOf, .initialized RX0, .code yX0_numberOf cX0_numberOf 3 (some .int), .fieldLink RX0 31 "BargeWards$Town" "where" "[I", .fieldLink RX0 34 "BargeWards$Town" "number" "[I"] ++ wsX10 ++ wsX00 ++ (vx_atS RX1 174 "java/lang/IndexOutOfBoundsException" ["java/lang/RuntimeException", "java/lang/Exception"]).filter goodWord)
def wsL_isHome : List Cond := .codeWith yL_isHome cL_isHome 4 (some .int) [(0, 16, 19, 24)] :: ([.classLink RL 24 "java/lang/IndexOutOfBoundsException", .methodLink RL 47 yX1_isHome, .instanceMethod yX1_isHome, .selects RX1 yX1_isHome yX1_isHome, .initialized RX1, .code yX1_isHome cX1_isHome 2 (some .boolean), .fieldLink RX1 10 "BargeWards" "town" "LBargeWards$Town;", .fieldLink RX1 107 "BargeWards$Town" "where" "[I", .methodLink RX1 76 yX1_checkPerson, .instanceMethod yX1_checkPerson, .selects RX1 yX1_checkPerson yX1_checkPerson, .code yX1_checkPerson cX1_checkPerson 2 none, .classLink RX1 170 "java/lang/IndexOutOfBoundsException", .initialized "java/lang/IndexOutOfBoundsException", .fieldLink RX1 55 "BargeWards$Town" "people" "I"] ++ wsX10 ++ wsX00 ++ (vx_atS RX1 174 "java/lang/IndexOutOfBoundsException" ["java/lang/RuntimeException", "java/lang/Exception"]).filter goodWord)
def wsL_isInGreatHouse : List Cond := .codeWith yL_isInGreatHouse cL_isInGreatHouse 4 (some .int) [(0, 16, 19, 24)] :: ([.classLink RL 24 "java/lang/IndexOutOfBoundsException", .methodLink RL 51 yX1_isInGreatHouse, .instanceMethod yX1_isInGreatHouse, .selects RX1 yX1_isInGreatHouse yX1_isInGreatHouse, .initialized RX1, .code yX1_isInGreatHouse cX1_isInGreatHouse 2 (some .boolean), .fieldLink RX1 10 "BargeWards" "town" "LBargeWards$Town;", .fieldLink RX1 107 "BargeWards$Town" "where" "[I", .methodLink RX1 76 yX1_checkPerson, .instanceMethod yX1_checkPerson, .selects RX1 yX1_checkPerson yX1_checkPerson, .code yX1_checkPerson cX1_checkPerson 2 none, .classLink RX1 170 "java/lang/IndexOutOfBoundsException", .initialized "java/lang/IndexOutOfBoundsException", .fieldLink RX1 55 "BargeWards$Town" "people" "I"] ++ wsX10 ++ wsX00 ++ (vx_atS RX1 174 "java/lang/IndexOutOfBoundsException" ["java/lang/RuntimeException", "java/lang/Exception"]).filter goodWord)
def wsL_hungryDaysOf : List Cond := .codeWith yL_hungryDaysOf cL_hungryDaysOf 4 (some .int) [(0, 9, 12, 24)] :: ([.classLink RL 24 "java/lang/IndexOutOfBoundsException", .methodLink RL 54 yX1_hungryDaysOf, .instanceMethod yX1_hungryDaysOf, .selects RX1 yX1_hungryDaysOf yX1_hungryDaysOf, .initialized RX1, .code yX1_hungryDaysOf cX1_hungryDaysOf 2 (some .int), .fieldLink RX1 10 "BargeWards" "town" "LBargeWards$Town;", .fieldLink RX1 110 "BargeWards$Town" "hungryDays" "[I", .methodLink RX1 76 yX1_checkPerson, .instanceMethod yX1_checkPerson, .selects RX1 yX1_checkPerson yX1_checkPerson, .code yX1_checkPerson cX1_checkPerson 2 none, .classLink RX1 170 "java/lang/IndexOutOfBoundsException", .initialized "java/lang/IndexOutOfBoundsException", .fieldLink RX1 55 "BargeWards$Town" "people" "I"] ++ wsX10 ++ wsX00 ++ (vx_atS RX1 174 "java/lang/IndexOutOfBoundsException" ["java/lang/RuntimeException", "java/lang/Exception"]).filter goodWord)
def wsL_placesOf : List Cond := .codeWith yL_placesOf cL_placesOf 4 (some .int) [(0, 9, 12, 24)] :: ([.classLink RL 24 "java/lang/IndexOutOfBoundsException", .methodLink RL 57 yX1_placesOf, .instanceMethod yX1_placesOf, .selects RX1 yX1_placesOf yX1_placesOf, .initialized RX1, .code yX1_placesOf cX1_placesOf 2 (some .int), .fieldLink RX1 10 "BargeWards" "town" "LBargeWards$Town;", .fieldLink RX1 113 "BargeWards$Town" "places" "[I", .methodLink RX1 69 yX1_checkWard, .instanceMethod yX1_checkWard, .selects RX1 yX1_checkWard yX1_checkWard, .code yX1_checkWard cX1_checkWard 2 none, .classLink RX1 170 "java/lang/IndexOutOfBoundsException", .initialized "java/lang/IndexOutOfBoundsException", .fieldLink RX1 26 "BargeWards$Town" "wards" "I"] ++ wsX10 ++ wsX00 ++ (vx_atS RX1 174 "java/lang/IndexOutOfBoundsException" ["java/lang/RuntimeException", "java/lang/Exception"]).filter goodWord)
def wsL_peopleIn_r1 : List Cond := [Cond.classLink RL 24 "java/lang/IndexOutOfBoundsException", Cond.methodLink RL 60 yX1_peopleIn, Cond.instanceMethod yX1_peopleIn, Cond.selects RX1 yX1_peopleIn yX1_peopleIn, Cond.initialized RX1, Cond.code yX1_peopleIn cX1_peopleIn 2 (some .int), Cond.fieldLink RX1 10 "BargeWards" "town" "LBargeWards$Town;", Cond.methodLink RX1 69 yX1_checkWard, Cond.instanceMethod yX1_checkWard, Cond.selects RX1 yX1_checkWard yX1_checkWard, Cond.code yX1_checkWard cX1_checkWard 2 none, Cond.classLink RX1 170 "java/lang/IndexOutOfBoundsException", Cond.initialized "java/lang/IndexOutOfBoundsException", Cond.fieldLink RX1 26 "BargeWards$Town" "wards" "I", Cond.methodLink RX1 116 yX0_countAt, Cond.instanceMethod yX0_countAt, Cond.selects RX0 yX0_countAt yX0_countAt, Cond.initialized RX0, Cond.code yX0_countAt cX0_countAt 5 (some .int), Cond.fieldLink RX0 59 "BargeWards$Town" "people" "I", Cond.methodLink RX0 72 yX0_isAt, Cond.instanceMethod yX0_isAt, Cond.selects RX0 yX0_isAt yX0_isAt, Cond.code yX0_isAt cX0_isAt 4 (some .boolean)]
def wsL_peopleIn_r2 : List Cond := [Cond.fieldLink RX0 31 "BargeWards$Town" "where" "[I", Cond.fieldLink RX0 34 "BargeWards$Town" "number" "[I"]
def wsL_peopleIn : List Cond := .codeWith yL_peopleIn cL_peopleIn 4 (some .int) [(0, 9, 12, 24)] :: ((wsL_peopleIn_r1 ++ wsL_peopleIn_r2) ++ wsX10 ++ wsX00 ++ (vx_atS RX1 174 "java/lang/IndexOutOfBoundsException" ["java/lang/RuntimeException", "java/lang/Exception"]).filter goodWord)
def wsL_strawOf : List Cond := .codeWith yL_strawOf cL_strawOf 4 (some .int) [(0, 9, 12, 24)] :: ([.classLink RL 24 "java/lang/IndexOutOfBoundsException", .methodLink RL 63 yX1_strawOf, .instanceMethod yX1_strawOf, .selects RX1 yX1_strawOf yX1_strawOf, .initialized RX1, .code yX1_strawOf cX1_strawOf 2 (some .int), .fieldLink RX1 10 "BargeWards" "town" "LBargeWards$Town;", .fieldLink RX1 72 "BargeWards$Town" "straw" "[I", .methodLink RX1 69 yX1_checkWard, .instanceMethod yX1_checkWard, .selects RX1 yX1_checkWard yX1_checkWard, .code yX1_checkWard cX1_checkWard 2 none, .classLink RX1 170 "java/lang/IndexOutOfBoundsException", .initialized "java/lang/IndexOutOfBoundsException", .fieldLink RX1 26 "BargeWards$Town" "wards" "I"] ++ wsX10 ++ wsX00 ++ (vx_atS RX1 174 "java/lang/IndexOutOfBoundsException" ["java/lang/RuntimeException", "java/lang/Exception"]).filter goodWord)
def wsL_feversIn_r1 : List Cond := [Cond.classLink RL 24 "java/lang/IndexOutOfBoundsException", Cond.methodLink RL 66 yX1_feversIn, Cond.instanceMethod yX1_feversIn, Cond.selects RX1 yX1_feversIn yX1_feversIn, Cond.initialized RX1, Cond.code yX1_feversIn cX1_feversIn 2 (some .int), Cond.fieldLink RX1 10 "BargeWards" "town" "LBargeWards$Town;", Cond.methodLink RX1 69 yX1_checkWard, Cond.instanceMethod yX1_checkWard, Cond.selects RX1 yX1_checkWard yX1_checkWard, Cond.code yX1_checkWard cX1_checkWard 2 none, Cond.classLink RX1 170 "java/lang/IndexOutOfBoundsException", Cond.initialized "java/lang/IndexOutOfBoundsException", Cond.fieldLink RX1 26 "BargeWards$Town" "wards" "I", Cond.methodLink RX1 119 yX0_feversInWard, Cond.instanceMethod yX0_feversInWard, Cond.selects RX0 yX0_feversInWard yX0_feversInWard, Cond.initialized RX0, Cond.code yX0_feversInWard cX0_feversInWard 4 (some .int), Cond.fieldLink RX0 59 "BargeWards$Town" "people" "I", Cond.fieldLink RX0 28 "BargeWards$Town" "fever" "[I", Cond.methodLink RX0 72 yX0_isAt, Cond.instanceMethod yX0_isAt, Cond.selects RX0 yX0_isAt yX0_isAt]
def wsL_feversIn_r2 : List Cond := [Cond.code yX0_isAt cX0_isAt 4 (some .boolean), Cond.fieldLink RX0 31 "BargeWards$Town" "where" "[I", Cond.fieldLink RX0 34 "BargeWards$Town" "number" "[I"]
def wsL_feversIn : List Cond := .codeWith yL_feversIn cL_feversIn 4 (some .int) [(0, 9, 12, 24)] :: ((wsL_feversIn_r1 ++ wsL_feversIn_r2) ++ wsX10 ++ wsX00 ++ (vx_atS RX1 174 "java/lang/IndexOutOfBoundsException" ["java/lang/RuntimeException", "java/lang/Exception"]).filter goodWord)
def wsL_daysToGo : List Cond := .codeWith yL_daysToGo cL_daysToGo 4 (some .int) [(0, 9, 12, 24)] :: ([.classLink RL 24 "java/lang/IndexOutOfBoundsException", .methodLink RL 69 yX1_daysToGo, .instanceMethod yX1_daysToGo, .selects RX1 yX1_daysToGo yX1_daysToGo, .initialized RX1, .code yX1_daysToGo cX1_daysToGo 2 (some .int), .fieldLink RX1 10 "BargeWards" "town" "LBargeWards$Town;", .fieldLink RX1 122 "BargeWards$Town" "toGo" "[I", .methodLink RX1 49 yX1_checkBarge, .instanceMethod yX1_checkBarge, .selects RX1 yX1_checkBarge yX1_checkBarge, .code yX1_checkBarge cX1_checkBarge 2 none, .classLink RX1 170 "java/lang/IndexOutOfBoundsException", .initialized "java/lang/IndexOutOfBoundsException", .fieldLink RX1 41 "BargeWards$Town" "barges" "I"] ++ wsX10 ++ wsX00 ++ (vx_atS RX1 174 "java/lang/IndexOutOfBoundsException" ["java/lang/RuntimeException", "java/lang/Exception"]).filter goodWord)
def wsL_keptFor : List Cond := .codeWith yL_keptFor cL_keptFor 4 (some .int) [(0, 9, 12, 24)] :: ([.classLink RL 24 "java/lang/IndexOutOfBoundsException", .methodLink RL 72 yX1_keptFor, .instanceMethod yX1_keptFor, .selects RX1 yX1_keptFor yX1_keptFor, .initialized RX1, .code yX1_keptFor cX1_keptFor 2 (some .int), .fieldLink RX1 10 "BargeWards" "town" "LBargeWards$Town;", .fieldLink RX1 125 "BargeWards$Town" "kept" "[I", .methodLink RX1 49 yX1_checkBarge, .instanceMethod yX1_checkBarge, .selects RX1 yX1_checkBarge yX1_checkBarge, .code yX1_checkBarge cX1_checkBarge 2 none, .classLink RX1 170 "java/lang/IndexOutOfBoundsException", .initialized "java/lang/IndexOutOfBoundsException", .fieldLink RX1 41 "BargeWards$Town" "barges" "I"] ++ wsX10 ++ wsX00 ++ (vx_atS RX1 174 "java/lang/IndexOutOfBoundsException" ["java/lang/RuntimeException", "java/lang/Exception"]).filter goodWord)
def wsL_peopleOn_r1 : List Cond := [Cond.classLink RL 24 "java/lang/IndexOutOfBoundsException", Cond.methodLink RL 75 yX1_peopleOn, Cond.instanceMethod yX1_peopleOn, Cond.selects RX1 yX1_peopleOn yX1_peopleOn, Cond.initialized RX1, Cond.code yX1_peopleOn cX1_peopleOn 2 (some .int), Cond.fieldLink RX1 10 "BargeWards" "town" "LBargeWards$Town;", Cond.methodLink RX1 49 yX1_checkBarge, Cond.instanceMethod yX1_checkBarge, Cond.selects RX1 yX1_checkBarge yX1_checkBarge, Cond.code yX1_checkBarge cX1_checkBarge 2 none, Cond.classLink RX1 170 "java/lang/IndexOutOfBoundsException", Cond.initialized "java/lang/IndexOutOfBoundsException", Cond.fieldLink RX1 41 "BargeWards$Town" "barges" "I", Cond.methodLink RX1 116 yX0_countAt, Cond.instanceMethod yX0_countAt, Cond.selects RX0 yX0_countAt yX0_countAt, Cond.initialized RX0, Cond.code yX0_countAt cX0_countAt 5 (some .int), Cond.fieldLink RX0 59 "BargeWards$Town" "people" "I", Cond.methodLink RX0 72 yX0_isAt, Cond.instanceMethod yX0_isAt, Cond.selects RX0 yX0_isAt yX0_isAt, Cond.code yX0_isAt cX0_isAt 4 (some .boolean)]
def wsL_peopleOn_r2 : List Cond := [Cond.fieldLink RX0 31 "BargeWards$Town" "where" "[I", Cond.fieldLink RX0 34 "BargeWards$Town" "number" "[I"]
def wsL_peopleOn : List Cond := .codeWith yL_peopleOn cL_peopleOn 4 (some .int) [(0, 9, 12, 24)] :: ((wsL_peopleOn_r1 ++ wsL_peopleOn_r2) ++ wsX10 ++ wsX00 ++ (vx_atS RX1 174 "java/lang/IndexOutOfBoundsException" ["java/lang/RuntimeException", "java/lang/Exception"]).filter goodWord)
def wsL_highestFeverOn_r1 : List Cond := [Cond.classLink RL 24 "java/lang/IndexOutOfBoundsException", Cond.methodLink RL 78 yX1_highestFeverOn, Cond.instanceMethod yX1_highestFeverOn, Cond.selects RX1 yX1_highestFeverOn yX1_highestFeverOn, Cond.initialized RX1, Cond.code yX1_highestFeverOn cX1_highestFeverOn 2 (some .int), Cond.fieldLink RX1 10 "BargeWards" "town" "LBargeWards$Town;", Cond.methodLink RX1 49 yX1_checkBarge, Cond.instanceMethod yX1_checkBarge, Cond.selects RX1 yX1_checkBarge yX1_checkBarge, Cond.code yX1_checkBarge cX1_checkBarge 2 none, Cond.classLink RX1 170 "java/lang/IndexOutOfBoundsException", Cond.initialized "java/lang/IndexOutOfBoundsException", Cond.fieldLink RX1 41 "BargeWards$Town" "barges" "I", Cond.methodLink RX1 128 yX0_highestFeverAboard, Cond.instanceMethod yX0_highestFeverAboard, Cond.selects RX0 yX0_highestFeverAboard yX0_highestFeverAboard, Cond.initialized RX0, Cond.code yX0_highestFeverAboard cX0_highestFeverAboard 4 (some .int), Cond.fieldLink RX0 59 "BargeWards$Town" "people" "I", Cond.fieldLink RX0 28 "BargeWards$Town" "fever" "[I", Cond.methodLink RX0 80 Lib.Math.max.name, Cond.static Lib.Math.max.name, Cond.initialized "java/lang/Math"]
def wsL_highestFeverOn_r2 : List Cond := [Cond.code Lib.Math.max.name Lib.Math.max.code 2 (some .int), Cond.methodLink RX0 72 yX0_isAt, Cond.instanceMethod yX0_isAt, Cond.selects RX0 yX0_isAt yX0_isAt, Cond.code yX0_isAt cX0_isAt 4 (some .boolean), Cond.fieldLink RX0 31 "BargeWards$Town" "where" "[I", Cond.fieldLink RX0 34 "BargeWards$Town" "number" "[I"]
def wsL_highestFeverOn : List Cond := .codeWith yL_highestFeverOn cL_highestFeverOn 4 (some .int) [(0, 9, 12, 24)] :: ((wsL_highestFeverOn_r1 ++ wsL_highestFeverOn_r2) ++ wsX10 ++ wsX00 ++ (vx_atS RX1 174 "java/lang/IndexOutOfBoundsException" ["java/lang/RuntimeException", "java/lang/Exception"]).filter goodWord)
def wsL_daysUntilHome_r1 : List Cond := [Cond.classLink RL 24 "java/lang/IndexOutOfBoundsException", Cond.methodLink RL 81 yX1_daysUntilHome, Cond.instanceMethod yX1_daysUntilHome, Cond.selects RX1 yX1_daysUntilHome yX1_daysUntilHome, Cond.initialized RX1, Cond.code yX1_daysUntilHome cX1_daysUntilHome 3 (some .int), Cond.fieldLink RX1 16 "BargeWards" "trial" "LBargeWards$Town;", Cond.fieldLink RX1 10 "BargeWards" "town" "LBargeWards$Town;", Cond.fieldLink RX1 107 "BargeWards$Town" "where" "[I", Cond.methodLink RX1 76 yX1_checkPerson, Cond.instanceMethod yX1_checkPerson, Cond.selects RX1 yX1_checkPerson yX1_checkPerson, Cond.code yX1_checkPerson cX1_checkPerson 2 none, Cond.classLink RX1 170 "java/lang/IndexOutOfBoundsException", Cond.initialized "java/lang/IndexOutOfBoundsException", Cond.fieldLink RX1 55 "BargeWards$Town" "people" "I", Cond.methodLink RX1 142 yX0_copyFrom, Cond.instanceMethod yX0_copyFrom, Cond.selects RX0 yX0_copyFrom yX0_copyFrom, Cond.initialized RX0, Cond.code yX0_copyFrom cX0_copyFrom 2 none, Cond.fieldLink RX0 47 "BargeWards$Town" "day" "I", Cond.fieldLink RX0 9 "BargeWards$Town" "bowls" "I", Cond.fieldLink RX0 50 "BargeWards$Town" "bowlsEaten" "I"]
def wsL_daysUntilHome_r2 : List Cond := [Cond.fieldLink RX0 53 "BargeWards$Town" "wards" "I", Cond.fieldLink RX0 56 "BargeWards$Town" "barges" "I", Cond.fieldLink RX0 59 "BargeWards$Town" "people" "I", Cond.fieldLink RX0 15 "BargeWards$Town" "places" "[I", Cond.methodLink RX0 62 arraycopyName, Cond.native arraycopyName, Cond.static arraycopyName, Cond.initialized "java/lang/System", Cond.fieldLink RX0 19 "BargeWards$Town" "straw" "[I", Cond.fieldLink RX0 22 "BargeWards$Town" "kept" "[I", Cond.fieldLink RX0 25 "BargeWards$Town" "toGo" "[I", Cond.fieldLink RX0 28 "BargeWards$Town" "fever" "[I", Cond.fieldLink RX0 31 "BargeWards$Town" "where" "[I", Cond.fieldLink RX0 34 "BargeWards$Town" "number" "[I", Cond.fieldLink RX0 37 "BargeWards$Town" "hungryDays" "[I", Cond.methodLink RX1 101 yX0_liveDays, Cond.instanceMethod yX0_liveDays, Cond.selects RX0 yX0_liveDays yX0_liveDays, Cond.code yX0_liveDays cX0_liveDays 3 none, Cond.methodLink RX0 85 yX0_giveBowls, Cond.instanceMethod yX0_giveBowls, Cond.selects RX0 yX0_giveBowls yX0_giveBowls, Cond.code yX0_giveBowls cX0_giveBowls 4 none, Cond.fieldLink RX0 40 "BargeWards$Town" "hungryToday" "[Z"]
def wsL_daysUntilHome_r3 : List Cond := [Cond.methodLink RX0 72 yX0_isAt, Cond.instanceMethod yX0_isAt, Cond.selects RX0 yX0_isAt yX0_isAt, Cond.code yX0_isAt cX0_isAt 4 (some .boolean), Cond.methodLink RX0 88 yX0_changeFeversInWards, Cond.instanceMethod yX0_changeFeversInWards, Cond.selects RX0 yX0_changeFeversInWards yX0_changeFeversInWards, Cond.code yX0_changeFeversInWards cX0_changeFeversInWards 4 none, Cond.methodLink RX0 80 Lib.Math.max.name, Cond.static Lib.Math.max.name, Cond.initialized "java/lang/Math", Cond.code Lib.Math.max.name Lib.Math.max.code 2 (some .int), Cond.methodLink RX0 103 yX0_raiseFever, Cond.instanceMethod yX0_raiseFever, Cond.selects RX0 yX0_raiseFever yX0_raiseFever, Cond.code yX0_raiseFever cX0_raiseFever 2 none, Cond.methodLink RX0 107 Lib.Math.min.name, Cond.static Lib.Math.min.name, Cond.code Lib.Math.min.name Lib.Math.min.code 2 (some .int), Cond.methodLink RX0 91 yX0_bringBargesNearer, Cond.instanceMethod yX0_bringBargesNearer, Cond.selects RX0 yX0_bringBargesNearer yX0_bringBargesNearer, Cond.code yX0_bringBargesNearer cX0_bringBargesNearer 2 none, Cond.methodLink RX0 110 yX0_spreadFever]
def wsL_daysUntilHome_r4 : List Cond := [Cond.instanceMethod yX0_spreadFever, Cond.selects RX0 yX0_spreadFever yX0_spreadFever, Cond.code yX0_spreadFever cX0_spreadFever 5 none, Cond.methodLink RX0 113 yX0_countFeverish, Cond.instanceMethod yX0_countFeverish, Cond.selects RX0 yX0_countFeverish yX0_countFeverish, Cond.code yX0_countFeverish cX0_countFeverish 4 (some .int), Cond.methodLink RX0 94 yX0_ageStraw, Cond.instanceMethod yX0_ageStraw, Cond.selects RX0 yX0_ageStraw yX0_ageStraw, Cond.code yX0_ageStraw cX0_ageStraw 2 none, Cond.methodLink RX0 97 yX0_leaveWards, Cond.instanceMethod yX0_leaveWards, Cond.selects RX0 yX0_leaveWards yX0_leaveWards, Cond.code yX0_leaveWards cX0_leaveWards 2 none, Cond.methodLink RX0 68 yX0_move, Cond.instanceMethod yX0_move, Cond.selects RX0 yX0_move yX0_move, Cond.code yX0_move cX0_move 4 none, Cond.methodLink RX0 100 yX0_landBarges, Cond.instanceMethod yX0_landBarges, Cond.selects RX0 yX0_landBarges yX0_landBarges, Cond.code yX0_landBarges cX0_landBarges 2 none, Cond.fieldLink RX0 44 "BargeWards$Town" "freeToday" "[I"]
def wsL_daysUntilHome_r5 : List Cond := [Cond.methodLink RX0 117 yX0_freeIn, Cond.instanceMethod yX0_freeIn, Cond.selects RX0 yX0_freeIn yX0_freeIn, Cond.code yX0_freeIn cX0_freeIn 2 (some .int), Cond.methodLink RX0 76 yX0_countAt, Cond.instanceMethod yX0_countAt, Cond.selects RX0 yX0_countAt yX0_countAt, Cond.code yX0_countAt cX0_countAt 5 (some .int), Cond.methodLink RX0 120 yX0_landAll, Cond.instanceMethod yX0_landAll, Cond.selects RX0 yX0_landAll yX0_landAll, Cond.code yX0_landAll cX0_landAll 5 (some .boolean), Cond.methodLink RX0 124 yX0_takeFirstFreePlace, Cond.instanceMethod yX0_takeFirstFreePlace, Cond.selects RX0 yX0_takeFirstFreePlace yX0_takeFirstFreePlace, Cond.code yX0_takeFirstFreePlace cX0_takeFirstFreePlace 2 (some .int)]
def wsL_daysUntilHome : List Cond := .codeWith yL_daysUntilHome cL_daysUntilHome 4 (some .int) [(0, 9, 12, 24)] :: ((wsL_daysUntilHome_r1 ++ (wsL_daysUntilHome_r2 ++ (wsL_daysUntilHome_r3 ++ (wsL_daysUntilHome_r4 ++ wsL_daysUntilHome_r5)))) ++ wsX10 ++ wsX00 ++ (vx_atS RX1 174 "java/lang/IndexOutOfBoundsException" ["java/lang/RuntimeException", "java/lang/Exception"]).filter goodWord)
def wsL_homeAfter_r1 : List Cond := [Cond.classLink RL 13 "java/lang/IllegalArgumentException", Cond.methodLink RL 84 yX1_homeAfter, Cond.instanceMethod yX1_homeAfter, Cond.selects RX1 yX1_homeAfter yX1_homeAfter, Cond.initialized RX1, Cond.code yX1_homeAfter cX1_homeAfter 2 (some .int), Cond.methodLink RX1 95 yX1_checkDays, Cond.static yX1_checkDays, Cond.code yX1_checkDays cX1_checkDays 1 none, Cond.classLink RX1 19 "java/lang/IllegalArgumentException", Cond.initialized "java/lang/IllegalArgumentException", Cond.methodLink RX1 146 yX1_countBehind, Cond.instanceMethod yX1_countBehind, Cond.selects RX1 yX1_countBehind yX1_countBehind, Cond.code yX1_countBehind cX1_countBehind 3 (some .int), Cond.fieldLink RX1 16 "BargeWards" "trial" "LBargeWards$Town;", Cond.fieldLink RX1 10 "BargeWards" "town" "LBargeWards$Town;", Cond.methodLink RX1 142 yX0_copyFrom, Cond.instanceMethod yX0_copyFrom, Cond.selects RX0 yX0_copyFrom yX0_copyFrom, Cond.initialized RX0, Cond.code yX0_copyFrom cX0_copyFrom 2 none, Cond.fieldLink RX0 47 "BargeWards$Town" "day" "I", Cond.fieldLink RX0 9 "BargeWards$Town" "bowls" "I"]
def wsL_homeAfter_r2 : List Cond := [Cond.fieldLink RX0 50 "BargeWards$Town" "bowlsEaten" "I", Cond.fieldLink RX0 53 "BargeWards$Town" "wards" "I", Cond.fieldLink RX0 56 "BargeWards$Town" "barges" "I", Cond.fieldLink RX0 59 "BargeWards$Town" "people" "I", Cond.fieldLink RX0 15 "BargeWards$Town" "places" "[I", Cond.methodLink RX0 62 arraycopyName, Cond.native arraycopyName, Cond.static arraycopyName, Cond.initialized "java/lang/System", Cond.fieldLink RX0 19 "BargeWards$Town" "straw" "[I", Cond.fieldLink RX0 22 "BargeWards$Town" "kept" "[I", Cond.fieldLink RX0 25 "BargeWards$Town" "toGo" "[I", Cond.fieldLink RX0 28 "BargeWards$Town" "fever" "[I", Cond.fieldLink RX0 31 "BargeWards$Town" "where" "[I", Cond.fieldLink RX0 34 "BargeWards$Town" "number" "[I", Cond.fieldLink RX0 37 "BargeWards$Town" "hungryDays" "[I", Cond.methodLink RX1 101 yX0_liveDays, Cond.instanceMethod yX0_liveDays, Cond.selects RX0 yX0_liveDays yX0_liveDays, Cond.code yX0_liveDays cX0_liveDays 3 none, Cond.methodLink RX0 85 yX0_giveBowls, Cond.instanceMethod yX0_giveBowls, Cond.selects RX0 yX0_giveBowls yX0_giveBowls, Cond.code yX0_giveBowls cX0_giveBowls 4 none]
def wsL_homeAfter_r3 : List Cond := [Cond.fieldLink RX0 40 "BargeWards$Town" "hungryToday" "[Z", Cond.methodLink RX0 72 yX0_isAt, Cond.instanceMethod yX0_isAt, Cond.selects RX0 yX0_isAt yX0_isAt, Cond.code yX0_isAt cX0_isAt 4 (some .boolean), Cond.methodLink RX0 88 yX0_changeFeversInWards, Cond.instanceMethod yX0_changeFeversInWards, Cond.selects RX0 yX0_changeFeversInWards yX0_changeFeversInWards, Cond.code yX0_changeFeversInWards cX0_changeFeversInWards 4 none, Cond.methodLink RX0 80 Lib.Math.max.name, Cond.static Lib.Math.max.name, Cond.initialized "java/lang/Math", Cond.code Lib.Math.max.name Lib.Math.max.code 2 (some .int), Cond.methodLink RX0 103 yX0_raiseFever, Cond.instanceMethod yX0_raiseFever, Cond.selects RX0 yX0_raiseFever yX0_raiseFever, Cond.code yX0_raiseFever cX0_raiseFever 2 none, Cond.methodLink RX0 107 Lib.Math.min.name, Cond.static Lib.Math.min.name, Cond.code Lib.Math.min.name Lib.Math.min.code 2 (some .int), Cond.methodLink RX0 91 yX0_bringBargesNearer, Cond.instanceMethod yX0_bringBargesNearer, Cond.selects RX0 yX0_bringBargesNearer yX0_bringBargesNearer, Cond.code yX0_bringBargesNearer cX0_bringBargesNearer 2 none]
def wsL_homeAfter_r4 : List Cond := [Cond.methodLink RX0 110 yX0_spreadFever, Cond.instanceMethod yX0_spreadFever, Cond.selects RX0 yX0_spreadFever yX0_spreadFever, Cond.code yX0_spreadFever cX0_spreadFever 5 none, Cond.methodLink RX0 113 yX0_countFeverish, Cond.instanceMethod yX0_countFeverish, Cond.selects RX0 yX0_countFeverish yX0_countFeverish, Cond.code yX0_countFeverish cX0_countFeverish 4 (some .int), Cond.methodLink RX0 94 yX0_ageStraw, Cond.instanceMethod yX0_ageStraw, Cond.selects RX0 yX0_ageStraw yX0_ageStraw, Cond.code yX0_ageStraw cX0_ageStraw 2 none, Cond.methodLink RX0 97 yX0_leaveWards, Cond.instanceMethod yX0_leaveWards, Cond.selects RX0 yX0_leaveWards yX0_leaveWards, Cond.code yX0_leaveWards cX0_leaveWards 2 none, Cond.methodLink RX0 68 yX0_move, Cond.instanceMethod yX0_move, Cond.selects RX0 yX0_move yX0_move, Cond.code yX0_move cX0_move 4 none, Cond.methodLink RX0 100 yX0_landBarges, Cond.instanceMethod yX0_landBarges, Cond.selects RX0 yX0_landBarges yX0_landBarges, Cond.code yX0_landBarges cX0_landBarges 2 none]
def wsL_homeAfter_r5 : List Cond := [Cond.fieldLink RX0 44 "BargeWards$Town" "freeToday" "[I", Cond.methodLink RX0 117 yX0_freeIn, Cond.instanceMethod yX0_freeIn, Cond.selects RX0 yX0_freeIn yX0_freeIn, Cond.code yX0_freeIn cX0_freeIn 2 (some .int), Cond.methodLink RX0 76 yX0_countAt, Cond.instanceMethod yX0_countAt, Cond.selects RX0 yX0_countAt yX0_countAt, Cond.code yX0_countAt cX0_countAt 5 (some .int), Cond.methodLink RX0 120 yX0_landAll, Cond.instanceMethod yX0_landAll, Cond.selects RX0 yX0_landAll yX0_landAll, Cond.code yX0_landAll cX0_landAll 5 (some .boolean), Cond.methodLink RX0 124 yX0_takeFirstFreePlace, Cond.instanceMethod yX0_takeFirstFreePlace, Cond.selects RX0 yX0_takeFirstFreePlace yX0_takeFirstFreePlace, Cond.code yX0_takeFirstFreePlace cX0_takeFirstFreePlace 2 (some .int), Cond.methodLink RX1 98 yX0_count, Cond.instanceMethod yX0_count, Cond.selects RX0 yX0_count yX0_count, Cond.code yX0_count cX0_count 4 (some .int)]
def wsL_homeAfter : List Cond := .codeWith yL_homeAfter cL_homeAfter 4 (some .int) [(0, 9, 12, 13)] :: ((wsL_homeAfter_r1 ++ (wsL_homeAfter_r2 ++ (wsL_homeAfter_r3 ++ (wsL_homeAfter_r4 ++ wsL_homeAfter_r5)))) ++ wsX10 ++ wsX00 ++ (vx_atS RX1 23 "java/lang/IllegalArgumentException" ["java/lang/RuntimeException", "java/lang/Exception"]).filter goodWord)
def wsL_greatHouseAfter_r1 : List Cond := [Cond.classLink RL 13 "java/lang/IllegalArgumentException", Cond.methodLink RL 87 yX1_greatHouseAfter, Cond.instanceMethod yX1_greatHouseAfter, Cond.selects RX1 yX1_greatHouseAfter yX1_greatHouseAfter, Cond.initialized RX1, Cond.code yX1_greatHouseAfter cX1_greatHouseAfter 2 (some .int), Cond.methodLink RX1 95 yX1_checkDays, Cond.static yX1_checkDays, Cond.code yX1_checkDays cX1_checkDays 1 none, Cond.classLink RX1 19 "java/lang/IllegalArgumentException", Cond.initialized "java/lang/IllegalArgumentException", Cond.methodLink RX1 146 yX1_countBehind, Cond.instanceMethod yX1_countBehind, Cond.selects RX1 yX1_countBehind yX1_countBehind, Cond.code yX1_countBehind cX1_countBehind 3 (some .int), Cond.fieldLink RX1 16 "BargeWards" "trial" "LBargeWards$Town;", Cond.fieldLink RX1 10 "BargeWards" "town" "LBargeWards$Town;", Cond.methodLink RX1 142 yX0_copyFrom, Cond.instanceMethod yX0_copyFrom, Cond.selects RX0 yX0_copyFrom yX0_copyFrom, Cond.initialized RX0, Cond.code yX0_copyFrom cX0_copyFrom 2 none, Cond.fieldLink RX0 47 "BargeWards$Town" "day" "I", Cond.fieldLink RX0 9 "BargeWards$Town" "bowls" "I"]
def wsL_greatHouseAfter_r2 : List Cond := [Cond.fieldLink RX0 50 "BargeWards$Town" "bowlsEaten" "I", Cond.fieldLink RX0 53 "BargeWards$Town" "wards" "I", Cond.fieldLink RX0 56 "BargeWards$Town" "barges" "I", Cond.fieldLink RX0 59 "BargeWards$Town" "people" "I", Cond.fieldLink RX0 15 "BargeWards$Town" "places" "[I", Cond.methodLink RX0 62 arraycopyName, Cond.native arraycopyName, Cond.static arraycopyName, Cond.initialized "java/lang/System", Cond.fieldLink RX0 19 "BargeWards$Town" "straw" "[I", Cond.fieldLink RX0 22 "BargeWards$Town" "kept" "[I", Cond.fieldLink RX0 25 "BargeWards$Town" "toGo" "[I", Cond.fieldLink RX0 28 "BargeWards$Town" "fever" "[I", Cond.fieldLink RX0 31 "BargeWards$Town" "where" "[I", Cond.fieldLink RX0 34 "BargeWards$Town" "number" "[I", Cond.fieldLink RX0 37 "BargeWards$Town" "hungryDays" "[I", Cond.methodLink RX1 101 yX0_liveDays, Cond.instanceMethod yX0_liveDays, Cond.selects RX0 yX0_liveDays yX0_liveDays, Cond.code yX0_liveDays cX0_liveDays 3 none, Cond.methodLink RX0 85 yX0_giveBowls, Cond.instanceMethod yX0_giveBowls, Cond.selects RX0 yX0_giveBowls yX0_giveBowls, Cond.code yX0_giveBowls cX0_giveBowls 4 none]
def wsL_greatHouseAfter_r3 : List Cond := [Cond.fieldLink RX0 40 "BargeWards$Town" "hungryToday" "[Z", Cond.methodLink RX0 72 yX0_isAt, Cond.instanceMethod yX0_isAt, Cond.selects RX0 yX0_isAt yX0_isAt, Cond.code yX0_isAt cX0_isAt 4 (some .boolean), Cond.methodLink RX0 88 yX0_changeFeversInWards, Cond.instanceMethod yX0_changeFeversInWards, Cond.selects RX0 yX0_changeFeversInWards yX0_changeFeversInWards, Cond.code yX0_changeFeversInWards cX0_changeFeversInWards 4 none, Cond.methodLink RX0 80 Lib.Math.max.name, Cond.static Lib.Math.max.name, Cond.initialized "java/lang/Math", Cond.code Lib.Math.max.name Lib.Math.max.code 2 (some .int), Cond.methodLink RX0 103 yX0_raiseFever, Cond.instanceMethod yX0_raiseFever, Cond.selects RX0 yX0_raiseFever yX0_raiseFever, Cond.code yX0_raiseFever cX0_raiseFever 2 none, Cond.methodLink RX0 107 Lib.Math.min.name, Cond.static Lib.Math.min.name, Cond.code Lib.Math.min.name Lib.Math.min.code 2 (some .int), Cond.methodLink RX0 91 yX0_bringBargesNearer, Cond.instanceMethod yX0_bringBargesNearer, Cond.selects RX0 yX0_bringBargesNearer yX0_bringBargesNearer, Cond.code yX0_bringBargesNearer cX0_bringBargesNearer 2 none]
def wsL_greatHouseAfter_r4 : List Cond := [Cond.methodLink RX0 110 yX0_spreadFever, Cond.instanceMethod yX0_spreadFever, Cond.selects RX0 yX0_spreadFever yX0_spreadFever, Cond.code yX0_spreadFever cX0_spreadFever 5 none, Cond.methodLink RX0 113 yX0_countFeverish, Cond.instanceMethod yX0_countFeverish, Cond.selects RX0 yX0_countFeverish yX0_countFeverish, Cond.code yX0_countFeverish cX0_countFeverish 4 (some .int), Cond.methodLink RX0 94 yX0_ageStraw, Cond.instanceMethod yX0_ageStraw, Cond.selects RX0 yX0_ageStraw yX0_ageStraw, Cond.code yX0_ageStraw cX0_ageStraw 2 none, Cond.methodLink RX0 97 yX0_leaveWards, Cond.instanceMethod yX0_leaveWards, Cond.selects RX0 yX0_leaveWards yX0_leaveWards, Cond.code yX0_leaveWards cX0_leaveWards 2 none, Cond.methodLink RX0 68 yX0_move, Cond.instanceMethod yX0_move, Cond.selects RX0 yX0_move yX0_move, Cond.code yX0_move cX0_move 4 none, Cond.methodLink RX0 100 yX0_landBarges, Cond.instanceMethod yX0_landBarges, Cond.selects RX0 yX0_landBarges yX0_landBarges, Cond.code yX0_landBarges cX0_landBarges 2 none]
def wsL_greatHouseAfter_r5 : List Cond := [Cond.fieldLink RX0 44 "BargeWards$Town" "freeToday" "[I", Cond.methodLink RX0 117 yX0_freeIn, Cond.instanceMethod yX0_freeIn, Cond.selects RX0 yX0_freeIn yX0_freeIn, Cond.code yX0_freeIn cX0_freeIn 2 (some .int), Cond.methodLink RX0 76 yX0_countAt, Cond.instanceMethod yX0_countAt, Cond.selects RX0 yX0_countAt yX0_countAt, Cond.code yX0_countAt cX0_countAt 5 (some .int), Cond.methodLink RX0 120 yX0_landAll, Cond.instanceMethod yX0_landAll, Cond.selects RX0 yX0_landAll yX0_landAll, Cond.code yX0_landAll cX0_landAll 5 (some .boolean), Cond.methodLink RX0 124 yX0_takeFirstFreePlace, Cond.instanceMethod yX0_takeFirstFreePlace, Cond.selects RX0 yX0_takeFirstFreePlace yX0_takeFirstFreePlace, Cond.code yX0_takeFirstFreePlace cX0_takeFirstFreePlace 2 (some .int), Cond.methodLink RX1 98 yX0_count, Cond.instanceMethod yX0_count, Cond.selects RX0 yX0_count yX0_count, Cond.code yX0_count cX0_count 4 (some .int)]
def wsL_greatHouseAfter : List Cond := .codeWith yL_greatHouseAfter cL_greatHouseAfter 4 (some .int) [(0, 9, 12, 13)] :: ((wsL_greatHouseAfter_r1 ++ (wsL_greatHouseAfter_r2 ++ (wsL_greatHouseAfter_r3 ++ (wsL_greatHouseAfter_r4 ++ wsL_greatHouseAfter_r5)))) ++ wsX10 ++ wsX00 ++ (vx_atS RX1 23 "java/lang/IllegalArgumentException" ["java/lang/RuntimeException", "java/lang/Exception"]).filter goodWord)
def wsL_bestStraw_r1 : List Cond := [Cond.classLink RL 13 "java/lang/IllegalArgumentException", Cond.methodLink RL 90 yX1_bestStraw, Cond.instanceMethod yX1_bestStraw, Cond.selects RX1 yX1_bestStraw yX1_bestStraw, Cond.initialized RX1, Cond.code yX1_bestStraw cX1_bestStraw 6 (some .int), Cond.fieldLink RX1 10 "BargeWards" "town" "LBargeWards$Town;", Cond.fieldLink RX1 26 "BargeWards$Town" "wards" "I", Cond.methodLink RX1 95 yX1_checkDays, Cond.static yX1_checkDays, Cond.code yX1_checkDays cX1_checkDays 1 none, Cond.classLink RX1 19 "java/lang/IllegalArgumentException", Cond.initialized "java/lang/IllegalArgumentException", Cond.methodLink RX1 146 yX1_countBehind, Cond.instanceMethod yX1_countBehind, Cond.selects RX1 yX1_countBehind yX1_countBehind, Cond.code yX1_countBehind cX1_countBehind 3 (some .int), Cond.fieldLink RX1 16 "BargeWards" "trial" "LBargeWards$Town;", Cond.methodLink RX1 142 yX0_copyFrom, Cond.instanceMethod yX0_copyFrom, Cond.selects RX0 yX0_copyFrom yX0_copyFrom, Cond.initialized RX0, Cond.code yX0_copyFrom cX0_copyFrom 2 none, Cond.fieldLink RX0 47 "BargeWards$Town" "day" "I"]
def wsL_bestStraw_r2 : List Cond := [Cond.fieldLink RX0 9 "BargeWards$Town" "bowls" "I", Cond.fieldLink RX0 50 "BargeWards$Town" "bowlsEaten" "I", Cond.fieldLink RX0 53 "BargeWards$Town" "wards" "I", Cond.fieldLink RX0 56 "BargeWards$Town" "barges" "I", Cond.fieldLink RX0 59 "BargeWards$Town" "people" "I", Cond.fieldLink RX0 15 "BargeWards$Town" "places" "[I", Cond.methodLink RX0 62 arraycopyName, Cond.native arraycopyName, Cond.static arraycopyName, Cond.initialized "java/lang/System", Cond.fieldLink RX0 19 "BargeWards$Town" "straw" "[I", Cond.fieldLink RX0 22 "BargeWards$Town" "kept" "[I", Cond.fieldLink RX0 25 "BargeWards$Town" "toGo" "[I", Cond.fieldLink RX0 28 "BargeWards$Town" "fever" "[I", Cond.fieldLink RX0 31 "BargeWards$Town" "where" "[I", Cond.fieldLink RX0 34 "BargeWards$Town" "number" "[I", Cond.fieldLink RX0 37 "BargeWards$Town" "hungryDays" "[I", Cond.methodLink RX1 101 yX0_liveDays, Cond.instanceMethod yX0_liveDays, Cond.selects RX0 yX0_liveDays yX0_liveDays, Cond.code yX0_liveDays cX0_liveDays 3 none, Cond.methodLink RX0 85 yX0_giveBowls, Cond.instanceMethod yX0_giveBowls, Cond.selects RX0 yX0_giveBowls yX0_giveBowls]
def wsL_bestStraw_r3 : List Cond := [Cond.code yX0_giveBowls cX0_giveBowls 4 none, Cond.fieldLink RX0 40 "BargeWards$Town" "hungryToday" "[Z", Cond.methodLink RX0 72 yX0_isAt, Cond.instanceMethod yX0_isAt, Cond.selects RX0 yX0_isAt yX0_isAt, Cond.code yX0_isAt cX0_isAt 4 (some .boolean), Cond.methodLink RX0 88 yX0_changeFeversInWards, Cond.instanceMethod yX0_changeFeversInWards, Cond.selects RX0 yX0_changeFeversInWards yX0_changeFeversInWards, Cond.code yX0_changeFeversInWards cX0_changeFeversInWards 4 none, Cond.methodLink RX0 80 Lib.Math.max.name, Cond.static Lib.Math.max.name, Cond.initialized "java/lang/Math", Cond.code Lib.Math.max.name Lib.Math.max.code 2 (some .int), Cond.methodLink RX0 103 yX0_raiseFever, Cond.instanceMethod yX0_raiseFever, Cond.selects RX0 yX0_raiseFever yX0_raiseFever, Cond.code yX0_raiseFever cX0_raiseFever 2 none, Cond.methodLink RX0 107 Lib.Math.min.name, Cond.static Lib.Math.min.name, Cond.code Lib.Math.min.name Lib.Math.min.code 2 (some .int), Cond.methodLink RX0 91 yX0_bringBargesNearer, Cond.instanceMethod yX0_bringBargesNearer, Cond.selects RX0 yX0_bringBargesNearer yX0_bringBargesNearer]
def wsL_bestStraw_r4 : List Cond := [Cond.code yX0_bringBargesNearer cX0_bringBargesNearer 2 none, Cond.methodLink RX0 110 yX0_spreadFever, Cond.instanceMethod yX0_spreadFever, Cond.selects RX0 yX0_spreadFever yX0_spreadFever, Cond.code yX0_spreadFever cX0_spreadFever 5 none, Cond.methodLink RX0 113 yX0_countFeverish, Cond.instanceMethod yX0_countFeverish, Cond.selects RX0 yX0_countFeverish yX0_countFeverish, Cond.code yX0_countFeverish cX0_countFeverish 4 (some .int), Cond.methodLink RX0 94 yX0_ageStraw, Cond.instanceMethod yX0_ageStraw, Cond.selects RX0 yX0_ageStraw yX0_ageStraw, Cond.code yX0_ageStraw cX0_ageStraw 2 none, Cond.methodLink RX0 97 yX0_leaveWards, Cond.instanceMethod yX0_leaveWards, Cond.selects RX0 yX0_leaveWards yX0_leaveWards, Cond.code yX0_leaveWards cX0_leaveWards 2 none, Cond.methodLink RX0 68 yX0_move, Cond.instanceMethod yX0_move, Cond.selects RX0 yX0_move yX0_move, Cond.code yX0_move cX0_move 4 none, Cond.methodLink RX0 100 yX0_landBarges, Cond.instanceMethod yX0_landBarges, Cond.selects RX0 yX0_landBarges yX0_landBarges]
def wsL_bestStraw_r5 : List Cond := [Cond.code yX0_landBarges cX0_landBarges 2 none, Cond.fieldLink RX0 44 "BargeWards$Town" "freeToday" "[I", Cond.methodLink RX0 117 yX0_freeIn, Cond.instanceMethod yX0_freeIn, Cond.selects RX0 yX0_freeIn yX0_freeIn, Cond.code yX0_freeIn cX0_freeIn 2 (some .int), Cond.methodLink RX0 76 yX0_countAt, Cond.instanceMethod yX0_countAt, Cond.selects RX0 yX0_countAt yX0_countAt, Cond.code yX0_countAt cX0_countAt 5 (some .int), Cond.methodLink RX0 120 yX0_landAll, Cond.instanceMethod yX0_landAll, Cond.selects RX0 yX0_landAll yX0_landAll, Cond.code yX0_landAll cX0_landAll 5 (some .boolean), Cond.methodLink RX0 124 yX0_takeFirstFreePlace, Cond.instanceMethod yX0_takeFirstFreePlace, Cond.selects RX0 yX0_takeFirstFreePlace yX0_takeFirstFreePlace, Cond.code yX0_takeFirstFreePlace cX0_takeFirstFreePlace 2 (some .int), Cond.methodLink RX1 98 yX0_count, Cond.instanceMethod yX0_count, Cond.selects RX0 yX0_count yX0_count, Cond.code yX0_count cX0_count 4 (some .int), Cond.methodLink RX1 149 yX1_homeWithFreshStraw, Cond.instanceMethod yX1_homeWithFreshStraw]
def wsL_bestStraw_r6 : List Cond := [Cond.selects RX1 yX1_homeWithFreshStraw yX1_homeWithFreshStraw, Cond.code yX1_homeWithFreshStraw cX1_homeWithFreshStraw 3 (some .int), Cond.fieldLink RX1 72 "BargeWards$Town" "straw" "[I"]
def wsL_bestStraw : List Cond := .codeWith yL_bestStraw cL_bestStraw 4 (some .int) [(0, 9, 12, 13)] :: ((wsL_bestStraw_r1 ++ (wsL_bestStraw_r2 ++ (wsL_bestStraw_r3 ++ (wsL_bestStraw_r4 ++ (wsL_bestStraw_r5 ++ wsL_bestStraw_r6))))) ++ wsX10 ++ wsX00 ++ (vx_atS RX1 23 "java/lang/IllegalArgumentException" ["java/lang/RuntimeException", "java/lang/Exception"]).filter goodWord)
def wsL_law0_r1 : List Cond := [Cond.classLink RL 8 RX1, Cond.instantiable RX1 2, Cond.initialized RX1, Cond.classLink RL 94 RX3, Cond.instantiable RX3 3, Cond.initialized RX3, Cond.arrayClass .long, Cond.methodLink RL 93 yX1_init, Cond.instanceMethod yX1_init, Cond.code yX1_init cX1_init 1 none, Cond.methodLink RX1 1 objectInit, Cond.instanceMethod objectInit, Cond.code objectInit ⟨#[0xb1]⟩ 1 none, Cond.classLink RX1 7 RX0, Cond.instantiable RX0 16, Cond.initialized RX0, Cond.fieldLink RX1 10 "BargeWards" "town" "LBargeWards$Town;", Cond.fieldLink RX1 16 "BargeWards" "trial" "LBargeWards$Town;", Cond.methodLink RX1 9 yX0_init, Cond.instanceMethod yX0_init, Cond.code yX0_init cX0_init 1 none, Cond.methodLink RX0 3 objectInit, Cond.fieldLink RX0 9 "BargeWards$Town" "bowls" "I", Cond.arrayClass .int]
def wsL_law0_r2 : List Cond := [Cond.fieldLink RX0 15 "BargeWards$Town" "places" "[I", Cond.fieldLink RX0 19 "BargeWards$Town" "straw" "[I", Cond.fieldLink RX0 22 "BargeWards$Town" "kept" "[I", Cond.fieldLink RX0 25 "BargeWards$Town" "toGo" "[I", Cond.fieldLink RX0 28 "BargeWards$Town" "fever" "[I", Cond.fieldLink RX0 31 "BargeWards$Town" "where" "[I", Cond.fieldLink RX0 34 "BargeWards$Town" "number" "[I", Cond.fieldLink RX0 37 "BargeWards$Town" "hungryDays" "[I", Cond.arrayClass .boolean, Cond.fieldLink RX0 40 "BargeWards$Town" "hungryToday" "[Z", Cond.fieldLink RX0 44 "BargeWards$Town" "freeToday" "[I", Cond.methodLink RL 96 yX3_init, Cond.instanceMethod yX3_init, Cond.code yX3_init cX3_init 1 none, Cond.methodLink RX3 1 objectInit, Cond.classLink RX3 7 RX2, Cond.instantiable RX2 13, Cond.initialized RX2, Cond.fieldLink RX3 10 "BargeWardsModel" "t" "LBargeWardsModel$Town;", Cond.fieldLink RX3 16 "BargeWardsModel" "ahead" "LBargeWardsModel$Town;", Cond.instanceMethod yX2_init, Cond.code yX2_init cX2_init 1 none, Cond.methodLink RX2 3 objectInit, Cond.fieldLink RX2 9 "BargeWardsModel$Town" "bowls" "I"]
def wsL_law0_r3 : List Cond := [Cond.fieldLink RX2 15 "BargeWardsModel$Town" "places" "[I", Cond.fieldLink RX2 19 "BargeWardsModel$Town" "straw" "[I", Cond.fieldLink RX2 22 "BargeWardsModel$Town" "kept" "[I", Cond.fieldLink RX2 25 "BargeWardsModel$Town" "toGo" "[I", Cond.fieldLink RX2 28 "BargeWardsModel$Town" "fever" "[I", Cond.fieldLink RX2 31 "BargeWardsModel$Town" "where" "[I", Cond.fieldLink RX2 34 "BargeWardsModel$Town" "hungry" "[I", Cond.methodLink RL 97 yL_addWard, Cond.static yL_addWard, Cond.initialized RL, Cond.codeWith yL_addWard cL_addWard 4 (some .int) [(0, 9, 12, 13), (0, 9, 15, 15)], Cond.classLink RL 13 "java/lang/IllegalArgumentException", Cond.classLink RL 15 "java/lang/IllegalStateException", Cond.methodLink RL 7 yX1_addWard, Cond.instanceMethod yX1_addWard, Cond.selects RX1 yX1_addWard yX1_addWard, Cond.code yX1_addWard cX1_addWard 2 (some .int), Cond.classLink RX1 19 "java/lang/IllegalArgumentException", Cond.initialized "java/lang/IllegalArgumentException", Cond.classLink RX1 30 "java/lang/IllegalStateException", Cond.initialized "java/lang/IllegalStateException", Cond.fieldLink RX1 26 "BargeWards$Town" "wards" "I", Cond.methodLink RX1 35 yX0_openWard, Cond.instanceMethod yX0_openWard]
def wsL_law0_r4 : List Cond := [Cond.selects RX0 yX0_openWard yX0_openWard, Cond.code yX0_openWard cX0_openWard 3 (some .int), Cond.fieldLink RX0 53 "BargeWards$Town" "wards" "I", Cond.methodLink RL 102 yX3_addWard, Cond.instanceMethod yX3_addWard, Cond.selects RX3 yX3_addWard yX3_addWard, Cond.code yX3_addWard cX3_addWard 2 (some .int), Cond.fieldLink RX3 19 "BargeWardsModel" "thrown" "I", Cond.methodLink RX3 26 yX3_isIn, Cond.static yX3_isIn, Cond.code yX3_isIn cX3_isIn 3 (some .boolean), Cond.methodLink RX3 36 yX3_no, Cond.instanceMethod yX3_no, Cond.selects RX3 yX3_no yX3_no, Cond.code yX3_no cX3_no 2 (some .int), Cond.methodLink RL 103 yX3_thrown, Cond.instanceMethod yX3_thrown, Cond.selects RX3 yX3_thrown yX3_thrown, Cond.code yX3_thrown cX3_thrown 1 (some .int), Cond.methodLink RL 107 yL_addBarge, Cond.static yL_addBarge, Cond.codeWith yL_addBarge cL_addBarge 4 (some .int) [(0, 9, 12, 13), (0, 9, 15, 15)], Cond.methodLink RL 17 yX1_addBarge, Cond.instanceMethod yX1_addBarge]
def wsL_law0_r5 : List Cond := [Cond.selects RX1 yX1_addBarge yX1_addBarge, Cond.code yX1_addBarge cX1_addBarge 2 (some .int), Cond.fieldLink RX1 41 "BargeWards$Town" "barges" "I", Cond.methodLink RX1 46 yX0_openBarge, Cond.instanceMethod yX0_openBarge, Cond.selects RX0 yX0_openBarge yX0_openBarge, Cond.code yX0_openBarge cX0_openBarge 3 (some .int), Cond.fieldLink RX0 56 "BargeWards$Town" "barges" "I", Cond.methodLink RL 109 yX3_addBarge, Cond.instanceMethod yX3_addBarge, Cond.selects RX3 yX3_addBarge yX3_addBarge, Cond.code yX3_addBarge cX3_addBarge 2 (some .int), Cond.methodLink RL 110 yL_board, Cond.static yL_board, Cond.codeWith yL_board cL_board 5 (some .int) [(0, 10, 13, 24), (0, 10, 17, 13), (0, 10, 21, 15)], Cond.classLink RL 24 "java/lang/IndexOutOfBoundsException", Cond.methodLink RL 20 yX1_board, Cond.instanceMethod yX1_board, Cond.selects RX1 yX1_board yX1_board, Cond.code yX1_board cX1_board 3 (some .int), Cond.fieldLink RX1 55 "BargeWards$Town" "people" "I", Cond.methodLink RX1 49 yX1_checkBarge, Cond.instanceMethod yX1_checkBarge, Cond.selects RX1 yX1_checkBarge yX1_checkBarge]
def wsL_law0_r6 : List Cond := [Cond.code yX1_checkBarge cX1_checkBarge 2 none, Cond.classLink RX1 170 "java/lang/IndexOutOfBoundsException", Cond.initialized "java/lang/IndexOutOfBoundsException", Cond.methodLink RX1 60 yX0_takeAboard, Cond.instanceMethod yX0_takeAboard, Cond.selects RX0 yX0_takeAboard yX0_takeAboard, Cond.code yX0_takeAboard cX0_takeAboard 4 (some .int), Cond.fieldLink RX0 59 "BargeWards$Town" "people" "I", Cond.methodLink RX0 68 yX0_move, Cond.instanceMethod yX0_move, Cond.selects RX0 yX0_move yX0_move, Cond.code yX0_move cX0_move 4 none, Cond.methodLink RL 113 yX3_board, Cond.instanceMethod yX3_board, Cond.selects RX3 yX3_board yX3_board, Cond.code yX3_board cX3_board 3 (some .int), Cond.methodLink RX3 50 yX3_isBarge, Cond.instanceMethod yX3_isBarge, Cond.selects RX3 yX3_isBarge yX3_isBarge, Cond.code yX3_isBarge cX3_isBarge 2 (some .boolean), Cond.methodLink RL 114 yL_setBowls, Cond.static yL_setBowls, Cond.codeWith yL_setBowls cL_setBowls 4 (some .int) [(0, 9, 12, 13)], Cond.methodLink RL 26 yX1_setBowls]
def wsL_law0_r7 : List Cond := [Cond.instanceMethod yX1_setBowls, Cond.selects RX1 yX1_setBowls yX1_setBowls, Cond.code yX1_setBowls cX1_setBowls 3 (some .int), Cond.fieldLink RX1 66 "BargeWards$Town" "bowls" "I", Cond.methodLink RL 116 yX3_setBowls, Cond.instanceMethod yX3_setBowls, Cond.selects RX3 yX3_setBowls yX3_setBowls, Cond.code yX3_setBowls cX3_setBowls 3 (some .int), Cond.methodLink RL 117 yL_layStraw, Cond.static yL_layStraw, Cond.codeWith yL_layStraw cL_layStraw 4 (some .int) [(0, 9, 12, 24)], Cond.methodLink RL 29 yX1_layStraw, Cond.instanceMethod yX1_layStraw, Cond.selects RX1 yX1_layStraw yX1_layStraw, Cond.code yX1_layStraw cX1_layStraw 3 (some .int), Cond.fieldLink RX1 72 "BargeWards$Town" "straw" "[I", Cond.methodLink RX1 69 yX1_checkWard, Cond.instanceMethod yX1_checkWard, Cond.selects RX1 yX1_checkWard yX1_checkWard, Cond.code yX1_checkWard cX1_checkWard 2 none, Cond.methodLink RL 119 yX3_layStraw, Cond.instanceMethod yX3_layStraw, Cond.selects RX3 yX3_layStraw yX3_layStraw, Cond.code yX3_layStraw cX3_layStraw 3 (some .int)]
def wsL_law0_r8 : List Cond := [Cond.methodLink RX3 63 yX3_isWard, Cond.instanceMethod yX3_isWard, Cond.selects RX3 yX3_isWard yX3_isWard, Cond.code yX3_isWard cX3_isWard 2 (some .boolean), Cond.methodLink RL 120 yL_carry, Cond.static yL_carry, Cond.codeWith yL_carry cL_carry 5 (some .int) [(0, 10, 13, 24), (0, 10, 17, 15)], Cond.methodLink RL 32 yX1_carry, Cond.instanceMethod yX1_carry, Cond.selects RX1 yX1_carry yX1_carry, Cond.code yX1_carry cX1_carry 4 (some .int), Cond.methodLink RX1 76 yX1_checkPerson, Cond.instanceMethod yX1_checkPerson, Cond.selects RX1 yX1_checkPerson yX1_checkPerson, Cond.code yX1_checkPerson cX1_checkPerson 2 none, Cond.methodLink RX1 79 yX0_numberOf, Cond.instanceMethod yX0_numberOf, Cond.selects RX0 yX0_numberOf yX0_numberOf, Cond.code yX0_numberOf cX0_numberOf 3 (some .int), Cond.methodLink RX1 86 yX0_freeIn, Cond.instanceMethod yX0_freeIn, Cond.selects RX0 yX0_freeIn yX0_freeIn, Cond.code yX0_freeIn cX0_freeIn 2 (some .int), Cond.methodLink RX0 76 yX0_countAt]
def wsL_law0_r9 : List Cond := [Cond.instanceMethod yX0_countAt, Cond.selects RX0 yX0_countAt yX0_countAt, Cond.code yX0_countAt cX0_countAt 5 (some .int), Cond.methodLink RX0 72 yX0_isAt, Cond.instanceMethod yX0_isAt, Cond.selects RX0 yX0_isAt yX0_isAt, Cond.code yX0_isAt cX0_isAt 4 (some .boolean), Cond.methodLink RX1 91 yX0_move, Cond.methodLink RL 122 yX3_carry, Cond.instanceMethod yX3_carry, Cond.selects RX3 yX3_carry yX3_carry, Cond.code yX3_carry cX3_carry 4 (some .int), Cond.methodLink RX3 69 yX3_isPerson, Cond.instanceMethod yX3_isPerson, Cond.selects RX3 yX3_isPerson yX3_isPerson, Cond.code yX3_isPerson cX3_isPerson 2 (some .boolean), Cond.methodLink RX3 72 yX2_at, Cond.instanceMethod yX2_at, Cond.selects RX2 yX2_at yX2_at, Cond.code yX2_at cX2_at 4 (some .int), Cond.fieldLink RX2 52 "BargeWardsModel$Town" "people" "I", Cond.methodLink RL 123 yL_pass, Cond.static yL_pass, Cond.codeWith yL_pass cL_pass 4 (some .int) [(0, 9, 12, 13)]]
def wsL_law0_r10 : List Cond := [Cond.methodLink RL 35 yX1_pass, Cond.instanceMethod yX1_pass, Cond.selects RX1 yX1_pass yX1_pass, Cond.code yX1_pass cX1_pass 3 (some .int), Cond.methodLink RX1 95 yX1_checkDays, Cond.static yX1_checkDays, Cond.code yX1_checkDays cX1_checkDays 1 none, Cond.methodLink RX1 98 yX0_count, Cond.instanceMethod yX0_count, Cond.selects RX0 yX0_count yX0_count, Cond.code yX0_count cX0_count 4 (some .int), Cond.methodLink RX1 101 yX0_liveDays, Cond.instanceMethod yX0_liveDays, Cond.selects RX0 yX0_liveDays yX0_liveDays, Cond.code yX0_liveDays cX0_liveDays 3 none, Cond.fieldLink RX0 47 "BargeWards$Town" "day" "I", Cond.methodLink RX0 85 yX0_giveBowls, Cond.instanceMethod yX0_giveBowls, Cond.selects RX0 yX0_giveBowls yX0_giveBowls, Cond.code yX0_giveBowls cX0_giveBowls 4 none, Cond.fieldLink RX0 50 "BargeWards$Town" "bowlsEaten" "I", Cond.methodLink RX0 88 yX0_changeFeversInWards, Cond.instanceMethod yX0_changeFeversInWards, Cond.selects RX0 yX0_changeFeversInWards yX0_changeFeversInWards]
def wsL_law0_r11 : List Cond := [Cond.code yX0_changeFeversInWards cX0_changeFeversInWards 4 none, Cond.methodLink RX0 80 Lib.Math.max.name, Cond.static Lib.Math.max.name, Cond.initialized "java/lang/Math", Cond.code Lib.Math.max.name Lib.Math.max.code 2 (some .int), Cond.methodLink RX0 103 yX0_raiseFever, Cond.instanceMethod yX0_raiseFever, Cond.selects RX0 yX0_raiseFever yX0_raiseFever, Cond.code yX0_raiseFever cX0_raiseFever 2 none, Cond.methodLink RX0 107 Lib.Math.min.name, Cond.static Lib.Math.min.name, Cond.code Lib.Math.min.name Lib.Math.min.code 2 (some .int), Cond.methodLink RX0 91 yX0_bringBargesNearer, Cond.instanceMethod yX0_bringBargesNearer, Cond.selects RX0 yX0_bringBargesNearer yX0_bringBargesNearer, Cond.code yX0_bringBargesNearer cX0_bringBargesNearer 2 none, Cond.methodLink RX0 110 yX0_spreadFever, Cond.instanceMethod yX0_spreadFever, Cond.selects RX0 yX0_spreadFever yX0_spreadFever, Cond.code yX0_spreadFever cX0_spreadFever 5 none, Cond.methodLink RX0 113 yX0_countFeverish, Cond.instanceMethod yX0_countFeverish, Cond.selects RX0 yX0_countFeverish yX0_countFeverish, Cond.code yX0_countFeverish cX0_countFeverish 4 (some .int)]
def wsL_law0_r12 : List Cond := [Cond.methodLink RX0 94 yX0_ageStraw, Cond.instanceMethod yX0_ageStraw, Cond.selects RX0 yX0_ageStraw yX0_ageStraw, Cond.code yX0_ageStraw cX0_ageStraw 2 none, Cond.methodLink RX0 97 yX0_leaveWards, Cond.instanceMethod yX0_leaveWards, Cond.selects RX0 yX0_leaveWards yX0_leaveWards, Cond.code yX0_leaveWards cX0_leaveWards 2 none, Cond.methodLink RX0 100 yX0_landBarges, Cond.instanceMethod yX0_landBarges, Cond.selects RX0 yX0_landBarges yX0_landBarges, Cond.code yX0_landBarges cX0_landBarges 2 none, Cond.methodLink RX0 117 yX0_freeIn, Cond.methodLink RX0 120 yX0_landAll, Cond.instanceMethod yX0_landAll, Cond.selects RX0 yX0_landAll yX0_landAll, Cond.code yX0_landAll cX0_landAll 5 (some .boolean), Cond.methodLink RX0 124 yX0_takeFirstFreePlace, Cond.instanceMethod yX0_takeFirstFreePlace, Cond.selects RX0 yX0_takeFirstFreePlace yX0_takeFirstFreePlace, Cond.code yX0_takeFirstFreePlace cX0_takeFirstFreePlace 2 (some .int), Cond.methodLink RL 125 yX3_pass, Cond.instanceMethod yX3_pass, Cond.selects RX3 yX3_pass yX3_pass]
def wsL_law0_r13 : List Cond := [Cond.code yX3_pass cX3_pass 3 (some .int), Cond.methodLink RX3 75 yX2_passOn, Cond.instanceMethod yX2_passOn, Cond.selects RX2 yX2_passOn yX2_passOn, Cond.code yX2_passOn cX2_passOn 3 none, Cond.methodLink RX2 92 yX2_pass, Cond.instanceMethod yX2_pass, Cond.selects RX2 yX2_pass yX2_pass, Cond.code yX2_pass cX2_pass 2 none, Cond.fieldLink RX2 49 "BargeWardsModel$Town" "barges" "I", Cond.fieldLink RX2 46 "BargeWardsModel$Town" "wards" "I", Cond.fieldLink RX2 43 "BargeWardsModel$Town" "day" "I", Cond.methodLink RX2 79 yX2_feed, Cond.instanceMethod yX2_feed, Cond.selects RX2 yX2_feed yX2_feed, Cond.code yX2_feed cX2_feed 5 none, Cond.fieldLink RX2 55 "BargeWardsModel$Town" "eaten" "I", Cond.methodLink RX2 62 Lib.Math.min.name, Cond.methodLink RX2 68 Lib.Math.max.name, Cond.methodLink RX2 82 yX2_keep, Cond.instanceMethod yX2_keep, Cond.selects RX2 yX2_keep yX2_keep, Cond.code yX2_keep cX2_keep 5 none, Cond.methodLink RX2 86 yX2_leaveWards]
def wsL_law0_r14 : List Cond := [Cond.instanceMethod yX2_leaveWards, Cond.selects RX2 yX2_leaveWards yX2_leaveWards, Cond.code yX2_leaveWards cX2_leaveWards 2 none, Cond.methodLink RX2 89 yX2_land, Cond.instanceMethod yX2_land, Cond.selects RX2 yX2_land yX2_land, Cond.code yX2_land cX2_land 4 none, Cond.methodLink RX2 75 yX2_firstFree, Cond.instanceMethod yX2_firstFree, Cond.selects RX2 yX2_firstFree yX2_firstFree, Cond.code yX2_firstFree cX2_firstFree 2 (some .int), Cond.methodLink RX2 71 yX2_at, Cond.methodLink RL 126 yL_feverOf, Cond.static yL_feverOf, Cond.codeWith yL_feverOf cL_feverOf 4 (some .int) [(0, 9, 12, 24)], Cond.methodLink RL 38 yX1_feverOf, Cond.instanceMethod yX1_feverOf, Cond.selects RX1 yX1_feverOf yX1_feverOf, Cond.code yX1_feverOf cX1_feverOf 2 (some .int), Cond.fieldLink RX1 104 "BargeWards$Town" "fever" "[I", Cond.methodLink RL 128 yX3_feverOf, Cond.instanceMethod yX3_feverOf, Cond.selects RX3 yX3_feverOf yX3_feverOf, Cond.code yX3_feverOf cX3_feverOf 2 (some .int)]
def wsL_law0_r15 : List Cond := [Cond.methodLink RL 129 yL_wardOf, Cond.static yL_wardOf, Cond.codeWith yL_wardOf cL_wardOf 4 (some .int) [(0, 9, 12, 24)], Cond.methodLink RL 41 yX1_wardOf, Cond.instanceMethod yX1_wardOf, Cond.selects RX1 yX1_wardOf yX1_wardOf, Cond.code yX1_wardOf cX1_wardOf 2 (some .int), Cond.methodLink RL 131 yX3_wardOf, Cond.instanceMethod yX3_wardOf, Cond.selects RX3 yX3_wardOf yX3_wardOf, Cond.code yX3_wardOf cX3_wardOf 2 (some .int), Cond.methodLink RX3 79 yX3_wardTold, Cond.instanceMethod yX3_wardTold, Cond.selects RX3 yX3_wardTold yX3_wardTold, Cond.code yX3_wardTold cX3_wardTold 2 (some .int), Cond.methodLink RL 132 yL_bargeOf, Cond.static yL_bargeOf, Cond.codeWith yL_bargeOf cL_bargeOf 4 (some .int) [(0, 9, 12, 24)], Cond.methodLink RL 44 yX1_bargeOf, Cond.instanceMethod yX1_bargeOf, Cond.selects RX1 yX1_bargeOf yX1_bargeOf, Cond.code yX1_bargeOf cX1_bargeOf 2 (some .int), Cond.methodLink RL 134 yX3_bargeOf, Cond.instanceMethod yX3_bargeOf]
def wsL_law0_r16 : List Cond := [Cond.selects RX3 yX3_bargeOf yX3_bargeOf, Cond.code yX3_bargeOf cX3_bargeOf 2 (some .int), Cond.methodLink RX3 82 yX3_bargeTold, Cond.instanceMethod yX3_bargeTold, Cond.selects RX3 yX3_bargeTold yX3_bargeTold, Cond.code yX3_bargeTold cX3_bargeTold 2 (some .int), Cond.methodLink RL 135 yL_isHome, Cond.static yL_isHome, Cond.codeWith yL_isHome cL_isHome 4 (some .int) [(0, 16, 19, 24)], Cond.methodLink RL 47 yX1_isHome, Cond.instanceMethod yX1_isHome, Cond.selects RX1 yX1_isHome yX1_isHome, Cond.code yX1_isHome cX1_isHome 2 (some .boolean), Cond.fieldLink RX1 107 "BargeWards$Town" "where" "[I", Cond.methodLink RL 137 yX3_isHome, Cond.instanceMethod yX3_isHome, Cond.selects RX3 yX3_isHome yX3_isHome, Cond.code yX3_isHome cX3_isHome 2 (some .boolean), Cond.methodLink RL 138 yL_isInGreatHouse, Cond.static yL_isInGreatHouse, Cond.codeWith yL_isInGreatHouse cL_isInGreatHouse 4 (some .int) [(0, 16, 19, 24)], Cond.methodLink RL 51 yX1_isInGreatHouse, Cond.instanceMethod yX1_isInGreatHouse, Cond.selects RX1 yX1_isInGreatHouse yX1_isInGreatHouse]
def wsL_law0_r17 : List Cond := [Cond.code yX1_isInGreatHouse cX1_isInGreatHouse 2 (some .boolean), Cond.methodLink RL 140 yX3_isInGreatHouse, Cond.instanceMethod yX3_isInGreatHouse, Cond.selects RX3 yX3_isInGreatHouse yX3_isInGreatHouse, Cond.code yX3_isInGreatHouse cX3_isInGreatHouse 2 (some .boolean), Cond.methodLink RL 141 yL_hungryDaysOf, Cond.static yL_hungryDaysOf, Cond.codeWith yL_hungryDaysOf cL_hungryDaysOf 4 (some .int) [(0, 9, 12, 24)], Cond.methodLink RL 54 yX1_hungryDaysOf, Cond.instanceMethod yX1_hungryDaysOf, Cond.selects RX1 yX1_hungryDaysOf yX1_hungryDaysOf, Cond.code yX1_hungryDaysOf cX1_hungryDaysOf 2 (some .int), Cond.fieldLink RX1 110 "BargeWards$Town" "hungryDays" "[I", Cond.methodLink RL 143 yX3_hungryDaysOf, Cond.instanceMethod yX3_hungryDaysOf, Cond.selects RX3 yX3_hungryDaysOf yX3_hungryDaysOf, Cond.code yX3_hungryDaysOf cX3_hungryDaysOf 2 (some .int), Cond.methodLink RL 144 yL_placesOf, Cond.static yL_placesOf, Cond.codeWith yL_placesOf cL_placesOf 4 (some .int) [(0, 9, 12, 24)], Cond.methodLink RL 57 yX1_placesOf, Cond.instanceMethod yX1_placesOf, Cond.selects RX1 yX1_placesOf yX1_placesOf, Cond.code yX1_placesOf cX1_placesOf 2 (some .int)]
def wsL_law0_r18 : List Cond := [Cond.fieldLink RX1 113 "BargeWards$Town" "places" "[I", Cond.methodLink RL 146 yX3_placesOf, Cond.instanceMethod yX3_placesOf, Cond.selects RX3 yX3_placesOf yX3_placesOf, Cond.code yX3_placesOf cX3_placesOf 2 (some .int), Cond.methodLink RL 147 yL_peopleIn, Cond.static yL_peopleIn, Cond.codeWith yL_peopleIn cL_peopleIn 4 (some .int) [(0, 9, 12, 24)], Cond.methodLink RL 60 yX1_peopleIn, Cond.instanceMethod yX1_peopleIn, Cond.selects RX1 yX1_peopleIn yX1_peopleIn, Cond.code yX1_peopleIn cX1_peopleIn 2 (some .int), Cond.methodLink RX1 116 yX0_countAt, Cond.methodLink RL 149 yX3_peopleIn, Cond.instanceMethod yX3_peopleIn, Cond.selects RX3 yX3_peopleIn yX3_peopleIn, Cond.code yX3_peopleIn cX3_peopleIn 2 (some .int), Cond.methodLink RL 150 yL_strawOf, Cond.static yL_strawOf, Cond.codeWith yL_strawOf cL_strawOf 4 (some .int) [(0, 9, 12, 24)], Cond.methodLink RL 63 yX1_strawOf, Cond.instanceMethod yX1_strawOf, Cond.selects RX1 yX1_strawOf yX1_strawOf, Cond.code yX1_strawOf cX1_strawOf 2 (some .int)]
def wsL_law0_r19 : List Cond := [Cond.methodLink RL 152 yX3_strawOf, Cond.instanceMethod yX3_strawOf, Cond.selects RX3 yX3_strawOf yX3_strawOf, Cond.code yX3_strawOf cX3_strawOf 2 (some .int), Cond.methodLink RL 153 yL_feversIn, Cond.static yL_feversIn, Cond.codeWith yL_feversIn cL_feversIn 4 (some .int) [(0, 9, 12, 24)], Cond.methodLink RL 66 yX1_feversIn, Cond.instanceMethod yX1_feversIn, Cond.selects RX1 yX1_feversIn yX1_feversIn, Cond.code yX1_feversIn cX1_feversIn 2 (some .int), Cond.methodLink RX1 119 yX0_feversInWard, Cond.instanceMethod yX0_feversInWard, Cond.selects RX0 yX0_feversInWard yX0_feversInWard, Cond.code yX0_feversInWard cX0_feversInWard 4 (some .int), Cond.methodLink RL 155 yX3_feversIn, Cond.instanceMethod yX3_feversIn, Cond.selects RX3 yX3_feversIn yX3_feversIn, Cond.code yX3_feversIn cX3_feversIn 2 (some .int), Cond.methodLink RX3 88 yX3_feversAt, Cond.instanceMethod yX3_feversAt, Cond.selects RX3 yX3_feversAt yX3_feversAt, Cond.code yX3_feversAt cX3_feversAt 4 (some .int), Cond.methodLink RL 156 yL_daysToGo]
def wsL_law0_r20 : List Cond := [Cond.static yL_daysToGo, Cond.codeWith yL_daysToGo cL_daysToGo 4 (some .int) [(0, 9, 12, 24)], Cond.methodLink RL 69 yX1_daysToGo, Cond.instanceMethod yX1_daysToGo, Cond.selects RX1 yX1_daysToGo yX1_daysToGo, Cond.code yX1_daysToGo cX1_daysToGo 2 (some .int), Cond.fieldLink RX1 122 "BargeWards$Town" "toGo" "[I", Cond.methodLink RL 158 yX3_daysToGo, Cond.instanceMethod yX3_daysToGo, Cond.selects RX3 yX3_daysToGo yX3_daysToGo, Cond.code yX3_daysToGo cX3_daysToGo 2 (some .int), Cond.methodLink RL 159 yL_keptFor, Cond.static yL_keptFor, Cond.codeWith yL_keptFor cL_keptFor 4 (some .int) [(0, 9, 12, 24)], Cond.methodLink RL 72 yX1_keptFor, Cond.instanceMethod yX1_keptFor, Cond.selects RX1 yX1_keptFor yX1_keptFor, Cond.code yX1_keptFor cX1_keptFor 2 (some .int), Cond.fieldLink RX1 125 "BargeWards$Town" "kept" "[I", Cond.methodLink RL 161 yX3_keptFor, Cond.instanceMethod yX3_keptFor, Cond.selects RX3 yX3_keptFor yX3_keptFor, Cond.code yX3_keptFor cX3_keptFor 2 (some .int), Cond.methodLink RL 162 yL_peopleOn]
def wsL_law0_r21 : List Cond := [Cond.static yL_peopleOn, Cond.codeWith yL_peopleOn cL_peopleOn 4 (some .int) [(0, 9, 12, 24)], Cond.methodLink RL 75 yX1_peopleOn, Cond.instanceMethod yX1_peopleOn, Cond.selects RX1 yX1_peopleOn yX1_peopleOn, Cond.code yX1_peopleOn cX1_peopleOn 2 (some .int), Cond.methodLink RL 164 yX3_peopleOn, Cond.instanceMethod yX3_peopleOn, Cond.selects RX3 yX3_peopleOn yX3_peopleOn, Cond.code yX3_peopleOn cX3_peopleOn 2 (some .int), Cond.methodLink RL 165 yL_highestFeverOn, Cond.static yL_highestFeverOn, Cond.codeWith yL_highestFeverOn cL_highestFeverOn 4 (some .int) [(0, 9, 12, 24)], Cond.methodLink RL 78 yX1_highestFeverOn, Cond.instanceMethod yX1_highestFeverOn, Cond.selects RX1 yX1_highestFeverOn yX1_highestFeverOn, Cond.code yX1_highestFeverOn cX1_highestFeverOn 2 (some .int), Cond.methodLink RX1 128 yX0_highestFeverAboard, Cond.instanceMethod yX0_highestFeverAboard, Cond.selects RX0 yX0_highestFeverAboard yX0_highestFeverAboard, Cond.code yX0_highestFeverAboard cX0_highestFeverAboard 4 (some .int), Cond.methodLink RL 167 yX3_highestFeverOn, Cond.instanceMethod yX3_highestFeverOn, Cond.selects RX3 yX3_highestFeverOn yX3_highestFeverOn]
def wsL_law0_r22 : List Cond := [Cond.code yX3_highestFeverOn cX3_highestFeverOn 4 (some .int), Cond.methodLink RX3 91 Lib.Math.max.name, Cond.methodLink RL 168 yX1_day, Cond.instanceMethod yX1_day, Cond.selects RX1 yX1_day yX1_day, Cond.code yX1_day cX1_day 1 (some .int), Cond.fieldLink RX1 131 "BargeWards$Town" "day" "I", Cond.methodLink RL 171 yX3_day, Cond.instanceMethod yX3_day, Cond.selects RX3 yX3_day yX3_day, Cond.code yX3_day cX3_day 1 (some .int), Cond.methodLink RL 172 yX1_wards, Cond.instanceMethod yX1_wards, Cond.selects RX1 yX1_wards yX1_wards, Cond.code yX1_wards cX1_wards 1 (some .int), Cond.methodLink RL 175 yX3_wards, Cond.instanceMethod yX3_wards, Cond.selects RX3 yX3_wards yX3_wards, Cond.code yX3_wards cX3_wards 1 (some .int), Cond.methodLink RL 176 yX1_barges, Cond.instanceMethod yX1_barges, Cond.selects RX1 yX1_barges yX1_barges, Cond.code yX1_barges cX1_barges 1 (some .int), Cond.methodLink RL 179 yX3_barges]
def wsL_law0_r23 : List Cond := [Cond.instanceMethod yX3_barges, Cond.selects RX3 yX3_barges yX3_barges, Cond.code yX3_barges cX3_barges 1 (some .int), Cond.methodLink RL 180 yX1_people, Cond.instanceMethod yX1_people, Cond.selects RX1 yX1_people yX1_people, Cond.code yX1_people cX1_people 1 (some .int), Cond.methodLink RL 183 yX3_people, Cond.instanceMethod yX3_people, Cond.selects RX3 yX3_people yX3_people, Cond.code yX3_people cX3_people 1 (some .int), Cond.methodLink RL 184 yX1_bowls, Cond.instanceMethod yX1_bowls, Cond.selects RX1 yX1_bowls yX1_bowls, Cond.code yX1_bowls cX1_bowls 1 (some .int), Cond.methodLink RL 187 yX3_bowls, Cond.instanceMethod yX3_bowls, Cond.selects RX3 yX3_bowls yX3_bowls, Cond.code yX3_bowls cX3_bowls 1 (some .int), Cond.methodLink RL 188 yX1_freePlaces, Cond.instanceMethod yX1_freePlaces, Cond.selects RX1 yX1_freePlaces yX1_freePlaces, Cond.code yX1_freePlaces cX1_freePlaces 3 (some .int), Cond.methodLink RL 191 yX3_freePlaces]
def wsL_law0_r24 : List Cond := [Cond.instanceMethod yX3_freePlaces, Cond.selects RX3 yX3_freePlaces yX3_freePlaces, Cond.code yX3_freePlaces cX3_freePlaces 3 (some .int), Cond.methodLink RX3 100 yX2_inWards, Cond.instanceMethod yX2_inWards, Cond.selects RX2 yX2_inWards yX2_inWards, Cond.code yX2_inWards cX2_inWards 3 (some .int), Cond.methodLink RL 192 yX1_bowlsShort, Cond.instanceMethod yX1_bowlsShort, Cond.selects RX1 yX1_bowlsShort yX1_bowlsShort, Cond.code yX1_bowlsShort cX1_bowlsShort 1 (some .int), Cond.methodLink RX1 134 Lib.Math.max.name, Cond.methodLink RL 195 yX3_bowlsShort, Cond.instanceMethod yX3_bowlsShort, Cond.selects RX3 yX3_bowlsShort yX3_bowlsShort, Cond.code yX3_bowlsShort cX3_bowlsShort 1 (some .int), Cond.methodLink RL 196 yX1_peopleHome, Cond.instanceMethod yX1_peopleHome, Cond.selects RX1 yX1_peopleHome yX1_peopleHome, Cond.code yX1_peopleHome cX1_peopleHome 1 (some .int), Cond.methodLink RL 199 yX3_peopleHome, Cond.instanceMethod yX3_peopleHome, Cond.selects RX3 yX3_peopleHome yX3_peopleHome, Cond.code yX3_peopleHome cX3_peopleHome 1 (some .int)]
def wsL_law0_r25 : List Cond := [Cond.methodLink RL 200 yX1_peopleInGreatHouse, Cond.instanceMethod yX1_peopleInGreatHouse, Cond.selects RX1 yX1_peopleInGreatHouse yX1_peopleInGreatHouse, Cond.code yX1_peopleInGreatHouse cX1_peopleInGreatHouse 1 (some .int), Cond.methodLink RL 203 yX3_peopleInGreatHouse, Cond.instanceMethod yX3_peopleInGreatHouse, Cond.selects RX3 yX3_peopleInGreatHouse yX3_peopleInGreatHouse, Cond.code yX3_peopleInGreatHouse cX3_peopleInGreatHouse 1 (some .int), Cond.methodLink RL 204 yX1_bowlsEaten, Cond.instanceMethod yX1_bowlsEaten, Cond.selects RX1 yX1_bowlsEaten yX1_bowlsEaten, Cond.code yX1_bowlsEaten cX1_bowlsEaten 1 (some .int), Cond.fieldLink RX1 139 "BargeWards$Town" "bowlsEaten" "I", Cond.methodLink RL 207 yX3_bowlsEaten, Cond.instanceMethod yX3_bowlsEaten, Cond.selects RX3 yX3_bowlsEaten yX3_bowlsEaten, Cond.code yX3_bowlsEaten cX3_bowlsEaten 1 (some .int), Cond.methodLink RL 208 yL_daysUntilHome, Cond.static yL_daysUntilHome, Cond.codeWith yL_daysUntilHome cL_daysUntilHome 4 (some .int) [(0, 9, 12, 24)], Cond.methodLink RL 81 yX1_daysUntilHome, Cond.instanceMethod yX1_daysUntilHome, Cond.selects RX1 yX1_daysUntilHome yX1_daysUntilHome, Cond.code yX1_daysUntilHome cX1_daysUntilHome 3 (some .int)]
def wsL_law0_r26 : List Cond := [Cond.methodLink RX1 142 yX0_copyFrom, Cond.instanceMethod yX0_copyFrom, Cond.selects RX0 yX0_copyFrom yX0_copyFrom, Cond.code yX0_copyFrom cX0_copyFrom 2 none, Cond.methodLink RX0 62 arraycopyName, Cond.native arraycopyName, Cond.static arraycopyName, Cond.initialized "java/lang/System", Cond.methodLink RL 210 yX3_daysUntilHome, Cond.instanceMethod yX3_daysUntilHome, Cond.selects RX3 yX3_daysUntilHome yX3_daysUntilHome, Cond.code yX3_daysUntilHome cX3_daysUntilHome 3 (some .int), Cond.methodLink RX3 107 yX2_become, Cond.instanceMethod yX2_become, Cond.selects RX2 yX2_become yX2_become, Cond.code yX2_become cX2_become 2 none, Cond.methodLink RX2 58 yX2_copy, Cond.static yX2_copy, Cond.code yX2_copy cX2_copy 2 none, Cond.methodLink RX2 37 arraycopyName, Cond.methodLink RX3 111 yX2_pass, Cond.methodLink RL 211 yL_homeAfter, Cond.static yL_homeAfter, Cond.codeWith yL_homeAfter cL_homeAfter 4 (some .int) [(0, 9, 12, 13)]]
def wsL_law0_r27 : List Cond := [Cond.methodLink RL 84 yX1_homeAfter, Cond.instanceMethod yX1_homeAfter, Cond.selects RX1 yX1_homeAfter yX1_homeAfter, Cond.code yX1_homeAfter cX1_homeAfter 2 (some .int), Cond.methodLink RX1 146 yX1_countBehind, Cond.instanceMethod yX1_countBehind, Cond.selects RX1 yX1_countBehind yX1_countBehind, Cond.code yX1_countBehind cX1_countBehind 3 (some .int), Cond.methodLink RL 213 yX3_homeAfter, Cond.instanceMethod yX3_homeAfter, Cond.selects RX3 yX3_homeAfter yX3_homeAfter, Cond.code yX3_homeAfter cX3_homeAfter 2 (some .int), Cond.methodLink RX3 114 yX3_after, Cond.instanceMethod yX3_after, Cond.selects RX3 yX3_after yX3_after, Cond.code yX3_after cX3_after 3 (some .int), Cond.methodLink RL 214 yL_greatHouseAfter, Cond.static yL_greatHouseAfter, Cond.codeWith yL_greatHouseAfter cL_greatHouseAfter 4 (some .int) [(0, 9, 12, 13)], Cond.methodLink RL 87 yX1_greatHouseAfter, Cond.instanceMethod yX1_greatHouseAfter, Cond.selects RX1 yX1_greatHouseAfter yX1_greatHouseAfter, Cond.code yX1_greatHouseAfter cX1_greatHouseAfter 2 (some .int), Cond.methodLink RL 216 yX3_greatHouseAfter]
def wsL_law0_r28 : List Cond := [Cond.instanceMethod yX3_greatHouseAfter, Cond.selects RX3 yX3_greatHouseAfter yX3_greatHouseAfter, Cond.code yX3_greatHouseAfter cX3_greatHouseAfter 2 (some .int), Cond.methodLink RL 217 yL_bestStraw, Cond.static yL_bestStraw, Cond.codeWith yL_bestStraw cL_bestStraw 4 (some .int) [(0, 9, 12, 13)], Cond.methodLink RL 90 yX1_bestStraw, Cond.instanceMethod yX1_bestStraw, Cond.selects RX1 yX1_bestStraw yX1_bestStraw, Cond.code yX1_bestStraw cX1_bestStraw 6 (some .int), Cond.methodLink RX1 149 yX1_homeWithFreshStraw, Cond.instanceMethod yX1_homeWithFreshStraw, Cond.selects RX1 yX1_homeWithFreshStraw yX1_homeWithFreshStraw, Cond.code yX1_homeWithFreshStraw cX1_homeWithFreshStraw 3 (some .int), Cond.methodLink RL 219 yX3_bestStraw, Cond.instanceMethod yX3_bestStraw, Cond.selects RX3 yX3_bestStraw yX3_bestStraw, Cond.code yX3_bestStraw cX3_bestStraw 5 (some .int), Cond.methodLink RL 220 yX1_bowlsNeeded, Cond.instanceMethod yX1_bowlsNeeded, Cond.selects RX1 yX1_bowlsNeeded yX1_bowlsNeeded, Cond.code yX1_bowlsNeeded cX1_bowlsNeeded 1 (some .int), Cond.methodLink RL 223 yX3_bowlsNeeded, Cond.instanceMethod yX3_bowlsNeeded]
def wsL_law0_r29 : List Cond := [Cond.selects RX3 yX3_bowlsNeeded yX3_bowlsNeeded, Cond.code yX3_bowlsNeeded cX3_bowlsNeeded 1 (some .int), Cond.methodLink RL 224 yX1_meanFever, Cond.instanceMethod yX1_meanFever, Cond.selects RX1 yX1_meanFever yX1_meanFever, Cond.code yX1_meanFever cX1_meanFever 4 (some .double), Cond.methodLink RL 228 yX3_meanFever, Cond.instanceMethod yX3_meanFever, Cond.selects RX3 yX3_meanFever yX3_meanFever, Cond.code yX3_meanFever cX3_meanFever 3 (some .double), Cond.methodLink RL 229 yX1_digest, Cond.instanceMethod yX1_digest, Cond.selects RX1 yX1_digest yX1_digest, Cond.code yX1_digest cX1_digest 3 (some .long), Cond.constantLong RX1 152 (1877), Cond.methodLink RX1 154 yX1_digestWith, Cond.static yX1_digestWith, Cond.code yX1_digestWith cX1_digestWith 3 (some .long), Cond.constantLong RX1 168 (31), Cond.methodLink RX1 158 yX1_digestWithWards, Cond.instanceMethod yX1_digestWithWards, Cond.selects RX1 yX1_digestWithWards yX1_digestWithWards, Cond.code yX1_digestWithWards cX1_digestWithWards 6 (some .long), Cond.methodLink RX1 162 yX1_digestWithBarges]
def wsL_law0_r30 : List Cond := [Cond.instanceMethod yX1_digestWithBarges, Cond.selects RX1 yX1_digestWithBarges yX1_digestWithBarges, Cond.code yX1_digestWithBarges cX1_digestWithBarges 6 (some .long), Cond.methodLink RX1 165 yX1_digestWithPeople, Cond.instanceMethod yX1_digestWithPeople, Cond.selects RX1 yX1_digestWithPeople yX1_digestWithPeople, Cond.code yX1_digestWithPeople cX1_digestWithPeople 6 (some .long), Cond.methodLink RL 233 yX3_digest, Cond.instanceMethod yX3_digest, Cond.selects RX3 yX3_digest yX3_digest, Cond.code yX3_digest cX3_digest 8 (some .long), Cond.constantLong RX3 117 (1877), Cond.constantLong RX3 119 (31)]
def wsL_law0 : List Cond := (wsL_law0_r1 ++ (wsL_law0_r2 ++ (wsL_law0_r3 ++ (wsL_law0_r4 ++ (wsL_law0_r5 ++ (wsL_law0_r6 ++ (wsL_law0_r7 ++ (wsL_law0_r8 ++ (wsL_law0_r9 ++ (wsL_law0_r10 ++ (wsL_law0_r11 ++ (wsL_law0_r12 ++ (wsL_law0_r13 ++ (wsL_law0_r14 ++ (wsL_law0_r15 ++ (wsL_law0_r16 ++ (wsL_law0_r17 ++ (wsL_law0_r18 ++ (wsL_law0_r19 ++ (wsL_law0_r20 ++ (wsL_law0_r21 ++ (wsL_law0_r22 ++ (wsL_law0_r23 ++ (wsL_law0_r24 ++ (wsL_law0_r25 ++ (wsL_law0_r26 ++ (wsL_law0_r27 ++ (wsL_law0_r28 ++ (wsL_law0_r29 ++ wsL_law0_r30))))))))))))))))))))))))))))) ++ wsX10 ++ wsX30 ++ wsX00 ++ wsX20 ++ ([] : List Cond)
def wsL_law : List Cond := wsL_law0 ++ (vx_atS RX1 23 "java/lang/IllegalArgumentException" ["java/lang/RuntimeException", "java/lang/Exception"]).filter goodWord ++ (vx_atS RX1 34 "java/lang/IllegalStateException" ["java/lang/RuntimeException", "java/lang/Exception"]).filter goodWord ++ (vx_atS RX1 174 "java/lang/IndexOutOfBoundsException" ["java/lang/RuntimeException", "java/lang/Exception"]).filter goodWord
abbrev vwCl : List vw_C := [(RX0, TX0, 16), (RX1, TX1, 2), (RX2, TX2, 13), (RX3, TX3, 3)]
end
section
theorem dX0_init_0 : decode cX0_init 0 = .ok (.aload_n 0, 1) := by decide +kernel
theorem dX0_init_1 : decode cX0_init 1 = .ok (.invokespecial 3, 3) := by decide +kernel
theorem dX0_init_4 : decode cX0_init 4 = .ok (.aload_n 0, 1) := by decide +kernel
theorem dX0_init_5 : decode cX0_init 5 = .ok (.bipush 20, 2) := by decide +kernel
theorem dX0_init_7 : decode cX0_init 7 = .ok (.putfield 9, 3) := by decide +kernel
theorem dX0_init_10 : decode cX0_init 10 = .ok (.aload_n 0, 1) := by decide +kernel
theorem dX0_init_11 : decode cX0_init 11 = .ok (.iconst 5, 1) := by decide +kernel
theorem dX0_init_12 : decode cX0_init 12 = .ok (.newarray .int, 2) := by decide +kernel
theorem dX0_init_14 : decode cX0_init 14 = .ok (.putfield 15, 3) := by decide +kernel
theorem dX0_init_17 : decode cX0_init 17 = .ok (.aload_n 0, 1) := by decide +kernel
theorem dX0_init_18 : decode cX0_init 18 = .ok (.iconst 5, 1) := by decide +kernel
theorem dX0_init_19 : decode cX0_init 19 = .ok (.newarray .int, 2) := by decide +kernel
theorem dX0_init_21 : decode cX0_init 21 = .ok (.putfield 19, 3) := by decide +kernel
theorem dX0_init_24 : decode cX0_init 24 = .ok (.aload_n 0, 1) := by decide +kernel
theorem dX0_init_25 : decode cX0_init 25 = .ok (.iconst 4, 1) := by decide +kernel
theorem dX0_init_26 : decode cX0_init 26 = .ok (.newarray .int, 2) := by decide +kernel
theorem dX0_init_28 : decode cX0_init 28 = .ok (.putfield 22, 3) := by decide +kernel
theorem dX0_init_31 : decode cX0_init 31 = .ok (.aload_n 0, 1) := by decide +kernel
theorem dX0_init_32 : decode cX0_init 32 = .ok (.iconst 4, 1) := by decide +kernel
theorem dX0_init_33 : decode cX0_init 33 = .ok (.newarray .int, 2) := by decide +kernel
theorem dX0_init_35 : decode cX0_init 35 = .ok (.putfield 25, 3) := by decide +kernel
theorem dX0_init_38 : decode cX0_init 38 = .ok (.aload_n 0, 1) := by decide +kernel
theorem dX0_init_39 : decode cX0_init 39 = .ok (.bipush 30, 2) := by decide +kernel
theorem dX0_init_41 : decode cX0_init 41 = .ok (.newarray .int, 2) := by decide +kernel
theorem dX0_init_43 : decode cX0_init 43 = .ok (.putfield 28, 3) := by decide +kernel
theorem dX0_init_46 : decode cX0_init 46 = .ok (.aload_n 0, 1) := by decide +kernel
theorem dX0_init_47 : decode cX0_init 47 = .ok (.bipush 30, 2) := by decide +kernel
theorem dX0_init_49 : decode cX0_init 49 = .ok (.newarray .int, 2) := by decide +kernel
theorem dX0_init_51 : decode cX0_init 51 = .ok (.putfield 31, 3) := by decide +kernel
theorem dX0_init_54 : decode cX0_init 54 = .ok (.aload_n 0, 1) := by decide +kernel
theorem dX0_init_55 : decode cX0_init 55 = .ok (.bipush 30, 2) := by decide +kernel
theorem dX0_init_57 : decode cX0_init 57 = .ok (.newarray .int, 2) := by decide +kernel
theorem dX0_init_59 : decode cX0_init 59 = .ok (.putfield 34, 3) := by decide +kernel
theorem dX0_init_62 : decode cX0_init 62 = .ok (.aload_n 0, 1) := by decide +kernel
theorem dX0_init_63 : decode cX0_init 63 = .ok (.bipush 30, 2) := by decide +kernel
theorem dX0_init_65 : decode cX0_init 65 = .ok (.newarray .int, 2) := by decide +kernel
theorem dX0_init_67 : decode cX0_init 67 = .ok (.putfield 37, 3) := by decide +kernel
theorem dX0_init_70 : decode cX0_init 70 = .ok (.aload_n 0, 1) := by decide +kernel
theorem dX0_init_71 : decode cX0_init 71 = .ok (.bipush 30, 2) := by decide +kernel
theorem dX0_init_73 : decode cX0_init 73 = .ok (.newarray .boolean, 2) := by decide +kernel
theorem dX0_init_75 : decode cX0_init 75 = .ok (.putfield 40, 3) := by decide +kernel
theorem dX0_init_78 : decode cX0_init 78 = .ok (.aload_n 0, 1) := by decide +kernel
theorem dX0_init_79 : decode cX0_init 79 = .ok (.iconst 5, 1) := by decide +kernel
theorem dX0_init_80 : decode cX0_init 80 = .ok (.newarray .int, 2) := by decide +kernel
theorem dX0_init_82 : decode cX0_init 82 = .ok (.putfield 44, 3) := by decide +kernel
theorem dX0_init_85 : decode cX0_init 85 = .ok (.return_, 1) := by decide +kernel
theorem dX0_copyFrom_0 : decode cX0_copyFrom 0 = .ok (.aload_n 0, 1) := by decide +kernel
theorem dX0_copyFrom_1 : decode cX0_copyFrom 1 = .ok (.aload_n 1, 1) := by decide +kernel
theorem dX0_copyFrom_2 : decode cX0_copyFrom 2 = .ok (.getfield 47, 3) := by decide +kernel
theorem dX0_copyFrom_5 : decode cX0_copyFrom 5 = .ok (.putfield 47, 3) := by decide +kernel
theorem dX0_copyFrom_8 : decode cX0_copyFrom 8 = .ok (.aload_n 0, 1) := by decide +kernel
theorem dX0_copyFrom_9 : decode cX0_copyFrom 9 = .ok (.aload_n 1, 1) := by decide +kernel
theorem dX0_copyFrom_10 : decode cX0_copyFrom 10 = .ok (.getfield 9, 3) := by decide +kernel
theorem dX0_copyFrom_13 : decode cX0_copyFrom 13 = .ok (.putfield 9, 3) := by decide +kernel
theorem dX0_copyFrom_16 : decode cX0_copyFrom 16 = .ok (.aload_n 0, 1) := by decide +kernel
theorem dX0_copyFrom_17 : decode cX0_copyFrom 17 = .ok (.aload_n 1, 1) := by decide +kernel
theorem dX0_copyFrom_18 : decode cX0_copyFrom 18 = .ok (.getfield 50, 3) := by decide +kernel
theorem dX0_copyFrom_21 : decode cX0_copyFrom 21 = .ok (.putfield 50, 3) := by decide +kernel
theorem dX0_copyFrom_24 : decode cX0_copyFrom 24 = .ok (.aload_n 0, 1) := by decide +kernel
theorem dX0_copyFrom_25 : decode cX0_copyFrom 25 = .ok (.aload_n 1, 1) := by decide +kernel
theorem dX0_copyFrom_26 : decode cX0_copyFrom 26 = .ok (.getfield 53, 3) := by decide +kernel
theorem dX0_copyFrom_29 : decode cX0_copyFrom 29 = .ok (.putfield 53, 3) := by decide +kernel
theorem dX0_copyFrom_32 : decode cX0_copyFrom 32 = .ok (.aload_n 0, 1) := by decide +kernel
theorem dX0_copyFrom_33 : decode cX0_copyFrom 33 = .ok (.aload_n 1, 1) := by decide +kernel
theorem dX0_copyFrom_34 : decode cX0_copyFrom 34 = .ok (.getfield 56, 3) := by decide +kernel
theorem dX0_copyFrom_37 : decode cX0_copyFrom 37 = .ok (.putfield 56, 3) := by decide +kernel
theorem dX0_copyFrom_40 : decode cX0_copyFrom 40 = .ok (.aload_n 0, 1) := by decide +kernel
theorem dX0_copyFrom_41 : decode cX0_copyFrom 41 = .ok (.aload_n 1, 1) := by decide +kernel
theorem dX0_copyFrom_42 : decode cX0_copyFrom 42 = .ok (.getfield 59, 3) := by decide +kernel
theorem dX0_copyFrom_45 : decode cX0_copyFrom 45 = .ok (.putfield 59, 3) := by decide +kernel
theorem dX0_copyFrom_48 : decode cX0_copyFrom 48 = .ok (.aload_n 1, 1) := by decide +kernel
theorem dX0_copyFrom_49 : decode cX0_copyFrom 49 = .ok (.getfield 15, 3) := by decide +kernel
theorem dX0_copyFrom_52 : decode cX0_copyFrom 52 = .ok (.iconst 0, 1) := by decide +kernel
theorem dX0_copyFrom_53 : decode cX0_copyFrom 53 = .ok (.aload_n 0, 1) := by decide +kernel
theorem dX0_copyFrom_54 : decode cX0_copyFrom 54 = .ok (.getfield 15, 3) := by decide +kernel
theorem dX0_copyFrom_57 : decode cX0_copyFrom 57 = .ok (.iconst 0, 1) := by decide +kernel
theorem dX0_copyFrom_58 : decode cX0_copyFrom 58 = .ok (.iconst 5, 1) := by decide +kernel
theorem dX0_copyFrom_59 : decode cX0_copyFrom 59 = .ok (.invokestatic 62, 3) := by decide +kernel
theorem dX0_copyFrom_62 : decode cX0_copyFrom 62 = .ok (.aload_n 1, 1) := by decide +kernel
theorem dX0_copyFrom_63 : decode cX0_copyFrom 63 = .ok (.getfield 19, 3) := by decide +kernel
theorem dX0_copyFrom_66 : decode cX0_copyFrom 66 = .ok (.iconst 0, 1) := by decide +kernel
theorem dX0_copyFrom_67 : decode cX0_copyFrom 67 = .ok (.aload_n 0, 1) := by decide +kernel
theorem dX0_copyFrom_68 : decode cX0_copyFrom 68 = .ok (.getfield 19, 3) := by decide +kernel
theorem dX0_copyFrom_71 : decode cX0_copyFrom 71 = .ok (.iconst 0, 1) := by decide +kernel
theorem dX0_copyFrom_72 : decode cX0_copyFrom 72 = .ok (.iconst 5, 1) := by decide +kernel
theorem dX0_copyFrom_73 : decode cX0_copyFrom 73 = .ok (.invokestatic 62, 3) := by decide +kernel
theorem dX0_copyFrom_76 : decode cX0_copyFrom 76 = .ok (.aload_n 1, 1) := by decide +kernel
theorem dX0_copyFrom_77 : decode cX0_copyFrom 77 = .ok (.getfield 22, 3) := by decide +kernel
theorem dX0_copyFrom_80 : decode cX0_copyFrom 80 = .ok (.iconst 0, 1) := by decide +kernel
theorem dX0_copyFrom_81 : decode cX0_copyFrom 81 = .ok (.aload_n 0, 1) := by decide +kernel
theorem dX0_copyFrom_82 : decode cX0_copyFrom 82 = .ok (.getfield 22, 3) := by decide +kernel
theorem dX0_copyFrom_85 : decode cX0_copyFrom 85 = .ok (.iconst 0, 1) := by decide +kernel
theorem dX0_copyFrom_86 : decode cX0_copyFrom 86 = .ok (.iconst 4, 1) := by decide +kernel
theorem dX0_copyFrom_87 : decode cX0_copyFrom 87 = .ok (.invokestatic 62, 3) := by decide +kernel
theorem dX0_copyFrom_90 : decode cX0_copyFrom 90 = .ok (.aload_n 1, 1) := by decide +kernel
theorem dX0_copyFrom_91 : decode cX0_copyFrom 91 = .ok (.getfield 25, 3) := by decide +kernel
theorem dX0_copyFrom_94 : decode cX0_copyFrom 94 = .ok (.iconst 0, 1) := by decide +kernel
theorem dX0_copyFrom_95 : decode cX0_copyFrom 95 = .ok (.aload_n 0, 1) := by decide +kernel
theorem dX0_copyFrom_96 : decode cX0_copyFrom 96 = .ok (.getfield 25, 3) := by decide +kernel
theorem dX0_copyFrom_99 : decode cX0_copyFrom 99 = .ok (.iconst 0, 1) := by decide +kernel
theorem dX0_copyFrom_100 : decode cX0_copyFrom 100 = .ok (.iconst 4, 1) := by decide +kernel
theorem dX0_copyFrom_101 : decode cX0_copyFrom 101 = .ok (.invokestatic 62, 3) := by decide +kernel
theorem dX0_copyFrom_104 : decode cX0_copyFrom 104 = .ok (.aload_n 1, 1) := by decide +kernel
theorem dX0_copyFrom_105 : decode cX0_copyFrom 105 = .ok (.getfield 28, 3) := by decide +kernel
theorem dX0_copyFrom_108 : decode cX0_copyFrom 108 = .ok (.iconst 0, 1) := by decide +kernel
theorem dX0_copyFrom_109 : decode cX0_copyFrom 109 = .ok (.aload_n 0, 1) := by decide +kernel
theorem dX0_copyFrom_110 : decode cX0_copyFrom 110 = .ok (.getfield 28, 3) := by decide +kernel
theorem dX0_copyFrom_113 : decode cX0_copyFrom 113 = .ok (.iconst 0, 1) := by decide +kernel
theorem dX0_copyFrom_114 : decode cX0_copyFrom 114 = .ok (.bipush 30, 2) := by decide +kernel
theorem dX0_copyFrom_116 : decode cX0_copyFrom 116 = .ok (.invokestatic 62, 3) := by decide +kernel
theorem dX0_copyFrom_119 : decode cX0_copyFrom 119 = .ok (.aload_n 1, 1) := by decide +kernel
theorem dX0_copyFrom_120 : decode cX0_copyFrom 120 = .ok (.getfield 31, 3) := by decide +kernel
theorem dX0_copyFrom_123 : decode cX0_copyFrom 123 = .ok (.iconst 0, 1) := by decide +kernel
theorem dX0_copyFrom_124 : decode cX0_copyFrom 124 = .ok (.aload_n 0, 1) := by decide +kernel
theorem dX0_copyFrom_125 : decode cX0_copyFrom 125 = .ok (.getfield 31, 3) := by decide +kernel
theorem dX0_copyFrom_128 : decode cX0_copyFrom 128 = .ok (.iconst 0, 1) := by decide +kernel
theorem dX0_copyFrom_129 : decode cX0_copyFrom 129 = .ok (.bipush 30, 2) := by decide +kernel
theorem dX0_copyFrom_131 : decode cX0_copyFrom 131 = .ok (.invokestatic 62, 3) := by decide +kernel
theorem dX0_copyFrom_134 : decode cX0_copyFrom 134 = .ok (.aload_n 1, 1) := by decide +kernel
theorem dX0_copyFrom_135 : decode cX0_copyFrom 135 = .ok (.getfield 34, 3) := by decide +kernel
theorem dX0_copyFrom_138 : decode cX0_copyFrom 138 = .ok (.iconst 0, 1) := by decide +kernel
theorem dX0_copyFrom_139 : decode cX0_copyFrom 139 = .ok (.aload_n 0, 1) := by decide +kernel
theorem dX0_copyFrom_140 : decode cX0_copyFrom 140 = .ok (.getfield 34, 3) := by decide +kernel
theorem dX0_copyFrom_143 : decode cX0_copyFrom 143 = .ok (.iconst 0, 1) := by decide +kernel
theorem dX0_copyFrom_144 : decode cX0_copyFrom 144 = .ok (.bipush 30, 2) := by decide +kernel
theorem dX0_copyFrom_146 : decode cX0_copyFrom 146 = .ok (.invokestatic 62, 3) := by decide +kernel
theorem dX0_copyFrom_149 : decode cX0_copyFrom 149 = .ok (.aload_n 1, 1) := by decide +kernel
theorem dX0_copyFrom_150 : decode cX0_copyFrom 150 = .ok (.getfield 37, 3) := by decide +kernel
theorem dX0_copyFrom_153 : decode cX0_copyFrom 153 = .ok (.iconst 0, 1) := by decide +kernel
theorem dX0_copyFrom_154 : decode cX0_copyFrom 154 = .ok (.aload_n 0, 1) := by decide +kernel
theorem dX0_copyFrom_155 : decode cX0_copyFrom 155 = .ok (.getfield 37, 3) := by decide +kernel
theorem dX0_copyFrom_158 : decode cX0_copyFrom 158 = .ok (.iconst 0, 1) := by decide +kernel
theorem dX0_copyFrom_159 : decode cX0_copyFrom 159 = .ok (.bipush 30, 2) := by decide +kernel
theorem dX0_copyFrom_161 : decode cX0_copyFrom 161 = .ok (.invokestatic 62, 3) := by decide +kernel
theorem dX0_copyFrom_164 : decode cX0_copyFrom 164 = .ok (.return_, 1) := by decide +kernel
theorem dX0_openWard_0 : decode cX0_openWard 0 = .ok (.aload_n 0, 1) := by decide +kernel
theorem dX0_openWard_1 : decode cX0_openWard 1 = .ok (.getfield 53, 3) := by decide +kernel
theorem dX0_openWard_4 : decode cX0_openWard 4 = .ok (.istore_n 2, 1) := by decide +kernel
theorem dX0_openWard_5 : decode cX0_openWard 5 = .ok (.aload_n 0, 1) := by decide +kernel
theorem dX0_openWard_6 : decode cX0_openWard 6 = .ok (.getfield 15, 3) := by decide +kernel
theorem dX0_openWard_9 : decode cX0_openWard 9 = .ok (.iload_n 2, 1) := by decide +kernel
theorem dX0_openWard_10 : decode cX0_openWard 10 = .ok (.iload_n 1, 1) := by decide +kernel
theorem dX0_openWard_11 : decode cX0_openWard 11 = .ok (.iastore, 1) := by decide +kernel
theorem dX0_openWard_12 : decode cX0_openWard 12 = .ok (.aload_n 0, 1) := by decide +kernel
theorem dX0_openWard_13 : decode cX0_openWard 13 = .ok (.dup, 1) := by decide +kernel
theorem dX0_openWard_14 : decode cX0_openWard 14 = .ok (.getfield 53, 3) := by decide +kernel
theorem dX0_openWard_17 : decode cX0_openWard 17 = .ok (.iconst 1, 1) := by decide +kernel
theorem dX0_openWard_18 : decode cX0_openWard 18 = .ok (.iadd, 1) := by decide +kernel
theorem dX0_openWard_19 : decode cX0_openWard 19 = .ok (.putfield 53, 3) := by decide +kernel
theorem dX0_openWard_22 : decode cX0_openWard 22 = .ok (.iload_n 2, 1) := by decide +kernel
theorem dX0_openWard_23 : decode cX0_openWard 23 = .ok (.ireturn, 1) := by decide +kernel
theorem dX0_openBarge_0 : decode cX0_openBarge 0 = .ok (.aload_n 0, 1) := by decide +kernel
theorem dX0_openBarge_1 : decode cX0_openBarge 1 = .ok (.getfield 56, 3) := by decide +kernel
theorem dX0_openBarge_4 : decode cX0_openBarge 4 = .ok (.istore_n 2, 1) := by decide +kernel
theorem dX0_openBarge_5 : decode cX0_openBarge 5 = .ok (.aload_n 0, 1) := by decide +kernel
theorem dX0_openBarge_6 : decode cX0_openBarge 6 = .ok (.getfield 22, 3) := by decide +kernel
theorem dX0_openBarge_9 : decode cX0_openBarge 9 = .ok (.iload_n 2, 1) := by decide +kernel
theorem dX0_openBarge_10 : decode cX0_openBarge 10 = .ok (.iload_n 1, 1) := by decide +kernel
theorem dX0_openBarge_11 : decode cX0_openBarge 11 = .ok (.iastore, 1) := by decide +kernel
theorem dX0_openBarge_12 : decode cX0_openBarge 12 = .ok (.aload_n 0, 1) := by decide +kernel
theorem dX0_openBarge_13 : decode cX0_openBarge 13 = .ok (.getfield 25, 3) := by decide +kernel
theorem dX0_openBarge_16 : decode cX0_openBarge 16 = .ok (.iload_n 2, 1) := by decide +kernel
theorem dX0_openBarge_17 : decode cX0_openBarge 17 = .ok (.iload_n 1, 1) := by decide +kernel
theorem dX0_openBarge_18 : decode cX0_openBarge 18 = .ok (.iastore, 1) := by decide +kernel
theorem dX0_openBarge_19 : decode cX0_openBarge 19 = .ok (.aload_n 0, 1) := by decide +kernel
theorem dX0_openBarge_20 : decode cX0_openBarge 20 = .ok (.dup, 1) := by decide +kernel
theorem dX0_openBarge_21 : decode cX0_openBarge 21 = .ok (.getfield 56, 3) := by decide +kernel
theorem dX0_openBarge_24 : decode cX0_openBarge 24 = .ok (.iconst 1, 1) := by decide +kernel
theorem dX0_openBarge_25 : decode cX0_openBarge 25 = .ok (.iadd, 1) := by decide +kernel
theorem dX0_openBarge_26 : decode cX0_openBarge 26 = .ok (.putfield 56, 3) := by decide +kernel
theorem dX0_openBarge_29 : decode cX0_openBarge 29 = .ok (.iload_n 2, 1) := by decide +kernel
theorem dX0_openBarge_30 : decode cX0_openBarge 30 = .ok (.ireturn, 1) := by decide +kernel
set_option maxRecDepth 20000 in
theorem ggX0_takeAboard_X0_move : GoodIn wsX0_takeAboard wsX0_move := goodIn_r _ [9, 10, 11, 12, 13, 14, 15, 16, 17, 18, 19, 20, 21, 22, 23, 24, 25, 26, 27] (by decide +kernel) (by decide +kernel)
set_option maxRecDepth 20000 in
theorem gX0_takeAboard_X0_move : GoodIn wsX0_takeAboard (wsV RX0 68 RX0 yX0_move wsX0_move) := goodIn_app (goodIn_of _ (by decide +kernel)) ggX0_takeAboard_X0_move
theorem dX0_takeAboard_0 : decode cX0_takeAboard 0 = .ok (.aload_n 0, 1) := by decide +kernel
theorem dX0_takeAboard_1 : decode cX0_takeAboard 1 = .ok (.getfield 59, 3) := by decide +kernel
theorem dX0_takeAboard_4 : decode cX0_takeAboard 4 = .ok (.istore_n 3, 1) := by decide +kernel
theorem dX0_takeAboard_5 : decode cX0_takeAboard 5 = .ok (.aload_n 0, 1) := by decide +kernel
theorem dX0_takeAboard_6 : decode cX0_takeAboard 6 = .ok (.getfield 28, 3) := by decide +kernel
theorem dX0_takeAboard_9 : decode cX0_takeAboard 9 = .ok (.iload_n 3, 1) := by decide +kernel
theorem dX0_takeAboard_10 : decode cX0_takeAboard 10 = .ok (.iload_n 2, 1) := by decide +kernel
theorem dX0_takeAboard_11 : decode cX0_takeAboard 11 = .ok (.iastore, 1) := by decide +kernel
theorem dX0_takeAboard_12 : decode cX0_takeAboard 12 = .ok (.aload_n 0, 1) := by decide +kernel
theorem dX0_takeAboard_13 : decode cX0_takeAboard 13 = .ok (.iload_n 3, 1) := by decide +kernel
theorem dX0_takeAboard_14 : decode cX0_takeAboard 14 = .ok (.iconst 0, 1) := by decide +kernel
theorem dX0_takeAboard_15 : decode cX0_takeAboard 15 = .ok (.iload_n 1, 1) := by decide +kernel
theorem dX0_takeAboard_16 : decode cX0_takeAboard 16 = .ok (.invokevirtual 68, 3) := by decide +kernel
theorem dX0_takeAboard_19 : decode cX0_takeAboard 19 = .ok (.aload_n 0, 1) := by decide +kernel
theorem dX0_takeAboard_20 : decode cX0_takeAboard 20 = .ok (.dup, 1) := by decide +kernel
theorem dX0_takeAboard_21 : decode cX0_takeAboard 21 = .ok (.getfield 59, 3) := by decide +kernel
theorem dX0_takeAboard_24 : decode cX0_takeAboard 24 = .ok (.iconst 1, 1) := by decide +kernel
theorem dX0_takeAboard_25 : decode cX0_takeAboard 25 = .ok (.iadd, 1) := by decide +kernel
theorem dX0_takeAboard_26 : decode cX0_takeAboard 26 = .ok (.putfield 59, 3) := by decide +kernel
theorem dX0_takeAboard_29 : decode cX0_takeAboard 29 = .ok (.aload_n 0, 1) := by decide +kernel
theorem dX0_takeAboard_30 : decode cX0_takeAboard 30 = .ok (.getfield 25, 3) := by decide +kernel
theorem dX0_takeAboard_33 : decode cX0_takeAboard 33 = .ok (.iload_n 1, 1) := by decide +kernel
theorem dX0_takeAboard_34 : decode cX0_takeAboard 34 = .ok (.iaload, 1) := by decide +kernel
theorem dX0_takeAboard_35 : decode cX0_takeAboard 35 = .ok (.ifCond .ne 15, 3) := by decide +kernel
theorem dX0_takeAboard_38 : decode cX0_takeAboard 38 = .ok (.aload_n 0, 1) := by decide +kernel
theorem dX0_takeAboard_39 : decode cX0_takeAboard 39 = .ok (.getfield 25, 3) := by decide +kernel
theorem dX0_takeAboard_42 : decode cX0_takeAboard 42 = .ok (.iload_n 1, 1) := by decide +kernel
theorem dX0_takeAboard_43 : decode cX0_takeAboard 43 = .ok (.aload_n 0, 1) := by decide +kernel
theorem dX0_takeAboard_44 : decode cX0_takeAboard 44 = .ok (.getfield 22, 3) := by decide +kernel
theorem dX0_takeAboard_47 : decode cX0_takeAboard 47 = .ok (.iload_n 1, 1) := by decide +kernel
theorem dX0_takeAboard_48 : decode cX0_takeAboard 48 = .ok (.iaload, 1) := by decide +kernel
theorem dX0_takeAboard_49 : decode cX0_takeAboard 49 = .ok (.iastore, 1) := by decide +kernel
theorem dX0_takeAboard_50 : decode cX0_takeAboard 50 = .ok (.iload_n 3, 1) := by decide +kernel
theorem dX0_takeAboard_51 : decode cX0_takeAboard 51 = .ok (.ireturn, 1) := by decide +kernel
theorem dX0_move_0 : decode cX0_move 0 = .ok (.aload_n 0, 1) := by decide +kernel
theorem dX0_move_1 : decode cX0_move 1 = .ok (.getfield 31, 3) := by decide +kernel
theorem dX0_move_4 : decode cX0_move 4 = .ok (.iload_n 1, 1) := by decide +kernel
theorem dX0_move_5 : decode cX0_move 5 = .ok (.iload_n 2, 1) := by decide +kernel
theorem dX0_move_6 : decode cX0_move 6 = .ok (.iastore, 1) := by decide +kernel
theorem dX0_move_7 : decode cX0_move 7 = .ok (.aload_n 0, 1) := by decide +kernel
theorem dX0_move_8 : decode cX0_move 8 = .ok (.getfield 34, 3) := by decide +kernel
theorem dX0_move_11 : decode cX0_move 11 = .ok (.iload_n 1, 1) := by decide +kernel
theorem dX0_move_12 : decode cX0_move 12 = .ok (.iload_n 3, 1) := by decide +kernel
theorem dX0_move_13 : decode cX0_move 13 = .ok (.iastore, 1) := by decide +kernel
theorem dX0_move_14 : decode cX0_move 14 = .ok (.return_, 1) := by decide +kernel
theorem dX0_isAt_0 : decode cX0_isAt 0 = .ok (.aload_n 0, 1) := by decide +kernel
theorem dX0_isAt_1 : decode cX0_isAt 1 = .ok (.getfield 31, 3) := by decide +kernel
theorem dX0_isAt_4 : decode cX0_isAt 4 = .ok (.iload_n 1, 1) := by decide +kernel
theorem dX0_isAt_5 : decode cX0_isAt 5 = .ok (.iaload, 1) := by decide +kernel
theorem dX0_isAt_6 : decode cX0_isAt 6 = .ok (.iload_n 2, 1) := by decide +kernel
theorem dX0_isAt_7 : decode cX0_isAt 7 = .ok (.if_icmp .ne 17, 3) := by decide +kernel
theorem dX0_isAt_10 : decode cX0_isAt 10 = .ok (.aload_n 0, 1) := by decide +kernel
theorem dX0_isAt_11 : decode cX0_isAt 11 = .ok (.getfield 34, 3) := by decide +kernel
theorem dX0_isAt_14 : decode cX0_isAt 14 = .ok (.iload_n 1, 1) := by decide +kernel
theorem dX0_isAt_15 : decode cX0_isAt 15 = .ok (.iaload, 1) := by decide +kernel
theorem dX0_isAt_16 : decode cX0_isAt 16 = .ok (.iload_n 3, 1) := by decide +kernel
theorem dX0_isAt_17 : decode cX0_isAt 17 = .ok (.if_icmp .ne 7, 3) := by decide +kernel
theorem dX0_isAt_20 : decode cX0_isAt 20 = .ok (.iconst 1, 1) := by decide +kernel
theorem dX0_isAt_21 : decode cX0_isAt 21 = .ok (.goto 4, 3) := by decide +kernel
theorem dX0_isAt_24 : decode cX0_isAt 24 = .ok (.iconst 0, 1) := by decide +kernel
theorem dX0_isAt_25 : decode cX0_isAt 25 = .ok (.ireturn, 1) := by decide +kernel
theorem dX0_numberOf_0 : decode cX0_numberOf 0 = .ok (.aload_n 0, 1) := by decide +kernel
theorem dX0_numberOf_1 : decode cX0_numberOf 1 = .ok (.getfield 31, 3) := by decide +kernel
theorem dX0_numberOf_4 : decode cX0_numberOf 4 = .ok (.iload_n 1, 1) := by decide +kernel
theorem dX0_numberOf_5 : decode cX0_numberOf 5 = .ok (.iaload, 1) := by decide +kernel
theorem dX0_numberOf_6 : decode cX0_numberOf 6 = .ok (.iload_n 2, 1) := by decide +kernel
theorem dX0_numberOf_7 : decode cX0_numberOf 7 = .ok (.if_icmp .ne 12, 3) := by decide +kernel
theorem dX0_numberOf_10 : decode cX0_numberOf 10 = .ok (.aload_n 0, 1) := by decide +kernel
theorem dX0_numberOf_11 : decode cX0_numberOf 11 = .ok (.getfield 34, 3) := by decide +kernel
theorem dX0_numberOf_14 : decode cX0_numberOf 14 = .ok (.iload_n 1, 1) := by decide +kernel
theorem dX0_numberOf_15 : decode cX0_numberOf 15 = .ok (.iaload, 1) := by decide +kernel
theorem dX0_numberOf_16 : decode cX0_numberOf 16 = .ok (.goto 4, 3) := by decide +kernel
theorem dX0_numberOf_19 : decode cX0_numberOf 19 = .ok (.iconst (-1), 1) := by decide +kernel
theorem dX0_numberOf_20 : decode cX0_numberOf 20 = .ok (.ireturn, 1) := by decide +kernel
theorem dX0_count_0 : decode cX0_count 0 = .ok (.iconst 0, 1) := by decide +kernel
theorem dX0_count_1 : decode cX0_count 1 = .ok (.istore_n 2, 1) := by decide +kernel
theorem dX0_count_2 : decode cX0_count 2 = .ok (.iconst 0, 1) := by decide +kernel
theorem dX0_count_3 : decode cX0_count 3 = .ok (.istore_n 3, 1) := by decide +kernel
theorem dX0_count_4 : decode cX0_count 4 = .ok (.iload_n 3, 1) := by decide +kernel
theorem dX0_count_5 : decode cX0_count 5 = .ok (.aload_n 0, 1) := by decide +kernel
theorem dX0_count_6 : decode cX0_count 6 = .ok (.getfield 59, 3) := by decide +kernel
theorem dX0_count_9 : decode cX0_count 9 = .ok (.if_icmp .ge 22, 3) := by decide +kernel
theorem dX0_count_12 : decode cX0_count 12 = .ok (.aload_n 0, 1) := by decide +kernel
theorem dX0_count_13 : decode cX0_count 13 = .ok (.getfield 31, 3) := by decide +kernel
theorem dX0_count_16 : decode cX0_count 16 = .ok (.iload_n 3, 1) := by decide +kernel
theorem dX0_count_17 : decode cX0_count 17 = .ok (.iaload, 1) := by decide +kernel
theorem dX0_count_18 : decode cX0_count 18 = .ok (.iload_n 1, 1) := by decide +kernel
theorem dX0_count_19 : decode cX0_count 19 = .ok (.if_icmp .ne 6, 3) := by decide +kernel
theorem dX0_count_22 : decode cX0_count 22 = .ok (.iinc 2 1, 3) := by decide +kernel
theorem dX0_count_25 : decode cX0_count 25 = .ok (.iinc 3 1, 3) := by decide +kernel
theorem dX0_count_28 : decode cX0_count 28 = .ok (.goto (-24), 3) := by decide +kernel
theorem dX0_count_31 : decode cX0_count 31 = .ok (.iload_n 2, 1) := by decide +kernel
theorem dX0_count_32 : decode cX0_count 32 = .ok (.ireturn, 1) := by decide +kernel
set_option maxRecDepth 20000 in
theorem ggX0_countAt_X0_isAt : GoodIn wsX0_countAt wsX0_isAt := goodIn_r _ [6, 7, 8, 9, 10, 11, 12, 13, 14, 15, 16, 17, 18, 19, 20, 21, 22, 23, 24] (by decide +kernel) (by decide +kernel)
set_option maxRecDepth 20000 in
theorem gX0_countAt_X0_isAt : GoodIn wsX0_countAt (wsV RX0 72 RX0 yX0_isAt wsX0_isAt) := goodIn_app (goodIn_of _ (by decide +kernel)) ggX0_countAt_X0_isAt
theorem dX0_countAt_0 : decode cX0_countAt 0 = .ok (.iconst 0, 1) := by decide +kernel
theorem dX0_countAt_1 : decode cX0_countAt 1 = .ok (.istore_n 3, 1) := by decide +kernel
theorem dX0_countAt_2 : decode cX0_countAt 2 = .ok (.iconst 0, 1) := by decide +kernel
theorem dX0_countAt_3 : decode cX0_countAt 3 = .ok (.istore 4, 2) := by decide +kernel
theorem dX0_countAt_5 : decode cX0_countAt 5 = .ok (.iload 4, 2) := by decide +kernel
theorem dX0_countAt_7 : decode cX0_countAt 7 = .ok (.aload_n 0, 1) := by decide +kernel
theorem dX0_countAt_8 : decode cX0_countAt 8 = .ok (.getfield 59, 3) := by decide +kernel
theorem dX0_countAt_11 : decode cX0_countAt 11 = .ok (.if_icmp .ge 23, 3) := by decide +kernel
theorem dX0_countAt_14 : decode cX0_countAt 14 = .ok (.aload_n 0, 1) := by decide +kernel
theorem dX0_countAt_15 : decode cX0_countAt 15 = .ok (.iload 4, 2) := by decide +kernel
theorem dX0_countAt_17 : decode cX0_countAt 17 = .ok (.iload_n 1, 1) := by decide +kernel
theorem dX0_countAt_18 : decode cX0_countAt 18 = .ok (.iload_n 2, 1) := by decide +kernel
theorem dX0_countAt_19 : decode cX0_countAt 19 = .ok (.invokevirtual 72, 3) := by decide +kernel
theorem dX0_countAt_22 : decode cX0_countAt 22 = .ok (.ifCond .eq 6, 3) := by decide +kernel
theorem dX0_countAt_25 : decode cX0_countAt 25 = .ok (.iinc 3 1, 3) := by decide +kernel
theorem dX0_countAt_28 : decode cX0_countAt 28 = .ok (.iinc 4 1, 3) := by decide +kernel
theorem dX0_countAt_31 : decode cX0_countAt 31 = .ok (.goto (-26), 3) := by decide +kernel
theorem dX0_countAt_34 : decode cX0_countAt 34 = .ok (.iload_n 3, 1) := by decide +kernel
theorem dX0_countAt_35 : decode cX0_countAt 35 = .ok (.ireturn, 1) := by decide +kernel
set_option maxRecDepth 20000 in
theorem ggX0_freeIn_X0_countAt : GoodIn wsX0_freeIn wsX0_countAt := goodIn_r _ [6, 7, 8, 9, 10, 5, 11, 12, 13, 14, 15, 16, 17, 18, 19, 20, 21, 22, 23, 24, 25, 26, 27, 28, 29] (by decide +kernel) (by decide +kernel)
set_option maxRecDepth 20000 in
theorem gX0_freeIn_X0_countAt : GoodIn wsX0_freeIn (wsV RX0 76 RX0 yX0_countAt wsX0_countAt) := goodIn_app (goodIn_of _ (by decide +kernel)) ggX0_freeIn_X0_countAt
theorem dX0_freeIn_0 : decode cX0_freeIn 0 = .ok (.aload_n 0, 1) := by decide +kernel
theorem dX0_freeIn_1 : decode cX0_freeIn 1 = .ok (.getfield 15, 3) := by decide +kernel
theorem dX0_freeIn_4 : decode cX0_freeIn 4 = .ok (.iload_n 1, 1) := by decide +kernel
theorem dX0_freeIn_5 : decode cX0_freeIn 5 = .ok (.iaload, 1) := by decide +kernel
theorem dX0_freeIn_6 : decode cX0_freeIn 6 = .ok (.aload_n 0, 1) := by decide +kernel
theorem dX0_freeIn_7 : decode cX0_freeIn 7 = .ok (.iconst 1, 1) := by decide +kernel
theorem dX0_freeIn_8 : decode cX0_freeIn 8 = .ok (.iload_n 1, 1) := by decide +kernel
theorem dX0_freeIn_9 : decode cX0_freeIn 9 = .ok (.invokevirtual 76, 3) := by decide +kernel
theorem dX0_freeIn_12 : decode cX0_freeIn 12 = .ok (.isub, 1) := by decide +kernel
theorem dX0_freeIn_13 : decode cX0_freeIn 13 = .ok (.ireturn, 1) := by decide +kernel
set_option maxRecDepth 20000 in
theorem ggX0_feversInWard_X0_isAt : GoodIn wsX0_feversInWard wsX0_isAt := goodIn_r _ [7, 8, 9, 10, 11, 12, 13, 14, 15, 16, 17, 18, 19, 20, 21, 22, 23, 24, 25] (by decide +kernel) (by decide +kernel)
set_option maxRecDepth 20000 in
theorem gX0_feversInWard_X0_isAt : GoodIn wsX0_feversInWard (wsV RX0 72 RX0 yX0_isAt wsX0_isAt) := goodIn_app (goodIn_of _ (by decide +kernel)) ggX0_feversInWard_X0_isAt
theorem dX0_feversInWard_0 : decode cX0_feversInWard 0 = .ok (.iconst 0, 1) := by decide +kernel
theorem dX0_feversInWard_1 : decode cX0_feversInWard 1 = .ok (.istore_n 2, 1) := by decide +kernel
theorem dX0_feversInWard_2 : decode cX0_feversInWard 2 = .ok (.iconst 0, 1) := by decide +kernel
theorem dX0_feversInWard_3 : decode cX0_feversInWard 3 = .ok (.istore_n 3, 1) := by decide +kernel
theorem dX0_feversInWard_4 : decode cX0_feversInWard 4 = .ok (.iload_n 3, 1) := by decide +kernel
theorem dX0_feversInWard_5 : decode cX0_feversInWard 5 = .ok (.aload_n 0, 1) := by decide +kernel
theorem dX0_feversInWard_6 : decode cX0_feversInWard 6 = .ok (.getfield 59, 3) := by decide +kernel
theorem dX0_feversInWard_9 : decode cX0_feversInWard 9 = .ok (.if_icmp .ge 28, 3) := by decide +kernel
theorem dX0_feversInWard_12 : decode cX0_feversInWard 12 = .ok (.aload_n 0, 1) := by decide +kernel
theorem dX0_feversInWard_13 : decode cX0_feversInWard 13 = .ok (.iload_n 3, 1) := by decide +kernel
theorem dX0_feversInWard_14 : decode cX0_feversInWard 14 = .ok (.iconst 1, 1) := by decide +kernel
theorem dX0_feversInWard_15 : decode cX0_feversInWard 15 = .ok (.iload_n 1, 1) := by decide +kernel
theorem dX0_feversInWard_16 : decode cX0_feversInWard 16 = .ok (.invokevirtual 72, 3) := by decide +kernel
theorem dX0_feversInWard_19 : decode cX0_feversInWard 19 = .ok (.ifCond .eq 12, 3) := by decide +kernel
theorem dX0_feversInWard_22 : decode cX0_feversInWard 22 = .ok (.iload_n 2, 1) := by decide +kernel
theorem dX0_feversInWard_23 : decode cX0_feversInWard 23 = .ok (.aload_n 0, 1) := by decide +kernel
theorem dX0_feversInWard_24 : decode cX0_feversInWard 24 = .ok (.getfield 28, 3) := by decide +kernel
theorem dX0_feversInWard_27 : decode cX0_feversInWard 27 = .ok (.iload_n 3, 1) := by decide +kernel
theorem dX0_feversInWard_28 : decode cX0_feversInWard 28 = .ok (.iaload, 1) := by decide +kernel
theorem dX0_feversInWard_29 : decode cX0_feversInWard 29 = .ok (.iadd, 1) := by decide +kernel
theorem dX0_feversInWard_30 : decode cX0_feversInWard 30 = .ok (.istore_n 2, 1) := by decide +kernel
theorem dX0_feversInWard_31 : decode cX0_feversInWard 31 = .ok (.iinc 3 1, 3) := by decide +kernel
theorem dX0_feversInWard_34 : decode cX0_feversInWard 34 = .ok (.goto (-30), 3) := by decide +kernel
theorem dX0_feversInWard_37 : decode cX0_feversInWard 37 = .ok (.iload_n 2, 1) := by decide +kernel
theorem dX0_feversInWard_38 : decode cX0_feversInWard 38 = .ok (.ireturn, 1) := by decide +kernel
set_option maxRecDepth 20000 in
theorem ggX0_highestFeverAboard_X0_isAt : GoodIn wsX0_highestFeverAboard wsX0_isAt := goodIn_r _ [11, 12, 13, 14, 15, 16, 17, 18, 19, 20, 21, 22, 23, 24, 25, 26, 27, 28, 29] (by decide +kernel) (by decide +kernel)
set_option maxRecDepth 20000 in
theorem gX0_highestFeverAboard_X0_isAt : GoodIn wsX0_highestFeverAboard (wsV RX0 72 RX0 yX0_isAt wsX0_isAt) := goodIn_app (goodIn_of _ (by decide +kernel)) ggX0_highestFeverAboard_X0_isAt
theorem dX0_highestFeverAboard_0 : decode cX0_highestFeverAboard 0 = .ok (.iconst 0, 1) := by decide +kernel
theorem dX0_highestFeverAboard_1 : decode cX0_highestFeverAboard 1 = .ok (.istore_n 2, 1) := by decide +kernel
theorem dX0_highestFeverAboard_2 : decode cX0_highestFeverAboard 2 = .ok (.iconst 0, 1) := by decide +kernel
theorem dX0_highestFeverAboard_3 : decode cX0_highestFeverAboard 3 = .ok (.istore_n 3, 1) := by decide +kernel
theorem dX0_highestFeverAboard_4 : decode cX0_highestFeverAboard 4 = .ok (.iload_n 3, 1) := by decide +kernel
theorem dX0_highestFeverAboard_5 : decode cX0_highestFeverAboard 5 = .ok (.aload_n 0, 1) := by decide +kernel
theorem dX0_highestFeverAboard_6 : decode cX0_highestFeverAboard 6 = .ok (.getfield 59, 3) := by decide +kernel
theorem dX0_highestFeverAboard_9 : decode cX0_highestFeverAboard 9 = .ok (.if_icmp .ge 30, 3) := by decide +kernel
theorem dX0_highestFeverAboard_12 : decode cX0_highestFeverAboard 12 = .ok (.aload_n 0, 1) := by decide +kernel
theorem dX0_highestFeverAboard_13 : decode cX0_highestFeverAboard 13 = .ok (.iload_n 3, 1) := by decide +kernel
theorem dX0_highestFeverAboard_14 : decode cX0_highestFeverAboard 14 = .ok (.iconst 0, 1) := by decide +kernel
theorem dX0_highestFeverAboard_15 : decode cX0_highestFeverAboard 15 = .ok (.iload_n 1, 1) := by decide +kernel
theorem dX0_highestFeverAboard_16 : decode cX0_highestFeverAboard 16 = .ok (.invokevirtual 72, 3) := by decide +kernel
theorem dX0_highestFeverAboard_19 : decode cX0_highestFeverAboard 19 = .ok (.ifCond .eq 14, 3) := by decide +kernel
theorem dX0_highestFeverAboard_22 : decode cX0_highestFeverAboard 22 = .ok (.iload_n 2, 1) := by decide +kernel
theorem dX0_highestFeverAboard_23 : decode cX0_highestFeverAboard 23 = .ok (.aload_n 0, 1) := by decide +kernel
theorem dX0_highestFeverAboard_24 : decode cX0_highestFeverAboard 24 = .ok (.getfield 28, 3) := by decide +kernel
theorem dX0_highestFeverAboard_27 : decode cX0_highestFeverAboard 27 = .ok (.iload_n 3, 1) := by decide +kernel
theorem dX0_highestFeverAboard_28 : decode cX0_highestFeverAboard 28 = .ok (.iaload, 1) := by decide +kernel
theorem dX0_highestFeverAboard_29 : decode cX0_highestFeverAboard 29 = .ok (.invokestatic 80, 3) := by decide +kernel
theorem dX0_highestFeverAboard_32 : decode cX0_highestFeverAboard 32 = .ok (.istore_n 2, 1) := by decide +kernel
theorem dX0_highestFeverAboard_33 : decode cX0_highestFeverAboard 33 = .ok (.iinc 3 1, 3) := by decide +kernel
theorem dX0_highestFeverAboard_36 : decode cX0_highestFeverAboard 36 = .ok (.goto (-32), 3) := by decide +kernel
theorem dX0_highestFeverAboard_39 : decode cX0_highestFeverAboard 39 = .ok (.iload_n 2, 1) := by decide +kernel
theorem dX0_highestFeverAboard_40 : decode cX0_highestFeverAboard 40 = .ok (.ireturn, 1) := by decide +kernel
set_option maxRecDepth 20000 in
theorem ggX0_liveDays_X0_giveBowls : GoodIn wsX0_liveDays wsX0_giveBowls := goodIn_r _ [6, 7, 8, 9, 10, 11, 12, 13, 14, 15, 5, 16, 17, 18, 85, 86, 87, 88, 89, 90, 91, 92, 93, 94, 95, 96, 97, 98, 99, 100] (by decide +kernel) (by decide +kernel)
set_option maxRecDepth 20000 in
theorem gX0_liveDays_X0_giveBowls : GoodIn wsX0_liveDays (wsV RX0 85 RX0 yX0_giveBowls wsX0_giveBowls) := goodIn_app (goodIn_of _ (by decide +kernel)) ggX0_liveDays_X0_giveBowls
set_option maxRecDepth 20000 in
theorem ggX0_liveDays_X0_changeFeversInWards : GoodIn wsX0_liveDays wsX0_changeFeversInWards := goodIn_r _ [22, 8, 23, 9, 10, 24, 25, 26, 27, 28, 13, 14, 15, 5, 16, 17, 18, 29, 30, 31, 32, 33, 34, 35, 85, 86, 87, 88, 89, 90, 91, 92, 93, 94, 95, 96, 97, 98, 99, 100] (by decide +kernel) (by decide +kernel)
set_option maxRecDepth 20000 in
theorem gX0_liveDays_X0_changeFeversInWards : GoodIn wsX0_liveDays (wsV RX0 88 RX0 yX0_changeFeversInWards wsX0_changeFeversInWards) := goodIn_app (goodIn_of _ (by decide +kernel)) ggX0_liveDays_X0_changeFeversInWards
set_option maxRecDepth 20000 in
theorem ggX0_liveDays_X0_bringBargesNearer : GoodIn wsX0_liveDays wsX0_bringBargesNearer := goodIn_r _ [39, 40, 41, 42, 43, 44, 5, 45, 9, 24, 46, 47, 48, 49, 13, 14, 15, 16, 17, 18, 29, 30, 31, 32, 33, 34, 27, 35, 85, 86, 87, 88, 89, 90, 91, 92, 93, 94, 95, 96, 97, 98, 99, 100] (by decide +kernel) (by decide +kernel)
set_option maxRecDepth 20000 in
theorem gX0_liveDays_X0_bringBargesNearer : GoodIn wsX0_liveDays (wsV RX0 91 RX0 yX0_bringBargesNearer wsX0_bringBargesNearer) := goodIn_app (goodIn_of _ (by decide +kernel)) ggX0_liveDays_X0_bringBargesNearer
set_option maxRecDepth 20000 in
theorem ggX0_liveDays_X0_ageStraw : GoodIn wsX0_liveDays wsX0_ageStraw := goodIn_r _ [53, 8, 23, 85, 86, 87, 88, 89, 90, 91, 92, 93, 94, 95, 96, 97, 98, 99, 100] (by decide +kernel) (by decide +kernel)
set_option maxRecDepth 20000 in
theorem gX0_liveDays_X0_ageStraw : GoodIn wsX0_liveDays (wsV RX0 94 RX0 yX0_ageStraw wsX0_ageStraw) := goodIn_app (goodIn_of _ (by decide +kernel)) ggX0_liveDays_X0_ageStraw
set_option maxRecDepth 20000 in
theorem ggX0_liveDays_X0_leaveWards : GoodIn wsX0_liveDays wsX0_leaveWards := goodIn_r _ [57, 9, 17, 24, 58, 59, 60, 5, 61, 18, 85, 86, 87, 88, 89, 90, 91, 92, 93, 94, 95, 96, 97, 98, 99, 100] (by decide +kernel) (by decide +kernel)
set_option maxRecDepth 20000 in
theorem gX0_liveDays_X0_leaveWards : GoodIn wsX0_liveDays (wsV RX0 97 RX0 yX0_leaveWards wsX0_leaveWards) := goodIn_app (goodIn_of _ (by decide +kernel)) ggX0_liveDays_X0_leaveWards
set_option maxRecDepth 20000 in
theorem ggX0_liveDays_X0_landBarges : GoodIn wsX0_liveDays wsX0_landBarges := goodIn_r _ [65, 8, 66, 40, 41, 67, 68, 69, 70, 5, 71, 72, 73, 74, 75, 76, 9, 13, 14, 15, 16, 17, 18, 77, 78, 79, 80, 24, 58, 59, 60, 61, 81, 82, 83, 84, 85, 86, 87, 88, 89, 90, 91, 92, 93, 94, 95, 96, 97, 98, 99, 100] (by decide +kernel) (by decide +kernel)
set_option maxRecDepth 20000 in
theorem gX0_liveDays_X0_landBarges : GoodIn wsX0_liveDays (wsV RX0 100 RX0 yX0_landBarges wsX0_landBarges) := goodIn_app (goodIn_of _ (by decide +kernel)) ggX0_liveDays_X0_landBarges
theorem dX0_liveDays_0 : decode cX0_liveDays 0 = .ok (.iconst 0, 1) := by decide +kernel
theorem dX0_liveDays_1 : decode cX0_liveDays 1 = .ok (.istore_n 2, 1) := by decide +kernel
theorem dX0_liveDays_2 : decode cX0_liveDays 2 = .ok (.iload_n 2, 1) := by decide +kernel
theorem dX0_liveDays_3 : decode cX0_liveDays 3 = .ok (.iload_n 1, 1) := by decide +kernel
theorem dX0_liveDays_4 : decode cX0_liveDays 4 = .ok (.if_icmp .ge 43, 3) := by decide +kernel
theorem dX0_liveDays_7 : decode cX0_liveDays 7 = .ok (.aload_n 0, 1) := by decide +kernel
theorem dX0_liveDays_8 : decode cX0_liveDays 8 = .ok (.invokevirtual 85, 3) := by decide +kernel
theorem dX0_liveDays_11 : decode cX0_liveDays 11 = .ok (.aload_n 0, 1) := by decide +kernel
theorem dX0_liveDays_12 : decode cX0_liveDays 12 = .ok (.invokevirtual 88, 3) := by decide +kernel
theorem dX0_liveDays_15 : decode cX0_liveDays 15 = .ok (.aload_n 0, 1) := by decide +kernel
theorem dX0_liveDays_16 : decode cX0_liveDays 16 = .ok (.invokevirtual 91, 3) := by decide +kernel
theorem dX0_liveDays_19 : decode cX0_liveDays 19 = .ok (.aload_n 0, 1) := by decide +kernel
theorem dX0_liveDays_20 : decode cX0_liveDays 20 = .ok (.invokevirtual 94, 3) := by decide +kernel
theorem dX0_liveDays_23 : decode cX0_liveDays 23 = .ok (.aload_n 0, 1) := by decide +kernel
theorem dX0_liveDays_24 : decode cX0_liveDays 24 = .ok (.invokevirtual 97, 3) := by decide +kernel
theorem dX0_liveDays_27 : decode cX0_liveDays 27 = .ok (.aload_n 0, 1) := by decide +kernel
theorem dX0_liveDays_28 : decode cX0_liveDays 28 = .ok (.invokevirtual 100, 3) := by decide +kernel
theorem dX0_liveDays_31 : decode cX0_liveDays 31 = .ok (.aload_n 0, 1) := by decide +kernel
theorem dX0_liveDays_32 : decode cX0_liveDays 32 = .ok (.dup, 1) := by decide +kernel
theorem dX0_liveDays_33 : decode cX0_liveDays 33 = .ok (.getfield 47, 3) := by decide +kernel
theorem dX0_liveDays_36 : decode cX0_liveDays 36 = .ok (.iconst 1, 1) := by decide +kernel
theorem dX0_liveDays_37 : decode cX0_liveDays 37 = .ok (.iadd, 1) := by decide +kernel
theorem dX0_liveDays_38 : decode cX0_liveDays 38 = .ok (.putfield 47, 3) := by decide +kernel
theorem dX0_liveDays_41 : decode cX0_liveDays 41 = .ok (.iinc 2 1, 3) := by decide +kernel
theorem dX0_liveDays_44 : decode cX0_liveDays 44 = .ok (.goto (-42), 3) := by decide +kernel
theorem dX0_liveDays_47 : decode cX0_liveDays 47 = .ok (.return_, 1) := by decide +kernel
set_option maxRecDepth 20000 in
theorem ggX0_giveBowls_X0_isAt : GoodIn wsX0_giveBowls wsX0_isAt := goodIn_r _ [11, 12, 13, 14, 15, 16, 17, 18, 19, 20, 21, 22, 23, 24, 25, 26, 27, 28, 29] (by decide +kernel) (by decide +kernel)
set_option maxRecDepth 20000 in
theorem gX0_giveBowls_X0_isAt : GoodIn wsX0_giveBowls (wsV RX0 72 RX0 yX0_isAt wsX0_isAt) := goodIn_app (goodIn_of _ (by decide +kernel)) ggX0_giveBowls_X0_isAt
theorem dX0_giveBowls_0 : decode cX0_giveBowls 0 = .ok (.aload_n 0, 1) := by decide +kernel
theorem dX0_giveBowls_1 : decode cX0_giveBowls 1 = .ok (.getfield 9, 3) := by decide +kernel
theorem dX0_giveBowls_4 : decode cX0_giveBowls 4 = .ok (.istore_n 1, 1) := by decide +kernel
theorem dX0_giveBowls_5 : decode cX0_giveBowls 5 = .ok (.iconst 0, 1) := by decide +kernel
theorem dX0_giveBowls_6 : decode cX0_giveBowls 6 = .ok (.istore_n 2, 1) := by decide +kernel
theorem dX0_giveBowls_7 : decode cX0_giveBowls 7 = .ok (.iload_n 2, 1) := by decide +kernel
theorem dX0_giveBowls_8 : decode cX0_giveBowls 8 = .ok (.aload_n 0, 1) := by decide +kernel
theorem dX0_giveBowls_9 : decode cX0_giveBowls 9 = .ok (.getfield 53, 3) := by decide +kernel
theorem dX0_giveBowls_12 : decode cX0_giveBowls 12 = .ok (.if_icmp .ge 73, 3) := by decide +kernel
theorem dX0_giveBowls_15 : decode cX0_giveBowls 15 = .ok (.iconst 0, 1) := by decide +kernel
theorem dX0_giveBowls_16 : decode cX0_giveBowls 16 = .ok (.istore_n 3, 1) := by decide +kernel
theorem dX0_giveBowls_17 : decode cX0_giveBowls 17 = .ok (.iload_n 3, 1) := by decide +kernel
theorem dX0_giveBowls_18 : decode cX0_giveBowls 18 = .ok (.aload_n 0, 1) := by decide +kernel
theorem dX0_giveBowls_19 : decode cX0_giveBowls 19 = .ok (.getfield 59, 3) := by decide +kernel
theorem dX0_giveBowls_22 : decode cX0_giveBowls 22 = .ok (.if_icmp .ge 57, 3) := by decide +kernel
theorem dX0_giveBowls_25 : decode cX0_giveBowls 25 = .ok (.aload_n 0, 1) := by decide +kernel
theorem dX0_giveBowls_26 : decode cX0_giveBowls 26 = .ok (.iload_n 3, 1) := by decide +kernel
theorem dX0_giveBowls_27 : decode cX0_giveBowls 27 = .ok (.iconst 1, 1) := by decide +kernel
theorem dX0_giveBowls_28 : decode cX0_giveBowls 28 = .ok (.iload_n 2, 1) := by decide +kernel
theorem dX0_giveBowls_29 : decode cX0_giveBowls 29 = .ok (.invokevirtual 72, 3) := by decide +kernel
theorem dX0_giveBowls_32 : decode cX0_giveBowls 32 = .ok (.ifCond .ne 6, 3) := by decide +kernel
theorem dX0_giveBowls_35 : decode cX0_giveBowls 35 = .ok (.goto 38, 3) := by decide +kernel
theorem dX0_giveBowls_38 : decode cX0_giveBowls 38 = .ok (.aload_n 0, 1) := by decide +kernel
theorem dX0_giveBowls_39 : decode cX0_giveBowls 39 = .ok (.getfield 40, 3) := by decide +kernel
theorem dX0_giveBowls_42 : decode cX0_giveBowls 42 = .ok (.iload_n 3, 1) := by decide +kernel
theorem dX0_giveBowls_43 : decode cX0_giveBowls 43 = .ok (.iload_n 1, 1) := by decide +kernel
theorem dX0_giveBowls_44 : decode cX0_giveBowls 44 = .ok (.ifCond .ne 7, 3) := by decide +kernel
theorem dX0_giveBowls_47 : decode cX0_giveBowls 47 = .ok (.iconst 1, 1) := by decide +kernel
theorem dX0_giveBowls_48 : decode cX0_giveBowls 48 = .ok (.goto 4, 3) := by decide +kernel
theorem dX0_giveBowls_51 : decode cX0_giveBowls 51 = .ok (.iconst 0, 1) := by decide +kernel
theorem dX0_giveBowls_52 : decode cX0_giveBowls 52 = .ok (.bastore, 1) := by decide +kernel
theorem dX0_giveBowls_53 : decode cX0_giveBowls 53 = .ok (.iload_n 1, 1) := by decide +kernel
theorem dX0_giveBowls_54 : decode cX0_giveBowls 54 = .ok (.ifCond .ne 16, 3) := by decide +kernel
theorem dX0_giveBowls_57 : decode cX0_giveBowls 57 = .ok (.aload_n 0, 1) := by decide +kernel
theorem dX0_giveBowls_58 : decode cX0_giveBowls 58 = .ok (.getfield 37, 3) := by decide +kernel
theorem dX0_giveBowls_61 : decode cX0_giveBowls 61 = .ok (.iload_n 3, 1) := by decide +kernel
theorem dX0_giveBowls_62 : decode cX0_giveBowls 62 = .ok (.dup2, 1) := by decide +kernel
theorem dX0_giveBowls_63 : decode cX0_giveBowls 63 = .ok (.iaload, 1) := by decide +kernel
theorem dX0_giveBowls_64 : decode cX0_giveBowls 64 = .ok (.iconst 1, 1) := by decide +kernel
theorem dX0_giveBowls_65 : decode cX0_giveBowls 65 = .ok (.iadd, 1) := by decide +kernel
theorem dX0_giveBowls_66 : decode cX0_giveBowls 66 = .ok (.iastore, 1) := by decide +kernel
theorem dX0_giveBowls_67 : decode cX0_giveBowls 67 = .ok (.goto 6, 3) := by decide +kernel
theorem dX0_giveBowls_70 : decode cX0_giveBowls 70 = .ok (.iinc 1 (-1), 3) := by decide +kernel
theorem dX0_giveBowls_73 : decode cX0_giveBowls 73 = .ok (.iinc 3 1, 3) := by decide +kernel
theorem dX0_giveBowls_76 : decode cX0_giveBowls 76 = .ok (.goto (-59), 3) := by decide +kernel
theorem dX0_giveBowls_79 : decode cX0_giveBowls 79 = .ok (.iinc 2 1, 3) := by decide +kernel
theorem dX0_giveBowls_82 : decode cX0_giveBowls 82 = .ok (.goto (-75), 3) := by decide +kernel
theorem dX0_giveBowls_85 : decode cX0_giveBowls 85 = .ok (.aload_n 0, 1) := by decide +kernel
theorem dX0_giveBowls_86 : decode cX0_giveBowls 86 = .ok (.dup, 1) := by decide +kernel
theorem dX0_giveBowls_87 : decode cX0_giveBowls 87 = .ok (.getfield 50, 3) := by decide +kernel
theorem dX0_giveBowls_90 : decode cX0_giveBowls 90 = .ok (.aload_n 0, 1) := by decide +kernel
theorem dX0_giveBowls_91 : decode cX0_giveBowls 91 = .ok (.getfield 9, 3) := by decide +kernel
theorem dX0_giveBowls_94 : decode cX0_giveBowls 94 = .ok (.iload_n 1, 1) := by decide +kernel
theorem dX0_giveBowls_95 : decode cX0_giveBowls 95 = .ok (.isub, 1) := by decide +kernel
theorem dX0_giveBowls_96 : decode cX0_giveBowls 96 = .ok (.iadd, 1) := by decide +kernel
theorem dX0_giveBowls_97 : decode cX0_giveBowls 97 = .ok (.putfield 50, 3) := by decide +kernel
theorem dX0_giveBowls_100 : decode cX0_giveBowls 100 = .ok (.return_, 1) := by decide +kernel
set_option maxRecDepth 20000 in
theorem ggX0_changeFeversInWards_X0_isAt : GoodIn wsX0_changeFeversInWards wsX0_isAt := goodIn_r _ [14, 15, 16, 24, 25, 26, 27, 28, 29, 30, 31, 32, 33, 34, 35, 36, 37, 38, 39] (by decide +kernel) (by decide +kernel)
set_option maxRecDepth 20000 in
theorem gX0_changeFeversInWards_X0_isAt : GoodIn wsX0_changeFeversInWards (wsV RX0 72 RX0 yX0_isAt wsX0_isAt) := goodIn_app (goodIn_of _ (by decide +kernel)) ggX0_changeFeversInWards_X0_isAt
set_option maxRecDepth 20000 in
theorem ggX0_changeFeversInWards_X0_raiseFever : GoodIn wsX0_changeFeversInWards wsX0_raiseFever := goodIn_r _ [20, 5, 21, 22, 8, 23, 24, 25, 26, 27, 28, 29, 30, 31, 32, 33, 34, 35, 36, 37, 38, 39] (by decide +kernel) (by decide +kernel)
set_option maxRecDepth 20000 in
theorem gX0_changeFeversInWards_X0_raiseFever : GoodIn wsX0_changeFeversInWards (wsV RX0 103 RX0 yX0_raiseFever wsX0_raiseFever) := goodIn_app (goodIn_of _ (by decide +kernel)) ggX0_changeFeversInWards_X0_raiseFever
theorem dX0_changeFeversInWards_0 : decode cX0_changeFeversInWards 0 = .ok (.iconst 0, 1) := by decide +kernel
theorem dX0_changeFeversInWards_1 : decode cX0_changeFeversInWards 1 = .ok (.istore_n 1, 1) := by decide +kernel
theorem dX0_changeFeversInWards_2 : decode cX0_changeFeversInWards 2 = .ok (.iload_n 1, 1) := by decide +kernel
theorem dX0_changeFeversInWards_3 : decode cX0_changeFeversInWards 3 = .ok (.aload_n 0, 1) := by decide +kernel
theorem dX0_changeFeversInWards_4 : decode cX0_changeFeversInWards 4 = .ok (.getfield 53, 3) := by decide +kernel
theorem dX0_changeFeversInWards_7 : decode cX0_changeFeversInWards 7 = .ok (.if_icmp .ge 93, 3) := by decide +kernel
theorem dX0_changeFeversInWards_10 : decode cX0_changeFeversInWards 10 = .ok (.aload_n 0, 1) := by decide +kernel
theorem dX0_changeFeversInWards_11 : decode cX0_changeFeversInWards 11 = .ok (.getfield 19, 3) := by decide +kernel
theorem dX0_changeFeversInWards_14 : decode cX0_changeFeversInWards 14 = .ok (.iload_n 1, 1) := by decide +kernel
theorem dX0_changeFeversInWards_15 : decode cX0_changeFeversInWards 15 = .ok (.iaload, 1) := by decide +kernel
theorem dX0_changeFeversInWards_16 : decode cX0_changeFeversInWards 16 = .ok (.iconst 5, 1) := by decide +kernel
theorem dX0_changeFeversInWards_17 : decode cX0_changeFeversInWards 17 = .ok (.if_icmp .lt 7, 3) := by decide +kernel
theorem dX0_changeFeversInWards_20 : decode cX0_changeFeversInWards 20 = .ok (.iconst 1, 1) := by decide +kernel
theorem dX0_changeFeversInWards_21 : decode cX0_changeFeversInWards 21 = .ok (.goto 4, 3) := by decide +kernel
theorem dX0_changeFeversInWards_24 : decode cX0_changeFeversInWards 24 = .ok (.iconst 0, 1) := by decide +kernel
theorem dX0_changeFeversInWards_25 : decode cX0_changeFeversInWards 25 = .ok (.istore_n 2, 1) := by decide +kernel
theorem dX0_changeFeversInWards_26 : decode cX0_changeFeversInWards 26 = .ok (.iconst 0, 1) := by decide +kernel
theorem dX0_changeFeversInWards_27 : decode cX0_changeFeversInWards 27 = .ok (.istore_n 3, 1) := by decide +kernel
theorem dX0_changeFeversInWards_28 : decode cX0_changeFeversInWards 28 = .ok (.iload_n 3, 1) := by decide +kernel
theorem dX0_changeFeversInWards_29 : decode cX0_changeFeversInWards 29 = .ok (.aload_n 0, 1) := by decide +kernel
theorem dX0_changeFeversInWards_30 : decode cX0_changeFeversInWards 30 = .ok (.getfield 59, 3) := by decide +kernel
theorem dX0_changeFeversInWards_33 : decode cX0_changeFeversInWards 33 = .ok (.if_icmp .ge 61, 3) := by decide +kernel
theorem dX0_changeFeversInWards_36 : decode cX0_changeFeversInWards 36 = .ok (.aload_n 0, 1) := by decide +kernel
theorem dX0_changeFeversInWards_37 : decode cX0_changeFeversInWards 37 = .ok (.iload_n 3, 1) := by decide +kernel
theorem dX0_changeFeversInWards_38 : decode cX0_changeFeversInWards 38 = .ok (.iconst 1, 1) := by decide +kernel
theorem dX0_changeFeversInWards_39 : decode cX0_changeFeversInWards 39 = .ok (.iload_n 1, 1) := by decide +kernel
theorem dX0_changeFeversInWards_40 : decode cX0_changeFeversInWards 40 = .ok (.invokevirtual 72, 3) := by decide +kernel
theorem dX0_changeFeversInWards_43 : decode cX0_changeFeversInWards 43 = .ok (.ifCond .ne 6, 3) := by decide +kernel
theorem dX0_changeFeversInWards_46 : decode cX0_changeFeversInWards 46 = .ok (.goto 42, 3) := by decide +kernel
theorem dX0_changeFeversInWards_49 : decode cX0_changeFeversInWards 49 = .ok (.iload_n 2, 1) := by decide +kernel
theorem dX0_changeFeversInWards_50 : decode cX0_changeFeversInWards 50 = .ok (.ifCond .ne 12, 3) := by decide +kernel
theorem dX0_changeFeversInWards_53 : decode cX0_changeFeversInWards 53 = .ok (.aload_n 0, 1) := by decide +kernel
theorem dX0_changeFeversInWards_54 : decode cX0_changeFeversInWards 54 = .ok (.getfield 40, 3) := by decide +kernel
theorem dX0_changeFeversInWards_57 : decode cX0_changeFeversInWards 57 = .ok (.iload_n 3, 1) := by decide +kernel
theorem dX0_changeFeversInWards_58 : decode cX0_changeFeversInWards 58 = .ok (.baload, 1) := by decide +kernel
theorem dX0_changeFeversInWards_59 : decode cX0_changeFeversInWards 59 = .ok (.ifCond .eq 11, 3) := by decide +kernel
theorem dX0_changeFeversInWards_62 : decode cX0_changeFeversInWards 62 = .ok (.aload_n 0, 1) := by decide +kernel
theorem dX0_changeFeversInWards_63 : decode cX0_changeFeversInWards 63 = .ok (.iload_n 3, 1) := by decide +kernel
theorem dX0_changeFeversInWards_64 : decode cX0_changeFeversInWards 64 = .ok (.invokevirtual 103, 3) := by decide +kernel
theorem dX0_changeFeversInWards_67 : decode cX0_changeFeversInWards 67 = .ok (.goto 21, 3) := by decide +kernel
theorem dX0_changeFeversInWards_70 : decode cX0_changeFeversInWards 70 = .ok (.aload_n 0, 1) := by decide +kernel
theorem dX0_changeFeversInWards_71 : decode cX0_changeFeversInWards 71 = .ok (.getfield 28, 3) := by decide +kernel
theorem dX0_changeFeversInWards_74 : decode cX0_changeFeversInWards 74 = .ok (.iload_n 3, 1) := by decide +kernel
theorem dX0_changeFeversInWards_75 : decode cX0_changeFeversInWards 75 = .ok (.iconst 0, 1) := by decide +kernel
theorem dX0_changeFeversInWards_76 : decode cX0_changeFeversInWards 76 = .ok (.aload_n 0, 1) := by decide +kernel
theorem dX0_changeFeversInWards_77 : decode cX0_changeFeversInWards 77 = .ok (.getfield 28, 3) := by decide +kernel
theorem dX0_changeFeversInWards_80 : decode cX0_changeFeversInWards 80 = .ok (.iload_n 3, 1) := by decide +kernel
theorem dX0_changeFeversInWards_81 : decode cX0_changeFeversInWards 81 = .ok (.iaload, 1) := by decide +kernel
theorem dX0_changeFeversInWards_82 : decode cX0_changeFeversInWards 82 = .ok (.iconst 1, 1) := by decide +kernel
theorem dX0_changeFeversInWards_83 : decode cX0_changeFeversInWards 83 = .ok (.isub, 1) := by decide +kernel
theorem dX0_changeFeversInWards_84 : decode cX0_changeFeversInWards 84 = .ok (.invokestatic 80, 3) := by decide +kernel
theorem dX0_changeFeversInWards_87 : decode cX0_changeFeversInWards 87 = .ok (.iastore, 1) := by decide +kernel
theorem dX0_changeFeversInWards_88 : decode cX0_changeFeversInWards 88 = .ok (.iinc 3 1, 3) := by decide +kernel
theorem dX0_changeFeversInWards_91 : decode cX0_changeFeversInWards 91 = .ok (.goto (-63), 3) := by decide +kernel
theorem dX0_changeFeversInWards_94 : decode cX0_changeFeversInWards 94 = .ok (.iinc 1 1, 3) := by decide +kernel
theorem dX0_changeFeversInWards_97 : decode cX0_changeFeversInWards 97 = .ok (.goto (-95), 3) := by decide +kernel
theorem dX0_changeFeversInWards_100 : decode cX0_changeFeversInWards 100 = .ok (.return_, 1) := by decide +kernel
theorem dX0_raiseFever_0 : decode cX0_raiseFever 0 = .ok (.aload_n 0, 1) := by decide +kernel
theorem dX0_raiseFever_1 : decode cX0_raiseFever 1 = .ok (.getfield 28, 3) := by decide +kernel
theorem dX0_raiseFever_4 : decode cX0_raiseFever 4 = .ok (.iload_n 1, 1) := by decide +kernel
theorem dX0_raiseFever_5 : decode cX0_raiseFever 5 = .ok (.bipush 10, 2) := by decide +kernel
theorem dX0_raiseFever_7 : decode cX0_raiseFever 7 = .ok (.aload_n 0, 1) := by decide +kernel
theorem dX0_raiseFever_8 : decode cX0_raiseFever 8 = .ok (.getfield 28, 3) := by decide +kernel
theorem dX0_raiseFever_11 : decode cX0_raiseFever 11 = .ok (.iload_n 1, 1) := by decide +kernel
theorem dX0_raiseFever_12 : decode cX0_raiseFever 12 = .ok (.iaload, 1) := by decide +kernel
theorem dX0_raiseFever_13 : decode cX0_raiseFever 13 = .ok (.iconst 1, 1) := by decide +kernel
theorem dX0_raiseFever_14 : decode cX0_raiseFever 14 = .ok (.iadd, 1) := by decide +kernel
theorem dX0_raiseFever_15 : decode cX0_raiseFever 15 = .ok (.invokestatic 107, 3) := by decide +kernel
theorem dX0_raiseFever_18 : decode cX0_raiseFever 18 = .ok (.iastore, 1) := by decide +kernel
theorem dX0_raiseFever_19 : decode cX0_raiseFever 19 = .ok (.return_, 1) := by decide +kernel
set_option maxRecDepth 20000 in
theorem ggX0_bringBargesNearer_X0_spreadFever : GoodIn wsX0_bringBargesNearer wsX0_spreadFever := goodIn_r _ [7, 8, 9, 10, 11, 12, 6, 13, 14, 15, 16, 17, 18, 19, 20, 21, 22, 23, 24, 25, 26, 27, 28, 29, 30, 31, 32, 33, 34, 35, 36, 37, 38, 39, 40, 41, 42, 43] (by decide +kernel) (by decide +kernel)
set_option maxRecDepth 20000 in
theorem gX0_bringBargesNearer_X0_spreadFever : GoodIn wsX0_bringBargesNearer (wsV RX0 110 RX0 yX0_spreadFever wsX0_spreadFever) := goodIn_app (goodIn_of _ (by decide +kernel)) ggX0_bringBargesNearer_X0_spreadFever
theorem dX0_bringBargesNearer_0 : decode cX0_bringBargesNearer 0 = .ok (.iconst 0, 1) := by decide +kernel
theorem dX0_bringBargesNearer_1 : decode cX0_bringBargesNearer 1 = .ok (.istore_n 1, 1) := by decide +kernel
theorem dX0_bringBargesNearer_2 : decode cX0_bringBargesNearer 2 = .ok (.iload_n 1, 1) := by decide +kernel
theorem dX0_bringBargesNearer_3 : decode cX0_bringBargesNearer 3 = .ok (.aload_n 0, 1) := by decide +kernel
theorem dX0_bringBargesNearer_4 : decode cX0_bringBargesNearer 4 = .ok (.getfield 56, 3) := by decide +kernel
theorem dX0_bringBargesNearer_7 : decode cX0_bringBargesNearer 7 = .ok (.if_icmp .ge 42, 3) := by decide +kernel
theorem dX0_bringBargesNearer_10 : decode cX0_bringBargesNearer 10 = .ok (.aload_n 0, 1) := by decide +kernel
theorem dX0_bringBargesNearer_11 : decode cX0_bringBargesNearer 11 = .ok (.getfield 25, 3) := by decide +kernel
theorem dX0_bringBargesNearer_14 : decode cX0_bringBargesNearer 14 = .ok (.iload_n 1, 1) := by decide +kernel
theorem dX0_bringBargesNearer_15 : decode cX0_bringBargesNearer 15 = .ok (.iaload, 1) := by decide +kernel
theorem dX0_bringBargesNearer_16 : decode cX0_bringBargesNearer 16 = .ok (.ifCond .le 27, 3) := by decide +kernel
theorem dX0_bringBargesNearer_19 : decode cX0_bringBargesNearer 19 = .ok (.aload_n 0, 1) := by decide +kernel
theorem dX0_bringBargesNearer_20 : decode cX0_bringBargesNearer 20 = .ok (.getfield 25, 3) := by decide +kernel
theorem dX0_bringBargesNearer_23 : decode cX0_bringBargesNearer 23 = .ok (.iload_n 1, 1) := by decide +kernel
theorem dX0_bringBargesNearer_24 : decode cX0_bringBargesNearer 24 = .ok (.dup2, 1) := by decide +kernel
theorem dX0_bringBargesNearer_25 : decode cX0_bringBargesNearer 25 = .ok (.iaload, 1) := by decide +kernel
theorem dX0_bringBargesNearer_26 : decode cX0_bringBargesNearer 26 = .ok (.iconst 1, 1) := by decide +kernel
theorem dX0_bringBargesNearer_27 : decode cX0_bringBargesNearer 27 = .ok (.isub, 1) := by decide +kernel
theorem dX0_bringBargesNearer_28 : decode cX0_bringBargesNearer 28 = .ok (.iastore, 1) := by decide +kernel
theorem dX0_bringBargesNearer_29 : decode cX0_bringBargesNearer 29 = .ok (.aload_n 0, 1) := by decide +kernel
theorem dX0_bringBargesNearer_30 : decode cX0_bringBargesNearer 30 = .ok (.getfield 25, 3) := by decide +kernel
theorem dX0_bringBargesNearer_33 : decode cX0_bringBargesNearer 33 = .ok (.iload_n 1, 1) := by decide +kernel
theorem dX0_bringBargesNearer_34 : decode cX0_bringBargesNearer 34 = .ok (.iaload, 1) := by decide +kernel
theorem dX0_bringBargesNearer_35 : decode cX0_bringBargesNearer 35 = .ok (.ifCond .le 8, 3) := by decide +kernel
theorem dX0_bringBargesNearer_38 : decode cX0_bringBargesNearer 38 = .ok (.aload_n 0, 1) := by decide +kernel
theorem dX0_bringBargesNearer_39 : decode cX0_bringBargesNearer 39 = .ok (.iload_n 1, 1) := by decide +kernel
theorem dX0_bringBargesNearer_40 : decode cX0_bringBargesNearer 40 = .ok (.invokevirtual 110, 3) := by decide +kernel
theorem dX0_bringBargesNearer_43 : decode cX0_bringBargesNearer 43 = .ok (.iinc 1 1, 3) := by decide +kernel
theorem dX0_bringBargesNearer_46 : decode cX0_bringBargesNearer 46 = .ok (.goto (-44), 3) := by decide +kernel
theorem dX0_bringBargesNearer_49 : decode cX0_bringBargesNearer 49 = .ok (.return_, 1) := by decide +kernel
set_option maxRecDepth 20000 in
theorem ggX0_spreadFever_X0_countFeverish : GoodIn wsX0_spreadFever wsX0_countFeverish := goodIn_r _ [7, 1, 2, 8, 9, 10, 6, 11, 12, 13, 22, 23, 24, 25, 26, 27, 28, 29, 30, 31, 32, 33, 34, 35, 36, 37] (by decide +kernel) (by decide +kernel)
set_option maxRecDepth 20000 in
theorem gX0_spreadFever_X0_countFeverish : GoodIn wsX0_spreadFever (wsV RX0 113 RX0 yX0_countFeverish wsX0_countFeverish) := goodIn_app (goodIn_of _ (by decide +kernel)) ggX0_spreadFever_X0_countFeverish
set_option maxRecDepth 20000 in
theorem ggX0_spreadFever_X0_isAt : GoodIn wsX0_spreadFever wsX0_isAt := goodIn_r _ [11, 12, 13, 22, 23, 24, 25, 26, 27, 28, 29, 30, 31, 32, 33, 34, 35, 36, 37] (by decide +kernel) (by decide +kernel)
set_option maxRecDepth 20000 in
theorem gX0_spreadFever_X0_isAt : GoodIn wsX0_spreadFever (wsV RX0 72 RX0 yX0_isAt wsX0_isAt) := goodIn_app (goodIn_of _ (by decide +kernel)) ggX0_spreadFever_X0_isAt
set_option maxRecDepth 20000 in
theorem ggX0_spreadFever_X0_raiseFever : GoodIn wsX0_spreadFever wsX0_raiseFever := goodIn_r _ [17, 2, 18, 19, 20, 21, 22, 23, 24, 25, 26, 27, 28, 29, 30, 31, 32, 33, 34, 35, 36, 37] (by decide +kernel) (by decide +kernel)
set_option maxRecDepth 20000 in
theorem gX0_spreadFever_X0_raiseFever : GoodIn wsX0_spreadFever (wsV RX0 103 RX0 yX0_raiseFever wsX0_raiseFever) := goodIn_app (goodIn_of _ (by decide +kernel)) ggX0_spreadFever_X0_raiseFever
theorem dX0_spreadFever_0 : decode cX0_spreadFever 0 = .ok (.aload_n 0, 1) := by decide +kernel
theorem dX0_spreadFever_1 : decode cX0_spreadFever 1 = .ok (.iload_n 1, 1) := by decide +kernel
theorem dX0_spreadFever_2 : decode cX0_spreadFever 2 = .ok (.invokevirtual 113, 3) := by decide +kernel
theorem dX0_spreadFever_5 : decode cX0_spreadFever 5 = .ok (.istore_n 2, 1) := by decide +kernel
theorem dX0_spreadFever_6 : decode cX0_spreadFever 6 = .ok (.iconst 0, 1) := by decide +kernel
theorem dX0_spreadFever_7 : decode cX0_spreadFever 7 = .ok (.istore_n 3, 1) := by decide +kernel
theorem dX0_spreadFever_8 : decode cX0_spreadFever 8 = .ok (.iload_n 3, 1) := by decide +kernel
theorem dX0_spreadFever_9 : decode cX0_spreadFever 9 = .ok (.aload_n 0, 1) := by decide +kernel
theorem dX0_spreadFever_10 : decode cX0_spreadFever 10 = .ok (.getfield 59, 3) := by decide +kernel
theorem dX0_spreadFever_13 : decode cX0_spreadFever 13 = .ok (.if_icmp .ge 50, 3) := by decide +kernel
theorem dX0_spreadFever_16 : decode cX0_spreadFever 16 = .ok (.aload_n 0, 1) := by decide +kernel
theorem dX0_spreadFever_17 : decode cX0_spreadFever 17 = .ok (.iload_n 3, 1) := by decide +kernel
theorem dX0_spreadFever_18 : decode cX0_spreadFever 18 = .ok (.iconst 0, 1) := by decide +kernel
theorem dX0_spreadFever_19 : decode cX0_spreadFever 19 = .ok (.iload_n 1, 1) := by decide +kernel
theorem dX0_spreadFever_20 : decode cX0_spreadFever 20 = .ok (.invokevirtual 72, 3) := by decide +kernel
theorem dX0_spreadFever_23 : decode cX0_spreadFever 23 = .ok (.ifCond .ne 6, 3) := by decide +kernel
theorem dX0_spreadFever_26 : decode cX0_spreadFever 26 = .ok (.goto 31, 3) := by decide +kernel
theorem dX0_spreadFever_29 : decode cX0_spreadFever 29 = .ok (.aload_n 0, 1) := by decide +kernel
theorem dX0_spreadFever_30 : decode cX0_spreadFever 30 = .ok (.getfield 28, 3) := by decide +kernel
theorem dX0_spreadFever_33 : decode cX0_spreadFever 33 = .ok (.iload_n 3, 1) := by decide +kernel
theorem dX0_spreadFever_34 : decode cX0_spreadFever 34 = .ok (.iaload, 1) := by decide +kernel
theorem dX0_spreadFever_35 : decode cX0_spreadFever 35 = .ok (.ifCond .le 9, 3) := by decide +kernel
theorem dX0_spreadFever_38 : decode cX0_spreadFever 38 = .ok (.iload_n 2, 1) := by decide +kernel
theorem dX0_spreadFever_39 : decode cX0_spreadFever 39 = .ok (.iconst 1, 1) := by decide +kernel
theorem dX0_spreadFever_40 : decode cX0_spreadFever 40 = .ok (.isub, 1) := by decide +kernel
theorem dX0_spreadFever_41 : decode cX0_spreadFever 41 = .ok (.goto 4, 3) := by decide +kernel
theorem dX0_spreadFever_44 : decode cX0_spreadFever 44 = .ok (.iload_n 2, 1) := by decide +kernel
theorem dX0_spreadFever_45 : decode cX0_spreadFever 45 = .ok (.istore 4, 2) := by decide +kernel
theorem dX0_spreadFever_47 : decode cX0_spreadFever 47 = .ok (.iload 4, 2) := by decide +kernel
theorem dX0_spreadFever_49 : decode cX0_spreadFever 49 = .ok (.ifCond .le 8, 3) := by decide +kernel
theorem dX0_spreadFever_52 : decode cX0_spreadFever 52 = .ok (.aload_n 0, 1) := by decide +kernel
theorem dX0_spreadFever_53 : decode cX0_spreadFever 53 = .ok (.iload_n 3, 1) := by decide +kernel
theorem dX0_spreadFever_54 : decode cX0_spreadFever 54 = .ok (.invokevirtual 103, 3) := by decide +kernel
theorem dX0_spreadFever_57 : decode cX0_spreadFever 57 = .ok (.iinc 3 1, 3) := by decide +kernel
theorem dX0_spreadFever_60 : decode cX0_spreadFever 60 = .ok (.goto (-52), 3) := by decide +kernel
theorem dX0_spreadFever_63 : decode cX0_spreadFever 63 = .ok (.return_, 1) := by decide +kernel
set_option maxRecDepth 20000 in
theorem ggX0_countFeverish_X0_isAt : GoodIn wsX0_countFeverish wsX0_isAt := goodIn_r _ [7, 8, 9, 10, 11, 12, 13, 14, 15, 16, 17, 18, 19, 20, 21, 22, 23, 24, 25] (by decide +kernel) (by decide +kernel)
set_option maxRecDepth 20000 in
theorem gX0_countFeverish_X0_isAt : GoodIn wsX0_countFeverish (wsV RX0 72 RX0 yX0_isAt wsX0_isAt) := goodIn_app (goodIn_of _ (by decide +kernel)) ggX0_countFeverish_X0_isAt
theorem dX0_countFeverish_0 : decode cX0_countFeverish 0 = .ok (.iconst 0, 1) := by decide +kernel
theorem dX0_countFeverish_1 : decode cX0_countFeverish 1 = .ok (.istore_n 2, 1) := by decide +kernel
theorem dX0_countFeverish_2 : decode cX0_countFeverish 2 = .ok (.iconst 0, 1) := by decide +kernel
theorem dX0_countFeverish_3 : decode cX0_countFeverish 3 = .ok (.istore_n 3, 1) := by decide +kernel
theorem dX0_countFeverish_4 : decode cX0_countFeverish 4 = .ok (.iload_n 3, 1) := by decide +kernel
theorem dX0_countFeverish_5 : decode cX0_countFeverish 5 = .ok (.aload_n 0, 1) := by decide +kernel
theorem dX0_countFeverish_6 : decode cX0_countFeverish 6 = .ok (.getfield 59, 3) := by decide +kernel
theorem dX0_countFeverish_9 : decode cX0_countFeverish 9 = .ok (.if_icmp .ge 31, 3) := by decide +kernel
theorem dX0_countFeverish_12 : decode cX0_countFeverish 12 = .ok (.aload_n 0, 1) := by decide +kernel
theorem dX0_countFeverish_13 : decode cX0_countFeverish 13 = .ok (.iload_n 3, 1) := by decide +kernel
theorem dX0_countFeverish_14 : decode cX0_countFeverish 14 = .ok (.iconst 0, 1) := by decide +kernel
theorem dX0_countFeverish_15 : decode cX0_countFeverish 15 = .ok (.iload_n 1, 1) := by decide +kernel
theorem dX0_countFeverish_16 : decode cX0_countFeverish 16 = .ok (.invokevirtual 72, 3) := by decide +kernel
theorem dX0_countFeverish_19 : decode cX0_countFeverish 19 = .ok (.ifCond .eq 15, 3) := by decide +kernel
theorem dX0_countFeverish_22 : decode cX0_countFeverish 22 = .ok (.aload_n 0, 1) := by decide +kernel
theorem dX0_countFeverish_23 : decode cX0_countFeverish 23 = .ok (.getfield 28, 3) := by decide +kernel
theorem dX0_countFeverish_26 : decode cX0_countFeverish 26 = .ok (.iload_n 3, 1) := by decide +kernel
theorem dX0_countFeverish_27 : decode cX0_countFeverish 27 = .ok (.iaload, 1) := by decide +kernel
theorem dX0_countFeverish_28 : decode cX0_countFeverish 28 = .ok (.ifCond .le 6, 3) := by decide +kernel
theorem dX0_countFeverish_31 : decode cX0_countFeverish 31 = .ok (.iinc 2 1, 3) := by decide +kernel
theorem dX0_countFeverish_34 : decode cX0_countFeverish 34 = .ok (.iinc 3 1, 3) := by decide +kernel
theorem dX0_countFeverish_37 : decode cX0_countFeverish 37 = .ok (.goto (-33), 3) := by decide +kernel
theorem dX0_countFeverish_40 : decode cX0_countFeverish 40 = .ok (.iload_n 2, 1) := by decide +kernel
theorem dX0_countFeverish_41 : decode cX0_countFeverish 41 = .ok (.ireturn, 1) := by decide +kernel
theorem dX0_ageStraw_0 : decode cX0_ageStraw 0 = .ok (.iconst 0, 1) := by decide +kernel
theorem dX0_ageStraw_1 : decode cX0_ageStraw 1 = .ok (.istore_n 1, 1) := by decide +kernel
theorem dX0_ageStraw_2 : decode cX0_ageStraw 2 = .ok (.iload_n 1, 1) := by decide +kernel
theorem dX0_ageStraw_3 : decode cX0_ageStraw 3 = .ok (.aload_n 0, 1) := by decide +kernel
theorem dX0_ageStraw_4 : decode cX0_ageStraw 4 = .ok (.getfield 53, 3) := by decide +kernel
theorem dX0_ageStraw_7 : decode cX0_ageStraw 7 = .ok (.if_icmp .ge 19, 3) := by decide +kernel
theorem dX0_ageStraw_10 : decode cX0_ageStraw 10 = .ok (.aload_n 0, 1) := by decide +kernel
theorem dX0_ageStraw_11 : decode cX0_ageStraw 11 = .ok (.getfield 19, 3) := by decide +kernel
theorem dX0_ageStraw_14 : decode cX0_ageStraw 14 = .ok (.iload_n 1, 1) := by decide +kernel
theorem dX0_ageStraw_15 : decode cX0_ageStraw 15 = .ok (.dup2, 1) := by decide +kernel
theorem dX0_ageStraw_16 : decode cX0_ageStraw 16 = .ok (.iaload, 1) := by decide +kernel
theorem dX0_ageStraw_17 : decode cX0_ageStraw 17 = .ok (.iconst 1, 1) := by decide +kernel
theorem dX0_ageStraw_18 : decode cX0_ageStraw 18 = .ok (.iadd, 1) := by decide +kernel
theorem dX0_ageStraw_19 : decode cX0_ageStraw 19 = .ok (.iastore, 1) := by decide +kernel
theorem dX0_ageStraw_20 : decode cX0_ageStraw 20 = .ok (.iinc 1 1, 3) := by decide +kernel
theorem dX0_ageStraw_23 : decode cX0_ageStraw 23 = .ok (.goto (-21), 3) := by decide +kernel
theorem dX0_ageStraw_26 : decode cX0_ageStraw 26 = .ok (.return_, 1) := by decide +kernel
set_option maxRecDepth 20000 in
theorem ggX0_leaveWards_X0_move : GoodIn wsX0_leaveWards wsX0_move := goodIn_r _ [8, 2, 9, 10, 11, 12, 13, 14, 15, 16, 17, 18, 19, 20, 21, 22, 23, 24, 25] (by decide +kernel) (by decide +kernel)
set_option maxRecDepth 20000 in
theorem gX0_leaveWards_X0_move : GoodIn wsX0_leaveWards (wsV RX0 68 RX0 yX0_move wsX0_move) := goodIn_app (goodIn_of _ (by decide +kernel)) ggX0_leaveWards_X0_move
theorem dX0_leaveWards_0 : decode cX0_leaveWards 0 = .ok (.iconst 0, 1) := by decide +kernel
theorem dX0_leaveWards_1 : decode cX0_leaveWards 1 = .ok (.istore_n 1, 1) := by decide +kernel
theorem dX0_leaveWards_2 : decode cX0_leaveWards 2 = .ok (.iload_n 1, 1) := by decide +kernel
theorem dX0_leaveWards_3 : decode cX0_leaveWards 3 = .ok (.aload_n 0, 1) := by decide +kernel
theorem dX0_leaveWards_4 : decode cX0_leaveWards 4 = .ok (.getfield 59, 3) := by decide +kernel
theorem dX0_leaveWards_7 : decode cX0_leaveWards 7 = .ok (.if_icmp .ge 59, 3) := by decide +kernel
theorem dX0_leaveWards_10 : decode cX0_leaveWards 10 = .ok (.aload_n 0, 1) := by decide +kernel
theorem dX0_leaveWards_11 : decode cX0_leaveWards 11 = .ok (.getfield 31, 3) := by decide +kernel
theorem dX0_leaveWards_14 : decode cX0_leaveWards 14 = .ok (.iload_n 1, 1) := by decide +kernel
theorem dX0_leaveWards_15 : decode cX0_leaveWards 15 = .ok (.iaload, 1) := by decide +kernel
theorem dX0_leaveWards_16 : decode cX0_leaveWards 16 = .ok (.iconst 1, 1) := by decide +kernel
theorem dX0_leaveWards_17 : decode cX0_leaveWards 17 = .ok (.if_icmp .eq 6, 3) := by decide +kernel
theorem dX0_leaveWards_20 : decode cX0_leaveWards 20 = .ok (.goto 40, 3) := by decide +kernel
theorem dX0_leaveWards_23 : decode cX0_leaveWards 23 = .ok (.aload_n 0, 1) := by decide +kernel
theorem dX0_leaveWards_24 : decode cX0_leaveWards 24 = .ok (.getfield 28, 3) := by decide +kernel
theorem dX0_leaveWards_27 : decode cX0_leaveWards 27 = .ok (.iload_n 1, 1) := by decide +kernel
theorem dX0_leaveWards_28 : decode cX0_leaveWards 28 = .ok (.iaload, 1) := by decide +kernel
theorem dX0_leaveWards_29 : decode cX0_leaveWards 29 = .ok (.ifCond .ne 13, 3) := by decide +kernel
theorem dX0_leaveWards_32 : decode cX0_leaveWards 32 = .ok (.aload_n 0, 1) := by decide +kernel
theorem dX0_leaveWards_33 : decode cX0_leaveWards 33 = .ok (.iload_n 1, 1) := by decide +kernel
theorem dX0_leaveWards_34 : decode cX0_leaveWards 34 = .ok (.iconst 2, 1) := by decide +kernel
theorem dX0_leaveWards_35 : decode cX0_leaveWards 35 = .ok (.iconst (-1), 1) := by decide +kernel
theorem dX0_leaveWards_36 : decode cX0_leaveWards 36 = .ok (.invokevirtual 68, 3) := by decide +kernel
theorem dX0_leaveWards_39 : decode cX0_leaveWards 39 = .ok (.goto 21, 3) := by decide +kernel
theorem dX0_leaveWards_42 : decode cX0_leaveWards 42 = .ok (.aload_n 0, 1) := by decide +kernel
theorem dX0_leaveWards_43 : decode cX0_leaveWards 43 = .ok (.getfield 28, 3) := by decide +kernel
theorem dX0_leaveWards_46 : decode cX0_leaveWards 46 = .ok (.iload_n 1, 1) := by decide +kernel
theorem dX0_leaveWards_47 : decode cX0_leaveWards 47 = .ok (.iaload, 1) := by decide +kernel
theorem dX0_leaveWards_48 : decode cX0_leaveWards 48 = .ok (.bipush 10, 2) := by decide +kernel
theorem dX0_leaveWards_50 : decode cX0_leaveWards 50 = .ok (.if_icmp .ne 10, 3) := by decide +kernel
theorem dX0_leaveWards_53 : decode cX0_leaveWards 53 = .ok (.aload_n 0, 1) := by decide +kernel
theorem dX0_leaveWards_54 : decode cX0_leaveWards 54 = .ok (.iload_n 1, 1) := by decide +kernel
theorem dX0_leaveWards_55 : decode cX0_leaveWards 55 = .ok (.iconst 3, 1) := by decide +kernel
theorem dX0_leaveWards_56 : decode cX0_leaveWards 56 = .ok (.iconst (-1), 1) := by decide +kernel
theorem dX0_leaveWards_57 : decode cX0_leaveWards 57 = .ok (.invokevirtual 68, 3) := by decide +kernel
theorem dX0_leaveWards_60 : decode cX0_leaveWards 60 = .ok (.iinc 1 1, 3) := by decide +kernel
theorem dX0_leaveWards_63 : decode cX0_leaveWards 63 = .ok (.goto (-61), 3) := by decide +kernel
theorem dX0_leaveWards_66 : decode cX0_leaveWards 66 = .ok (.return_, 1) := by decide +kernel
set_option maxRecDepth 20000 in
theorem ggX0_landBarges_X0_freeIn : GoodIn wsX0_landBarges wsX0_freeIn := goodIn_r _ [10, 11, 12, 13, 14, 9, 15, 16, 17, 18, 19, 20, 21, 22, 36, 37, 38, 39, 40, 41, 42, 43, 44, 45, 46, 47, 48, 49, 50, 51] (by decide +kernel) (by decide +kernel)
set_option maxRecDepth 20000 in
theorem gX0_landBarges_X0_freeIn : GoodIn wsX0_landBarges (wsV RX0 117 RX0 yX0_freeIn wsX0_freeIn) := goodIn_app (goodIn_of _ (by decide +kernel)) ggX0_landBarges_X0_freeIn
set_option maxRecDepth 20000 in
theorem ggX0_landBarges_X0_landAll : GoodIn wsX0_landBarges wsX0_landAll := goodIn_r _ [26, 16, 27, 17, 18, 19, 9, 20, 21, 22, 28, 29, 30, 31, 32, 33, 34, 35, 1, 2, 36, 37, 38, 39, 40, 41, 42, 43, 44, 45, 46, 47, 48, 49, 50, 51] (by decide +kernel) (by decide +kernel)
set_option maxRecDepth 20000 in
theorem gX0_landBarges_X0_landAll : GoodIn wsX0_landBarges (wsV RX0 120 RX0 yX0_landAll wsX0_landAll) := goodIn_app (goodIn_of _ (by decide +kernel)) ggX0_landBarges_X0_landAll
theorem dX0_landBarges_0 : decode cX0_landBarges 0 = .ok (.iconst 0, 1) := by decide +kernel
theorem dX0_landBarges_1 : decode cX0_landBarges 1 = .ok (.istore_n 1, 1) := by decide +kernel
theorem dX0_landBarges_2 : decode cX0_landBarges 2 = .ok (.iload_n 1, 1) := by decide +kernel
theorem dX0_landBarges_3 : decode cX0_landBarges 3 = .ok (.aload_n 0, 1) := by decide +kernel
theorem dX0_landBarges_4 : decode cX0_landBarges 4 = .ok (.getfield 53, 3) := by decide +kernel
theorem dX0_landBarges_7 : decode cX0_landBarges 7 = .ok (.if_icmp .ge 20, 3) := by decide +kernel
theorem dX0_landBarges_10 : decode cX0_landBarges 10 = .ok (.aload_n 0, 1) := by decide +kernel
theorem dX0_landBarges_11 : decode cX0_landBarges 11 = .ok (.getfield 44, 3) := by decide +kernel
theorem dX0_landBarges_14 : decode cX0_landBarges 14 = .ok (.iload_n 1, 1) := by decide +kernel
theorem dX0_landBarges_15 : decode cX0_landBarges 15 = .ok (.aload_n 0, 1) := by decide +kernel
theorem dX0_landBarges_16 : decode cX0_landBarges 16 = .ok (.iload_n 1, 1) := by decide +kernel
theorem dX0_landBarges_17 : decode cX0_landBarges 17 = .ok (.invokevirtual 117, 3) := by decide +kernel
theorem dX0_landBarges_20 : decode cX0_landBarges 20 = .ok (.iastore, 1) := by decide +kernel
theorem dX0_landBarges_21 : decode cX0_landBarges 21 = .ok (.iinc 1 1, 3) := by decide +kernel
theorem dX0_landBarges_24 : decode cX0_landBarges 24 = .ok (.goto (-22), 3) := by decide +kernel
theorem dX0_landBarges_27 : decode cX0_landBarges 27 = .ok (.iconst 0, 1) := by decide +kernel
theorem dX0_landBarges_28 : decode cX0_landBarges 28 = .ok (.istore_n 1, 1) := by decide +kernel
theorem dX0_landBarges_29 : decode cX0_landBarges 29 = .ok (.iload_n 1, 1) := by decide +kernel
theorem dX0_landBarges_30 : decode cX0_landBarges 30 = .ok (.aload_n 0, 1) := by decide +kernel
theorem dX0_landBarges_31 : decode cX0_landBarges 31 = .ok (.getfield 56, 3) := by decide +kernel
theorem dX0_landBarges_34 : decode cX0_landBarges 34 = .ok (.if_icmp .ge 38, 3) := by decide +kernel
theorem dX0_landBarges_37 : decode cX0_landBarges 37 = .ok (.aload_n 0, 1) := by decide +kernel
theorem dX0_landBarges_38 : decode cX0_landBarges 38 = .ok (.getfield 25, 3) := by decide +kernel
theorem dX0_landBarges_41 : decode cX0_landBarges 41 = .ok (.iload_n 1, 1) := by decide +kernel
theorem dX0_landBarges_42 : decode cX0_landBarges 42 = .ok (.iaload, 1) := by decide +kernel
theorem dX0_landBarges_43 : decode cX0_landBarges 43 = .ok (.ifCond .ne 23, 3) := by decide +kernel
theorem dX0_landBarges_46 : decode cX0_landBarges 46 = .ok (.aload_n 0, 1) := by decide +kernel
theorem dX0_landBarges_47 : decode cX0_landBarges 47 = .ok (.iload_n 1, 1) := by decide +kernel
theorem dX0_landBarges_48 : decode cX0_landBarges 48 = .ok (.invokevirtual 120, 3) := by decide +kernel
theorem dX0_landBarges_51 : decode cX0_landBarges 51 = .ok (.ifCond .ne 15, 3) := by decide +kernel
theorem dX0_landBarges_54 : decode cX0_landBarges 54 = .ok (.aload_n 0, 1) := by decide +kernel
theorem dX0_landBarges_55 : decode cX0_landBarges 55 = .ok (.getfield 25, 3) := by decide +kernel
theorem dX0_landBarges_58 : decode cX0_landBarges 58 = .ok (.iload_n 1, 1) := by decide +kernel
theorem dX0_landBarges_59 : decode cX0_landBarges 59 = .ok (.aload_n 0, 1) := by decide +kernel
theorem dX0_landBarges_60 : decode cX0_landBarges 60 = .ok (.getfield 22, 3) := by decide +kernel
theorem dX0_landBarges_63 : decode cX0_landBarges 63 = .ok (.iload_n 1, 1) := by decide +kernel
theorem dX0_landBarges_64 : decode cX0_landBarges 64 = .ok (.iaload, 1) := by decide +kernel
theorem dX0_landBarges_65 : decode cX0_landBarges 65 = .ok (.iastore, 1) := by decide +kernel
theorem dX0_landBarges_66 : decode cX0_landBarges 66 = .ok (.iinc 1 1, 3) := by decide +kernel
theorem dX0_landBarges_69 : decode cX0_landBarges 69 = .ok (.goto (-40), 3) := by decide +kernel
theorem dX0_landBarges_72 : decode cX0_landBarges 72 = .ok (.return_, 1) := by decide +kernel
set_option maxRecDepth 20000 in
theorem ggX0_landAll_X0_isAt : GoodIn wsX0_landAll wsX0_isAt := goodIn_r _ [7, 8, 9, 20, 21, 22, 23, 24, 25, 26, 27, 28, 29, 30, 31, 32, 33, 34, 35] (by decide +kernel) (by decide +kernel)
set_option maxRecDepth 20000 in
theorem gX0_landAll_X0_isAt : GoodIn wsX0_landAll (wsV RX0 72 RX0 yX0_isAt wsX0_isAt) := goodIn_app (goodIn_of _ (by decide +kernel)) ggX0_landAll_X0_isAt
set_option maxRecDepth 20000 in
theorem ggX0_landAll_X0_move : GoodIn wsX0_landAll wsX0_move := goodIn_r _ [13, 8, 9, 20, 21, 22, 23, 24, 25, 26, 27, 28, 29, 30, 31, 32, 33, 34, 35] (by decide +kernel) (by decide +kernel)
set_option maxRecDepth 20000 in
theorem gX0_landAll_X0_move : GoodIn wsX0_landAll (wsV RX0 68 RX0 yX0_move wsX0_move) := goodIn_app (goodIn_of _ (by decide +kernel)) ggX0_landAll_X0_move
set_option maxRecDepth 20000 in
theorem ggX0_landAll_X0_takeFirstFreePlace : GoodIn wsX0_landAll wsX0_takeFirstFreePlace := goodIn_r _ [17, 18, 19, 20, 21, 22, 23, 24, 25, 26, 27, 28, 29, 30, 31, 32, 33, 34, 35] (by decide +kernel) (by decide +kernel)
set_option maxRecDepth 20000 in
theorem gX0_landAll_X0_takeFirstFreePlace : GoodIn wsX0_landAll (wsV RX0 124 RX0 yX0_takeFirstFreePlace wsX0_takeFirstFreePlace) := goodIn_app (goodIn_of _ (by decide +kernel)) ggX0_landAll_X0_takeFirstFreePlace
theorem dX0_landAll_0 : decode cX0_landAll 0 = .ok (.iconst 1, 1) := by decide +kernel
theorem dX0_landAll_1 : decode cX0_landAll 1 = .ok (.istore_n 2, 1) := by decide +kernel
theorem dX0_landAll_2 : decode cX0_landAll 2 = .ok (.iconst 0, 1) := by decide +kernel
theorem dX0_landAll_3 : decode cX0_landAll 3 = .ok (.istore_n 3, 1) := by decide +kernel
theorem dX0_landAll_4 : decode cX0_landAll 4 = .ok (.iload_n 3, 1) := by decide +kernel
theorem dX0_landAll_5 : decode cX0_landAll 5 = .ok (.aload_n 0, 1) := by decide +kernel
theorem dX0_landAll_6 : decode cX0_landAll 6 = .ok (.getfield 59, 3) := by decide +kernel
theorem dX0_landAll_9 : decode cX0_landAll 9 = .ok (.if_icmp .ge 66, 3) := by decide +kernel
theorem dX0_landAll_12 : decode cX0_landAll 12 = .ok (.aload_n 0, 1) := by decide +kernel
theorem dX0_landAll_13 : decode cX0_landAll 13 = .ok (.iload_n 3, 1) := by decide +kernel
theorem dX0_landAll_14 : decode cX0_landAll 14 = .ok (.iconst 0, 1) := by decide +kernel
theorem dX0_landAll_15 : decode cX0_landAll 15 = .ok (.iload_n 1, 1) := by decide +kernel
theorem dX0_landAll_16 : decode cX0_landAll 16 = .ok (.invokevirtual 72, 3) := by decide +kernel
theorem dX0_landAll_19 : decode cX0_landAll 19 = .ok (.ifCond .ne 6, 3) := by decide +kernel
theorem dX0_landAll_22 : decode cX0_landAll 22 = .ok (.goto 47, 3) := by decide +kernel
theorem dX0_landAll_25 : decode cX0_landAll 25 = .ok (.aload_n 0, 1) := by decide +kernel
theorem dX0_landAll_26 : decode cX0_landAll 26 = .ok (.getfield 28, 3) := by decide +kernel
theorem dX0_landAll_29 : decode cX0_landAll 29 = .ok (.iload_n 3, 1) := by decide +kernel
theorem dX0_landAll_30 : decode cX0_landAll 30 = .ok (.iaload, 1) := by decide +kernel
theorem dX0_landAll_31 : decode cX0_landAll 31 = .ok (.ifCond .ne 13, 3) := by decide +kernel
theorem dX0_landAll_34 : decode cX0_landAll 34 = .ok (.aload_n 0, 1) := by decide +kernel
theorem dX0_landAll_35 : decode cX0_landAll 35 = .ok (.iload_n 3, 1) := by decide +kernel
theorem dX0_landAll_36 : decode cX0_landAll 36 = .ok (.iconst 2, 1) := by decide +kernel
theorem dX0_landAll_37 : decode cX0_landAll 37 = .ok (.iconst (-1), 1) := by decide +kernel
theorem dX0_landAll_38 : decode cX0_landAll 38 = .ok (.invokevirtual 68, 3) := by decide +kernel
theorem dX0_landAll_41 : decode cX0_landAll 41 = .ok (.goto 28, 3) := by decide +kernel
theorem dX0_landAll_44 : decode cX0_landAll 44 = .ok (.aload_n 0, 1) := by decide +kernel
theorem dX0_landAll_45 : decode cX0_landAll 45 = .ok (.invokevirtual 124, 3) := by decide +kernel
theorem dX0_landAll_48 : decode cX0_landAll 48 = .ok (.istore 4, 2) := by decide +kernel
theorem dX0_landAll_50 : decode cX0_landAll 50 = .ok (.iload 4, 2) := by decide +kernel
theorem dX0_landAll_52 : decode cX0_landAll 52 = .ok (.iconst (-1), 1) := by decide +kernel
theorem dX0_landAll_53 : decode cX0_landAll 53 = .ok (.if_icmp .ne 8, 3) := by decide +kernel
theorem dX0_landAll_56 : decode cX0_landAll 56 = .ok (.iconst 0, 1) := by decide +kernel
theorem dX0_landAll_57 : decode cX0_landAll 57 = .ok (.istore_n 2, 1) := by decide +kernel
theorem dX0_landAll_58 : decode cX0_landAll 58 = .ok (.goto 11, 3) := by decide +kernel
theorem dX0_landAll_61 : decode cX0_landAll 61 = .ok (.aload_n 0, 1) := by decide +kernel
theorem dX0_landAll_62 : decode cX0_landAll 62 = .ok (.iload_n 3, 1) := by decide +kernel
theorem dX0_landAll_63 : decode cX0_landAll 63 = .ok (.iconst 1, 1) := by decide +kernel
theorem dX0_landAll_64 : decode cX0_landAll 64 = .ok (.iload 4, 2) := by decide +kernel
theorem dX0_landAll_66 : decode cX0_landAll 66 = .ok (.invokevirtual 68, 3) := by decide +kernel
theorem dX0_landAll_69 : decode cX0_landAll 69 = .ok (.iinc 3 1, 3) := by decide +kernel
theorem dX0_landAll_72 : decode cX0_landAll 72 = .ok (.goto (-68), 3) := by decide +kernel
theorem dX0_landAll_75 : decode cX0_landAll 75 = .ok (.iload_n 2, 1) := by decide +kernel
theorem dX0_landAll_76 : decode cX0_landAll 76 = .ok (.ireturn, 1) := by decide +kernel
theorem dX0_takeFirstFreePlace_0 : decode cX0_takeFirstFreePlace 0 = .ok (.iconst 0, 1) := by decide +kernel
theorem dX0_takeFirstFreePlace_1 : decode cX0_takeFirstFreePlace 1 = .ok (.istore_n 1, 1) := by decide +kernel
theorem dX0_takeFirstFreePlace_2 : decode cX0_takeFirstFreePlace 2 = .ok (.iload_n 1, 1) := by decide +kernel
theorem dX0_takeFirstFreePlace_3 : decode cX0_takeFirstFreePlace 3 = .ok (.aload_n 0, 1) := by decide +kernel
theorem dX0_takeFirstFreePlace_4 : decode cX0_takeFirstFreePlace 4 = .ok (.getfield 53, 3) := by decide +kernel
theorem dX0_takeFirstFreePlace_7 : decode cX0_takeFirstFreePlace 7 = .ok (.if_icmp .ge 30, 3) := by decide +kernel
theorem dX0_takeFirstFreePlace_10 : decode cX0_takeFirstFreePlace 10 = .ok (.aload_n 0, 1) := by decide +kernel
theorem dX0_takeFirstFreePlace_11 : decode cX0_takeFirstFreePlace 11 = .ok (.getfield 44, 3) := by decide +kernel
theorem dX0_takeFirstFreePlace_14 : decode cX0_takeFirstFreePlace 14 = .ok (.iload_n 1, 1) := by decide +kernel
theorem dX0_takeFirstFreePlace_15 : decode cX0_takeFirstFreePlace 15 = .ok (.iaload, 1) := by decide +kernel
theorem dX0_takeFirstFreePlace_16 : decode cX0_takeFirstFreePlace 16 = .ok (.ifCond .le 15, 3) := by decide +kernel
theorem dX0_takeFirstFreePlace_19 : decode cX0_takeFirstFreePlace 19 = .ok (.aload_n 0, 1) := by decide +kernel
theorem dX0_takeFirstFreePlace_20 : decode cX0_takeFirstFreePlace 20 = .ok (.getfield 44, 3) := by decide +kernel
theorem dX0_takeFirstFreePlace_23 : decode cX0_takeFirstFreePlace 23 = .ok (.iload_n 1, 1) := by decide +kernel
theorem dX0_takeFirstFreePlace_24 : decode cX0_takeFirstFreePlace 24 = .ok (.dup2, 1) := by decide +kernel
theorem dX0_takeFirstFreePlace_25 : decode cX0_takeFirstFreePlace 25 = .ok (.iaload, 1) := by decide +kernel
theorem dX0_takeFirstFreePlace_26 : decode cX0_takeFirstFreePlace 26 = .ok (.iconst 1, 1) := by decide +kernel
theorem dX0_takeFirstFreePlace_27 : decode cX0_takeFirstFreePlace 27 = .ok (.isub, 1) := by decide +kernel
theorem dX0_takeFirstFreePlace_28 : decode cX0_takeFirstFreePlace 28 = .ok (.iastore, 1) := by decide +kernel
theorem dX0_takeFirstFreePlace_29 : decode cX0_takeFirstFreePlace 29 = .ok (.iload_n 1, 1) := by decide +kernel
theorem dX0_takeFirstFreePlace_30 : decode cX0_takeFirstFreePlace 30 = .ok (.ireturn, 1) := by decide +kernel
theorem dX0_takeFirstFreePlace_31 : decode cX0_takeFirstFreePlace 31 = .ok (.iinc 1 1, 3) := by decide +kernel
theorem dX0_takeFirstFreePlace_34 : decode cX0_takeFirstFreePlace 34 = .ok (.goto (-32), 3) := by decide +kernel
theorem dX0_takeFirstFreePlace_37 : decode cX0_takeFirstFreePlace 37 = .ok (.iconst (-1), 1) := by decide +kernel
theorem dX0_takeFirstFreePlace_38 : decode cX0_takeFirstFreePlace 38 = .ok (.ireturn, 1) := by decide +kernel
end
section
/-! 04.base: worlds, contexts and contracts in one form: a method in a world w0 returns the value res and leaves the world w1 -/
section GB
/-- the words that the tables alone decide, but that a start must be asked for: the model's nest mates -/
def gx_ws : List Cond := [.methodLinkNest RX3 9 yX2_init RX3, .fieldLinkNest RX3 97 RX2 "day" "I" RX3, .fieldLinkNest RX3 23 RX2 "wards" "I" RX3, .fieldLinkNest RX3 30 RX2 "barges" "I" RX3, .fieldLinkNest RX3 33 RX2 "people" "I" RX3, .fieldLinkNest RX3 60 RX2 "bowls" "I" RX3, .fieldLinkNest RX3 104 RX2 "eaten" "I" RX3]
def gx_N (U : State) : Prop := va_Nw (.methodLinkNest RX3 9 yX2_init RX3) U ∧ va_Nw (.fieldLinkNest RX3 97 RX2 "day" "I" RX3) U ∧ va_Nw (.fieldLinkNest RX3 23 RX2 "wards" "I" RX3) U ∧ va_Nw (.fieldLinkNest RX3 30 RX2 "barges" "I" RX3) U ∧ va_Nw (.fieldLinkNest RX3 33 RX2 "people" "I" RX3) U ∧ va_Nw (.fieldLinkNest RX3 60 RX2 "bowls" "I" RX3) U ∧ va_Nw (.fieldLinkNest RX3 104 RX2 "eaten" "I" RX3) U
theorem gx_N.warm {s U : State} (hW : s.WarmedH U.vm) (h : gx_N s) : gx_N U := by
  obtain ⟨h1, h2, h3, h4, h5, h6, h7⟩ := h
  exact ⟨va_Nw.warmM hW h1, va_Nw.warmF hW h2, va_Nw.warmF hW h3, va_Nw.warmF hW h4, va_Nw.warmF hW h5, va_Nw.warmF hW h6, va_Nw.warmF hW h7⟩
theorem gx_N.same {s U : State} (hv : s.vm = U.vm) (h : gx_N s) : gx_N U := by
  obtain ⟨h1, h2, h3, h4, h5, h6, h7⟩ := h
  exact ⟨va_Nw.same rfl hv h1, va_Nw.same rfl hv h2, va_Nw.same rfl hv h3, va_Nw.same rfl hv h4, va_Nw.same rfl hv h5, va_Nw.same rfl hv h6, va_Nw.same rfl hv h7⟩
abbrev gx_ty (cI cZ cL : ClassId) : List (ClassId × FieldType) := [(cI, .int), (cZ, .boolean), (cL, .long)]
/-- the tables, as every method is told of them -/
def Kx (D : va_G) (cI cZ cL : ClassId) (U : State) : Prop := va_K D vwCl (gx_ty cI cZ cL) U ∧ gx_N U
theorem Kx.warm {D : va_G} {cI cZ cL : ClassId} {s U : State} (hW : s.WarmedH U.vm) (h : Kx D cI cZ cL s) : Kx D cI cZ cL U := ⟨va_K.moved hW.alike h.1, gx_N.warm hW h.2⟩
theorem Kx.same {D : va_G} {cI cZ cL : ClassId} {s U : State} (hv : s.vm = U.vm) (h : Kx D cI cZ cL s) : Kx D cI cZ cL U := ⟨va_K.moved (by rw [hv]; exact Vm.Alike.refl U.vm) h.1, gx_N.same hv h.2⟩
/-- the world of a walk -/
def Wo (D : va_G) (A : Nat → Prop) (H0 : Heap) (ws : va_W) (H : Heap) (locs : List Loc) : Prop := va_P D vwCl ws H ∧ va_D A ws ∧ va_S A H0 H locs
/-- the standing facts of a walk -/
def Cx (p : Program) (s : State) (m : MethodId) (args : Array Value) (meth : Method) (c : Code) (cc : ByteArray) (nL : Nat) (Ts : List Cond) (own : String) (ret : Option FieldType) (D : va_G) (cI cZ cL : ClassId) (A : Nat → Prop) : Prop :=
  p.tables.exec = Jvm.exec ∧ c.code = cc ∧ meth.sig.returnType = ret ∧ c.maxLocals = nL ∧ s.vm.findClass own = some m.cls ∧ (∀ w ∈ Ts, w.before args s = true) ∧ meth.locks = false ∧ Kx D cI cZ cL s ∧ (∀ q : Nat, s.heap.size ≤ q → A q)
def PX (D : va_G) (cI cZ cL : ClassId) (av : List Value) (w0 : va_W) (sz : Nat) : Array Value → State → Prop := va_Pc av (fun U => U.heap.size = sz ∧ va_P D vwCl w0 U.heap ∧ Kx D cI cZ cL U ∧ va_D (fun _ => True) w0)
def QX (D : va_G) (A : Nat → Prop) (res : Option Value) (w1 : va_W) : Array Value → State → Outcome → State → Prop := fun _ st oc t => (oc = .returned res ∧ va_P D vwCl w1 t.heap ∧ va_D A w1) ∧ va_F A st t
/-- THE CONTRACT: called with av in the world w0, y returns res and leaves the world w1 -/
def MX (l : Launch) (y : MethodName) (ws : List Cond) (rm : Room) (D : va_G) (cI cZ cL : ClassId) (av : List Value) (w0 : va_W) (res : Option Value) (w1 : va_W) : Prop :=
  ∀ sz : Nat, Met l y ws rm (PX D cI cZ cL av w0 sz) (QX D (va_A w0 sz) res w1) rm.cells rm.slots (va_A w0 sz)
theorem PX.blind {D : va_G} {cI cZ cL : ClassId} {av : List Value} {w0 : va_W} {sz : Nat} : FrameBlind (PX D cI cZ cL av w0 sz) := by
  intro a U g mk q
  obtain ⟨q0, q1, q2, q3, q4⟩ := q
  exact ⟨q0, q1, q2, Kx.same (s := U) (U := U.calling g mk a) rfl q3, q4⟩
/-- what a body owes at its end -/
def QE (below : List Frame) (args : Array Value) (s : State) (D : va_G) (A : Nat → Prop) (res : Option Value) (w1 : va_W) (rm : Room) : State → Prop := MQ below (QX D A res w1) args s rm.cells rm.slots A
theorem MX.of {l : Launch} {y : MethodName} {ws ws' : List Cond} {rm : Room} {D : va_G} {cI cZ cL : ClassId} {av : List Value} {w0 w1 : va_W} {res : Option Value} {cc : ByteArray} {maxL : Nat} {ret : Option FieldType} {own : String} {lv0 : List (Nat × Value)}
    (hy : plainName y.cls = true) (hw : ws = Cond.code y cc maxL ret :: ws') (ho : y.cls = own) (hlen : (lg_sl av).length ≤ maxL) (hlv : lv_args 0 av = lv0)
    (body : ∀ (p : Program) (e : Env) (s : State) (m : MethodId) (args : Array Value) (below : List Frame) (meth : Method) (c : Code) (A : Nat → Prop), Cx p s m args meth c cc maxL ws own ret D cI cZ cL A → meth.name = y.name → Wo D A s.heap w0 s.heap [] → ∀ ls : Array Slot, lv_has ls maxL lv0 →
      W p l e rm s m args below meth c s.heap [] 0 0 (QE below args s D A res w1 rm) (F0 m 0 ls [])) : MX l y ws rm D cI cZ cL av w0 res w1 := by
  intro sz
  refine Met.ofW (cc := cc) (maxL := maxL) (ret := ret) hy hw ?_
  intro p e s m args below meth c s₁ B hml hv
  obtain ⟨rfl, hsz, hP, hK, hD0⟩ := hv
  subst hsz
  rw [lg_entry_eq]
  refine body p e s m _ below meth c (va_A w0 s.heap.size) ⟨B.exec, B.bytes, B.returns, hml, ?_, atoms_spec (ws := ws) B.pre, B.notSynchronized, hK, fun q h => Or.inr h⟩ (name_of_methodNamed B.named B.method).1 ⟨hP, hD0.self, va_S.rf⟩ _ ?_
  · rw [← ho]; exact findClass_of_methodNamed B.named
  · rw [← hlv]; exact lv_entry av hlen
section GR
variable {p : Program} {l : Launch} {e : Env} {R : Room} {s : State} {m : MethodId} {args : Array Value} {below : List Frame} {meth : Method} {c : Code} {H H0 : Heap} {locs : List Loc} {cells slots : Nat} {Q : State → Prop}
variable {cc : ByteArray} {nL : Nat} {Ts : List Cond} {own : String} {ret : Option FieldType} {D : va_G} {cI cZ cL : ClassId} {A : Nat → Prop} {ws : va_W} {pc : Nat} {ls : Array Slot} {rest : List Value}
theorem g_get (hc : Cx p s m args meth c cc nL Ts own ret D cI cZ cL A) (hw : Wo D A H0 ws H locs) {C : String} {T : u_T} {N ci index a : Nat} {fs : List Value} {v : Value} (hin : ∀ w ∈ u_ws C T N, w ∈ Ts) (q0 k : Nat) (he : ws[q0]? = some (a, .inr (ci, fs))) (hcl : vwCl[ci]? = some (C, T, N)) (hk : k < N)
    (hlink : Cond.fieldLink own index (T k).1 (T k).2.1 (T k).2.2.1 ∈ Ts) (hv : fs[k]? = some v) (hdg : decode cc pc = .ok (.getfield index, 3))
    (kk : W p l e R s m args below meth c H locs cells slots Q (F0 m (pc + 3) ls (v :: rest))) : W p l e R s m args below meth c H locs cells slots Q (F0 m pc ls (.ref a :: rest)) := by
  obtain ⟨hx, hb, -, -, hown, hts, -, hK, -⟩ := hc
  exact va_get (D := D) hx hb hts hin hown hK.1 hw.1 q0 he hcl k hk (hts _ hlink) (fun _ h9 => h9) hv hdg kk
theorem g_put (hc : Cx p s m args meth c cc nL Ts own ret D cI cZ cL A) (hw : Wo D A H0 ws H locs) {C : String} {T : u_T} {N ci index a : Nat} {fs : List Value} {v : Value} {w' : va_W} (hin : ∀ w ∈ u_ws C T N, w ∈ Ts) (ty0 : Nat → FieldType) (hty : ∀ k, k < N → parseFieldDescriptor (T k).2.2.1 = some (ty0 k)) (hnm : ∀ a, a < N → ∀ b, b < N → a ≠ b → (T a).2.1 ≠ (T b).2.1) (q0 k : Nat) (he : ws[q0]? = some (a, .inr (ci, fs))) (hcl : vwCl[ci]? = some (C, T, N)) (hk : k < N)
    (hlink : Cond.fieldLink own index (T k).1 (T k).2.1 (T k).2.2.1 ∈ Ts) (hfin : (T k).2.2.2 = false) (hn : narrow (ty0 k) v = v) (hfit : fits (ty0 k) v = true) (hl : k < fs.length) (hw' : ws.set q0 (a, .inr (ci, fs.set k v)) = w') (hdg : decode cc pc = .ok (.putfield index, 3))
    (kk : ∀ (H1 : Heap) (locs1 : List Loc), Wo D A H0 w' H1 locs1 → W p l e R s m args below meth c H1 locs1 cells slots Q (F0 m (pc + 3) ls rest)) : W p l e R s m args below meth c H locs cells slots Q (F0 m pc ls (v :: .ref a :: rest)) := by
  obtain ⟨hx, hb, -, -, hown, hts, -, hK, -⟩ := hc
  subst hw'
  exact va_put (D := D) hx hb hts hin ty0 hty hnm hown hK.1 hw.1 hw.2.1 hw.2.2 q0 he hcl k hk (hts _ hlink) (fun _ h9 => h9) hfin (hty k hk) hn hfit hl hdg (fun H1 l1 h1 h2 h3 => kk H1 l1 ⟨h1, h2, h3⟩)
theorem g_putF (hc : Cx p s m args meth c cc nL Ts own ret D cI cZ cL A) (hi : meth.name = "<init>") (hw : Wo D A H0 ws H locs) {C : String} {T : u_T} {N ci index a : Nat} {fs : List Value} {v : Value} {w' : va_W} (hin : ∀ w ∈ u_ws C T N, w ∈ Ts) (ty0 : Nat → FieldType) (hty : ∀ k, k < N → parseFieldDescriptor (T k).2.2.1 = some (ty0 k)) (hnm : ∀ a, a < N → ∀ b, b < N → a ≠ b → (T a).2.1 ≠ (T b).2.1) (q0 k : Nat) (he : ws[q0]? = some (a, .inr (ci, fs))) (hcl : vwCl[ci]? = some (C, T, N)) (hk : k < N)
    (hlink : Cond.fieldLink own index (T k).1 (T k).2.1 (T k).2.2.1 ∈ Ts) (hfin : (T k).2.2.2 = true) (hdecl : (T k).1 = own) (hn : narrow (ty0 k) v = v) (hfit : fits (ty0 k) v = true) (hl : k < fs.length) (hw' : ws.set q0 (a, .inr (ci, fs.set k v)) = w') (hdg : decode cc pc = .ok (.putfield index, 3))
    (kk : ∀ (H1 : Heap) (locs1 : List Loc), Wo D A H0 w' H1 locs1 → W p l e R s m args below meth c H1 locs1 cells slots Q (F0 m (pc + 3) ls rest)) : W p l e R s m args below meth c H locs cells slots Q (F0 m pc ls (v :: .ref a :: rest)) := by
  obtain ⟨hx, hb, -, -, hown, hts, -, hK, -⟩ := hc
  subst hw'
  exact va_putF (D := D) hx hb hts hin ty0 hty hnm hown hK.1 hw.1 hw.2.1 hw.2.2 q0 he hcl k hk (hts _ hlink) (fun _ h9 => h9) hfin hi hdecl (hty k hk) hn hfit hl hdg (fun H1 l1 h1 h2 h3 => kk H1 l1 ⟨h1, h2, h3⟩)
theorem g_getN (hc : Cx p s m args meth c cc nL Ts own ret D cI cZ cL A) (hw : Wo D A H0 ws H locs) {C host : String} {T : u_T} {N ci index a : Nat} {fs : List Value} {v : Value} (hin : ∀ w ∈ u_ws C T N, w ∈ Ts) (q0 k : Nat) (he : ws[q0]? = some (a, .inr (ci, fs))) (hcl : vwCl[ci]? = some (C, T, N)) (hk : k < N)
    (hlink : gx_N s → va_Nw (Cond.fieldLinkNest own index (T k).1 (T k).2.1 (T k).2.2.1 host) s) (hv : fs[k]? = some v) (hdg : decode cc pc = .ok (.getfield index, 3))
    (kk : W p l e R s m args below meth c H locs cells slots Q (F0 m (pc + 3) ls (v :: rest))) : W p l e R s m args below meth c H locs cells slots Q (F0 m pc ls (.ref a :: rest)) := by
  obtain ⟨hx, hb, -, -, hown, hts, -, hK, -⟩ := hc
  exact va_getN (D := D) hx hb hts hin hown hK.1 hw.1 q0 he hcl k hk (va_Nw.use rfl (hlink hK.2)) (fun _ h9 => h9) hv hdg kk
theorem g_putN (hc : Cx p s m args meth c cc nL Ts own ret D cI cZ cL A) (hw : Wo D A H0 ws H locs) {C host : String} {T : u_T} {N ci index a : Nat} {fs : List Value} {v : Value} {w' : va_W} (hin : ∀ w ∈ u_ws C T N, w ∈ Ts) (ty0 : Nat → FieldType) (hty : ∀ k, k < N → parseFieldDescriptor (T k).2.2.1 = some (ty0 k)) (hnm : ∀ a, a < N → ∀ b, b < N → a ≠ b → (T a).2.1 ≠ (T b).2.1) (q0 k : Nat) (he : ws[q0]? = some (a, .inr (ci, fs))) (hcl : vwCl[ci]? = some (C, T, N)) (hk : k < N)
    (hlink : gx_N s → va_Nw (Cond.fieldLinkNest own index (T k).1 (T k).2.1 (T k).2.2.1 host) s) (hfin : (T k).2.2.2 = false) (hn : narrow (ty0 k) v = v) (hfit : fits (ty0 k) v = true) (hl : k < fs.length) (hw' : ws.set q0 (a, .inr (ci, fs.set k v)) = w') (hdg : decode cc pc = .ok (.putfield index, 3))
    (kk : ∀ (H1 : Heap) (locs1 : List Loc), Wo D A H0 w' H1 locs1 → W p l e R s m args below meth c H1 locs1 cells slots Q (F0 m (pc + 3) ls rest)) : W p l e R s m args below meth c H locs cells slots Q (F0 m pc ls (v :: .ref a :: rest)) := by
  obtain ⟨hx, hb, -, -, hown, hts, -, hK, -⟩ := hc
  subst hw'
  exact va_putN (D := D) hx hb hts hin ty0 hty hnm hown hK.1 hw.1 hw.2.1 hw.2.2 q0 he hcl k hk (va_Nw.use rfl (hlink hK.2)) (fun _ h9 => h9) hfin (hty k hk) hn hfit hl hdg (fun H1 l1 h1 h2 h3 => kk H1 l1 ⟨h1, h2, h3⟩)
theorem g_iald (hc : Cx p s m args meth c cc nL Ts own ret D cI cZ cL A) (hw : Wo D A H0 ws H locs) {a n : Nat} {f : Nat → Int32} {i : Int32} (q0 : Nat) (ha : ws[q0]? = some (a, .inl (cI, n, .inl f))) (hin : vp_in i n) (hdg : decode cc pc = .ok (.iaload, 1))
    (kk : W p l e R s m args below meth c H locs cells slots Q (F0 m (pc + 1) ls (.int (f i.toNatClampNeg) :: rest))) : W p l e R s m args below meth c H locs cells slots Q (F0 m pc ls (.int i :: .ref a :: rest)) := by
  obtain ⟨hx, hb, -, -, hown, hts, -, hK, -⟩ := hc
  exact va_iald hx hb hK.1 hw.1 q0 0 ha rfl hin hdg kk
theorem g_zald (hc : Cx p s m args meth c cc nL Ts own ret D cI cZ cL A) (hw : Wo D A H0 ws H locs) {a n : Nat} {f : Nat → Int32} {i : Int32} (q0 : Nat) (ha : ws[q0]? = some (a, .inl (cZ, n, .inl f))) (hin : vp_in i n) (hdg : decode cc pc = .ok (.baload, 1))
    (kk : W p l e R s m args below meth c H locs cells slots Q (F0 m (pc + 1) ls (.int (f i.toNatClampNeg) :: rest))) : W p l e R s m args below meth c H locs cells slots Q (F0 m pc ls (.int i :: .ref a :: rest)) := by
  obtain ⟨hx, hb, -, -, hown, hts, -, hK, -⟩ := hc
  exact va_zald hx hb hK.1 hw.1 q0 1 ha rfl hin hdg kk
theorem g_lald (hc : Cx p s m args meth c cc nL Ts own ret D cI cZ cL A) (hw : Wo D A H0 ws H locs) {a n : Nat} {f : Nat → Int64} {i : Int32} (q0 : Nat) (ha : ws[q0]? = some (a, .inl (cL, n, .inr (.inl f)))) (hin : vp_in i n) (hdg : decode cc pc = .ok (.laload, 1))
    (kk : W p l e R s m args below meth c H locs cells slots Q (F0 m (pc + 1) ls (.long (f i.toNatClampNeg) :: rest))) : W p l e R s m args below meth c H locs cells slots Q (F0 m pc ls (.int i :: .ref a :: rest)) := by
  obtain ⟨hx, hb, -, -, hown, hts, -, hK, -⟩ := hc
  exact va_lald hx hb hK.1 hw.1 q0 2 ha rfl hin hdg kk
theorem g_iast (hc : Cx p s m args meth c cc nL Ts own ret D cI cZ cL A) (hw : Wo D A H0 ws H locs) {a n : Nat} {f : Nat → Int32} {i x : Int32} {w' : va_W} (q0 : Nat) (ha : ws[q0]? = some (a, .inl (cI, n, .inl f))) (hin : vp_in i n) (hw' : ws.set q0 (a, .inl (cI, n, .inl (upd f i.toNatClampNeg x))) = w') (hdg : decode cc pc = .ok (.iastore, 1))
    (kk : ∀ (H1 : Heap) (locs1 : List Loc), Wo D A H0 w' H1 locs1 → W p l e R s m args below meth c H1 locs1 cells slots Q (F0 m (pc + 1) ls rest)) : W p l e R s m args below meth c H locs cells slots Q (F0 m pc ls (.int x :: .int i :: .ref a :: rest)) := by
  obtain ⟨hx, hb, -, -, hown, hts, -, hK, -⟩ := hc
  subst hw'
  exact va_iast hx hb hK.1 hw.1 hw.2.1 hw.2.2 q0 0 ha rfl hin hdg (fun H1 l1 h1 h2 h3 => kk H1 l1 ⟨h1, h2, h3⟩)
theorem g_zast (hc : Cx p s m args meth c cc nL Ts own ret D cI cZ cL A) (hw : Wo D A H0 ws H locs) {a n : Nat} {f : Nat → Int32} {i x : Int32} {w' : va_W} (q0 : Nat) (ha : ws[q0]? = some (a, .inl (cZ, n, .inl f))) (hin : vp_in i n) (hx1 : vp_nar .boolean x = x) (hw' : ws.set q0 (a, .inl (cZ, n, .inl (upd f i.toNatClampNeg x))) = w') (hdg : decode cc pc = .ok (.bastore, 1))
    (kk : ∀ (H1 : Heap) (locs1 : List Loc), Wo D A H0 w' H1 locs1 → W p l e R s m args below meth c H1 locs1 cells slots Q (F0 m (pc + 1) ls rest)) : W p l e R s m args below meth c H locs cells slots Q (F0 m pc ls (.int x :: .int i :: .ref a :: rest)) := by
  obtain ⟨hx, hb, -, -, hown, hts, -, hK, -⟩ := hc
  subst hw'
  exact va_zast hx hb hK.1 hw.1 hw.2.1 hw.2.2 q0 1 ha rfl hin hdg (fun H1 l1 h1 h2 h3 => kk H1 l1 ⟨by rw [← hx1]; exact h1, by rw [← hx1]; exact h2, h3⟩)
theorem g_last (hc : Cx p s m args meth c cc nL Ts own ret D cI cZ cL A) (hw : Wo D A H0 ws H locs) {a n : Nat} {f : Nat → Int64} {i : Int32} {x : Int64} {w' : va_W} (q0 : Nat) (ha : ws[q0]? = some (a, .inl (cL, n, .inr (.inl f)))) (hin : vp_in i n) (hw' : ws.set q0 (a, .inl (cL, n, .inr (.inl (vp_updL f i.toNatClampNeg x)))) = w') (hdg : decode cc pc = .ok (.lastore, 1))
    (kk : ∀ (H1 : Heap) (locs1 : List Loc), Wo D A H0 w' H1 locs1 → W p l e R s m args below meth c H1 locs1 cells slots Q (F0 m (pc + 1) ls rest)) : W p l e R s m args below meth c H locs cells slots Q (F0 m pc ls (.long x :: .int i :: .ref a :: rest)) := by
  obtain ⟨hx, hb, -, -, hown, hts, -, hK, -⟩ := hc
  subst hw'
  exact va_last hx hb hK.1 hw.1 hw.2.1 hw.2.2 q0 2 ha rfl hin hdg (fun H1 l1 h1 h2 h3 => kk H1 l1 ⟨h1, h2, h3⟩)
theorem g_ret {res : Option Value} {w1 : va_W} {rm : Room} {v : Int32} (hc : Cx p s m args meth c cc nL Ts own (some .int) D cI cZ cL A) (hw : Wo D A s.heap w1 H locs) (hv : some (.int v) = res) (h1 : cells ≤ rm.cells) (h2 : slots ≤ rm.slots) (hdg : decode cc pc = .ok (.ireturn, 1)) :
    W p l e R s m args below meth c H locs cells slots (QE below args s D A res w1 rm) (F0 m pc ls [.int v]) := by
  obtain ⟨hx, hb, hr, -, hown, hts, hlocks, hK, -⟩ := hc
  refine W.widen h1 h2 ?_
  exact W.iret (v := v) hx hb hr (fun t ht hW => ⟨⟨by rw [hv], by rw [ht]; exact hw.1, hw.2.1⟩, hw.2.2.F ht⟩) hw.2.2.2.2 hdg
theorem g_zret {res : Option Value} {w1 : va_W} {rm : Room} {v : Int32} (hc : Cx p s m args meth c cc nL Ts own (some .boolean) D cI cZ cL A) (hw : Wo D A s.heap w1 H locs) (hv : some (.int v) = res) (hn : narrow .boolean (.int v) = .int v) (h1 : cells ≤ rm.cells) (h2 : slots ≤ rm.slots) (hdg : decode cc pc = .ok (.ireturn, 1)) :
    W p l e R s m args below meth c H locs cells slots (QE below args s D A res w1 rm) (F0 m pc ls [.int v]) := by
  obtain ⟨hx, hb, hr, -, hown, hts, hlocks, hK, -⟩ := hc
  refine W.widen h1 h2 ?_
  exact W.zret (v := v) hx hb hr hn (fun t ht hW => ⟨⟨by rw [hv], by rw [ht]; exact hw.1, hw.2.1⟩, hw.2.2.F ht⟩) hw.2.2.2.2 hdg
theorem g_lret {res : Option Value} {w1 : va_W} {rm : Room} {v : Int64} (hc : Cx p s m args meth c cc nL Ts own (some .long) D cI cZ cL A) (hw : Wo D A s.heap w1 H locs) (hv : some (.long v) = res) (h1 : cells ≤ rm.cells) (h2 : slots ≤ rm.slots) (hdg : decode cc pc = .ok (.lreturn, 1)) :
    W p l e R s m args below meth c H locs cells slots (QE below args s D A res w1 rm) (F0 m pc ls [.long v]) := by
  obtain ⟨hx, hb, hr, -, hown, hts, hlocks, hK, -⟩ := hc
  refine W.widen h1 h2 ?_
  exact W.lret (v := v) hx hb hr (fun t ht hW => ⟨⟨by rw [hv], by rw [ht]; exact hw.1, hw.2.1⟩, hw.2.2.F ht⟩) hw.2.2.2.2 hdg
theorem g_dret {res : Option Value} {w1 : va_W} {rm : Room} {v : UInt64} (hc : Cx p s m args meth c cc nL Ts own (some .double) D cI cZ cL A) (hw : Wo D A s.heap w1 H locs) (hv : some (.double v) = res) (h1 : cells ≤ rm.cells) (h2 : slots ≤ rm.slots) (hdg : decode cc pc = .ok (.dreturn, 1)) :
    W p l e R s m args below meth c H locs cells slots (QE below args s D A res w1 rm) (F0 m pc ls [.double v]) := by
  obtain ⟨hx, hb, hr, -, hown, hts, hlocks, hK, -⟩ := hc
  refine W.widen h1 h2 ?_
  exact W.dret (v := v) hx hb hr (fun t ht hW => ⟨⟨by rw [hv], by rw [ht]; exact hw.1, hw.2.1⟩, hw.2.2.F ht⟩) hw.2.2.2.2 hdg
theorem g_vret {res : Option Value} {w1 : va_W} {rm : Room} (hc : Cx p s m args meth c cc nL Ts own none D cI cZ cL A) (hw : Wo D A s.heap w1 H locs) (hv : none = res) (h1 : cells ≤ rm.cells) (h2 : slots ≤ rm.slots) (hdg : decode cc pc = .ok (.return_, 1)) :
    W p l e R s m args below meth c H locs cells slots (QE below args s D A res w1 rm) (F0 m pc ls []) := by
  obtain ⟨hx, hb, hr, -, hown, hts, hlocks, hK, -⟩ := hc
  refine W.widen h1 h2 ?_
  exact W.vret hx hb hr (fun t ht hW => ⟨⟨by rw [hv], by rw [ht]; exact hw.1, hw.2.1⟩, hw.2.2.F ht⟩) hw.2.2.2.2 hdg
/-- a call that has run, and the walk goes on -/
theorem g_goes {mc ms : Nat} {st0 : List Value} {A1 : Nat → Prop} {res : Option Value} {w1 : va_W} {a : Array Value} {free : Addr → Prop} (hr : va_Run p l e R s m args below meth c H locs cells slots mc ms (F0 m pc ls st0) rest (QX D A1 res w1 a) free) (hS : va_S A H0 H locs) (hA : ∀ q, q < H.size → A1 q → A q) (hf : ∀ q, free q → A q) {st1 : List Value} {k2 s2 : Nat} (hst1 : res.toList ++ rest = st1) (hk2 : cells + mc = k2) (hs2 : slots + ms = s2)
    (kk : ∀ (H1 : Heap) (locs1 : List Loc), va_P D vwCl w1 H1 → va_D A1 w1 → (∀ q : Nat, q < H.size → ¬ A1 q → H1[q]? = H[q]?) → va_S A H0 H1 locs1 → W p l e R s m args below meth c H1 locs1 k2 s2 Q (F0 m (pc + 3) ls st1)) : W p l e R s m args below meth c H locs cells slots Q (F0 m pc ls st0) := by
  subst hst1; subst hk2; subst hs2
  intro T hT X
  obtain ⟨v, st₀, t, T', L, h0, X', hL, e1, e2, ⟨⟨hv, hp, hb⟩, hz, hk⟩, st⟩ := hr T hT X
  cases hv
  rw [h0] at hz hk
  obtain ⟨t2, a1, b1⟩ := kk T'.heap (locs ++ L) (by rw [e1]; exact hp) hb (fun q h1 h2 => by rw [e1]; exact hk q h1 h2)
    ⟨Nat.le_trans hS.1 (by rw [e1]; exact hz), fun q h1 h2 => by rw [e1, hk q (Nat.lt_of_lt_of_le h1 hS.1) (fun z => h2 (hA q (Nat.lt_of_lt_of_le h1 hS.1) z))]; exact hS.2.1 q h1 h2, fun q hq => by
      rcases List.mem_append.mp hq with h | h
      · exact hS.2.2 q h
      · exact hf _ (hL q h)⟩ T' rfl X'
  exact ⟨t2, st t2 a1, b1⟩
/-- the callee's part of the world, and what comes back put beside the rest -/
theorem g_part {wc wr w1 w' : va_W} (hw : Wo D A H0 ws H locs) (hA : ∀ q, H0.size ≤ q → A q) (isC isR ps : List Nat) (hC : isC.map (fun i => ws[i]?) = wc.map some) (hR : isR.map (fun i => ws[i]?) = wr.map some) (hn : va_nd isR = true) (hdis : ∀ i ∈ isR, i ∉ isC) (hnC : va_nd isC = true)
    (hps : ps.map (fun i => (wr ++ w1)[i]?) = w'.map some) (hnp : va_nd ps = true) :
    (∀ q, va_A wc H.size q → A q) ∧ va_P D vwCl wc H ∧ va_D (fun _ => True) wc ∧
    ∀ (H1 : Heap) (locs1 : List Loc), va_P D vwCl w1 H1 → va_D (va_A wc H.size) w1 → (∀ q : Nat, q < H.size → ¬ va_A wc H.size q → H1[q]? = H[q]?) → va_S A H0 H1 locs1 → Wo D A H0 w' H1 locs1 := by
  obtain ⟨hP, hD, hS⟩ := hw
  have hF := va_free (wc := wc) hD hS hA isC hC
  have hfm : ∀ {is : List Nat} {W w : va_W}, is.map (fun i => W[i]?) = w.map some → is.filterMap (fun i => W[i]?) = w := by
    intro is W w h
    have h2 : is.filterMap (fun i => W[i]?) = (is.map (fun i => W[i]?)).filterMap id := by rw [List.filterMap_map]; rfl
    rw [h2, h, List.filterMap_map]
    simp
  refine ⟨hF, hP.sub isC (hfm hC), (hD.sub isC hnC hC).weaken (fun _ _ _ _ => trivial), fun H1 locs1 h1 h2 h3 h4 => ?_⟩
  obtain ⟨j1, j2⟩ := va_join (wr := wr) (w1 := w1) hP hD isC isR hC hR hn hdis h3 hF h1 h2
  exact ⟨j1.sub ps (hfm hps), j2.sub ps hnp hps, h4⟩
/-- invokevirtual by a contract -/
theorem g_callV (hc : Cx p s m args meth c cc nL Ts own ret D cI cZ cL A) (hw : Wo D A s.heap ws H locs) {y : MethodName} {wsm wsm' : List Cond} {rm : Room} {b q0 ci index n maxL : Nat} {As fs : List Value} {wc wr w1 w' : va_W} {res : Option Value} {C : String} {bytes : ByteArray} {rt : Option FieldType} {vc : vw_C}
    (hM : MX l y wsm rm D cI cZ cL (.ref b :: As) wc res w1) (hG : GoodIn Ts (wsV own index C y wsm)) (hcode : wsm = Cond.code y bytes maxL rt :: wsm') (hd : y.cls = C ∧ y.cls ≠ "java/lang/invoke/MethodHandle" ∧ y.cls ≠ "java/lang/invoke/VarHandle" ∧ (parseMethodDescriptor y.desc).map (fun d => d.parameters.length) = some n) (hRm : rm.frames + 1 ≤ R.frames ∧ 8 + (maxL + 11) + rm.locals ≤ R.locals)
    (he : wc[q0]? = some (b, .inr (ci, fs))) (hcl : vwCl[ci]? = some vc) (hvc : vc.1 = C) (isC isR ps : List Nat) (hC : isC.map (fun i => ws[i]?) = wc.map some) (hR : isR.map (fun i => ws[i]?) = wr.map some) (hn : va_nd isR = true) (hdis : ∀ i ∈ isR, i ∉ isC) (hnC : va_nd isC = true)
    (hps : ps.map (fun i => (wr ++ w1)[i]?) = w'.map some) (hnp : va_nd ps = true) (hlen : As.length = n) {st0 : List Value} (hst : st0 = As.reverse ++ .ref b :: rest) (hsz : ls.size = nL) (hcat : (rest.map fun v => v.category).sum ≤ 8) {st1 : List Value} (hst1 : res.toList ++ rest = st1) (hdg : decode cc pc = .ok (.invokevirtual index, 3)) {k2 s2 : Nat} (hk2 : cells + rm.cells = k2) (hs2 : slots + rm.slots = s2) (hcs : k2 ≤ R.cells ∧ s2 ≤ R.slots)
    (kk : ∀ (H1 : Heap) (locs1 : List Loc), Wo D A s.heap w' H1 locs1 → W p l e R s m args below meth c H1 locs1 k2 s2 Q (F0 m (pc + 3) ls st1)) : W p l e R s m args below meth c H locs cells slots Q (F0 m pc ls st0) := by
  obtain ⟨hx, hb, -, hml, hown, hts, -, hK, hA⟩ := hc
  obtain ⟨hF, hPc, hDc, hj⟩ := g_part hw hA isC isR ps hC hR hn hdis hnC hps hnp
  subst hst
  subst hvc
  refine g_goes (va_runV (As := As) (rest := rest) ⟨hx, hb, hml, hown, hts⟩ (hM H.size) (cwV n hts hG hcode rfl rfl hd hRm) ⟨PX.blind, va_recv hK.1 hPc hcl he, fun U hU hW => ⟨rfl, by rw [hU], by rw [hU]; exact hPc, Kx.warm hW hK, hDc⟩⟩ rfl hlen hsz rfl (lv_room hcat) hdg (by rw [hk2, hs2]; exact hcs)) hw.2.2 (fun q _ h => hF q h) hF hst1 hk2 hs2 (fun H1 l1 h1 h2 h3 h4 => kk H1 l1 (hj H1 l1 h1 h2 h3 h4))
/-- invokestatic by a contract -/
theorem g_callS (hc : Cx p s m args meth c cc nL Ts own ret D cI cZ cL A) (hw : Wo D A s.heap ws H locs) {y : MethodName} {wsm wsm' : List Cond} {rm : Room} {index n maxL : Nat} {As : List Value} {wc wr w1 w' : va_W} {res : Option Value} {bytes : ByteArray} {rt : Option FieldType}
    (hM : MX l y wsm rm D cI cZ cL As wc res w1) (hG : GoodIn Ts (va_wsS own index y wsm)) (hcode : wsm = Cond.code y bytes maxL rt :: wsm') (hd : y.cls ≠ "java/lang/invoke/MethodHandle" ∧ y.cls ≠ "java/lang/invoke/VarHandle" ∧ (parseMethodDescriptor y.desc).map (fun d => d.parameters.length) = some n) (hRm : rm.frames + 1 ≤ R.frames ∧ 8 + (maxL + 11) + rm.locals ≤ R.locals)
    (isC isR ps : List Nat) (hC : isC.map (fun i => ws[i]?) = wc.map some) (hR : isR.map (fun i => ws[i]?) = wr.map some) (hn : va_nd isR = true) (hdis : ∀ i ∈ isR, i ∉ isC) (hnC : va_nd isC = true)
    (hps : ps.map (fun i => (wr ++ w1)[i]?) = w'.map some) (hnp : va_nd ps = true) (hlen : As.length = n) {st0 : List Value} (hst : st0 = As.reverse ++ rest) (hsz : ls.size = nL) (hcat : (rest.map fun v => v.category).sum ≤ 8) {st1 : List Value} (hst1 : res.toList ++ rest = st1) (hdg : decode cc pc = .ok (.invokestatic index, 3)) {k2 s2 : Nat} (hk2 : cells + rm.cells = k2) (hs2 : slots + rm.slots = s2) (hcs : k2 ≤ R.cells ∧ s2 ≤ R.slots)
    (kk : ∀ (H1 : Heap) (locs1 : List Loc), Wo D A s.heap w' H1 locs1 → W p l e R s m args below meth c H1 locs1 k2 s2 Q (F0 m (pc + 3) ls st1)) : W p l e R s m args below meth c H locs cells slots Q (F0 m pc ls st0) := by
  obtain ⟨hx, hb, -, hml, hown, hts, -, hK, hA⟩ := hc
  obtain ⟨hF, hPc, hDc, hj⟩ := g_part hw hA isC isR ps hC hR hn hdis hnC hps hnp
  subst hst
  have ok : ∀ w ∈ va_wsS own index y wsm, w.before args s = true := fun w h => hts w (hG w h).1
  refine g_goes (va_runS (As := As) (rest := rest) ⟨hx, hb, hml, hown, hts⟩ (hM H.size) ⟨callB_of n hts (fun w h => hG w (by unfold va_wsS; exact List.mem_append_right _ h)) hcode rfl rfl (ok _ (by simp [va_wsS])) (ok _ (by simp [va_wsS])) hd hRm, ok _ (by simp [va_wsS])⟩ ⟨PX.blind, fun U hU hW => ⟨rfl, by rw [hU], by rw [hU]; exact hPc, Kx.warm hW hK, hDc⟩⟩ rfl hlen hsz rfl (lv_room hcat) hdg (by rw [hk2, hs2]; exact hcs)) hw.2.2 (fun q _ h => hF q h) hF hst1 hk2 hs2 (fun H1 l1 h1 h2 h3 h4 => kk H1 l1 (hj H1 l1 h1 h2 h3 h4))
/-- the whole world goes with the call -/
theorem g_whole (hw : Wo D A H0 ws H locs) (hA : ∀ q, H0.size ≤ q → A q) : (∀ q, va_A ws H.size q → A q) ∧ va_P D vwCl ws H ∧ va_D (fun _ => True) ws ∧
    ∀ (w1 : va_W) (H1 : Heap) (locs1 : List Loc), va_P D vwCl w1 H1 → va_D (va_A ws H.size) w1 → va_S A H0 H1 locs1 → Wo D A H0 w1 H1 locs1 := by
  obtain ⟨hP, hD, hS⟩ := hw
  have hF : ∀ q, va_A ws H.size q → A q := fun q h => by
    rcases h with ⟨k, e, h⟩ | h
    · exact hD.2 k (q, e) h
    · exact hA q (Nat.le_trans hS.1 h)
  exact ⟨hF, hP, hD.weaken (fun _ _ _ _ => trivial), fun w1 H1 l1 h1 h2 h3 => ⟨h1, h2.weaken (fun k q _ h => hF q.1 h), h3⟩⟩
theorem g_callV0 (hc : Cx p s m args meth c cc nL Ts own ret D cI cZ cL A) (hw : Wo D A s.heap ws H locs) {y : MethodName} {wsm wsm' : List Cond} {rm : Room} {b ci index n maxL : Nat} {As fs : List Value} {w1 : va_W} {res : Option Value} {C : String} {bytes : ByteArray} {rt : Option FieldType} {vc : vw_C}
    (hM : MX l y wsm rm D cI cZ cL (.ref b :: As) ws res w1) (hG : GoodIn Ts (wsV own index C y wsm)) (hcode : wsm = Cond.code y bytes maxL rt :: wsm') (hd : y.cls = C ∧ y.cls ≠ "java/lang/invoke/MethodHandle" ∧ y.cls ≠ "java/lang/invoke/VarHandle" ∧ (parseMethodDescriptor y.desc).map (fun d => d.parameters.length) = some n) (hRm : rm.frames + 1 ≤ R.frames ∧ 8 + (maxL + 11) + rm.locals ≤ R.locals)
    (q0 : Nat) (he : ws[q0]? = some (b, .inr (ci, fs))) (hcl : vwCl[ci]? = some vc) (hvc : vc.1 = C) (hlen : As.length = n) {st0 : List Value} (hst : st0 = As.reverse ++ .ref b :: rest) (hsz : ls.size = nL) (hcat : (rest.map fun v => v.category).sum ≤ 8) {st1 : List Value} (hst1 : res.toList ++ rest = st1) (hdg : decode cc pc = .ok (.invokevirtual index, 3)) {k2 s2 : Nat} (hk2 : cells + rm.cells = k2) (hs2 : slots + rm.slots = s2) (hcs : k2 ≤ R.cells ∧ s2 ≤ R.slots)
    (kk : ∀ (H1 : Heap) (locs1 : List Loc), Wo D A s.heap w1 H1 locs1 → W p l e R s m args below meth c H1 locs1 k2 s2 Q (F0 m (pc + 3) ls st1)) : W p l e R s m args below meth c H locs cells slots Q (F0 m pc ls st0) := by
  obtain ⟨hx, hb, -, hml, hown, hts, -, hK, hA⟩ := hc
  obtain ⟨hF, hPc, hDc, hj⟩ := g_whole hw hA
  subst hst
  subst hvc
  refine g_goes (va_runV (As := As) (rest := rest) ⟨hx, hb, hml, hown, hts⟩ (hM H.size) (cwV n hts hG hcode rfl rfl hd hRm) ⟨PX.blind, va_recv hK.1 hPc hcl he, fun U hU hW => ⟨rfl, by rw [hU], by rw [hU]; exact hPc, Kx.warm hW hK, hDc⟩⟩ rfl hlen hsz rfl (lv_room hcat) hdg (by rw [hk2, hs2]; exact hcs)) hw.2.2 (fun q _ h => hF q h) hF hst1 hk2 hs2 (fun H1 l1 h1 h2 _ h4 => kk H1 l1 (hj w1 H1 l1 h1 h2 h4))
/-- a static method without a world -/
theorem g_callS0 (hc : Cx p s m args meth c cc nL Ts own ret D cI cZ cL A) (hw : Wo D A s.heap ws H locs) {y : MethodName} {wsm wsm' : List Cond} {rm : Room} {index n maxL : Nat} {As : List Value} {res : Option Value} {bytes : ByteArray} {rt : Option FieldType}
    (hM : MX l y wsm rm D cI cZ cL As [] res []) (hG : GoodIn Ts (va_wsS own index y wsm)) (hcode : wsm = Cond.code y bytes maxL rt :: wsm') (hd : y.cls ≠ "java/lang/invoke/MethodHandle" ∧ y.cls ≠ "java/lang/invoke/VarHandle" ∧ (parseMethodDescriptor y.desc).map (fun d => d.parameters.length) = some n) (hRm : rm.frames + 1 ≤ R.frames ∧ 8 + (maxL + 11) + rm.locals ≤ R.locals)
    (hlen : As.length = n) {st0 : List Value} (hst : st0 = As.reverse ++ rest) (hsz : ls.size = nL) (hcat : (rest.map fun v => v.category).sum ≤ 8) {st1 : List Value} (hst1 : res.toList ++ rest = st1) (hdg : decode cc pc = .ok (.invokestatic index, 3)) {k2 s2 : Nat} (hk2 : cells + rm.cells = k2) (hs2 : slots + rm.slots = s2) (hcs : k2 ≤ R.cells ∧ s2 ≤ R.slots)
    (kk : ∀ (H1 : Heap) (locs1 : List Loc), Wo D A s.heap ws H1 locs1 → W p l e R s m args below meth c H1 locs1 k2 s2 Q (F0 m (pc + 3) ls st1)) : W p l e R s m args below meth c H locs cells slots Q (F0 m pc ls st0) := by
  obtain ⟨hx, hb, -, hml, hown, hts, -, hK, hA⟩ := hc
  obtain ⟨hP, hD, hS⟩ := hw
  have hF : ∀ q, va_A [] H.size q → A q := fun q h => by
    rcases h with ⟨k, e, h⟩ | h
    · simp at h
    · exact hA q (Nat.le_trans hS.1 h)
  subst hst
  have ok : ∀ w ∈ va_wsS own index y wsm, w.before args s = true := fun w h => hts w (hG w h).1
  refine g_goes (va_runS (As := As) (rest := rest) ⟨hx, hb, hml, hown, hts⟩ (hM H.size) ⟨callB_of n hts (fun w h => hG w (by unfold va_wsS; exact List.mem_append_right _ h)) hcode rfl rfl (ok _ (by simp [va_wsS])) (ok _ (by simp [va_wsS])) hd hRm, ok _ (by simp [va_wsS])⟩ ⟨PX.blind, fun U hU hW => ⟨rfl, by rw [hU], fun k q h => by simp at h, Kx.warm hW hK, ⟨fun i j p q h => by simp at h, fun k q h => by simp at h⟩⟩⟩ rfl hlen hsz rfl (lv_room hcat) hdg (by rw [hk2, hs2]; exact hcs)) hS (fun q _ h => hF q h) hF hst1 hk2 hs2 (fun H1 l1 _ _ h3 h4 => kk H1 l1 ⟨hP.kept (fun k q hk => h3 q.1 (hP k q hk).lt (fun z => by
    rcases z with ⟨k9, e9, h9⟩ | h9
    · simp at h9
    · exact absurd (hP k q hk).lt (by omega))), hD, h4⟩)
theorem g_mmax (hc : Cx p s m args meth c cc nL Ts own ret D cI cZ cL A) (hsz : ls.size = nL) {index : Nat} (m1 : Cond.methodLink own index Lib.Math.max.name ∈ Ts) (m2 : Cond.static Lib.Math.max.name ∈ Ts) (m3 : Cond.initialized "java/lang/Math" ∈ Ts) (m4 : Cond.code Lib.Math.max.name Lib.Math.max.code 2 (some .int) ∈ Ts)
    (hf : 1 ≤ R.frames) (hlo : (rest.map fun v => v.category).sum + 13 ≤ R.locals) (h1 : cells ≤ R.cells) (h2 : slots ≤ R.slots) {x y : Int32} (hdg : decode cc pc = .ok (.invokestatic index, 3))
    (kk : W p l e R s m args below meth c H locs cells slots Q (F0 m (pc + 3) ls (.int (if x < y then y else x) :: rest))) : W p l e R s m args below meth c H locs cells slots Q (F0 m pc ls (.int y :: .int x :: rest)) := by
  obtain ⟨hx, hb, -, hml, hown, hts, -, hK, hA⟩ := hc
  exact va_mmax hx hb (hml.trans hsz.symm) hown (hts _ m1) (hts _ m2) (hts _ m3) (hts _ m4) hf hlo h1 h2 hdg kk
theorem g_mmin (hc : Cx p s m args meth c cc nL Ts own ret D cI cZ cL A) (hsz : ls.size = nL) {index : Nat} (m1 : Cond.methodLink own index Lib.Math.min.name ∈ Ts) (m2 : Cond.static Lib.Math.min.name ∈ Ts) (m3 : Cond.initialized "java/lang/Math" ∈ Ts) (m4 : Cond.code Lib.Math.min.name Lib.Math.min.code 2 (some .int) ∈ Ts)
    (hf : 1 ≤ R.frames) (hlo : (rest.map fun v => v.category).sum + 13 ≤ R.locals) (h1 : cells ≤ R.cells) (h2 : slots ≤ R.slots) {x y : Int32} (hdg : decode cc pc = .ok (.invokestatic index, 3))
    (kk : W p l e R s m args below meth c H locs cells slots Q (F0 m (pc + 3) ls (.int (if y < x then y else x) :: rest))) : W p l e R s m args below meth c H locs cells slots Q (F0 m pc ls (.int y :: .int x :: rest)) := by
  obtain ⟨hx, hb, -, hml, hown, hts, -, hK, hA⟩ := hc
  exact va_mmin hx hb (hml.trans hsz.symm) hown (hts _ m1) (hts _ m2) (hts _ m3) (hts _ m4) hf hlo h1 h2 hdg kk
end GR
/-- a loop of n turns that makes f's values: the state at the head with the number i and the value a, for all i and a -/
def lpf {α : Type} (f : Nat → α → α) : Nat → Nat → α → α
  | 0, _, a => a
  | n + 1, i, a => lpf f n (i + 1) (f i a)
theorem lp_ind {α : Type} (G : Nat → α → Prop) (f : Nat → α → α) (N : Nat) (hs : ∀ i a, i < N → G (i + 1) (f i a) → G i a) : ∀ (n i : Nat) (a : α), i + n = N → G N (lpf f n i a) → G i a := by
  intro n
  induction n with
  | zero => intro i a h g; rw [Nat.add_zero] at h; subst h; exact g
  | succ n ih => intro i a h g; exact hs i a (by omega) (ih (i + 1) (f i a) (by omega) g)
theorem lp_go {α : Type} (G : Nat → α → Prop) (f : Nat → α → α) (N : Nat) (a : α) (hs : ∀ i a, i < N → G (i + 1) (f i a) → G i a) (he : G N (lpf f N 0 a)) : G 0 a := lp_ind G f N hs N 0 a (by omega) he
/-- the same for a loop that may be left: f answers the way out, or the next value -/
def lpx {α β : Type} (f : Nat → α → β ⊕ α) : Nat → Nat → α → β ⊕ α
  | 0, _, a => .inr a
  | n + 1, i, a => match f i a with
    | .inl b => .inl b
    | .inr a' => lpx f n (i + 1) a'
def lpx_E {α β : Type} (E : β → Prop) (G : α → Prop) : β ⊕ α → Prop
  | .inl b => E b
  | .inr a => G a
theorem lpx_ind {α β : Type} (G : Nat → α → Prop) (E : β → Prop) (f : Nat → α → β ⊕ α) (N : Nat) (hs : ∀ i a, i < N → lpx_E E (G (i + 1)) (f i a) → G i a) : ∀ (n i : Nat) (a : α), i + n = N → lpx_E E (G N) (lpx f n i a) → G i a := by
  intro n
  induction n with
  | zero => intro i a h g; rw [Nat.add_zero] at h; subst h; exact g
  | succ n ih =>
    intro i a h g
    refine hs i a (by omega) ?_
    rw [lpx] at g
    cases hf : f i a with
    | inl b => rw [hf] at g; exact g
    | inr a' => rw [hf] at g; exact ih (i + 1) a' (by omega) g
theorem lpx_go {α β : Type} (G : Nat → α → Prop) (E : β → Prop) (f : Nat → α → β ⊕ α) (N : Nat) (a : α) (hs : ∀ i a, i < N → (∀ b, f i a = .inl b → E b) → (∀ a', f i a = .inr a' → G (i + 1) a') → G i a) (hi : ∀ b, lpx f N 0 a = .inl b → E b) (hr : ∀ q, lpx f N 0 a = .inr q → G N q) : G 0 a := by
  refine lpx_ind G E f N (fun i a hi h => ?_) N 0 a (by omega) ?_
  · refine hs i a hi (fun b hb => ?_) (fun a' ha => ?_)
    · rw [hb] at h; exact h
    · rw [ha] at h; exact h
  · cases h : lpx f N 0 a with
    | inl b => exact hi b h
    | inr q => exact hr q h
theorem lpf_P {α : Type} (P : α → Prop) (f : Nat → α → α) (hs : ∀ i a, P a → P (f i a)) : ∀ (n i : Nat) (a : α), P a → P (lpf f n i a) := by
  intro n
  induction n with
  | zero => intro i a h; exact h
  | succ n ih => intro i a h; exact ih (i + 1) (f i a) (hs i a h)
theorem nz_01 {v : Int32} (h : v = 0 ∨ v = 1) : narrow .boolean (.int v) = .int v := by rcases h with rfl | rfl <;> rfl
theorem inc_1 (x : Int32) : x + Int32.ofInt 1 = x + 1 := rfl
theorem dec_1 (x : Int32) : x + Int32.ofInt (-1) = x + (-1) := by rw [show Int32.ofInt (-1) = (-1 : Int32) from by decide]
theorem inc_n (i : Nat) : nI i + Int32.ofInt 1 = nI (i + 1) := nI_1 i
theorem vp_x {x : Int32} {w N : Nat} (h0 : ¬ x < 0) (h1 : ¬ nI w ≤ x) (hw : w ≤ N) (hN : N < 2 ^ 31) : vp_in x N := by
  obtain ⟨j, hj, rfl⟩ := nI_of h0
  have hlt : j < w := by
    rcases Nat.lt_or_ge j w with q | q
    · exact q
    · exact absurd (nI_le q hj) h1
  exact vp_in_nI (by omega) hN
end GB
end
section
/-! 05.world: the two kinds of towns as worlds -/
abbrev ct_T : Type := Int32 × Int32 × Int32 × (Nat → Int32) × (Nat → Int32) × (Nat → Int32) × (Nat → Int32) × (Nat → Int32) × (Nat → Int32) × (Nat → Int32) × (Nat → Int32) × (Nat → Int32) × (Nat → Int32)
def ct_day (T : ct_T) : Int32 := T.1
def ct_bo (T : ct_T) : Int32 := T.2.1
def ct_ea (T : ct_T) : Int32 := T.2.2.1
def ct_pl (T : ct_T) : Nat → Int32 := T.2.2.2.1
def ct_st (T : ct_T) : Nat → Int32 := T.2.2.2.2.1
def ct_ke (T : ct_T) : Nat → Int32 := T.2.2.2.2.2.1
def ct_to (T : ct_T) : Nat → Int32 := T.2.2.2.2.2.2.1
def ct_fe (T : ct_T) : Nat → Int32 := T.2.2.2.2.2.2.2.1
def ct_wh (T : ct_T) : Nat → Int32 := T.2.2.2.2.2.2.2.2.1
def ct_nu (T : ct_T) : Nat → Int32 := T.2.2.2.2.2.2.2.2.2.1
def ct_hd (T : ct_T) : Nat → Int32 := T.2.2.2.2.2.2.2.2.2.2.1
def ct_ht (T : ct_T) : Nat → Int32 := T.2.2.2.2.2.2.2.2.2.2.2.1
def ct_fr (T : ct_T) : Nat → Int32 := T.2.2.2.2.2.2.2.2.2.2.2.2
def cs_day (T : ct_T) (v : Int32) : ct_T := (v, T.2.1, T.2.2.1, T.2.2.2.1, T.2.2.2.2.1, T.2.2.2.2.2.1, T.2.2.2.2.2.2.1, T.2.2.2.2.2.2.2.1, T.2.2.2.2.2.2.2.2.1, T.2.2.2.2.2.2.2.2.2.1, T.2.2.2.2.2.2.2.2.2.2.1, T.2.2.2.2.2.2.2.2.2.2.2.1, T.2.2.2.2.2.2.2.2.2.2.2.2)
def cs_bo (T : ct_T) (v : Int32) : ct_T := (T.1, v, T.2.2.1, T.2.2.2.1, T.2.2.2.2.1, T.2.2.2.2.2.1, T.2.2.2.2.2.2.1, T.2.2.2.2.2.2.2.1, T.2.2.2.2.2.2.2.2.1, T.2.2.2.2.2.2.2.2.2.1, T.2.2.2.2.2.2.2.2.2.2.1, T.2.2.2.2.2.2.2.2.2.2.2.1, T.2.2.2.2.2.2.2.2.2.2.2.2)
def cs_ea (T : ct_T) (v : Int32) : ct_T := (T.1, T.2.1, v, T.2.2.2.1, T.2.2.2.2.1, T.2.2.2.2.2.1, T.2.2.2.2.2.2.1, T.2.2.2.2.2.2.2.1, T.2.2.2.2.2.2.2.2.1, T.2.2.2.2.2.2.2.2.2.1, T.2.2.2.2.2.2.2.2.2.2.1, T.2.2.2.2.2.2.2.2.2.2.2.1, T.2.2.2.2.2.2.2.2.2.2.2.2)
def cs_pl (T : ct_T) (v : Nat → Int32) : ct_T := (T.1, T.2.1, T.2.2.1, v, T.2.2.2.2.1, T.2.2.2.2.2.1, T.2.2.2.2.2.2.1, T.2.2.2.2.2.2.2.1, T.2.2.2.2.2.2.2.2.1, T.2.2.2.2.2.2.2.2.2.1, T.2.2.2.2.2.2.2.2.2.2.1, T.2.2.2.2.2.2.2.2.2.2.2.1, T.2.2.2.2.2.2.2.2.2.2.2.2)
def cs_st (T : ct_T) (v : Nat → Int32) : ct_T := (T.1, T.2.1, T.2.2.1, T.2.2.2.1, v, T.2.2.2.2.2.1, T.2.2.2.2.2.2.1, T.2.2.2.2.2.2.2.1, T.2.2.2.2.2.2.2.2.1, T.2.2.2.2.2.2.2.2.2.1, T.2.2.2.2.2.2.2.2.2.2.1, T.2.2.2.2.2.2.2.2.2.2.2.1, T.2.2.2.2.2.2.2.2.2.2.2.2)
def cs_ke (T : ct_T) (v : Nat → Int32) : ct_T := (T.1, T.2.1, T.2.2.1, T.2.2.2.1, T.2.2.2.2.1, v, T.2.2.2.2.2.2.1, T.2.2.2.2.2.2.2.1, T.2.2.2.2.2.2.2.2.1, T.2.2.2.2.2.2.2.2.2.1, T.2.2.2.2.2.2.2.2.2.2.1, T.2.2.2.2.2.2.2.2.2.2.2.1, T.2.2.2.2.2.2.2.2.2.2.2.2)
def cs_to (T : ct_T) (v : Nat → Int32) : ct_T := (T.1, T.2.1, T.2.2.1, T.2.2.2.1, T.2.2.2.2.1, T.2.2.2.2.2.1, v, T.2.2.2.2.2.2.2.1, T.2.2.2.2.2.2.2.2.1, T.2.2.2.2.2.2.2.2.2.1, T.2.2.2.2.2.2.2.2.2.2.1, T.2.2.2.2.2.2.2.2.2.2.2.1, T.2.2.2.2.2.2.2.2.2.2.2.2)
def cs_fe (T : ct_T) (v : Nat → Int32) : ct_T := (T.1, T.2.1, T.2.2.1, T.2.2.2.1, T.2.2.2.2.1, T.2.2.2.2.2.1, T.2.2.2.2.2.2.1, v, T.2.2.2.2.2.2.2.2.1, T.2.2.2.2.2.2.2.2.2.1, T.2.2.2.2.2.2.2.2.2.2.1, T.2.2.2.2.2.2.2.2.2.2.2.1, T.2.2.2.2.2.2.2.2.2.2.2.2)
def cs_wh (T : ct_T) (v : Nat → Int32) : ct_T := (T.1, T.2.1, T.2.2.1, T.2.2.2.1, T.2.2.2.2.1, T.2.2.2.2.2.1, T.2.2.2.2.2.2.1, T.2.2.2.2.2.2.2.1, v, T.2.2.2.2.2.2.2.2.2.1, T.2.2.2.2.2.2.2.2.2.2.1, T.2.2.2.2.2.2.2.2.2.2.2.1, T.2.2.2.2.2.2.2.2.2.2.2.2)
def cs_nu (T : ct_T) (v : Nat → Int32) : ct_T := (T.1, T.2.1, T.2.2.1, T.2.2.2.1, T.2.2.2.2.1, T.2.2.2.2.2.1, T.2.2.2.2.2.2.1, T.2.2.2.2.2.2.2.1, T.2.2.2.2.2.2.2.2.1, v, T.2.2.2.2.2.2.2.2.2.2.1, T.2.2.2.2.2.2.2.2.2.2.2.1, T.2.2.2.2.2.2.2.2.2.2.2.2)
def cs_hd (T : ct_T) (v : Nat → Int32) : ct_T := (T.1, T.2.1, T.2.2.1, T.2.2.2.1, T.2.2.2.2.1, T.2.2.2.2.2.1, T.2.2.2.2.2.2.1, T.2.2.2.2.2.2.2.1, T.2.2.2.2.2.2.2.2.1, T.2.2.2.2.2.2.2.2.2.1, v, T.2.2.2.2.2.2.2.2.2.2.2.1, T.2.2.2.2.2.2.2.2.2.2.2.2)
def cs_ht (T : ct_T) (v : Nat → Int32) : ct_T := (T.1, T.2.1, T.2.2.1, T.2.2.2.1, T.2.2.2.2.1, T.2.2.2.2.2.1, T.2.2.2.2.2.2.1, T.2.2.2.2.2.2.2.1, T.2.2.2.2.2.2.2.2.1, T.2.2.2.2.2.2.2.2.2.1, T.2.2.2.2.2.2.2.2.2.2.1, v, T.2.2.2.2.2.2.2.2.2.2.2.2)
def cs_fr (T : ct_T) (v : Nat → Int32) : ct_T := (T.1, T.2.1, T.2.2.1, T.2.2.2.1, T.2.2.2.2.1, T.2.2.2.2.2.1, T.2.2.2.2.2.2.1, T.2.2.2.2.2.2.2.1, T.2.2.2.2.2.2.2.2.1, T.2.2.2.2.2.2.2.2.2.1, T.2.2.2.2.2.2.2.2.2.2.1, T.2.2.2.2.2.2.2.2.2.2.2.1, v)
abbrev mt_T : Type := Int32 × Int32 × Int32 × (Nat → Int32) × (Nat → Int32) × (Nat → Int32) × (Nat → Int32) × (Nat → Int32) × (Nat → Int32) × (Nat → Int32)
def mt_day (T : mt_T) : Int32 := T.1
def mt_bo (T : mt_T) : Int32 := T.2.1
def mt_ea (T : mt_T) : Int32 := T.2.2.1
def mt_pl (T : mt_T) : Nat → Int32 := T.2.2.2.1
def mt_st (T : mt_T) : Nat → Int32 := T.2.2.2.2.1
def mt_ke (T : mt_T) : Nat → Int32 := T.2.2.2.2.2.1
def mt_to (T : mt_T) : Nat → Int32 := T.2.2.2.2.2.2.1
def mt_fe (T : mt_T) : Nat → Int32 := T.2.2.2.2.2.2.2.1
def mt_wh (T : mt_T) : Nat → Int32 := T.2.2.2.2.2.2.2.2.1
def mt_hu (T : mt_T) : Nat → Int32 := T.2.2.2.2.2.2.2.2.2
def ms_day (T : mt_T) (v : Int32) : mt_T := (v, T.2.1, T.2.2.1, T.2.2.2.1, T.2.2.2.2.1, T.2.2.2.2.2.1, T.2.2.2.2.2.2.1, T.2.2.2.2.2.2.2.1, T.2.2.2.2.2.2.2.2.1, T.2.2.2.2.2.2.2.2.2)
def ms_bo (T : mt_T) (v : Int32) : mt_T := (T.1, v, T.2.2.1, T.2.2.2.1, T.2.2.2.2.1, T.2.2.2.2.2.1, T.2.2.2.2.2.2.1, T.2.2.2.2.2.2.2.1, T.2.2.2.2.2.2.2.2.1, T.2.2.2.2.2.2.2.2.2)
def ms_ea (T : mt_T) (v : Int32) : mt_T := (T.1, T.2.1, v, T.2.2.2.1, T.2.2.2.2.1, T.2.2.2.2.2.1, T.2.2.2.2.2.2.1, T.2.2.2.2.2.2.2.1, T.2.2.2.2.2.2.2.2.1, T.2.2.2.2.2.2.2.2.2)
def ms_pl (T : mt_T) (v : Nat → Int32) : mt_T := (T.1, T.2.1, T.2.2.1, v, T.2.2.2.2.1, T.2.2.2.2.2.1, T.2.2.2.2.2.2.1, T.2.2.2.2.2.2.2.1, T.2.2.2.2.2.2.2.2.1, T.2.2.2.2.2.2.2.2.2)
def ms_st (T : mt_T) (v : Nat → Int32) : mt_T := (T.1, T.2.1, T.2.2.1, T.2.2.2.1, v, T.2.2.2.2.2.1, T.2.2.2.2.2.2.1, T.2.2.2.2.2.2.2.1, T.2.2.2.2.2.2.2.2.1, T.2.2.2.2.2.2.2.2.2)
def ms_ke (T : mt_T) (v : Nat → Int32) : mt_T := (T.1, T.2.1, T.2.2.1, T.2.2.2.1, T.2.2.2.2.1, v, T.2.2.2.2.2.2.1, T.2.2.2.2.2.2.2.1, T.2.2.2.2.2.2.2.2.1, T.2.2.2.2.2.2.2.2.2)
def ms_to (T : mt_T) (v : Nat → Int32) : mt_T := (T.1, T.2.1, T.2.2.1, T.2.2.2.1, T.2.2.2.2.1, T.2.2.2.2.2.1, v, T.2.2.2.2.2.2.2.1, T.2.2.2.2.2.2.2.2.1, T.2.2.2.2.2.2.2.2.2)
def ms_fe (T : mt_T) (v : Nat → Int32) : mt_T := (T.1, T.2.1, T.2.2.1, T.2.2.2.1, T.2.2.2.2.1, T.2.2.2.2.2.1, T.2.2.2.2.2.2.1, v, T.2.2.2.2.2.2.2.2.1, T.2.2.2.2.2.2.2.2.2)
def ms_wh (T : mt_T) (v : Nat → Int32) : mt_T := (T.1, T.2.1, T.2.2.1, T.2.2.2.1, T.2.2.2.2.1, T.2.2.2.2.2.1, T.2.2.2.2.2.2.1, T.2.2.2.2.2.2.2.1, v, T.2.2.2.2.2.2.2.2.2)
def ms_hu (T : mt_T) (v : Nat → Int32) : mt_T := (T.1, T.2.1, T.2.2.1, T.2.2.2.1, T.2.2.2.2.1, T.2.2.2.2.2.1, T.2.2.2.2.2.2.1, T.2.2.2.2.2.2.2.1, T.2.2.2.2.2.2.2.2.1, v)
def wf_c (a : Nat → Nat) (w b n : Nat) (T : ct_T) : List Value := [.int (ct_day T), .int (ct_bo T), .int (ct_ea T), .int (nI w), .ref (a 4), .ref (a 5), .int (nI b), .ref (a 7), .ref (a 8), .int (nI n), .ref (a 10), .ref (a 11), .ref (a 12), .ref (a 13), .ref (a 14), .ref (a 15)]
def wt_c (a : Nat → Nat) (cI cZ : ClassId) (w b n : Nat) (T : ct_T) : va_W := [(a 0, .inr (0, wf_c a w b n T)), (a 4, .inl (cI, 5, .inl (ct_pl T))), (a 5, .inl (cI, 5, .inl (ct_st T))), (a 7, .inl (cI, 4, .inl (ct_ke T))), (a 8, .inl (cI, 4, .inl (ct_to T))), (a 10, .inl (cI, 30, .inl (ct_fe T))), (a 11, .inl (cI, 30, .inl (ct_wh T))), (a 12, .inl (cI, 30, .inl (ct_nu T))), (a 13, .inl (cI, 30, .inl (ct_hd T))), (a 14, .inl (cZ, 30, .inl (ct_ht T))), (a 15, .inl (cI, 5, .inl (ct_fr T)))]
def wf_m (a : Nat → Nat) (w b n : Nat) (T : mt_T) : List Value := [.int (mt_day T), .int (nI w), .int (nI b), .int (nI n), .int (mt_bo T), .int (mt_ea T), .ref (a 6), .ref (a 7), .ref (a 8), .ref (a 9), .ref (a 10), .ref (a 11), .ref (a 12)]
def wt_m (a : Nat → Nat) (cI : ClassId) (w b n : Nat) (T : mt_T) : va_W := [(a 0, .inr (2, wf_m a w b n T)), (a 6, .inl (cI, 5, .inl (mt_pl T))), (a 7, .inl (cI, 5, .inl (mt_st T))), (a 8, .inl (cI, 4, .inl (mt_ke T))), (a 9, .inl (cI, 4, .inl (mt_to T))), (a 10, .inl (cI, 30, .inl (mt_fe T))), (a 11, .inl (cI, 30, .inl (mt_wh T))), (a 12, .inl (cI, 30, .inl (mt_hu T)))]
def wb_c0 (h : Nat) (a a2 : Nat → Nat) : Nat × va_E := (h, .inr (1, [.ref (a 0), .ref (a2 0)]))
def wb_c (h : Nat) (a a2 : Nat → Nat) (cI cZ : ClassId) (w b n : Nat) (T : ct_T) (w2 b2 n2 : Nat) (T2 : ct_T) : va_W := wb_c0 h a a2 :: (wt_c a cI cZ w b n T ++ wt_c a2 cI cZ w2 b2 n2 T2)
def wb_m0 (h : Nat) (a a2 : Nat → Nat) (th : Int32) : Nat × va_E := (h, .inr (3, [.int th, .ref (a 0), .ref (a2 0)]))
def wb_m (h : Nat) (a a2 : Nat → Nat) (cI : ClassId) (th : Int32) (w b n : Nat) (T : mt_T) (w2 b2 n2 : Nat) (T2 : mt_T) : va_W := wb_m0 h a a2 th :: (wt_m a cI w b n T ++ wt_m a2 cI w2 b2 n2 T2)
theorem wo_X0_T (a : Nat → Nat) (cI cZ : ClassId) (w b n : Nat) (T : ct_T) : (wt_c a cI cZ w b n T)[0]? = some (a 0, .inr (0, (wf_c a w b n T))) := rfl
theorem wp_X0_T_0 (a : Nat → Nat) (cI cZ : ClassId) (w b n : Nat) (T : ct_T) (v : Int32) : (wt_c a cI cZ w b n T).set 0 (a 0, .inr (0, (wf_c a w b n T).set 0 (.int v))) = (wt_c a cI cZ w b n (cs_day T v)) := rfl
theorem wv_X0_T_0 (a : Nat → Nat) (w b n : Nat) (T : ct_T) : (wf_c a w b n T)[0]? = some (.int (ct_day T)) := rfl
theorem wp_X0_T_1 (a : Nat → Nat) (cI cZ : ClassId) (w b n : Nat) (T : ct_T) (v : Int32) : (wt_c a cI cZ w b n T).set 0 (a 0, .inr (0, (wf_c a w b n T).set 1 (.int v))) = (wt_c a cI cZ w b n (cs_bo T v)) := rfl
theorem wv_X0_T_1 (a : Nat → Nat) (w b n : Nat) (T : ct_T) : (wf_c a w b n T)[1]? = some (.int (ct_bo T)) := rfl
theorem wp_X0_T_2 (a : Nat → Nat) (cI cZ : ClassId) (w b n : Nat) (T : ct_T) (v : Int32) : (wt_c a cI cZ w b n T).set 0 (a 0, .inr (0, (wf_c a w b n T).set 2 (.int v))) = (wt_c a cI cZ w b n (cs_ea T v)) := rfl
theorem wv_X0_T_2 (a : Nat → Nat) (w b n : Nat) (T : ct_T) : (wf_c a w b n T)[2]? = some (.int (ct_ea T)) := rfl
theorem wp_X0_T_3 (a : Nat → Nat) (cI cZ : ClassId) (w b n : Nat) (T : ct_T) (v : Nat) : (wt_c a cI cZ w b n T).set 0 (a 0, .inr (0, (wf_c a w b n T).set 3 (.int (nI v)))) = (wt_c a cI cZ v b n T) := rfl
theorem wv_X0_T_3 (a : Nat → Nat) (w b n : Nat) (T : ct_T) : (wf_c a w b n T)[3]? = some (.int (nI w)) := rfl
theorem wr_X0_T_4 (a : Nat → Nat) (cI cZ : ClassId) (w b n : Nat) (T : ct_T) : (wt_c a cI cZ w b n T)[1]? = some (a 4, .inl (cI, 5, .inl (ct_pl T))) := rfl
theorem wu_X0_T_4 (a : Nat → Nat) (cI cZ : ClassId) (w b n : Nat) (T : ct_T) (f : Nat → Int32) : (wt_c a cI cZ w b n T).set 1 (a 4, .inl (cI, 5, .inl f)) = (wt_c a cI cZ w b n (cs_pl T f)) := rfl
theorem wv_X0_T_4 (a : Nat → Nat) (w b n : Nat) (T : ct_T) : (wf_c a w b n T)[4]? = some (.ref (a 4)) := rfl
theorem wr_X0_T_5 (a : Nat → Nat) (cI cZ : ClassId) (w b n : Nat) (T : ct_T) : (wt_c a cI cZ w b n T)[2]? = some (a 5, .inl (cI, 5, .inl (ct_st T))) := rfl
theorem wu_X0_T_5 (a : Nat → Nat) (cI cZ : ClassId) (w b n : Nat) (T : ct_T) (f : Nat → Int32) : (wt_c a cI cZ w b n T).set 2 (a 5, .inl (cI, 5, .inl f)) = (wt_c a cI cZ w b n (cs_st T f)) := rfl
theorem wv_X0_T_5 (a : Nat → Nat) (w b n : Nat) (T : ct_T) : (wf_c a w b n T)[5]? = some (.ref (a 5)) := rfl
theorem wp_X0_T_6 (a : Nat → Nat) (cI cZ : ClassId) (w b n : Nat) (T : ct_T) (v : Nat) : (wt_c a cI cZ w b n T).set 0 (a 0, .inr (0, (wf_c a w b n T).set 6 (.int (nI v)))) = (wt_c a cI cZ w v n T) := rfl
theorem wv_X0_T_6 (a : Nat → Nat) (w b n : Nat) (T : ct_T) : (wf_c a w b n T)[6]? = some (.int (nI b)) := rfl
theorem wr_X0_T_7 (a : Nat → Nat) (cI cZ : ClassId) (w b n : Nat) (T : ct_T) : (wt_c a cI cZ w b n T)[3]? = some (a 7, .inl (cI, 4, .inl (ct_ke T))) := rfl
theorem wu_X0_T_7 (a : Nat → Nat) (cI cZ : ClassId) (w b n : Nat) (T : ct_T) (f : Nat → Int32) : (wt_c a cI cZ w b n T).set 3 (a 7, .inl (cI, 4, .inl f)) = (wt_c a cI cZ w b n (cs_ke T f)) := rfl
theorem wv_X0_T_7 (a : Nat → Nat) (w b n : Nat) (T : ct_T) : (wf_c a w b n T)[7]? = some (.ref (a 7)) := rfl
theorem wr_X0_T_8 (a : Nat → Nat) (cI cZ : ClassId) (w b n : Nat) (T : ct_T) : (wt_c a cI cZ w b n T)[4]? = some (a 8, .inl (cI, 4, .inl (ct_to T))) := rfl
theorem wu_X0_T_8 (a : Nat → Nat) (cI cZ : ClassId) (w b n : Nat) (T : ct_T) (f : Nat → Int32) : (wt_c a cI cZ w b n T).set 4 (a 8, .inl (cI, 4, .inl f)) = (wt_c a cI cZ w b n (cs_to T f)) := rfl
theorem wv_X0_T_8 (a : Nat → Nat) (w b n : Nat) (T : ct_T) : (wf_c a w b n T)[8]? = some (.ref (a 8)) := rfl
theorem wp_X0_T_9 (a : Nat → Nat) (cI cZ : ClassId) (w b n : Nat) (T : ct_T) (v : Nat) : (wt_c a cI cZ w b n T).set 0 (a 0, .inr (0, (wf_c a w b n T).set 9 (.int (nI v)))) = (wt_c a cI cZ w b v T) := rfl
theorem wv_X0_T_9 (a : Nat → Nat) (w b n : Nat) (T : ct_T) : (wf_c a w b n T)[9]? = some (.int (nI n)) := rfl
theorem wr_X0_T_10 (a : Nat → Nat) (cI cZ : ClassId) (w b n : Nat) (T : ct_T) : (wt_c a cI cZ w b n T)[5]? = some (a 10, .inl (cI, 30, .inl (ct_fe T))) := rfl
theorem wu_X0_T_10 (a : Nat → Nat) (cI cZ : ClassId) (w b n : Nat) (T : ct_T) (f : Nat → Int32) : (wt_c a cI cZ w b n T).set 5 (a 10, .inl (cI, 30, .inl f)) = (wt_c a cI cZ w b n (cs_fe T f)) := rfl
theorem wv_X0_T_10 (a : Nat → Nat) (w b n : Nat) (T : ct_T) : (wf_c a w b n T)[10]? = some (.ref (a 10)) := rfl
theorem wr_X0_T_11 (a : Nat → Nat) (cI cZ : ClassId) (w b n : Nat) (T : ct_T) : (wt_c a cI cZ w b n T)[6]? = some (a 11, .inl (cI, 30, .inl (ct_wh T))) := rfl
theorem wu_X0_T_11 (a : Nat → Nat) (cI cZ : ClassId) (w b n : Nat) (T : ct_T) (f : Nat → Int32) : (wt_c a cI cZ w b n T).set 6 (a 11, .inl (cI, 30, .inl f)) = (wt_c a cI cZ w b n (cs_wh T f)) := rfl
theorem wv_X0_T_11 (a : Nat → Nat) (w b n : Nat) (T : ct_T) : (wf_c a w b n T)[11]? = some (.ref (a 11)) := rfl
theorem wr_X0_T_12 (a : Nat → Nat) (cI cZ : ClassId) (w b n : Nat) (T : ct_T) : (wt_c a cI cZ w b n T)[7]? = some (a 12, .inl (cI, 30, .inl (ct_nu T))) := rfl
theorem wu_X0_T_12 (a : Nat → Nat) (cI cZ : ClassId) (w b n : Nat) (T : ct_T) (f : Nat → Int32) : (wt_c a cI cZ w b n T).set 7 (a 12, .inl (cI, 30, .inl f)) = (wt_c a cI cZ w b n (cs_nu T f)) := rfl
theorem wv_X0_T_12 (a : Nat → Nat) (w b n : Nat) (T : ct_T) : (wf_c a w b n T)[12]? = some (.ref (a 12)) := rfl
theorem wr_X0_T_13 (a : Nat → Nat) (cI cZ : ClassId) (w b n : Nat) (T : ct_T) : (wt_c a cI cZ w b n T)[8]? = some (a 13, .inl (cI, 30, .inl (ct_hd T))) := rfl
theorem wu_X0_T_13 (a : Nat → Nat) (cI cZ : ClassId) (w b n : Nat) (T : ct_T) (f : Nat → Int32) : (wt_c a cI cZ w b n T).set 8 (a 13, .inl (cI, 30, .inl f)) = (wt_c a cI cZ w b n (cs_hd T f)) := rfl
theorem wv_X0_T_13 (a : Nat → Nat) (w b n : Nat) (T : ct_T) : (wf_c a w b n T)[13]? = some (.ref (a 13)) := rfl
theorem wr_X0_T_14 (a : Nat → Nat) (cI cZ : ClassId) (w b n : Nat) (T : ct_T) : (wt_c a cI cZ w b n T)[9]? = some (a 14, .inl (cZ, 30, .inl (ct_ht T))) := rfl
theorem wu_X0_T_14 (a : Nat → Nat) (cI cZ : ClassId) (w b n : Nat) (T : ct_T) (f : Nat → Int32) : (wt_c a cI cZ w b n T).set 9 (a 14, .inl (cZ, 30, .inl f)) = (wt_c a cI cZ w b n (cs_ht T f)) := rfl
theorem wv_X0_T_14 (a : Nat → Nat) (w b n : Nat) (T : ct_T) : (wf_c a w b n T)[14]? = some (.ref (a 14)) := rfl
theorem wr_X0_T_15 (a : Nat → Nat) (cI cZ : ClassId) (w b n : Nat) (T : ct_T) : (wt_c a cI cZ w b n T)[10]? = some (a 15, .inl (cI, 5, .inl (ct_fr T))) := rfl
theorem wu_X0_T_15 (a : Nat → Nat) (cI cZ : ClassId) (w b n : Nat) (T : ct_T) (f : Nat → Int32) : (wt_c a cI cZ w b n T).set 10 (a 15, .inl (cI, 5, .inl f)) = (wt_c a cI cZ w b n (cs_fr T f)) := rfl
theorem wv_X0_T_15 (a : Nat → Nat) (w b n : Nat) (T : ct_T) : (wf_c a w b n T)[15]? = some (.ref (a 15)) := rfl
theorem wo_X1_T (h : Nat) (a a2 : Nat → Nat) (cI cZ : ClassId) (w b n : Nat) (T : ct_T) (w2 b2 n2 : Nat) (T2 : ct_T) : (wb_c h a a2 cI cZ w b n T w2 b2 n2 T2)[1]? = some (a 0, .inr (0, (wf_c a w b n T))) := rfl
theorem wp_X1_T_0 (h : Nat) (a a2 : Nat → Nat) (cI cZ : ClassId) (w b n : Nat) (T : ct_T) (w2 b2 n2 : Nat) (T2 : ct_T) (v : Int32) : (wb_c h a a2 cI cZ w b n T w2 b2 n2 T2).set 1 (a 0, .inr (0, (wf_c a w b n T).set 0 (.int v))) = (wb_c h a a2 cI cZ w b n (cs_day T v) w2 b2 n2 T2) := rfl
theorem wv_X1_T_0 (a : Nat → Nat) (w b n : Nat) (T : ct_T) : (wf_c a w b n T)[0]? = some (.int (ct_day T)) := rfl
theorem wp_X1_T_1 (h : Nat) (a a2 : Nat → Nat) (cI cZ : ClassId) (w b n : Nat) (T : ct_T) (w2 b2 n2 : Nat) (T2 : ct_T) (v : Int32) : (wb_c h a a2 cI cZ w b n T w2 b2 n2 T2).set 1 (a 0, .inr (0, (wf_c a w b n T).set 1 (.int v))) = (wb_c h a a2 cI cZ w b n (cs_bo T v) w2 b2 n2 T2) := rfl
theorem wv_X1_T_1 (a : Nat → Nat) (w b n : Nat) (T : ct_T) : (wf_c a w b n T)[1]? = some (.int (ct_bo T)) := rfl
theorem wp_X1_T_2 (h : Nat) (a a2 : Nat → Nat) (cI cZ : ClassId) (w b n : Nat) (T : ct_T) (w2 b2 n2 : Nat) (T2 : ct_T) (v : Int32) : (wb_c h a a2 cI cZ w b n T w2 b2 n2 T2).set 1 (a 0, .inr (0, (wf_c a w b n T).set 2 (.int v))) = (wb_c h a a2 cI cZ w b n (cs_ea T v) w2 b2 n2 T2) := rfl
theorem wv_X1_T_2 (a : Nat → Nat) (w b n : Nat) (T : ct_T) : (wf_c a w b n T)[2]? = some (.int (ct_ea T)) := rfl
theorem wp_X1_T_3 (h : Nat) (a a2 : Nat → Nat) (cI cZ : ClassId) (w b n : Nat) (T : ct_T) (w2 b2 n2 : Nat) (T2 : ct_T) (v : Nat) : (wb_c h a a2 cI cZ w b n T w2 b2 n2 T2).set 1 (a 0, .inr (0, (wf_c a w b n T).set 3 (.int (nI v)))) = (wb_c h a a2 cI cZ v b n T w2 b2 n2 T2) := rfl
theorem wv_X1_T_3 (a : Nat → Nat) (w b n : Nat) (T : ct_T) : (wf_c a w b n T)[3]? = some (.int (nI w)) := rfl
theorem wr_X1_T_4 (h : Nat) (a a2 : Nat → Nat) (cI cZ : ClassId) (w b n : Nat) (T : ct_T) (w2 b2 n2 : Nat) (T2 : ct_T) : (wb_c h a a2 cI cZ w b n T w2 b2 n2 T2)[2]? = some (a 4, .inl (cI, 5, .inl (ct_pl T))) := rfl
theorem wu_X1_T_4 (h : Nat) (a a2 : Nat → Nat) (cI cZ : ClassId) (w b n : Nat) (T : ct_T) (w2 b2 n2 : Nat) (T2 : ct_T) (f : Nat → Int32) : (wb_c h a a2 cI cZ w b n T w2 b2 n2 T2).set 2 (a 4, .inl (cI, 5, .inl f)) = (wb_c h a a2 cI cZ w b n (cs_pl T f) w2 b2 n2 T2) := rfl
theorem wv_X1_T_4 (a : Nat → Nat) (w b n : Nat) (T : ct_T) : (wf_c a w b n T)[4]? = some (.ref (a 4)) := rfl
theorem wr_X1_T_5 (h : Nat) (a a2 : Nat → Nat) (cI cZ : ClassId) (w b n : Nat) (T : ct_T) (w2 b2 n2 : Nat) (T2 : ct_T) : (wb_c h a a2 cI cZ w b n T w2 b2 n2 T2)[3]? = some (a 5, .inl (cI, 5, .inl (ct_st T))) := rfl
theorem wu_X1_T_5 (h : Nat) (a a2 : Nat → Nat) (cI cZ : ClassId) (w b n : Nat) (T : ct_T) (w2 b2 n2 : Nat) (T2 : ct_T) (f : Nat → Int32) : (wb_c h a a2 cI cZ w b n T w2 b2 n2 T2).set 3 (a 5, .inl (cI, 5, .inl f)) = (wb_c h a a2 cI cZ w b n (cs_st T f) w2 b2 n2 T2) := rfl
theorem wv_X1_T_5 (a : Nat → Nat) (w b n : Nat) (T : ct_T) : (wf_c a w b n T)[5]? = some (.ref (a 5)) := rfl
theorem wp_X1_T_6 (h : Nat) (a a2 : Nat → Nat) (cI cZ : ClassId) (w b n : Nat) (T : ct_T) (w2 b2 n2 : Nat) (T2 : ct_T) (v : Nat) : (wb_c h a a2 cI cZ w b n T w2 b2 n2 T2).set 1 (a 0, .inr (0, (wf_c a w b n T).set 6 (.int (nI v)))) = (wb_c h a a2 cI cZ w v n T w2 b2 n2 T2) := rfl
theorem wv_X1_T_6 (a : Nat → Nat) (w b n : Nat) (T : ct_T) : (wf_c a w b n T)[6]? = some (.int (nI b)) := rfl
theorem wr_X1_T_7 (h : Nat) (a a2 : Nat → Nat) (cI cZ : ClassId) (w b n : Nat) (T : ct_T) (w2 b2 n2 : Nat) (T2 : ct_T) : (wb_c h a a2 cI cZ w b n T w2 b2 n2 T2)[4]? = some (a 7, .inl (cI, 4, .inl (ct_ke T))) := rfl
theorem wu_X1_T_7 (h : Nat) (a a2 : Nat → Nat) (cI cZ : ClassId) (w b n : Nat) (T : ct_T) (w2 b2 n2 : Nat) (T2 : ct_T) (f : Nat → Int32) : (wb_c h a a2 cI cZ w b n T w2 b2 n2 T2).set 4 (a 7, .inl (cI, 4, .inl f)) = (wb_c h a a2 cI cZ w b n (cs_ke T f) w2 b2 n2 T2) := rfl
theorem wv_X1_T_7 (a : Nat → Nat) (w b n : Nat) (T : ct_T) : (wf_c a w b n T)[7]? = some (.ref (a 7)) := rfl
theorem wr_X1_T_8 (h : Nat) (a a2 : Nat → Nat) (cI cZ : ClassId) (w b n : Nat) (T : ct_T) (w2 b2 n2 : Nat) (T2 : ct_T) : (wb_c h a a2 cI cZ w b n T w2 b2 n2 T2)[5]? = some (a 8, .inl (cI, 4, .inl (ct_to T))) := rfl
theorem wu_X1_T_8 (h : Nat) (a a2 : Nat → Nat) (cI cZ : ClassId) (w b n : Nat) (T : ct_T) (w2 b2 n2 : Nat) (T2 : ct_T) (f : Nat → Int32) : (wb_c h a a2 cI cZ w b n T w2 b2 n2 T2).set 5 (a 8, .inl (cI, 4, .inl f)) = (wb_c h a a2 cI cZ w b n (cs_to T f) w2 b2 n2 T2) := rfl
theorem wv_X1_T_8 (a : Nat → Nat) (w b n : Nat) (T : ct_T) : (wf_c a w b n T)[8]? = some (.ref (a 8)) := rfl
theorem wp_X1_T_9 (h : Nat) (a a2 : Nat → Nat) (cI cZ : ClassId) (w b n : Nat) (T : ct_T) (w2 b2 n2 : Nat) (T2 : ct_T) (v : Nat) : (wb_c h a a2 cI cZ w b n T w2 b2 n2 T2).set 1 (a 0, .inr (0, (wf_c a w b n T).set 9 (.int (nI v)))) = (wb_c h a a2 cI cZ w b v T w2 b2 n2 T2) := rfl
theorem wv_X1_T_9 (a : Nat → Nat) (w b n : Nat) (T : ct_T) : (wf_c a w b n T)[9]? = some (.int (nI n)) := rfl
theorem wr_X1_T_10 (h : Nat) (a a2 : Nat → Nat) (cI cZ : ClassId) (w b n : Nat) (T : ct_T) (w2 b2 n2 : Nat) (T2 : ct_T) : (wb_c h a a2 cI cZ w b n T w2 b2 n2 T2)[6]? = some (a 10, .inl (cI, 30, .inl (ct_fe T))) := rfl
theorem wu_X1_T_10 (h : Nat) (a a2 : Nat → Nat) (cI cZ : ClassId) (w b n : Nat) (T : ct_T) (w2 b2 n2 : Nat) (T2 : ct_T) (f : Nat → Int32) : (wb_c h a a2 cI cZ w b n T w2 b2 n2 T2).set 6 (a 10, .inl (cI, 30, .inl f)) = (wb_c h a a2 cI cZ w b n (cs_fe T f) w2 b2 n2 T2) := rfl
theorem wv_X1_T_10 (a : Nat → Nat) (w b n : Nat) (T : ct_T) : (wf_c a w b n T)[10]? = some (.ref (a 10)) := rfl
theorem wr_X1_T_11 (h : Nat) (a a2 : Nat → Nat) (cI cZ : ClassId) (w b n : Nat) (T : ct_T) (w2 b2 n2 : Nat) (T2 : ct_T) : (wb_c h a a2 cI cZ w b n T w2 b2 n2 T2)[7]? = some (a 11, .inl (cI, 30, .inl (ct_wh T))) := rfl
theorem wu_X1_T_11 (h : Nat) (a a2 : Nat → Nat) (cI cZ : ClassId) (w b n : Nat) (T : ct_T) (w2 b2 n2 : Nat) (T2 : ct_T) (f : Nat → Int32) : (wb_c h a a2 cI cZ w b n T w2 b2 n2 T2).set 7 (a 11, .inl (cI, 30, .inl f)) = (wb_c h a a2 cI cZ w b n (cs_wh T f) w2 b2 n2 T2) := rfl
theorem wv_X1_T_11 (a : Nat → Nat) (w b n : Nat) (T : ct_T) : (wf_c a w b n T)[11]? = some (.ref (a 11)) := rfl
theorem wr_X1_T_12 (h : Nat) (a a2 : Nat → Nat) (cI cZ : ClassId) (w b n : Nat) (T : ct_T) (w2 b2 n2 : Nat) (T2 : ct_T) : (wb_c h a a2 cI cZ w b n T w2 b2 n2 T2)[8]? = some (a 12, .inl (cI, 30, .inl (ct_nu T))) := rfl
theorem wu_X1_T_12 (h : Nat) (a a2 : Nat → Nat) (cI cZ : ClassId) (w b n : Nat) (T : ct_T) (w2 b2 n2 : Nat) (T2 : ct_T) (f : Nat → Int32) : (wb_c h a a2 cI cZ w b n T w2 b2 n2 T2).set 8 (a 12, .inl (cI, 30, .inl f)) = (wb_c h a a2 cI cZ w b n (cs_nu T f) w2 b2 n2 T2) := rfl
theorem wv_X1_T_12 (a : Nat → Nat) (w b n : Nat) (T : ct_T) : (wf_c a w b n T)[12]? = some (.ref (a 12)) := rfl
theorem wr_X1_T_13 (h : Nat) (a a2 : Nat → Nat) (cI cZ : ClassId) (w b n : Nat) (T : ct_T) (w2 b2 n2 : Nat) (T2 : ct_T) : (wb_c h a a2 cI cZ w b n T w2 b2 n2 T2)[9]? = some (a 13, .inl (cI, 30, .inl (ct_hd T))) := rfl
theorem wu_X1_T_13 (h : Nat) (a a2 : Nat → Nat) (cI cZ : ClassId) (w b n : Nat) (T : ct_T) (w2 b2 n2 : Nat) (T2 : ct_T) (f : Nat → Int32) : (wb_c h a a2 cI cZ w b n T w2 b2 n2 T2).set 9 (a 13, .inl (cI, 30, .inl f)) = (wb_c h a a2 cI cZ w b n (cs_hd T f) w2 b2 n2 T2) := rfl
theorem wv_X1_T_13 (a : Nat → Nat) (w b n : Nat) (T : ct_T) : (wf_c a w b n T)[13]? = some (.ref (a 13)) := rfl
theorem wr_X1_T_14 (h : Nat) (a a2 : Nat → Nat) (cI cZ : ClassId) (w b n : Nat) (T : ct_T) (w2 b2 n2 : Nat) (T2 : ct_T) : (wb_c h a a2 cI cZ w b n T w2 b2 n2 T2)[10]? = some (a 14, .inl (cZ, 30, .inl (ct_ht T))) := rfl
theorem wu_X1_T_14 (h : Nat) (a a2 : Nat → Nat) (cI cZ : ClassId) (w b n : Nat) (T : ct_T) (w2 b2 n2 : Nat) (T2 : ct_T) (f : Nat → Int32) : (wb_c h a a2 cI cZ w b n T w2 b2 n2 T2).set 10 (a 14, .inl (cZ, 30, .inl f)) = (wb_c h a a2 cI cZ w b n (cs_ht T f) w2 b2 n2 T2) := rfl
theorem wv_X1_T_14 (a : Nat → Nat) (w b n : Nat) (T : ct_T) : (wf_c a w b n T)[14]? = some (.ref (a 14)) := rfl
theorem wr_X1_T_15 (h : Nat) (a a2 : Nat → Nat) (cI cZ : ClassId) (w b n : Nat) (T : ct_T) (w2 b2 n2 : Nat) (T2 : ct_T) : (wb_c h a a2 cI cZ w b n T w2 b2 n2 T2)[11]? = some (a 15, .inl (cI, 5, .inl (ct_fr T))) := rfl
theorem wu_X1_T_15 (h : Nat) (a a2 : Nat → Nat) (cI cZ : ClassId) (w b n : Nat) (T : ct_T) (w2 b2 n2 : Nat) (T2 : ct_T) (f : Nat → Int32) : (wb_c h a a2 cI cZ w b n T w2 b2 n2 T2).set 11 (a 15, .inl (cI, 5, .inl f)) = (wb_c h a a2 cI cZ w b n (cs_fr T f) w2 b2 n2 T2) := rfl
theorem wv_X1_T_15 (a : Nat → Nat) (w b n : Nat) (T : ct_T) : (wf_c a w b n T)[15]? = some (.ref (a 15)) := rfl
theorem wo_X1_T2 (h : Nat) (a a2 : Nat → Nat) (cI cZ : ClassId) (w b n : Nat) (T : ct_T) (w2 b2 n2 : Nat) (T2 : ct_T) : (wb_c h a a2 cI cZ w b n T w2 b2 n2 T2)[12]? = some (a2 0, .inr (0, (wf_c a2 w2 b2 n2 T2))) := rfl
theorem wp_X1_T2_0 (h : Nat) (a a2 : Nat → Nat) (cI cZ : ClassId) (w b n : Nat) (T : ct_T) (w2 b2 n2 : Nat) (T2 : ct_T) (v : Int32) : (wb_c h a a2 cI cZ w b n T w2 b2 n2 T2).set 12 (a2 0, .inr (0, (wf_c a2 w2 b2 n2 T2).set 0 (.int v))) = (wb_c h a a2 cI cZ w b n T w2 b2 n2 (cs_day T2 v)) := rfl
theorem wv_X1_T2_0 (a2 : Nat → Nat) (w2 b2 n2 : Nat) (T2 : ct_T) : (wf_c a2 w2 b2 n2 T2)[0]? = some (.int (ct_day T2)) := rfl
theorem wp_X1_T2_1 (h : Nat) (a a2 : Nat → Nat) (cI cZ : ClassId) (w b n : Nat) (T : ct_T) (w2 b2 n2 : Nat) (T2 : ct_T) (v : Int32) : (wb_c h a a2 cI cZ w b n T w2 b2 n2 T2).set 12 (a2 0, .inr (0, (wf_c a2 w2 b2 n2 T2).set 1 (.int v))) = (wb_c h a a2 cI cZ w b n T w2 b2 n2 (cs_bo T2 v)) := rfl
theorem wv_X1_T2_1 (a2 : Nat → Nat) (w2 b2 n2 : Nat) (T2 : ct_T) : (wf_c a2 w2 b2 n2 T2)[1]? = some (.int (ct_bo T2)) := rfl
theorem wp_X1_T2_2 (h : Nat) (a a2 : Nat → Nat) (cI cZ : ClassId) (w b n : Nat) (T : ct_T) (w2 b2 n2 : Nat) (T2 : ct_T) (v : Int32) : (wb_c h a a2 cI cZ w b n T w2 b2 n2 T2).set 12 (a2 0, .inr (0, (wf_c a2 w2 b2 n2 T2).set 2 (.int v))) = (wb_c h a a2 cI cZ w b n T w2 b2 n2 (cs_ea T2 v)) := rfl
theorem wv_X1_T2_2 (a2 : Nat → Nat) (w2 b2 n2 : Nat) (T2 : ct_T) : (wf_c a2 w2 b2 n2 T2)[2]? = some (.int (ct_ea T2)) := rfl
theorem wp_X1_T2_3 (h : Nat) (a a2 : Nat → Nat) (cI cZ : ClassId) (w b n : Nat) (T : ct_T) (w2 b2 n2 : Nat) (T2 : ct_T) (v : Nat) : (wb_c h a a2 cI cZ w b n T w2 b2 n2 T2).set 12 (a2 0, .inr (0, (wf_c a2 w2 b2 n2 T2).set 3 (.int (nI v)))) = (wb_c h a a2 cI cZ w b n T v b2 n2 T2) := rfl
theorem wv_X1_T2_3 (a2 : Nat → Nat) (w2 b2 n2 : Nat) (T2 : ct_T) : (wf_c a2 w2 b2 n2 T2)[3]? = some (.int (nI w2)) := rfl
theorem wr_X1_T2_4 (h : Nat) (a a2 : Nat → Nat) (cI cZ : ClassId) (w b n : Nat) (T : ct_T) (w2 b2 n2 : Nat) (T2 : ct_T) : (wb_c h a a2 cI cZ w b n T w2 b2 n2 T2)[13]? = some (a2 4, .inl (cI, 5, .inl (ct_pl T2))) := rfl
theorem wu_X1_T2_4 (h : Nat) (a a2 : Nat → Nat) (cI cZ : ClassId) (w b n : Nat) (T : ct_T) (w2 b2 n2 : Nat) (T2 : ct_T) (f : Nat → Int32) : (wb_c h a a2 cI cZ w b n T w2 b2 n2 T2).set 13 (a2 4, .inl (cI, 5, .inl f)) = (wb_c h a a2 cI cZ w b n T w2 b2 n2 (cs_pl T2 f)) := rfl
theorem wv_X1_T2_4 (a2 : Nat → Nat) (w2 b2 n2 : Nat) (T2 : ct_T) : (wf_c a2 w2 b2 n2 T2)[4]? = some (.ref (a2 4)) := rfl
theorem wr_X1_T2_5 (h : Nat) (a a2 : Nat → Nat) (cI cZ : ClassId) (w b n : Nat) (T : ct_T) (w2 b2 n2 : Nat) (T2 : ct_T) : (wb_c h a a2 cI cZ w b n T w2 b2 n2 T2)[14]? = some (a2 5, .inl (cI, 5, .inl (ct_st T2))) := rfl
theorem wu_X1_T2_5 (h : Nat) (a a2 : Nat → Nat) (cI cZ : ClassId) (w b n : Nat) (T : ct_T) (w2 b2 n2 : Nat) (T2 : ct_T) (f : Nat → Int32) : (wb_c h a a2 cI cZ w b n T w2 b2 n2 T2).set 14 (a2 5, .inl (cI, 5, .inl f)) = (wb_c h a a2 cI cZ w b n T w2 b2 n2 (cs_st T2 f)) := rfl
theorem wv_X1_T2_5 (a2 : Nat → Nat) (w2 b2 n2 : Nat) (T2 : ct_T) : (wf_c a2 w2 b2 n2 T2)[5]? = some (.ref (a2 5)) := rfl
theorem wp_X1_T2_6 (h : Nat) (a a2 : Nat → Nat) (cI cZ : ClassId) (w b n : Nat) (T : ct_T) (w2 b2 n2 : Nat) (T2 : ct_T) (v : Nat) : (wb_c h a a2 cI cZ w b n T w2 b2 n2 T2).set 12 (a2 0, .inr (0, (wf_c a2 w2 b2 n2 T2).set 6 (.int (nI v)))) = (wb_c h a a2 cI cZ w b n T w2 v n2 T2) := rfl
theorem wv_X1_T2_6 (a2 : Nat → Nat) (w2 b2 n2 : Nat) (T2 : ct_T) : (wf_c a2 w2 b2 n2 T2)[6]? = some (.int (nI b2)) := rfl
theorem wr_X1_T2_7 (h : Nat) (a a2 : Nat → Nat) (cI cZ : ClassId) (w b n : Nat) (T : ct_T) (w2 b2 n2 : Nat) (T2 : ct_T) : (wb_c h a a2 cI cZ w b n T w2 b2 n2 T2)[15]? = some (a2 7, .inl (cI, 4, .inl (ct_ke T2))) := rfl
theorem wu_X1_T2_7 (h : Nat) (a a2 : Nat → Nat) (cI cZ : ClassId) (w b n : Nat) (T : ct_T) (w2 b2 n2 : Nat) (T2 : ct_T) (f : Nat → Int32) : (wb_c h a a2 cI cZ w b n T w2 b2 n2 T2).set 15 (a2 7, .inl (cI, 4, .inl f)) = (wb_c h a a2 cI cZ w b n T w2 b2 n2 (cs_ke T2 f)) := rfl
theorem wv_X1_T2_7 (a2 : Nat → Nat) (w2 b2 n2 : Nat) (T2 : ct_T) : (wf_c a2 w2 b2 n2 T2)[7]? = some (.ref (a2 7)) := rfl
theorem wr_X1_T2_8 (h : Nat) (a a2 : Nat → Nat) (cI cZ : ClassId) (w b n : Nat) (T : ct_T) (w2 b2 n2 : Nat) (T2 : ct_T) : (wb_c h a a2 cI cZ w b n T w2 b2 n2 T2)[16]? = some (a2 8, .inl (cI, 4, .inl (ct_to T2))) := rfl
theorem wu_X1_T2_8 (h : Nat) (a a2 : Nat → Nat) (cI cZ : ClassId) (w b n : Nat) (T : ct_T) (w2 b2 n2 : Nat) (T2 : ct_T) (f : Nat → Int32) : (wb_c h a a2 cI cZ w b n T w2 b2 n2 T2).set 16 (a2 8, .inl (cI, 4, .inl f)) = (wb_c h a a2 cI cZ w b n T w2 b2 n2 (cs_to T2 f)) := rfl
theorem wv_X1_T2_8 (a2 : Nat → Nat) (w2 b2 n2 : Nat) (T2 : ct_T) : (wf_c a2 w2 b2 n2 T2)[8]? = some (.ref (a2 8)) := rfl
theorem wp_X1_T2_9 (h : Nat) (a a2 : Nat → Nat) (cI cZ : ClassId) (w b n : Nat) (T : ct_T) (w2 b2 n2 : Nat) (T2 : ct_T) (v : Nat) : (wb_c h a a2 cI cZ w b n T w2 b2 n2 T2).set 12 (a2 0, .inr (0, (wf_c a2 w2 b2 n2 T2).set 9 (.int (nI v)))) = (wb_c h a a2 cI cZ w b n T w2 b2 v T2) := rfl
theorem wv_X1_T2_9 (a2 : Nat → Nat) (w2 b2 n2 : Nat) (T2 : ct_T) : (wf_c a2 w2 b2 n2 T2)[9]? = some (.int (nI n2)) := rfl
theorem wr_X1_T2_10 (h : Nat) (a a2 : Nat → Nat) (cI cZ : ClassId) (w b n : Nat) (T : ct_T) (w2 b2 n2 : Nat) (T2 : ct_T) : (wb_c h a a2 cI cZ w b n T w2 b2 n2 T2)[17]? = some (a2 10, .inl (cI, 30, .inl (ct_fe T2))) := rfl
theorem wu_X1_T2_10 (h : Nat) (a a2 : Nat → Nat) (cI cZ : ClassId) (w b n : Nat) (T : ct_T) (w2 b2 n2 : Nat) (T2 : ct_T) (f : Nat → Int32) : (wb_c h a a2 cI cZ w b n T w2 b2 n2 T2).set 17 (a2 10, .inl (cI, 30, .inl f)) = (wb_c h a a2 cI cZ w b n T w2 b2 n2 (cs_fe T2 f)) := rfl
theorem wv_X1_T2_10 (a2 : Nat → Nat) (w2 b2 n2 : Nat) (T2 : ct_T) : (wf_c a2 w2 b2 n2 T2)[10]? = some (.ref (a2 10)) := rfl
theorem wr_X1_T2_11 (h : Nat) (a a2 : Nat → Nat) (cI cZ : ClassId) (w b n : Nat) (T : ct_T) (w2 b2 n2 : Nat) (T2 : ct_T) : (wb_c h a a2 cI cZ w b n T w2 b2 n2 T2)[18]? = some (a2 11, .inl (cI, 30, .inl (ct_wh T2))) := rfl
theorem wu_X1_T2_11 (h : Nat) (a a2 : Nat → Nat) (cI cZ : ClassId) (w b n : Nat) (T : ct_T) (w2 b2 n2 : Nat) (T2 : ct_T) (f : Nat → Int32) : (wb_c h a a2 cI cZ w b n T w2 b2 n2 T2).set 18 (a2 11, .inl (cI, 30, .inl f)) = (wb_c h a a2 cI cZ w b n T w2 b2 n2 (cs_wh T2 f)) := rfl
theorem wv_X1_T2_11 (a2 : Nat → Nat) (w2 b2 n2 : Nat) (T2 : ct_T) : (wf_c a2 w2 b2 n2 T2)[11]? = some (.ref (a2 11)) := rfl
theorem wr_X1_T2_12 (h : Nat) (a a2 : Nat → Nat) (cI cZ : ClassId) (w b n : Nat) (T : ct_T) (w2 b2 n2 : Nat) (T2 : ct_T) : (wb_c h a a2 cI cZ w b n T w2 b2 n2 T2)[19]? = some (a2 12, .inl (cI, 30, .inl (ct_nu T2))) := rfl
theorem wu_X1_T2_12 (h : Nat) (a a2 : Nat → Nat) (cI cZ : ClassId) (w b n : Nat) (T : ct_T) (w2 b2 n2 : Nat) (T2 : ct_T) (f : Nat → Int32) : (wb_c h a a2 cI cZ w b n T w2 b2 n2 T2).set 19 (a2 12, .inl (cI, 30, .inl f)) = (wb_c h a a2 cI cZ w b n T w2 b2 n2 (cs_nu T2 f)) := rfl
theorem wv_X1_T2_12 (a2 : Nat → Nat) (w2 b2 n2 : Nat) (T2 : ct_T) : (wf_c a2 w2 b2 n2 T2)[12]? = some (.ref (a2 12)) := rfl
theorem wr_X1_T2_13 (h : Nat) (a a2 : Nat → Nat) (cI cZ : ClassId) (w b n : Nat) (T : ct_T) (w2 b2 n2 : Nat) (T2 : ct_T) : (wb_c h a a2 cI cZ w b n T w2 b2 n2 T2)[20]? = some (a2 13, .inl (cI, 30, .inl (ct_hd T2))) := rfl
theorem wu_X1_T2_13 (h : Nat) (a a2 : Nat → Nat) (cI cZ : ClassId) (w b n : Nat) (T : ct_T) (w2 b2 n2 : Nat) (T2 : ct_T) (f : Nat → Int32) : (wb_c h a a2 cI cZ w b n T w2 b2 n2 T2).set 20 (a2 13, .inl (cI, 30, .inl f)) = (wb_c h a a2 cI cZ w b n T w2 b2 n2 (cs_hd T2 f)) := rfl
theorem wv_X1_T2_13 (a2 : Nat → Nat) (w2 b2 n2 : Nat) (T2 : ct_T) : (wf_c a2 w2 b2 n2 T2)[13]? = some (.ref (a2 13)) := rfl
theorem wr_X1_T2_14 (h : Nat) (a a2 : Nat → Nat) (cI cZ : ClassId) (w b n : Nat) (T : ct_T) (w2 b2 n2 : Nat) (T2 : ct_T) : (wb_c h a a2 cI cZ w b n T w2 b2 n2 T2)[21]? = some (a2 14, .inl (cZ, 30, .inl (ct_ht T2))) := rfl
theorem wu_X1_T2_14 (h : Nat) (a a2 : Nat → Nat) (cI cZ : ClassId) (w b n : Nat) (T : ct_T) (w2 b2 n2 : Nat) (T2 : ct_T) (f : Nat → Int32) : (wb_c h a a2 cI cZ w b n T w2 b2 n2 T2).set 21 (a2 14, .inl (cZ, 30, .inl f)) = (wb_c h a a2 cI cZ w b n T w2 b2 n2 (cs_ht T2 f)) := rfl
theorem wv_X1_T2_14 (a2 : Nat → Nat) (w2 b2 n2 : Nat) (T2 : ct_T) : (wf_c a2 w2 b2 n2 T2)[14]? = some (.ref (a2 14)) := rfl
theorem wr_X1_T2_15 (h : Nat) (a a2 : Nat → Nat) (cI cZ : ClassId) (w b n : Nat) (T : ct_T) (w2 b2 n2 : Nat) (T2 : ct_T) : (wb_c h a a2 cI cZ w b n T w2 b2 n2 T2)[22]? = some (a2 15, .inl (cI, 5, .inl (ct_fr T2))) := rfl
theorem wu_X1_T2_15 (h : Nat) (a a2 : Nat → Nat) (cI cZ : ClassId) (w b n : Nat) (T : ct_T) (w2 b2 n2 : Nat) (T2 : ct_T) (f : Nat → Int32) : (wb_c h a a2 cI cZ w b n T w2 b2 n2 T2).set 22 (a2 15, .inl (cI, 5, .inl f)) = (wb_c h a a2 cI cZ w b n T w2 b2 n2 (cs_fr T2 f)) := rfl
theorem wv_X1_T2_15 (a2 : Nat → Nat) (w2 b2 n2 : Nat) (T2 : ct_T) : (wf_c a2 w2 b2 n2 T2)[15]? = some (.ref (a2 15)) := rfl
theorem wo_X1_H (h : Nat) (a a2 : Nat → Nat) (cI cZ : ClassId) (w b n : Nat) (T : ct_T) (w2 b2 n2 : Nat) (T2 : ct_T) : (wb_c h a a2 cI cZ w b n T w2 b2 n2 T2)[0]? = some (h, .inr (1, [.ref (a 0), .ref (a2 0)])) := rfl
theorem wv_X1_H_0 (a a2 : Nat → Nat) : ([.ref (a 0), .ref (a2 0)] : List Value)[0]? = some (.ref (a 0)) := rfl
theorem wv_X1_H_1 (a a2 : Nat → Nat) : ([.ref (a 0), .ref (a2 0)] : List Value)[1]? = some (.ref (a2 0)) := rfl
theorem wpC_X1_T (h : Nat) (a a2 : Nat → Nat) (cI cZ : ClassId) (w b n : Nat) (T : ct_T) (w2 b2 n2 : Nat) (T2 : ct_T) : ([1, 2, 3, 4, 5, 6, 7, 8, 9, 10, 11] : List Nat).map (fun i => (wb_c h a a2 cI cZ w b n T w2 b2 n2 T2)[i]?) = (wt_c a cI cZ w b n T).map some := rfl
theorem wpR_X1_T (h : Nat) (a a2 : Nat → Nat) (cI cZ : ClassId) (w b n : Nat) (T : ct_T) (w2 b2 n2 : Nat) (T2 : ct_T) : ([0, 12, 13, 14, 15, 16, 17, 18, 19, 20, 21, 22] : List Nat).map (fun i => (wb_c h a a2 cI cZ w b n T w2 b2 n2 T2)[i]?) = (wb_c0 h a a2 :: wt_c a2 cI cZ w2 b2 n2 T2).map some := rfl
theorem wpJ_X1_T (h : Nat) (a a2 : Nat → Nat) (cI cZ : ClassId) (w b n : Nat) (T : ct_T) (w2 b2 n2 : Nat) (T2 : ct_T) : ([0, 12, 13, 14, 15, 16, 17, 18, 19, 20, 21, 22, 1, 2, 3, 4, 5, 6, 7, 8, 9, 10, 11] : List Nat).map (fun i => ((wb_c0 h a a2 :: wt_c a2 cI cZ w2 b2 n2 T2) ++ (wt_c a cI cZ w b n T))[i]?) = (wb_c h a a2 cI cZ w b n T w2 b2 n2 T2).map some := rfl
theorem wpC_X1_T2 (h : Nat) (a a2 : Nat → Nat) (cI cZ : ClassId) (w b n : Nat) (T : ct_T) (w2 b2 n2 : Nat) (T2 : ct_T) : ([12, 13, 14, 15, 16, 17, 18, 19, 20, 21, 22] : List Nat).map (fun i => (wb_c h a a2 cI cZ w b n T w2 b2 n2 T2)[i]?) = (wt_c a2 cI cZ w2 b2 n2 T2).map some := rfl
theorem wpR_X1_T2 (h : Nat) (a a2 : Nat → Nat) (cI cZ : ClassId) (w b n : Nat) (T : ct_T) (w2 b2 n2 : Nat) (T2 : ct_T) : ([0, 1, 2, 3, 4, 5, 6, 7, 8, 9, 10, 11] : List Nat).map (fun i => (wb_c h a a2 cI cZ w b n T w2 b2 n2 T2)[i]?) = (wb_c0 h a a2 :: wt_c a cI cZ w b n T).map some := rfl
theorem wpJ_X1_T2 (h : Nat) (a a2 : Nat → Nat) (cI cZ : ClassId) (w b n : Nat) (T : ct_T) (w2 b2 n2 : Nat) (T2 : ct_T) : ([0, 1, 2, 3, 4, 5, 6, 7, 8, 9, 10, 11, 12, 13, 14, 15, 16, 17, 18, 19, 20, 21, 22] : List Nat).map (fun i => ((wb_c0 h a a2 :: wt_c a cI cZ w b n T) ++ (wt_c a2 cI cZ w2 b2 n2 T2))[i]?) = (wb_c h a a2 cI cZ w b n T w2 b2 n2 T2).map some := rfl
theorem wo_X2_T (a : Nat → Nat) (cI : ClassId) (w b n : Nat) (T : mt_T) : (wt_m a cI w b n T)[0]? = some (a 0, .inr (2, (wf_m a w b n T))) := rfl
theorem wp_X2_T_0 (a : Nat → Nat) (cI : ClassId) (w b n : Nat) (T : mt_T) (v : Int32) : (wt_m a cI w b n T).set 0 (a 0, .inr (2, (wf_m a w b n T).set 0 (.int v))) = (wt_m a cI w b n (ms_day T v)) := rfl
theorem wv_X2_T_0 (a : Nat → Nat) (w b n : Nat) (T : mt_T) : (wf_m a w b n T)[0]? = some (.int (mt_day T)) := rfl
theorem wp_X2_T_1 (a : Nat → Nat) (cI : ClassId) (w b n : Nat) (T : mt_T) (v : Nat) : (wt_m a cI w b n T).set 0 (a 0, .inr (2, (wf_m a w b n T).set 1 (.int (nI v)))) = (wt_m a cI v b n T) := rfl
theorem wv_X2_T_1 (a : Nat → Nat) (w b n : Nat) (T : mt_T) : (wf_m a w b n T)[1]? = some (.int (nI w)) := rfl
theorem wp_X2_T_2 (a : Nat → Nat) (cI : ClassId) (w b n : Nat) (T : mt_T) (v : Nat) : (wt_m a cI w b n T).set 0 (a 0, .inr (2, (wf_m a w b n T).set 2 (.int (nI v)))) = (wt_m a cI w v n T) := rfl
theorem wv_X2_T_2 (a : Nat → Nat) (w b n : Nat) (T : mt_T) : (wf_m a w b n T)[2]? = some (.int (nI b)) := rfl
theorem wp_X2_T_3 (a : Nat → Nat) (cI : ClassId) (w b n : Nat) (T : mt_T) (v : Nat) : (wt_m a cI w b n T).set 0 (a 0, .inr (2, (wf_m a w b n T).set 3 (.int (nI v)))) = (wt_m a cI w b v T) := rfl
theorem wv_X2_T_3 (a : Nat → Nat) (w b n : Nat) (T : mt_T) : (wf_m a w b n T)[3]? = some (.int (nI n)) := rfl
theorem wp_X2_T_4 (a : Nat → Nat) (cI : ClassId) (w b n : Nat) (T : mt_T) (v : Int32) : (wt_m a cI w b n T).set 0 (a 0, .inr (2, (wf_m a w b n T).set 4 (.int v))) = (wt_m a cI w b n (ms_bo T v)) := rfl
theorem wv_X2_T_4 (a : Nat → Nat) (w b n : Nat) (T : mt_T) : (wf_m a w b n T)[4]? = some (.int (mt_bo T)) := rfl
theorem wp_X2_T_5 (a : Nat → Nat) (cI : ClassId) (w b n : Nat) (T : mt_T) (v : Int32) : (wt_m a cI w b n T).set 0 (a 0, .inr (2, (wf_m a w b n T).set 5 (.int v))) = (wt_m a cI w b n (ms_ea T v)) := rfl
theorem wv_X2_T_5 (a : Nat → Nat) (w b n : Nat) (T : mt_T) : (wf_m a w b n T)[5]? = some (.int (mt_ea T)) := rfl
theorem wr_X2_T_6 (a : Nat → Nat) (cI : ClassId) (w b n : Nat) (T : mt_T) : (wt_m a cI w b n T)[1]? = some (a 6, .inl (cI, 5, .inl (mt_pl T))) := rfl
theorem wu_X2_T_6 (a : Nat → Nat) (cI : ClassId) (w b n : Nat) (T : mt_T) (f : Nat → Int32) : (wt_m a cI w b n T).set 1 (a 6, .inl (cI, 5, .inl f)) = (wt_m a cI w b n (ms_pl T f)) := rfl
theorem wv_X2_T_6 (a : Nat → Nat) (w b n : Nat) (T : mt_T) : (wf_m a w b n T)[6]? = some (.ref (a 6)) := rfl
theorem wr_X2_T_7 (a : Nat → Nat) (cI : ClassId) (w b n : Nat) (T : mt_T) : (wt_m a cI w b n T)[2]? = some (a 7, .inl (cI, 5, .inl (mt_st T))) := rfl
theorem wu_X2_T_7 (a : Nat → Nat) (cI : ClassId) (w b n : Nat) (T : mt_T) (f : Nat → Int32) : (wt_m a cI w b n T).set 2 (a 7, .inl (cI, 5, .inl f)) = (wt_m a cI w b n (ms_st T f)) := rfl
theorem wv_X2_T_7 (a : Nat → Nat) (w b n : Nat) (T : mt_T) : (wf_m a w b n T)[7]? = some (.ref (a 7)) := rfl
theorem wr_X2_T_8 (a : Nat → Nat) (cI : ClassId) (w b n : Nat) (T : mt_T) : (wt_m a cI w b n T)[3]? = some (a 8, .inl (cI, 4, .inl (mt_ke T))) := rfl
theorem wu_X2_T_8 (a : Nat → Nat) (cI : ClassId) (w b n : Nat) (T : mt_T) (f : Nat → Int32) : (wt_m a cI w b n T).set 3 (a 8, .inl (cI, 4, .inl f)) = (wt_m a cI w b n (ms_ke T f)) := rfl
theorem wv_X2_T_8 (a : Nat → Nat) (w b n : Nat) (T : mt_T) : (wf_m a w b n T)[8]? = some (.ref (a 8)) := rfl
theorem wr_X2_T_9 (a : Nat → Nat) (cI : ClassId) (w b n : Nat) (T : mt_T) : (wt_m a cI w b n T)[4]? = some (a 9, .inl (cI, 4, .inl (mt_to T))) := rfl
theorem wu_X2_T_9 (a : Nat → Nat) (cI : ClassId) (w b n : Nat) (T : mt_T) (f : Nat → Int32) : (wt_m a cI w b n T).set 4 (a 9, .inl (cI, 4, .inl f)) = (wt_m a cI w b n (ms_to T f)) := rfl
theorem wv_X2_T_9 (a : Nat → Nat) (w b n : Nat) (T : mt_T) : (wf_m a w b n T)[9]? = some (.ref (a 9)) := rfl
theorem wr_X2_T_10 (a : Nat → Nat) (cI : ClassId) (w b n : Nat) (T : mt_T) : (wt_m a cI w b n T)[5]? = some (a 10, .inl (cI, 30, .inl (mt_fe T))) := rfl
theorem wu_X2_T_10 (a : Nat → Nat) (cI : ClassId) (w b n : Nat) (T : mt_T) (f : Nat → Int32) : (wt_m a cI w b n T).set 5 (a 10, .inl (cI, 30, .inl f)) = (wt_m a cI w b n (ms_fe T f)) := rfl
theorem wv_X2_T_10 (a : Nat → Nat) (w b n : Nat) (T : mt_T) : (wf_m a w b n T)[10]? = some (.ref (a 10)) := rfl
theorem wr_X2_T_11 (a : Nat → Nat) (cI : ClassId) (w b n : Nat) (T : mt_T) : (wt_m a cI w b n T)[6]? = some (a 11, .inl (cI, 30, .inl (mt_wh T))) := rfl
theorem wu_X2_T_11 (a : Nat → Nat) (cI : ClassId) (w b n : Nat) (T : mt_T) (f : Nat → Int32) : (wt_m a cI w b n T).set 6 (a 11, .inl (cI, 30, .inl f)) = (wt_m a cI w b n (ms_wh T f)) := rfl
theorem wv_X2_T_11 (a : Nat → Nat) (w b n : Nat) (T : mt_T) : (wf_m a w b n T)[11]? = some (.ref (a 11)) := rfl
theorem wr_X2_T_12 (a : Nat → Nat) (cI : ClassId) (w b n : Nat) (T : mt_T) : (wt_m a cI w b n T)[7]? = some (a 12, .inl (cI, 30, .inl (mt_hu T))) := rfl
theorem wu_X2_T_12 (a : Nat → Nat) (cI : ClassId) (w b n : Nat) (T : mt_T) (f : Nat → Int32) : (wt_m a cI w b n T).set 7 (a 12, .inl (cI, 30, .inl f)) = (wt_m a cI w b n (ms_hu T f)) := rfl
theorem wv_X2_T_12 (a : Nat → Nat) (w b n : Nat) (T : mt_T) : (wf_m a w b n T)[12]? = some (.ref (a 12)) := rfl
theorem wo_X3_T (h : Nat) (a a2 : Nat → Nat) (cI : ClassId) (th : Int32) (w b n : Nat) (T : mt_T) (w2 b2 n2 : Nat) (T2 : mt_T) : (wb_m h a a2 cI th w b n T w2 b2 n2 T2)[1]? = some (a 0, .inr (2, (wf_m a w b n T))) := rfl
theorem wp_X3_T_0 (h : Nat) (a a2 : Nat → Nat) (cI : ClassId) (th : Int32) (w b n : Nat) (T : mt_T) (w2 b2 n2 : Nat) (T2 : mt_T) (v : Int32) : (wb_m h a a2 cI th w b n T w2 b2 n2 T2).set 1 (a 0, .inr (2, (wf_m a w b n T).set 0 (.int v))) = (wb_m h a a2 cI th w b n (ms_day T v) w2 b2 n2 T2) := rfl
theorem wv_X3_T_0 (a : Nat → Nat) (w b n : Nat) (T : mt_T) : (wf_m a w b n T)[0]? = some (.int (mt_day T)) := rfl
theorem wp_X3_T_1 (h : Nat) (a a2 : Nat → Nat) (cI : ClassId) (th : Int32) (w b n : Nat) (T : mt_T) (w2 b2 n2 : Nat) (T2 : mt_T) (v : Nat) : (wb_m h a a2 cI th w b n T w2 b2 n2 T2).set 1 (a 0, .inr (2, (wf_m a w b n T).set 1 (.int (nI v)))) = (wb_m h a a2 cI th v b n T w2 b2 n2 T2) := rfl
theorem wv_X3_T_1 (a : Nat → Nat) (w b n : Nat) (T : mt_T) : (wf_m a w b n T)[1]? = some (.int (nI w)) := rfl
theorem wp_X3_T_2 (h : Nat) (a a2 : Nat → Nat) (cI : ClassId) (th : Int32) (w b n : Nat) (T : mt_T) (w2 b2 n2 : Nat) (T2 : mt_T) (v : Nat) : (wb_m h a a2 cI th w b n T w2 b2 n2 T2).set 1 (a 0, .inr (2, (wf_m a w b n T).set 2 (.int (nI v)))) = (wb_m h a a2 cI th w v n T w2 b2 n2 T2) := rfl
theorem wv_X3_T_2 (a : Nat → Nat) (w b n : Nat) (T : mt_T) : (wf_m a w b n T)[2]? = some (.int (nI b)) := rfl
theorem wp_X3_T_3 (h : Nat) (a a2 : Nat → Nat) (cI : ClassId) (th : Int32) (w b n : Nat) (T : mt_T) (w2 b2 n2 : Nat) (T2 : mt_T) (v : Nat) : (wb_m h a a2 cI th w b n T w2 b2 n2 T2).set 1 (a 0, .inr (2, (wf_m a w b n T).set 3 (.int (nI v)))) = (wb_m h a a2 cI th w b v T w2 b2 n2 T2) := rfl
theorem wv_X3_T_3 (a : Nat → Nat) (w b n : Nat) (T : mt_T) : (wf_m a w b n T)[3]? = some (.int (nI n)) := rfl
theorem wp_X3_T_4 (h : Nat) (a a2 : Nat → Nat) (cI : ClassId) (th : Int32) (w b n : Nat) (T : mt_T) (w2 b2 n2 : Nat) (T2 : mt_T) (v : Int32) : (wb_m h a a2 cI th w b n T w2 b2 n2 T2).set 1 (a 0, .inr (2, (wf_m a w b n T).set 4 (.int v))) = (wb_m h a a2 cI th w b n (ms_bo T v) w2 b2 n2 T2) := rfl
theorem wv_X3_T_4 (a : Nat → Nat) (w b n : Nat) (T : mt_T) : (wf_m a w b n T)[4]? = some (.int (mt_bo T)) := rfl
theorem wp_X3_T_5 (h : Nat) (a a2 : Nat → Nat) (cI : ClassId) (th : Int32) (w b n : Nat) (T : mt_T) (w2 b2 n2 : Nat) (T2 : mt_T) (v : Int32) : (wb_m h a a2 cI th w b n T w2 b2 n2 T2).set 1 (a 0, .inr (2, (wf_m a w b n T).set 5 (.int v))) = (wb_m h a a2 cI th w b n (ms_ea T v) w2 b2 n2 T2) := rfl
theorem wv_X3_T_5 (a : Nat → Nat) (w b n : Nat) (T : mt_T) : (wf_m a w b n T)[5]? = some (.int (mt_ea T)) := rfl
theorem wr_X3_T_6 (h : Nat) (a a2 : Nat → Nat) (cI : ClassId) (th : Int32) (w b n : Nat) (T : mt_T) (w2 b2 n2 : Nat) (T2 : mt_T) : (wb_m h a a2 cI th w b n T w2 b2 n2 T2)[2]? = some (a 6, .inl (cI, 5, .inl (mt_pl T))) := rfl
theorem wu_X3_T_6 (h : Nat) (a a2 : Nat → Nat) (cI : ClassId) (th : Int32) (w b n : Nat) (T : mt_T) (w2 b2 n2 : Nat) (T2 : mt_T) (f : Nat → Int32) : (wb_m h a a2 cI th w b n T w2 b2 n2 T2).set 2 (a 6, .inl (cI, 5, .inl f)) = (wb_m h a a2 cI th w b n (ms_pl T f) w2 b2 n2 T2) := rfl
theorem wv_X3_T_6 (a : Nat → Nat) (w b n : Nat) (T : mt_T) : (wf_m a w b n T)[6]? = some (.ref (a 6)) := rfl
theorem wr_X3_T_7 (h : Nat) (a a2 : Nat → Nat) (cI : ClassId) (th : Int32) (w b n : Nat) (T : mt_T) (w2 b2 n2 : Nat) (T2 : mt_T) : (wb_m h a a2 cI th w b n T w2 b2 n2 T2)[3]? = some (a 7, .inl (cI, 5, .inl (mt_st T))) := rfl
theorem wu_X3_T_7 (h : Nat) (a a2 : Nat → Nat) (cI : ClassId) (th : Int32) (w b n : Nat) (T : mt_T) (w2 b2 n2 : Nat) (T2 : mt_T) (f : Nat → Int32) : (wb_m h a a2 cI th w b n T w2 b2 n2 T2).set 3 (a 7, .inl (cI, 5, .inl f)) = (wb_m h a a2 cI th w b n (ms_st T f) w2 b2 n2 T2) := rfl
theorem wv_X3_T_7 (a : Nat → Nat) (w b n : Nat) (T : mt_T) : (wf_m a w b n T)[7]? = some (.ref (a 7)) := rfl
theorem wr_X3_T_8 (h : Nat) (a a2 : Nat → Nat) (cI : ClassId) (th : Int32) (w b n : Nat) (T : mt_T) (w2 b2 n2 : Nat) (T2 : mt_T) : (wb_m h a a2 cI th w b n T w2 b2 n2 T2)[4]? = some (a 8, .inl (cI, 4, .inl (mt_ke T))) := rfl
theorem wu_X3_T_8 (h : Nat) (a a2 : Nat → Nat) (cI : ClassId) (th : Int32) (w b n : Nat) (T : mt_T) (w2 b2 n2 : Nat) (T2 : mt_T) (f : Nat → Int32) : (wb_m h a a2 cI th w b n T w2 b2 n2 T2).set 4 (a 8, .inl (cI, 4, .inl f)) = (wb_m h a a2 cI th w b n (ms_ke T f) w2 b2 n2 T2) := rfl
theorem wv_X3_T_8 (a : Nat → Nat) (w b n : Nat) (T : mt_T) : (wf_m a w b n T)[8]? = some (.ref (a 8)) := rfl
theorem wr_X3_T_9 (h : Nat) (a a2 : Nat → Nat) (cI : ClassId) (th : Int32) (w b n : Nat) (T : mt_T) (w2 b2 n2 : Nat) (T2 : mt_T) : (wb_m h a a2 cI th w b n T w2 b2 n2 T2)[5]? = some (a 9, .inl (cI, 4, .inl (mt_to T))) := rfl
theorem wu_X3_T_9 (h : Nat) (a a2 : Nat → Nat) (cI : ClassId) (th : Int32) (w b n : Nat) (T : mt_T) (w2 b2 n2 : Nat) (T2 : mt_T) (f : Nat → Int32) : (wb_m h a a2 cI th w b n T w2 b2 n2 T2).set 5 (a 9, .inl (cI, 4, .inl f)) = (wb_m h a a2 cI th w b n (ms_to T f) w2 b2 n2 T2) := rfl
theorem wv_X3_T_9 (a : Nat → Nat) (w b n : Nat) (T : mt_T) : (wf_m a w b n T)[9]? = some (.ref (a 9)) := rfl
theorem wr_X3_T_10 (h : Nat) (a a2 : Nat → Nat) (cI : ClassId) (th : Int32) (w b n : Nat) (T : mt_T) (w2 b2 n2 : Nat) (T2 : mt_T) : (wb_m h a a2 cI th w b n T w2 b2 n2 T2)[6]? = some (a 10, .inl (cI, 30, .inl (mt_fe T))) := rfl
theorem wu_X3_T_10 (h : Nat) (a a2 : Nat → Nat) (cI : ClassId) (th : Int32) (w b n : Nat) (T : mt_T) (w2 b2 n2 : Nat) (T2 : mt_T) (f : Nat → Int32) : (wb_m h a a2 cI th w b n T w2 b2 n2 T2).set 6 (a 10, .inl (cI, 30, .inl f)) = (wb_m h a a2 cI th w b n (ms_fe T f) w2 b2 n2 T2) := rfl
theorem wv_X3_T_10 (a : Nat → Nat) (w b n : Nat) (T : mt_T) : (wf_m a w b n T)[10]? = some (.ref (a 10)) := rfl
theorem wr_X3_T_11 (h : Nat) (a a2 : Nat → Nat) (cI : ClassId) (th : Int32) (w b n : Nat) (T : mt_T) (w2 b2 n2 : Nat) (T2 : mt_T) : (wb_m h a a2 cI th w b n T w2 b2 n2 T2)[7]? = some (a 11, .inl (cI, 30, .inl (mt_wh T))) := rfl
theorem wu_X3_T_11 (h : Nat) (a a2 : Nat → Nat) (cI : ClassId) (th : Int32) (w b n : Nat) (T : mt_T) (w2 b2 n2 : Nat) (T2 : mt_T) (f : Nat → Int32) : (wb_m h a a2 cI th w b n T w2 b2 n2 T2).set 7 (a 11, .inl (cI, 30, .inl f)) = (wb_m h a a2 cI th w b n (ms_wh T f) w2 b2 n2 T2) := rfl
theorem wv_X3_T_11 (a : Nat → Nat) (w b n : Nat) (T : mt_T) : (wf_m a w b n T)[11]? = some (.ref (a 11)) := rfl
theorem wr_X3_T_12 (h : Nat) (a a2 : Nat → Nat) (cI : ClassId) (th : Int32) (w b n : Nat) (T : mt_T) (w2 b2 n2 : Nat) (T2 : mt_T) : (wb_m h a a2 cI th w b n T w2 b2 n2 T2)[8]? = some (a 12, .inl (cI, 30, .inl (mt_hu T))) := rfl
theorem wu_X3_T_12 (h : Nat) (a a2 : Nat → Nat) (cI : ClassId) (th : Int32) (w b n : Nat) (T : mt_T) (w2 b2 n2 : Nat) (T2 : mt_T) (f : Nat → Int32) : (wb_m h a a2 cI th w b n T w2 b2 n2 T2).set 8 (a 12, .inl (cI, 30, .inl f)) = (wb_m h a a2 cI th w b n (ms_hu T f) w2 b2 n2 T2) := rfl
theorem wv_X3_T_12 (a : Nat → Nat) (w b n : Nat) (T : mt_T) : (wf_m a w b n T)[12]? = some (.ref (a 12)) := rfl
theorem wo_X3_T2 (h : Nat) (a a2 : Nat → Nat) (cI : ClassId) (th : Int32) (w b n : Nat) (T : mt_T) (w2 b2 n2 : Nat) (T2 : mt_T) : (wb_m h a a2 cI th w b n T w2 b2 n2 T2)[9]? = some (a2 0, .inr (2, (wf_m a2 w2 b2 n2 T2))) := rfl
theorem wp_X3_T2_0 (h : Nat) (a a2 : Nat → Nat) (cI : ClassId) (th : Int32) (w b n : Nat) (T : mt_T) (w2 b2 n2 : Nat) (T2 : mt_T) (v : Int32) : (wb_m h a a2 cI th w b n T w2 b2 n2 T2).set 9 (a2 0, .inr (2, (wf_m a2 w2 b2 n2 T2).set 0 (.int v))) = (wb_m h a a2 cI th w b n T w2 b2 n2 (ms_day T2 v)) := rfl
theorem wv_X3_T2_0 (a2 : Nat → Nat) (w2 b2 n2 : Nat) (T2 : mt_T) : (wf_m a2 w2 b2 n2 T2)[0]? = some (.int (mt_day T2)) := rfl
theorem wp_X3_T2_1 (h : Nat) (a a2 : Nat → Nat) (cI : ClassId) (th : Int32) (w b n : Nat) (T : mt_T) (w2 b2 n2 : Nat) (T2 : mt_T) (v : Nat) : (wb_m h a a2 cI th w b n T w2 b2 n2 T2).set 9 (a2 0, .inr (2, (wf_m a2 w2 b2 n2 T2).set 1 (.int (nI v)))) = (wb_m h a a2 cI th w b n T v b2 n2 T2) := rfl
theorem wv_X3_T2_1 (a2 : Nat → Nat) (w2 b2 n2 : Nat) (T2 : mt_T) : (wf_m a2 w2 b2 n2 T2)[1]? = some (.int (nI w2)) := rfl
theorem wp_X3_T2_2 (h : Nat) (a a2 : Nat → Nat) (cI : ClassId) (th : Int32) (w b n : Nat) (T : mt_T) (w2 b2 n2 : Nat) (T2 : mt_T) (v : Nat) : (wb_m h a a2 cI th w b n T w2 b2 n2 T2).set 9 (a2 0, .inr (2, (wf_m a2 w2 b2 n2 T2).set 2 (.int (nI v)))) = (wb_m h a a2 cI th w b n T w2 v n2 T2) := rfl
theorem wv_X3_T2_2 (a2 : Nat → Nat) (w2 b2 n2 : Nat) (T2 : mt_T) : (wf_m a2 w2 b2 n2 T2)[2]? = some (.int (nI b2)) := rfl
theorem wp_X3_T2_3 (h : Nat) (a a2 : Nat → Nat) (cI : ClassId) (th : Int32) (w b n : Nat) (T : mt_T) (w2 b2 n2 : Nat) (T2 : mt_T) (v : Nat) : (wb_m h a a2 cI th w b n T w2 b2 n2 T2).set 9 (a2 0, .inr (2, (wf_m a2 w2 b2 n2 T2).set 3 (.int (nI v)))) = (wb_m h a a2 cI th w b n T w2 b2 v T2) := rfl
theorem wv_X3_T2_3 (a2 : Nat → Nat) (w2 b2 n2 : Nat) (T2 : mt_T) : (wf_m a2 w2 b2 n2 T2)[3]? = some (.int (nI n2)) := rfl
theorem wp_X3_T2_4 (h : Nat) (a a2 : Nat → Nat) (cI : ClassId) (th : Int32) (w b n : Nat) (T : mt_T) (w2 b2 n2 : Nat) (T2 : mt_T) (v : Int32) : (wb_m h a a2 cI th w b n T w2 b2 n2 T2).set 9 (a2 0, .inr (2, (wf_m a2 w2 b2 n2 T2).set 4 (.int v))) = (wb_m h a a2 cI th w b n T w2 b2 n2 (ms_bo T2 v)) := rfl
theorem wv_X3_T2_4 (a2 : Nat → Nat) (w2 b2 n2 : Nat) (T2 : mt_T) : (wf_m a2 w2 b2 n2 T2)[4]? = some (.int (mt_bo T2)) := rfl
theorem wp_X3_T2_5 (h : Nat) (a a2 : Nat → Nat) (cI : ClassId) (th : Int32) (w b n : Nat) (T : mt_T) (w2 b2 n2 : Nat) (T2 : mt_T) (v : Int32) : (wb_m h a a2 cI th w b n T w2 b2 n2 T2).set 9 (a2 0, .inr (2, (wf_m a2 w2 b2 n2 T2).set 5 (.int v))) = (wb_m h a a2 cI th w b n T w2 b2 n2 (ms_ea T2 v)) := rfl
theorem wv_X3_T2_5 (a2 : Nat → Nat) (w2 b2 n2 : Nat) (T2 : mt_T) : (wf_m a2 w2 b2 n2 T2)[5]? = some (.int (mt_ea T2)) := rfl
theorem wr_X3_T2_6 (h : Nat) (a a2 : Nat → Nat) (cI : ClassId) (th : Int32) (w b n : Nat) (T : mt_T) (w2 b2 n2 : Nat) (T2 : mt_T) : (wb_m h a a2 cI th w b n T w2 b2 n2 T2)[10]? = some (a2 6, .inl (cI, 5, .inl (mt_pl T2))) := rfl
theorem wu_X3_T2_6 (h : Nat) (a a2 : Nat → Nat) (cI : ClassId) (th : Int32) (w b n : Nat) (T : mt_T) (w2 b2 n2 : Nat) (T2 : mt_T) (f : Nat → Int32) : (wb_m h a a2 cI th w b n T w2 b2 n2 T2).set 10 (a2 6, .inl (cI, 5, .inl f)) = (wb_m h a a2 cI th w b n T w2 b2 n2 (ms_pl T2 f)) := rfl
theorem wv_X3_T2_6 (a2 : Nat → Nat) (w2 b2 n2 : Nat) (T2 : mt_T) : (wf_m a2 w2 b2 n2 T2)[6]? = some (.ref (a2 6)) := rfl
theorem wr_X3_T2_7 (h : Nat) (a a2 : Nat → Nat) (cI : ClassId) (th : Int32) (w b n : Nat) (T : mt_T) (w2 b2 n2 : Nat) (T2 : mt_T) : (wb_m h a a2 cI th w b n T w2 b2 n2 T2)[11]? = some (a2 7, .inl (cI, 5, .inl (mt_st T2))) := rfl
theorem wu_X3_T2_7 (h : Nat) (a a2 : Nat → Nat) (cI : ClassId) (th : Int32) (w b n : Nat) (T : mt_T) (w2 b2 n2 : Nat) (T2 : mt_T) (f : Nat → Int32) : (wb_m h a a2 cI th w b n T w2 b2 n2 T2).set 11 (a2 7, .inl (cI, 5, .inl f)) = (wb_m h a a2 cI th w b n T w2 b2 n2 (ms_st T2 f)) := rfl
theorem wv_X3_T2_7 (a2 : Nat → Nat) (w2 b2 n2 : Nat) (T2 : mt_T) : (wf_m a2 w2 b2 n2 T2)[7]? = some (.ref (a2 7)) := rfl
theorem wr_X3_T2_8 (h : Nat) (a a2 : Nat → Nat) (cI : ClassId) (th : Int32) (w b n : Nat) (T : mt_T) (w2 b2 n2 : Nat) (T2 : mt_T) : (wb_m h a a2 cI th w b n T w2 b2 n2 T2)[12]? = some (a2 8, .inl (cI, 4, .inl (mt_ke T2))) := rfl
theorem wu_X3_T2_8 (h : Nat) (a a2 : Nat → Nat) (cI : ClassId) (th : Int32) (w b n : Nat) (T : mt_T) (w2 b2 n2 : Nat) (T2 : mt_T) (f : Nat → Int32) : (wb_m h a a2 cI th w b n T w2 b2 n2 T2).set 12 (a2 8, .inl (cI, 4, .inl f)) = (wb_m h a a2 cI th w b n T w2 b2 n2 (ms_ke T2 f)) := rfl
theorem wv_X3_T2_8 (a2 : Nat → Nat) (w2 b2 n2 : Nat) (T2 : mt_T) : (wf_m a2 w2 b2 n2 T2)[8]? = some (.ref (a2 8)) := rfl
theorem wr_X3_T2_9 (h : Nat) (a a2 : Nat → Nat) (cI : ClassId) (th : Int32) (w b n : Nat) (T : mt_T) (w2 b2 n2 : Nat) (T2 : mt_T) : (wb_m h a a2 cI th w b n T w2 b2 n2 T2)[13]? = some (a2 9, .inl (cI, 4, .inl (mt_to T2))) := rfl
theorem wu_X3_T2_9 (h : Nat) (a a2 : Nat → Nat) (cI : ClassId) (th : Int32) (w b n : Nat) (T : mt_T) (w2 b2 n2 : Nat) (T2 : mt_T) (f : Nat → Int32) : (wb_m h a a2 cI th w b n T w2 b2 n2 T2).set 13 (a2 9, .inl (cI, 4, .inl f)) = (wb_m h a a2 cI th w b n T w2 b2 n2 (ms_to T2 f)) := rfl
theorem wv_X3_T2_9 (a2 : Nat → Nat) (w2 b2 n2 : Nat) (T2 : mt_T) : (wf_m a2 w2 b2 n2 T2)[9]? = some (.ref (a2 9)) := rfl
theorem wr_X3_T2_10 (h : Nat) (a a2 : Nat → Nat) (cI : ClassId) (th : Int32) (w b n : Nat) (T : mt_T) (w2 b2 n2 : Nat) (T2 : mt_T) : (wb_m h a a2 cI th w b n T w2 b2 n2 T2)[14]? = some (a2 10, .inl (cI, 30, .inl (mt_fe T2))) := rfl
theorem wu_X3_T2_10 (h : Nat) (a a2 : Nat → Nat) (cI : ClassId) (th : Int32) (w b n : Nat) (T : mt_T) (w2 b2 n2 : Nat) (T2 : mt_T) (f : Nat → Int32) : (wb_m h a a2 cI th w b n T w2 b2 n2 T2).set 14 (a2 10, .inl (cI, 30, .inl f)) = (wb_m h a a2 cI th w b n T w2 b2 n2 (ms_fe T2 f)) := rfl
theorem wv_X3_T2_10 (a2 : Nat → Nat) (w2 b2 n2 : Nat) (T2 : mt_T) : (wf_m a2 w2 b2 n2 T2)[10]? = some (.ref (a2 10)) := rfl
theorem wr_X3_T2_11 (h : Nat) (a a2 : Nat → Nat) (cI : ClassId) (th : Int32) (w b n : Nat) (T : mt_T) (w2 b2 n2 : Nat) (T2 : mt_T) : (wb_m h a a2 cI th w b n T w2 b2 n2 T2)[15]? = some (a2 11, .inl (cI, 30, .inl (mt_wh T2))) := rfl
theorem wu_X3_T2_11 (h : Nat) (a a2 : Nat → Nat) (cI : ClassId) (th : Int32) (w b n : Nat) (T : mt_T) (w2 b2 n2 : Nat) (T2 : mt_T) (f : Nat → Int32) : (wb_m h a a2 cI th w b n T w2 b2 n2 T2).set 15 (a2 11, .inl (cI, 30, .inl f)) = (wb_m h a a2 cI th w b n T w2 b2 n2 (ms_wh T2 f)) := rfl
theorem wv_X3_T2_11 (a2 : Nat → Nat) (w2 b2 n2 : Nat) (T2 : mt_T) : (wf_m a2 w2 b2 n2 T2)[11]? = some (.ref (a2 11)) := rfl
theorem wr_X3_T2_12 (h : Nat) (a a2 : Nat → Nat) (cI : ClassId) (th : Int32) (w b n : Nat) (T : mt_T) (w2 b2 n2 : Nat) (T2 : mt_T) : (wb_m h a a2 cI th w b n T w2 b2 n2 T2)[16]? = some (a2 12, .inl (cI, 30, .inl (mt_hu T2))) := rfl
theorem wu_X3_T2_12 (h : Nat) (a a2 : Nat → Nat) (cI : ClassId) (th : Int32) (w b n : Nat) (T : mt_T) (w2 b2 n2 : Nat) (T2 : mt_T) (f : Nat → Int32) : (wb_m h a a2 cI th w b n T w2 b2 n2 T2).set 16 (a2 12, .inl (cI, 30, .inl f)) = (wb_m h a a2 cI th w b n T w2 b2 n2 (ms_hu T2 f)) := rfl
theorem wv_X3_T2_12 (a2 : Nat → Nat) (w2 b2 n2 : Nat) (T2 : mt_T) : (wf_m a2 w2 b2 n2 T2)[12]? = some (.ref (a2 12)) := rfl
theorem wo_X3_H (h : Nat) (a a2 : Nat → Nat) (cI : ClassId) (th : Int32) (w b n : Nat) (T : mt_T) (w2 b2 n2 : Nat) (T2 : mt_T) : (wb_m h a a2 cI th w b n T w2 b2 n2 T2)[0]? = some (h, .inr (3, [.int th, .ref (a 0), .ref (a2 0)])) := rfl
theorem wv_X3_H_0 (th : Int32) (a a2 : Nat → Nat) : ([.int th, .ref (a 0), .ref (a2 0)] : List Value)[0]? = some (.int th) := rfl
theorem wv_X3_H_1 (th : Int32) (a a2 : Nat → Nat) : ([.int th, .ref (a 0), .ref (a2 0)] : List Value)[1]? = some (.ref (a 0)) := rfl
theorem wv_X3_H_2 (th : Int32) (a a2 : Nat → Nat) : ([.int th, .ref (a 0), .ref (a2 0)] : List Value)[2]? = some (.ref (a2 0)) := rfl
theorem wp_X3_H_0 (h : Nat) (a a2 : Nat → Nat) (cI : ClassId) (th : Int32) (w b n : Nat) (T : mt_T) (w2 b2 n2 : Nat) (T2 : mt_T) (v : Int32) : (wb_m h a a2 cI th w b n T w2 b2 n2 T2).set 0 (h, .inr (3, ([.int th, .ref (a 0), .ref (a2 0)] : List Value).set 0 (.int v))) = (wb_m h a a2 cI v w b n T w2 b2 n2 T2) := rfl
theorem wpC_X3_T (h : Nat) (a a2 : Nat → Nat) (cI : ClassId) (th : Int32) (w b n : Nat) (T : mt_T) (w2 b2 n2 : Nat) (T2 : mt_T) : ([1, 2, 3, 4, 5, 6, 7, 8] : List Nat).map (fun i => (wb_m h a a2 cI th w b n T w2 b2 n2 T2)[i]?) = (wt_m a cI w b n T).map some := rfl
theorem wpR_X3_T (h : Nat) (a a2 : Nat → Nat) (cI : ClassId) (th : Int32) (w b n : Nat) (T : mt_T) (w2 b2 n2 : Nat) (T2 : mt_T) : ([0, 9, 10, 11, 12, 13, 14, 15, 16] : List Nat).map (fun i => (wb_m h a a2 cI th w b n T w2 b2 n2 T2)[i]?) = (wb_m0 h a a2 th :: wt_m a2 cI w2 b2 n2 T2).map some := rfl
theorem wpJ_X3_T (h : Nat) (a a2 : Nat → Nat) (cI : ClassId) (th : Int32) (w b n : Nat) (T : mt_T) (w2 b2 n2 : Nat) (T2 : mt_T) : ([0, 9, 10, 11, 12, 13, 14, 15, 16, 1, 2, 3, 4, 5, 6, 7, 8] : List Nat).map (fun i => ((wb_m0 h a a2 th :: wt_m a2 cI w2 b2 n2 T2) ++ (wt_m a cI w b n T))[i]?) = (wb_m h a a2 cI th w b n T w2 b2 n2 T2).map some := rfl
theorem wpC_X3_T2 (h : Nat) (a a2 : Nat → Nat) (cI : ClassId) (th : Int32) (w b n : Nat) (T : mt_T) (w2 b2 n2 : Nat) (T2 : mt_T) : ([9, 10, 11, 12, 13, 14, 15, 16] : List Nat).map (fun i => (wb_m h a a2 cI th w b n T w2 b2 n2 T2)[i]?) = (wt_m a2 cI w2 b2 n2 T2).map some := rfl
theorem wpR_X3_T2 (h : Nat) (a a2 : Nat → Nat) (cI : ClassId) (th : Int32) (w b n : Nat) (T : mt_T) (w2 b2 n2 : Nat) (T2 : mt_T) : ([0, 1, 2, 3, 4, 5, 6, 7, 8] : List Nat).map (fun i => (wb_m h a a2 cI th w b n T w2 b2 n2 T2)[i]?) = (wb_m0 h a a2 th :: wt_m a cI w b n T).map some := rfl
theorem wpJ_X3_T2 (h : Nat) (a a2 : Nat → Nat) (cI : ClassId) (th : Int32) (w b n : Nat) (T : mt_T) (w2 b2 n2 : Nat) (T2 : mt_T) : ([0, 1, 2, 3, 4, 5, 6, 7, 8, 9, 10, 11, 12, 13, 14, 15, 16] : List Nat).map (fun i => ((wb_m0 h a a2 th :: wt_m a cI w b n T) ++ (wt_m a2 cI w2 b2 n2 T2))[i]?) = (wb_m h a a2 cI th w b n T w2 b2 n2 T2).map some := rfl
end
section
def s_X0_move (w : Nat) (b : Nat) (n : Nat) (T : ct_T) (x1 : Int32) (x2 : Int32) (x3 : Int32) : ct_T := (cs_nu (cs_wh T (upd (ct_wh T) x1.toNatClampNeg x2)) (upd (ct_nu (cs_wh T (upd (ct_wh T) x1.toNatClampNeg x2))) x1.toNatClampNeg x3))
abbrev rm_X0_move : Room := { frames := 0, cells := 0, slots := 0, locals := 0 }
set_option maxHeartbeats 4000000 in
set_option maxRecDepth 100000 in
theorem k_X0_move (l : Launch) (D : va_G) (cI cZ cL : ClassId) (a : Nat → Nat) (w : Nat) (b : Nat) (n : Nat) (T : ct_T) (hd5 : w ≤ 5) (hd4 : b ≤ 4) (hd30 : n ≤ 30) (x1 : Int32) (x2 : Int32) (x3 : Int32) (hp1 : vp_in x1 30) : MX l yX0_move wsX0_move rm_X0_move D cI cZ cL [.ref (a 0), .int x1, .int x2, .int x3] (wt_c a cI cZ w b n T) none (wt_c a cI cZ w b n (s_X0_move w b n T x1 x2 x3)) := by
  refine MX.of (own := RX0) (cc := cX0_move) (maxL := 4) (ret := none) (lv0 := [(0, .ref (a 0)), (1, .int x1), (2, .int x2), (3, .int x3)]) (by decide) rfl rfl (Nat.le_of_ble_eq_true rfl) rfl ?_
  intro p e s m args below meth c A hc hnm hw ls hl
  obtain ⟨hx, hb, hr, hml, hown, hts, hlk, hK, hA⟩ := id hc
  have hiX0 : ∀ w ∈ u_ws RX0 TX0 16, w ∈ wsX0_move := fun _ h => List.mem_cons_of_mem _ (List.mem_append_right _ h)
  refine lv_aload_n hx hb dX0_move_0 rfl (lv_at hl 0 rfl) ?_
  refine g_get (v := .ref (a 11)) hc hw hiX0 0 11 (wo_X0_T ..) rfl (by decide) (List.mem_of_getElem? (i := 1) rfl) (wv_X0_T_11 ..) dX0_move_1 ?_
  refine lv_iload_n hx hb dX0_move_4 rfl (lv_at hl 1 rfl) ?_
  refine lv_iload_n hx hb dX0_move_5 rfl (lv_at hl 2 rfl) ?_
  refine g_iast (f := (ct_wh T)) hc hw 6 (wr_X0_T_11 ..) hp1 (w' := (wt_c a cI cZ w b n (cs_wh T (upd (ct_wh T) x1.toNatClampNeg x2)))) (wu_X0_T_11 ..) dX0_move_6 (fun H locs hw => ?_)
  refine lv_aload_n hx hb dX0_move_7 rfl (lv_at hl 0 rfl) ?_
  refine g_get (v := .ref (a 12)) hc hw hiX0 0 12 (wo_X0_T ..) rfl (by decide) (List.mem_of_getElem? (i := 2) rfl) (wv_X0_T_12 ..) dX0_move_8 ?_
  refine lv_iload_n hx hb dX0_move_11 rfl (lv_at hl 1 rfl) ?_
  refine lv_iload_n hx hb dX0_move_12 rfl (lv_at hl 3 rfl) ?_
  refine g_iast (f := (ct_nu (cs_wh T (upd (ct_wh T) x1.toNatClampNeg x2)))) hc hw 7 (wr_X0_T_12 ..) hp1 (w' := (wt_c a cI cZ w b n (cs_nu (cs_wh T (upd (ct_wh T) x1.toNatClampNeg x2)) (upd (ct_nu (cs_wh T (upd (ct_wh T) x1.toNatClampNeg x2))) x1.toNatClampNeg x3)))) (wu_X0_T_12 ..) dX0_move_13 (fun H locs hw => ?_)
  rw [show s_X0_move w b n T x1 x2 x3 = (cs_nu (cs_wh T (upd (ct_wh T) x1.toNatClampNeg x2)) (upd (ct_nu (cs_wh T (upd (ct_wh T) x1.toNatClampNeg x2))) x1.toNatClampNeg x3)) from by rw [s_X0_move]]
  exact g_vret hc hw rfl (Nat.le_of_ble_eq_true rfl) (Nat.le_of_ble_eq_true rfl) dX0_move_14

def r_X0_isAt (w : Nat) (b : Nat) (n : Nat) (T : ct_T) (x1 : Int32) (x2 : Int32) (x3 : Int32) : Int32 := if ((ct_wh T) x1.toNatClampNeg) = x2 then (if ((ct_nu T) x1.toNatClampNeg) = x3 then ((1 : Int32)) else ((0 : Int32))) else ((0 : Int32))
abbrev rm_X0_isAt : Room := { frames := 0, cells := 0, slots := 0, locals := 0 }
set_option maxHeartbeats 4000000 in
set_option maxRecDepth 100000 in
theorem k_X0_isAt (l : Launch) (D : va_G) (cI cZ cL : ClassId) (a : Nat → Nat) (w : Nat) (b : Nat) (n : Nat) (T : ct_T) (hd5 : w ≤ 5) (hd4 : b ≤ 4) (hd30 : n ≤ 30) (x1 : Int32) (x2 : Int32) (x3 : Int32) (hp1 : vp_in x1 30) : MX l yX0_isAt wsX0_isAt rm_X0_isAt D cI cZ cL [.ref (a 0), .int x1, .int x2, .int x3] (wt_c a cI cZ w b n T) (some (.int (r_X0_isAt w b n T x1 x2 x3))) (wt_c a cI cZ w b n T) := by
  refine MX.of (own := RX0) (cc := cX0_isAt) (maxL := 4) (ret := (some .boolean)) (lv0 := [(0, .ref (a 0)), (1, .int x1), (2, .int x2), (3, .int x3)]) (by decide) rfl rfl (Nat.le_of_ble_eq_true rfl) rfl ?_
  intro p e s m args below meth c A hc hnm hw ls hl
  obtain ⟨hx, hb, hr, hml, hown, hts, hlk, hK, hA⟩ := id hc
  have hiX0 : ∀ w ∈ u_ws RX0 TX0 16, w ∈ wsX0_isAt := fun _ h => List.mem_cons_of_mem _ (List.mem_append_right _ h)
  refine lv_aload_n hx hb dX0_isAt_0 rfl (lv_at hl 0 rfl) ?_
  refine g_get (v := .ref (a 11)) hc hw hiX0 0 11 (wo_X0_T ..) rfl (by decide) (List.mem_of_getElem? (i := 1) rfl) (wv_X0_T_11 ..) dX0_isAt_1 ?_
  refine lv_iload_n hx hb dX0_isAt_4 rfl (lv_at hl 1 rfl) ?_
  refine g_iald (f := (ct_wh T)) hc hw 6 (wr_X0_T_11 ..) hp1 dX0_isAt_5 ?_
  refine lv_iload_n hx hb dX0_isAt_6 rfl (lv_at hl 2 rfl) ?_
  refine lv_icmp_ne (tgt := 24) hx hb dX0_isAt_7 (by decide) (fun c1 => ?_) (fun c1 => ?_)
  · refine lv_iconst (v := 0) hx hb dX0_isAt_24 (by decide) ?_
    rw [show r_X0_isAt w b n T x1 x2 x3 = (0 : Int32) from by rw [r_X0_isAt, if_neg c1]]
    exact g_zret hc hw rfl rfl (Nat.le_of_ble_eq_true rfl) (Nat.le_of_ble_eq_true rfl) dX0_isAt_25
  · refine lv_aload_n hx hb dX0_isAt_10 rfl (lv_at hl 0 rfl) ?_
    refine g_get (v := .ref (a 12)) hc hw hiX0 0 12 (wo_X0_T ..) rfl (by decide) (List.mem_of_getElem? (i := 2) rfl) (wv_X0_T_12 ..) dX0_isAt_11 ?_
    refine lv_iload_n hx hb dX0_isAt_14 rfl (lv_at hl 1 rfl) ?_
    refine g_iald (f := (ct_nu T)) hc hw 7 (wr_X0_T_12 ..) hp1 dX0_isAt_15 ?_
    refine lv_iload_n hx hb dX0_isAt_16 rfl (lv_at hl 3 rfl) ?_
    refine lv_icmp_ne (tgt := 24) hx hb dX0_isAt_17 (by decide) (fun c2 => ?_) (fun c2 => ?_)
    · refine lv_iconst (v := 0) hx hb dX0_isAt_24 (by decide) ?_
      rw [show r_X0_isAt w b n T x1 x2 x3 = (0 : Int32) from by rw [r_X0_isAt, if_pos c1, if_neg c2]]
      exact g_zret hc hw rfl rfl (Nat.le_of_ble_eq_true rfl) (Nat.le_of_ble_eq_true rfl) dX0_isAt_25
    · refine lv_iconst (v := 1) hx hb dX0_isAt_20 (by decide) ?_
      refine lv_goto (tgt := 25) hx hb dX0_isAt_21 (by decide) ?_
      rw [show r_X0_isAt w b n T x1 x2 x3 = (1 : Int32) from by rw [r_X0_isAt, if_pos c1, if_pos c2]]
      exact g_zret hc hw rfl rfl (Nat.le_of_ble_eq_true rfl) (Nat.le_of_ble_eq_true rfl) dX0_isAt_25

def r_X0_numberOf (w : Nat) (b : Nat) (n : Nat) (T : ct_T) (x1 : Int32) (x2 : Int32) : Int32 := if ((ct_wh T) x1.toNatClampNeg) = x2 then (((ct_nu T) x1.toNatClampNeg)) else ((-1 : Int32))
abbrev rm_X0_numberOf : Room := { frames := 0, cells := 0, slots := 0, locals := 0 }
set_option maxHeartbeats 4000000 in
set_option maxRecDepth 100000 in
theorem k_X0_numberOf (l : Launch) (D : va_G) (cI cZ cL : ClassId) (a : Nat → Nat) (w : Nat) (b : Nat) (n : Nat) (T : ct_T) (hd5 : w ≤ 5) (hd4 : b ≤ 4) (hd30 : n ≤ 30) (x1 : Int32) (x2 : Int32) (hp1 : vp_in x1 30) : MX l yX0_numberOf wsX0_numberOf rm_X0_numberOf D cI cZ cL [.ref (a 0), .int x1, .int x2] (wt_c a cI cZ w b n T) (some (.int (r_X0_numberOf w b n T x1 x2))) (wt_c a cI cZ w b n T) := by
  refine MX.of (own := RX0) (cc := cX0_numberOf) (maxL := 3) (ret := (some .int)) (lv0 := [(0, .ref (a 0)), (1, .int x1), (2, .int x2)]) (by decide) rfl rfl (Nat.le_of_ble_eq_true rfl) rfl ?_
  intro p e s m args below meth c A hc hnm hw ls hl
  obtain ⟨hx, hb, hr, hml, hown, hts, hlk, hK, hA⟩ := id hc
  have hiX0 : ∀ w ∈ u_ws RX0 TX0 16, w ∈ wsX0_numberOf := fun _ h => List.mem_cons_of_mem _ (List.mem_append_right _ h)
  refine lv_aload_n hx hb dX0_numberOf_0 rfl (lv_at hl 0 rfl) ?_
  refine g_get (v := .ref (a 11)) hc hw hiX0 0 11 (wo_X0_T ..) rfl (by decide) (List.mem_of_getElem? (i := 1) rfl) (wv_X0_T_11 ..) dX0_numberOf_1 ?_
  refine lv_iload_n hx hb dX0_numberOf_4 rfl (lv_at hl 1 rfl) ?_
  refine g_iald (f := (ct_wh T)) hc hw 6 (wr_X0_T_11 ..) hp1 dX0_numberOf_5 ?_
  refine lv_iload_n hx hb dX0_numberOf_6 rfl (lv_at hl 2 rfl) ?_
  refine lv_icmp_ne (tgt := 19) hx hb dX0_numberOf_7 (by decide) (fun c1 => ?_) (fun c1 => ?_)
  · refine lv_iconst (v := (-1)) hx hb dX0_numberOf_19 (by decide) ?_
    rw [show r_X0_numberOf w b n T x1 x2 = (-1 : Int32) from by rw [r_X0_numberOf, if_neg c1]]
    exact g_ret hc hw rfl (Nat.le_of_ble_eq_true rfl) (Nat.le_of_ble_eq_true rfl) dX0_numberOf_20
  · refine lv_aload_n hx hb dX0_numberOf_10 rfl (lv_at hl 0 rfl) ?_
    refine g_get (v := .ref (a 12)) hc hw hiX0 0 12 (wo_X0_T ..) rfl (by decide) (List.mem_of_getElem? (i := 2) rfl) (wv_X0_T_12 ..) dX0_numberOf_11 ?_
    refine lv_iload_n hx hb dX0_numberOf_14 rfl (lv_at hl 1 rfl) ?_
    refine g_iald (f := (ct_nu T)) hc hw 7 (wr_X0_T_12 ..) hp1 dX0_numberOf_15 ?_
    refine lv_goto (tgt := 20) hx hb dX0_numberOf_16 (by decide) ?_
    rw [show r_X0_numberOf w b n T x1 x2 = ((ct_nu T) x1.toNatClampNeg) from by rw [r_X0_numberOf, if_pos c1]]
    exact g_ret hc hw rfl (Nat.le_of_ble_eq_true rfl) (Nat.le_of_ble_eq_true rfl) dX0_numberOf_20

def f_X0_count_4 (w : Nat) (b : Nat) (n : Nat) (T : ct_T) (x1 : Int32) (i4 : Nat) (q4 : Int32) : Int32 := if ((ct_wh T) (nI i4).toNatClampNeg) = x1 then ((q4 + 1)) else (q4)
def r_X0_count (w : Nat) (b : Nat) (n : Nat) (T : ct_T) (x1 : Int32) : Int32 := (lpf (f_X0_count_4 w b n T x1) n 0 ((0 : Int32)))
abbrev rm_X0_count : Room := { frames := 0, cells := 0, slots := 0, locals := 0 }
set_option maxHeartbeats 4000000 in
set_option maxRecDepth 100000 in
theorem k_X0_count (l : Launch) (D : va_G) (cI cZ cL : ClassId) (a : Nat → Nat) (w : Nat) (b : Nat) (n : Nat) (T : ct_T) (hd5 : w ≤ 5) (hd4 : b ≤ 4) (hd30 : n ≤ 30) (x1 : Int32)  : MX l yX0_count wsX0_count rm_X0_count D cI cZ cL [.ref (a 0), .int x1] (wt_c a cI cZ w b n T) (some (.int (r_X0_count w b n T x1))) (wt_c a cI cZ w b n T) := by
  refine MX.of (own := RX0) (cc := cX0_count) (maxL := 4) (ret := (some .int)) (lv0 := [(0, .ref (a 0)), (1, .int x1)]) (by decide) rfl rfl (Nat.le_of_ble_eq_true rfl) rfl ?_
  intro p e s m args below meth c A hc hnm hw ls hl
  obtain ⟨hx, hb, hr, hml, hown, hts, hlk, hK, hA⟩ := id hc
  have hiX0 : ∀ w ∈ u_ws RX0 TX0 16, w ∈ wsX0_count := fun _ h => List.mem_cons_of_mem _ (List.mem_append_right _ h)
  refine lv_iconst (v := 0) hx hb dX0_count_0 (by decide) ?_
  refine lv_istore_n (lv' := [(2, .int (0 : Int32)), (0, .ref (a 0)), (1, .int x1)]) hx hb dX0_count_1 rfl hl (by decide) rfl (fun ls hl => ?_)
  refine lv_iconst (v := 0) hx hb dX0_count_2 (by decide) ?_
  refine lv_istore_n (lv' := [(3, .int (0 : Int32)), (2, .int (0 : Int32)), (0, .ref (a 0)), (1, .int x1)]) hx hb dX0_count_3 rfl hl (by decide) rfl (fun ls hl => ?_)
  refine lp_go (fun (i4 : Nat) (q4 : Int32) => ∀ (H : Heap) (locs : List Loc) (ls : Array Slot), Wo D A s.heap (wt_c a cI cZ w b n T) H locs → lv_has ls 4 [(0, .ref (a 0)), (1, .int x1), (2, .int q4), (3, .int (nI i4))] → W p l e rm_X0_count s m args below meth c H locs 0 0 (QE below args s D A (some (.int (r_X0_count w b n T x1))) (wt_c a cI cZ w b n T) rm_X0_count) (F0 m 4 ls [])) (f_X0_count_4 w b n T x1) n ((0 : Int32)) ?_ ?_ s.heap [] ls hw (lv_sub hl [2, 3, 1, 0] rfl)
  · intro i4 q4 hi4 k4 H locs ls hw hl
    refine lv_iload_n hx hb dX0_count_4 rfl (lv_at hl 3 rfl) ?_
    refine lv_aload_n hx hb dX0_count_5 rfl (lv_at hl 0 rfl) ?_
    refine g_get (v := .int (nI n)) hc hw hiX0 0 9 (wo_X0_T ..) rfl (by decide) (List.mem_of_getElem? (i := 1) rfl) (wv_X0_T_9 ..) dX0_count_6 ?_
    refine lv_icmp_ge (tgt := 31) hx hb dX0_count_9 (by decide) (fun z => absurd z (nI_ge hi4 (by omega))) (fun _ => ?_)
    refine lv_aload_n hx hb dX0_count_12 rfl (lv_at hl 0 rfl) ?_
    refine g_get (v := .ref (a 11)) hc hw hiX0 0 11 (wo_X0_T ..) rfl (by decide) (List.mem_of_getElem? (i := 2) rfl) (wv_X0_T_11 ..) dX0_count_13 ?_
    refine lv_iload_n hx hb dX0_count_16 rfl (lv_at hl 3 rfl) ?_
    refine g_iald (f := (ct_wh T)) hc hw 6 (wr_X0_T_11 ..) (vp_in_nI (show i4 < 30 by omega) (by omega)) dX0_count_17 ?_
    refine lv_iload_n hx hb dX0_count_18 rfl (lv_at hl 1 rfl) ?_
    refine lv_icmp_ne (tgt := 25) hx hb dX0_count_19 (by decide) (fun c1 => ?_) (fun c1 => ?_)
    · refine lv_iinc (v := (nI (i4 + 1))) (lv' := [(3, .int (nI (i4 + 1))), (0, .ref (a 0)), (1, .int x1), (2, .int q4)]) hx hb dX0_count_25 hl (k := 3) rfl (inc_n i4) (by decide) rfl (fun ls hl => ?_)
      refine lv_goto (tgt := 4) hx hb dX0_count_28 (by decide) ?_
      rw [show (f_X0_count_4 w b n T x1) i4 q4 = (q4) from by rw [f_X0_count_4, if_neg c1]] at k4
      exact k4 H locs ls hw (lv_sub hl [1, 2, 3, 0] rfl)
    · refine lv_iinc (v := (q4 + 1)) (lv' := [(2, .int (q4 + 1)), (0, .ref (a 0)), (1, .int x1), (3, .int (nI i4))]) hx hb dX0_count_22 hl (k := 2) rfl (inc_1 _) (by decide) rfl (fun ls hl => ?_)
      refine lv_iinc (v := (nI (i4 + 1))) (lv' := [(3, .int (nI (i4 + 1))), (2, .int (q4 + 1)), (0, .ref (a 0)), (1, .int x1)]) hx hb dX0_count_25 hl (k := 3) rfl (inc_n i4) (by decide) rfl (fun ls hl => ?_)
      refine lv_goto (tgt := 4) hx hb dX0_count_28 (by decide) ?_
      rw [show (f_X0_count_4 w b n T x1) i4 q4 = ((q4 + 1)) from by rw [f_X0_count_4, if_pos c1]] at k4
      exact k4 H locs ls hw (lv_sub hl [2, 3, 1, 0] rfl)
  · intro H locs ls hw hl
    refine lv_iload_n hx hb dX0_count_4 rfl (lv_at hl 3 rfl) ?_
    refine lv_aload_n hx hb dX0_count_5 rfl (lv_at hl 0 rfl) ?_
    refine g_get (v := .int (nI n)) hc hw hiX0 0 9 (wo_X0_T ..) rfl (by decide) (List.mem_of_getElem? (i := 1) rfl) (wv_X0_T_9 ..) dX0_count_6 ?_
    refine lv_icmp_ge (tgt := 31) hx hb dX0_count_9 (by decide) (fun _ => ?_) (fun z => absurd (nI_le (Nat.le_refl _) (by omega)) z)
    refine lv_iload_n hx hb dX0_count_31 rfl (lv_at hl 2 rfl) ?_
    rw [show r_X0_count w b n T x1 = (lpf (f_X0_count_4 w b n T x1) n 0 ((0 : Int32))) from by rw [r_X0_count]]
    exact g_ret hc hw rfl (Nat.le_of_ble_eq_true rfl) (Nat.le_of_ble_eq_true rfl) dX0_count_32

def f_X0_countAt_5 (w : Nat) (b : Nat) (n : Nat) (T : ct_T) (x1 : Int32) (x2 : Int32) (i5 : Nat) (q5 : Int32) : Int32 := if (r_X0_isAt w b n T (nI i5) x1 x2) = (0 : Int32) then (q5) else ((q5 + 1))
def r_X0_countAt (w : Nat) (b : Nat) (n : Nat) (T : ct_T) (x1 : Int32) (x2 : Int32) : Int32 := (lpf (f_X0_countAt_5 w b n T x1 x2) n 0 ((0 : Int32)))
abbrev rm_X0_countAt : Room := { frames := 1, cells := 0, slots := 0, locals := 23 }
set_option maxHeartbeats 4000000 in
set_option maxRecDepth 100000 in
theorem k_X0_countAt (l : Launch) (D : va_G) (cI cZ cL : ClassId) (a : Nat → Nat) (w : Nat) (b : Nat) (n : Nat) (T : ct_T) (hd5 : w ≤ 5) (hd4 : b ≤ 4) (hd30 : n ≤ 30) (x1 : Int32) (x2 : Int32)  : MX l yX0_countAt wsX0_countAt rm_X0_countAt D cI cZ cL [.ref (a 0), .int x1, .int x2] (wt_c a cI cZ w b n T) (some (.int (r_X0_countAt w b n T x1 x2))) (wt_c a cI cZ w b n T) := by
  refine MX.of (own := RX0) (cc := cX0_countAt) (maxL := 5) (ret := (some .int)) (lv0 := [(0, .ref (a 0)), (1, .int x1), (2, .int x2)]) (by decide) rfl rfl (Nat.le_of_ble_eq_true rfl) rfl ?_
  intro p e s m args below meth c A hc hnm hw ls hl
  obtain ⟨hx, hb, hr, hml, hown, hts, hlk, hK, hA⟩ := id hc
  have hiX0 : ∀ w ∈ u_ws RX0 TX0 16, w ∈ wsX0_countAt := fun _ h => List.mem_cons_of_mem _ (List.mem_append_right _ h)
  refine lv_iconst (v := 0) hx hb dX0_countAt_0 (by decide) ?_
  refine lv_istore_n (lv' := [(3, .int (0 : Int32)), (0, .ref (a 0)), (1, .int x1), (2, .int x2)]) hx hb dX0_countAt_1 rfl hl (by decide) rfl (fun ls hl => ?_)
  refine lv_iconst (v := 0) hx hb dX0_countAt_2 (by decide) ?_
  refine lv_istore (lv' := [(4, .int (0 : Int32)), (3, .int (0 : Int32)), (0, .ref (a 0)), (1, .int x1), (2, .int x2)]) hx hb dX0_countAt_3 hl (by decide) rfl (fun ls hl => ?_)
  refine lp_go (fun (i5 : Nat) (q5 : Int32) => ∀ (H : Heap) (locs : List Loc) (ls : Array Slot), Wo D A s.heap (wt_c a cI cZ w b n T) H locs → lv_has ls 5 [(0, .ref (a 0)), (1, .int x1), (2, .int x2), (3, .int q5), (4, .int (nI i5))] → W p l e rm_X0_countAt s m args below meth c H locs 0 0 (QE below args s D A (some (.int (r_X0_countAt w b n T x1 x2))) (wt_c a cI cZ w b n T) rm_X0_countAt) (F0 m 5 ls [])) (f_X0_countAt_5 w b n T x1 x2) n ((0 : Int32)) ?_ ?_ s.heap [] ls hw (lv_sub hl [2, 3, 4, 1, 0] rfl)
  · intro i5 q5 hi5 k5 H locs ls hw hl
    refine lv_iload hx hb dX0_countAt_5 (lv_at hl 4 rfl) ?_
    refine lv_aload_n hx hb dX0_countAt_7 rfl (lv_at hl 0 rfl) ?_
    refine g_get (v := .int (nI n)) hc hw hiX0 0 9 (wo_X0_T ..) rfl (by decide) (List.mem_of_getElem? (i := 1) rfl) (wv_X0_T_9 ..) dX0_countAt_8 ?_
    refine lv_icmp_ge (tgt := 34) hx hb dX0_countAt_11 (by decide) (fun z => absurd z (nI_ge hi5 (by omega))) (fun _ => ?_)
    refine lv_aload_n hx hb dX0_countAt_14 rfl (lv_at hl 0 rfl) ?_
    refine lv_iload hx hb dX0_countAt_15 (lv_at hl 4 rfl) ?_
    refine lv_iload_n hx hb dX0_countAt_17 rfl (lv_at hl 1 rfl) ?_
    refine lv_iload_n hx hb dX0_countAt_18 rfl (lv_at hl 2 rfl) ?_
    refine g_callV0 (n := 3) hc hw (k_X0_isAt l D cI cZ cL a w b n T hd5 hd4 hd30 (nI i5) x1 x2 (vp_in_nI (show i5 < 30 by omega) (by omega))) gX0_countAt_X0_isAt rfl (by decide +kernel) ⟨Nat.le_of_ble_eq_true rfl, Nat.le_of_ble_eq_true rfl⟩ 0 (wo_X0_T ..) rfl rfl rfl (rest := []) rfl hl.1 (Nat.le_of_ble_eq_true rfl) (st1 := [.int (r_X0_isAt w b n T (nI i5) x1 x2)]) rfl dX0_countAt_19 (k2 := 0) (s2 := 0) rfl rfl ⟨Nat.le_of_ble_eq_true rfl, Nat.le_of_ble_eq_true rfl⟩ (fun H locs hw => ?_)
    refine lv_if_eq (tgt := 28) hx hb dX0_countAt_22 (by decide) (fun c1 => ?_) (fun c1 => ?_)
    · refine lv_iinc (v := (nI (i5 + 1))) (lv' := [(4, .int (nI (i5 + 1))), (0, .ref (a 0)), (1, .int x1), (2, .int x2), (3, .int q5)]) hx hb dX0_countAt_28 hl (k := 4) rfl (inc_n i5) (by decide) rfl (fun ls hl => ?_)
      refine lv_goto (tgt := 5) hx hb dX0_countAt_31 (by decide) ?_
      rw [show (f_X0_countAt_5 w b n T x1 x2) i5 q5 = (q5) from by rw [f_X0_countAt_5, if_pos c1]] at k5
      exact k5 H locs ls hw (lv_sub hl [1, 2, 3, 4, 0] rfl)
    · refine lv_iinc (v := (q5 + 1)) (lv' := [(3, .int (q5 + 1)), (0, .ref (a 0)), (1, .int x1), (2, .int x2), (4, .int (nI i5))]) hx hb dX0_countAt_25 hl (k := 3) rfl (inc_1 _) (by decide) rfl (fun ls hl => ?_)
      refine lv_iinc (v := (nI (i5 + 1))) (lv' := [(4, .int (nI (i5 + 1))), (3, .int (q5 + 1)), (0, .ref (a 0)), (1, .int x1), (2, .int x2)]) hx hb dX0_countAt_28 hl (k := 4) rfl (inc_n i5) (by decide) rfl (fun ls hl => ?_)
      refine lv_goto (tgt := 5) hx hb dX0_countAt_31 (by decide) ?_
      rw [show (f_X0_countAt_5 w b n T x1 x2) i5 q5 = ((q5 + 1)) from by rw [f_X0_countAt_5, if_neg c1]] at k5
      exact k5 H locs ls hw (lv_sub hl [2, 3, 4, 1, 0] rfl)
  · intro H locs ls hw hl
    refine lv_iload hx hb dX0_countAt_5 (lv_at hl 4 rfl) ?_
    refine lv_aload_n hx hb dX0_countAt_7 rfl (lv_at hl 0 rfl) ?_
    refine g_get (v := .int (nI n)) hc hw hiX0 0 9 (wo_X0_T ..) rfl (by decide) (List.mem_of_getElem? (i := 1) rfl) (wv_X0_T_9 ..) dX0_countAt_8 ?_
    refine lv_icmp_ge (tgt := 34) hx hb dX0_countAt_11 (by decide) (fun _ => ?_) (fun z => absurd (nI_le (Nat.le_refl _) (by omega)) z)
    refine lv_iload_n hx hb dX0_countAt_34 rfl (lv_at hl 3 rfl) ?_
    rw [show r_X0_countAt w b n T x1 x2 = (lpf (f_X0_countAt_5 w b n T x1 x2) n 0 ((0 : Int32))) from by rw [r_X0_countAt]]
    exact g_ret hc hw rfl (Nat.le_of_ble_eq_true rfl) (Nat.le_of_ble_eq_true rfl) dX0_countAt_35

def r_X0_freeIn (w : Nat) (b : Nat) (n : Nat) (T : ct_T) (x1 : Int32) : Int32 := (((ct_pl T) x1.toNatClampNeg) - (r_X0_countAt w b n T (1 : Int32) x1))
abbrev rm_X0_freeIn : Room := { frames := 2, cells := 0, slots := 0, locals := 47 }
set_option maxHeartbeats 4000000 in
set_option maxRecDepth 100000 in
theorem k_X0_freeIn (l : Launch) (D : va_G) (cI cZ cL : ClassId) (a : Nat → Nat) (w : Nat) (b : Nat) (n : Nat) (T : ct_T) (hd5 : w ≤ 5) (hd4 : b ≤ 4) (hd30 : n ≤ 30) (x1 : Int32) (hp1 : vp_in x1 5) : MX l yX0_freeIn wsX0_freeIn rm_X0_freeIn D cI cZ cL [.ref (a 0), .int x1] (wt_c a cI cZ w b n T) (some (.int (r_X0_freeIn w b n T x1))) (wt_c a cI cZ w b n T) := by
  refine MX.of (own := RX0) (cc := cX0_freeIn) (maxL := 2) (ret := (some .int)) (lv0 := [(0, .ref (a 0)), (1, .int x1)]) (by decide) rfl rfl (Nat.le_of_ble_eq_true rfl) rfl ?_
  intro p e s m args below meth c A hc hnm hw ls hl
  obtain ⟨hx, hb, hr, hml, hown, hts, hlk, hK, hA⟩ := id hc
  have hiX0 : ∀ w ∈ u_ws RX0 TX0 16, w ∈ wsX0_freeIn := fun _ h => List.mem_cons_of_mem _ (List.mem_append_right _ h)
  refine lv_aload_n hx hb dX0_freeIn_0 rfl (lv_at hl 0 rfl) ?_
  refine g_get (v := .ref (a 4)) hc hw hiX0 0 4 (wo_X0_T ..) rfl (by decide) (List.mem_of_getElem? (i := 1) rfl) (wv_X0_T_4 ..) dX0_freeIn_1 ?_
  refine lv_iload_n hx hb dX0_freeIn_4 rfl (lv_at hl 1 rfl) ?_
  refine g_iald (f := (ct_pl T)) hc hw 1 (wr_X0_T_4 ..) hp1 dX0_freeIn_5 ?_
  refine lv_aload_n hx hb dX0_freeIn_6 rfl (lv_at hl 0 rfl) ?_
  refine lv_iconst (v := 1) hx hb dX0_freeIn_7 (by decide) ?_
  refine lv_iload_n hx hb dX0_freeIn_8 rfl (lv_at hl 1 rfl) ?_
  refine g_callV0 (n := 2) hc hw (k_X0_countAt l D cI cZ cL a w b n T hd5 hd4 hd30 (1 : Int32) x1) gX0_freeIn_X0_countAt rfl (by decide +kernel) ⟨Nat.le_of_ble_eq_true rfl, Nat.le_of_ble_eq_true rfl⟩ 0 (wo_X0_T ..) rfl rfl rfl (rest := [.int ((ct_pl T) x1.toNatClampNeg)]) rfl hl.1 (Nat.le_of_ble_eq_true rfl) (st1 := [.int (r_X0_countAt w b n T (1 : Int32) x1), .int ((ct_pl T) x1.toNatClampNeg)]) rfl dX0_freeIn_9 (k2 := 0) (s2 := 0) rfl rfl ⟨Nat.le_of_ble_eq_true rfl, Nat.le_of_ble_eq_true rfl⟩ (fun H locs hw => ?_)
  refine lv_isub hx hb dX0_freeIn_12 ?_
  rw [show r_X0_freeIn w b n T x1 = (((ct_pl T) x1.toNatClampNeg) - (r_X0_countAt w b n T (1 : Int32) x1)) from by rw [r_X0_freeIn]]
  exact g_ret hc hw rfl (Nat.le_of_ble_eq_true rfl) (Nat.le_of_ble_eq_true rfl) dX0_freeIn_13

def f_X0_feversInWard_4 (w : Nat) (b : Nat) (n : Nat) (T : ct_T) (x1 : Int32) (i4 : Nat) (q4 : Int32) : Int32 := if (r_X0_isAt w b n T (nI i4) (1 : Int32) x1) = (0 : Int32) then (q4) else ((q4 + ((ct_fe T) (nI i4).toNatClampNeg)))
def r_X0_feversInWard (w : Nat) (b : Nat) (n : Nat) (T : ct_T) (x1 : Int32) : Int32 := (lpf (f_X0_feversInWard_4 w b n T x1) n 0 ((0 : Int32)))
abbrev rm_X0_feversInWard : Room := { frames := 1, cells := 0, slots := 0, locals := 23 }
set_option maxHeartbeats 4000000 in
set_option maxRecDepth 100000 in
theorem k_X0_feversInWard (l : Launch) (D : va_G) (cI cZ cL : ClassId) (a : Nat → Nat) (w : Nat) (b : Nat) (n : Nat) (T : ct_T) (hd5 : w ≤ 5) (hd4 : b ≤ 4) (hd30 : n ≤ 30) (x1 : Int32)  : MX l yX0_feversInWard wsX0_feversInWard rm_X0_feversInWard D cI cZ cL [.ref (a 0), .int x1] (wt_c a cI cZ w b n T) (some (.int (r_X0_feversInWard w b n T x1))) (wt_c a cI cZ w b n T) := by
  refine MX.of (own := RX0) (cc := cX0_feversInWard) (maxL := 4) (ret := (some .int)) (lv0 := [(0, .ref (a 0)), (1, .int x1)]) (by decide) rfl rfl (Nat.le_of_ble_eq_true rfl) rfl ?_
  intro p e s m args below meth c A hc hnm hw ls hl
  obtain ⟨hx, hb, hr, hml, hown, hts, hlk, hK, hA⟩ := id hc
  have hiX0 : ∀ w ∈ u_ws RX0 TX0 16, w ∈ wsX0_feversInWard := fun _ h => List.mem_cons_of_mem _ (List.mem_append_right _ h)
  refine lv_iconst (v := 0) hx hb dX0_feversInWard_0 (by decide) ?_
  refine lv_istore_n (lv' := [(2, .int (0 : Int32)), (0, .ref (a 0)), (1, .int x1)]) hx hb dX0_feversInWard_1 rfl hl (by decide) rfl (fun ls hl => ?_)
  refine lv_iconst (v := 0) hx hb dX0_feversInWard_2 (by decide) ?_
  refine lv_istore_n (lv' := [(3, .int (0 : Int32)), (2, .int (0 : Int32)), (0, .ref (a 0)), (1, .int x1)]) hx hb dX0_feversInWard_3 rfl hl (by decide) rfl (fun ls hl => ?_)
  refine lp_go (fun (i4 : Nat) (q4 : Int32) => ∀ (H : Heap) (locs : List Loc) (ls : Array Slot), Wo D A s.heap (wt_c a cI cZ w b n T) H locs → lv_has ls 4 [(0, .ref (a 0)), (1, .int x1), (2, .int q4), (3, .int (nI i4))] → W p l e rm_X0_feversInWard s m args below meth c H locs 0 0 (QE below args s D A (some (.int (r_X0_feversInWard w b n T x1))) (wt_c a cI cZ w b n T) rm_X0_feversInWard) (F0 m 4 ls [])) (f_X0_feversInWard_4 w b n T x1) n ((0 : Int32)) ?_ ?_ s.heap [] ls hw (lv_sub hl [2, 3, 1, 0] rfl)
  · intro i4 q4 hi4 k4 H locs ls hw hl
    refine lv_iload_n hx hb dX0_feversInWard_4 rfl (lv_at hl 3 rfl) ?_
    refine lv_aload_n hx hb dX0_feversInWard_5 rfl (lv_at hl 0 rfl) ?_
    refine g_get (v := .int (nI n)) hc hw hiX0 0 9 (wo_X0_T ..) rfl (by decide) (List.mem_of_getElem? (i := 1) rfl) (wv_X0_T_9 ..) dX0_feversInWard_6 ?_
    refine lv_icmp_ge (tgt := 37) hx hb dX0_feversInWard_9 (by decide) (fun z => absurd z (nI_ge hi4 (by omega))) (fun _ => ?_)
    refine lv_aload_n hx hb dX0_feversInWard_12 rfl (lv_at hl 0 rfl) ?_
    refine lv_iload_n hx hb dX0_feversInWard_13 rfl (lv_at hl 3 rfl) ?_
    refine lv_iconst (v := 1) hx hb dX0_feversInWard_14 (by decide) ?_
    refine lv_iload_n hx hb dX0_feversInWard_15 rfl (lv_at hl 1 rfl) ?_
    refine g_callV0 (n := 3) hc hw (k_X0_isAt l D cI cZ cL a w b n T hd5 hd4 hd30 (nI i4) (1 : Int32) x1 (vp_in_nI (show i4 < 30 by omega) (by omega))) gX0_feversInWard_X0_isAt rfl (by decide +kernel) ⟨Nat.le_of_ble_eq_true rfl, Nat.le_of_ble_eq_true rfl⟩ 0 (wo_X0_T ..) rfl rfl rfl (rest := []) rfl hl.1 (Nat.le_of_ble_eq_true rfl) (st1 := [.int (r_X0_isAt w b n T (nI i4) (1 : Int32) x1)]) rfl dX0_feversInWard_16 (k2 := 0) (s2 := 0) rfl rfl ⟨Nat.le_of_ble_eq_true rfl, Nat.le_of_ble_eq_true rfl⟩ (fun H locs hw => ?_)
    refine lv_if_eq (tgt := 31) hx hb dX0_feversInWard_19 (by decide) (fun c1 => ?_) (fun c1 => ?_)
    · refine lv_iinc (v := (nI (i4 + 1))) (lv' := [(3, .int (nI (i4 + 1))), (0, .ref (a 0)), (1, .int x1), (2, .int q4)]) hx hb dX0_feversInWard_31 hl (k := 3) rfl (inc_n i4) (by decide) rfl (fun ls hl => ?_)
      refine lv_goto (tgt := 4) hx hb dX0_feversInWard_34 (by decide) ?_
      rw [show (f_X0_feversInWard_4 w b n T x1) i4 q4 = (q4) from by rw [f_X0_feversInWard_4, if_pos c1]] at k4
      exact k4 H locs ls hw (lv_sub hl [1, 2, 3, 0] rfl)
    · refine lv_iload_n hx hb dX0_feversInWard_22 rfl (lv_at hl 2 rfl) ?_
      refine lv_aload_n hx hb dX0_feversInWard_23 rfl (lv_at hl 0 rfl) ?_
      refine g_get (v := .ref (a 10)) hc hw hiX0 0 10 (wo_X0_T ..) rfl (by decide) (List.mem_of_getElem? (i := 2) rfl) (wv_X0_T_10 ..) dX0_feversInWard_24 ?_
      refine lv_iload_n hx hb dX0_feversInWard_27 rfl (lv_at hl 3 rfl) ?_
      refine g_iald (f := (ct_fe T)) hc hw 5 (wr_X0_T_10 ..) (vp_in_nI (show i4 < 30 by omega) (by omega)) dX0_feversInWard_28 ?_
      refine lv_iadd hx hb dX0_feversInWard_29 ?_
      refine lv_istore_n (lv' := [(2, .int (q4 + ((ct_fe T) (nI i4).toNatClampNeg))), (0, .ref (a 0)), (1, .int x1), (3, .int (nI i4))]) hx hb dX0_feversInWard_30 rfl hl (by decide) rfl (fun ls hl => ?_)
      refine lv_iinc (v := (nI (i4 + 1))) (lv' := [(3, .int (nI (i4 + 1))), (2, .int (q4 + ((ct_fe T) (nI i4).toNatClampNeg))), (0, .ref (a 0)), (1, .int x1)]) hx hb dX0_feversInWard_31 hl (k := 3) rfl (inc_n i4) (by decide) rfl (fun ls hl => ?_)
      refine lv_goto (tgt := 4) hx hb dX0_feversInWard_34 (by decide) ?_
      rw [show (f_X0_feversInWard_4 w b n T x1) i4 q4 = ((q4 + ((ct_fe T) (nI i4).toNatClampNeg))) from by rw [f_X0_feversInWard_4, if_neg c1]] at k4
      exact k4 H locs ls hw (lv_sub hl [2, 3, 1, 0] rfl)
  · intro H locs ls hw hl
    refine lv_iload_n hx hb dX0_feversInWard_4 rfl (lv_at hl 3 rfl) ?_
    refine lv_aload_n hx hb dX0_feversInWard_5 rfl (lv_at hl 0 rfl) ?_
    refine g_get (v := .int (nI n)) hc hw hiX0 0 9 (wo_X0_T ..) rfl (by decide) (List.mem_of_getElem? (i := 1) rfl) (wv_X0_T_9 ..) dX0_feversInWard_6 ?_
    refine lv_icmp_ge (tgt := 37) hx hb dX0_feversInWard_9 (by decide) (fun _ => ?_) (fun z => absurd (nI_le (Nat.le_refl _) (by omega)) z)
    refine lv_iload_n hx hb dX0_feversInWard_37 rfl (lv_at hl 2 rfl) ?_
    rw [show r_X0_feversInWard w b n T x1 = (lpf (f_X0_feversInWard_4 w b n T x1) n 0 ((0 : Int32))) from by rw [r_X0_feversInWard]]
    exact g_ret hc hw rfl (Nat.le_of_ble_eq_true rfl) (Nat.le_of_ble_eq_true rfl) dX0_feversInWard_38

def f_X0_highestFeverAboard_4 (w : Nat) (b : Nat) (n : Nat) (T : ct_T) (x1 : Int32) (i4 : Nat) (q4 : Int32) : Int32 := if (r_X0_isAt w b n T (nI i4) (0 : Int32) x1) = (0 : Int32) then (q4) else ((if q4 < ((ct_fe T) (nI i4).toNatClampNeg) then ((ct_fe T) (nI i4).toNatClampNeg) else q4))
def r_X0_highestFeverAboard (w : Nat) (b : Nat) (n : Nat) (T : ct_T) (x1 : Int32) : Int32 := (lpf (f_X0_highestFeverAboard_4 w b n T x1) n 0 ((0 : Int32)))
abbrev rm_X0_highestFeverAboard : Room := { frames := 1, cells := 0, slots := 0, locals := 23 }
set_option maxHeartbeats 4000000 in
set_option maxRecDepth 100000 in
theorem k_X0_highestFeverAboard (l : Launch) (D : va_G) (cI cZ cL : ClassId) (a : Nat → Nat) (w : Nat) (b : Nat) (n : Nat) (T : ct_T) (hd5 : w ≤ 5) (hd4 : b ≤ 4) (hd30 : n ≤ 30) (x1 : Int32)  : MX l yX0_highestFeverAboard wsX0_highestFeverAboard rm_X0_highestFeverAboard D cI cZ cL [.ref (a 0), .int x1] (wt_c a cI cZ w b n T) (some (.int (r_X0_highestFeverAboard w b n T x1))) (wt_c a cI cZ w b n T) := by
  refine MX.of (own := RX0) (cc := cX0_highestFeverAboard) (maxL := 4) (ret := (some .int)) (lv0 := [(0, .ref (a 0)), (1, .int x1)]) (by decide) rfl rfl (Nat.le_of_ble_eq_true rfl) rfl ?_
  intro p e s m args below meth c A hc hnm hw ls hl
  obtain ⟨hx, hb, hr, hml, hown, hts, hlk, hK, hA⟩ := id hc
  have hiX0 : ∀ w ∈ u_ws RX0 TX0 16, w ∈ wsX0_highestFeverAboard := fun _ h => List.mem_cons_of_mem _ (List.mem_append_right _ h)
  refine lv_iconst (v := 0) hx hb dX0_highestFeverAboard_0 (by decide) ?_
  refine lv_istore_n (lv' := [(2, .int (0 : Int32)), (0, .ref (a 0)), (1, .int x1)]) hx hb dX0_highestFeverAboard_1 rfl hl (by decide) rfl (fun ls hl => ?_)
  refine lv_iconst (v := 0) hx hb dX0_highestFeverAboard_2 (by decide) ?_
  refine lv_istore_n (lv' := [(3, .int (0 : Int32)), (2, .int (0 : Int32)), (0, .ref (a 0)), (1, .int x1)]) hx hb dX0_highestFeverAboard_3 rfl hl (by decide) rfl (fun ls hl => ?_)
  refine lp_go (fun (i4 : Nat) (q4 : Int32) => ∀ (H : Heap) (locs : List Loc) (ls : Array Slot), Wo D A s.heap (wt_c a cI cZ w b n T) H locs → lv_has ls 4 [(0, .ref (a 0)), (1, .int x1), (2, .int q4), (3, .int (nI i4))] → W p l e rm_X0_highestFeverAboard s m args below meth c H locs 0 0 (QE below args s D A (some (.int (r_X0_highestFeverAboard w b n T x1))) (wt_c a cI cZ w b n T) rm_X0_highestFeverAboard) (F0 m 4 ls [])) (f_X0_highestFeverAboard_4 w b n T x1) n ((0 : Int32)) ?_ ?_ s.heap [] ls hw (lv_sub hl [2, 3, 1, 0] rfl)
  · intro i4 q4 hi4 k4 H locs ls hw hl
    refine lv_iload_n hx hb dX0_highestFeverAboard_4 rfl (lv_at hl 3 rfl) ?_
    refine lv_aload_n hx hb dX0_highestFeverAboard_5 rfl (lv_at hl 0 rfl) ?_
    refine g_get (v := .int (nI n)) hc hw hiX0 0 9 (wo_X0_T ..) rfl (by decide) (List.mem_of_getElem? (i := 1) rfl) (wv_X0_T_9 ..) dX0_highestFeverAboard_6 ?_
    refine lv_icmp_ge (tgt := 39) hx hb dX0_highestFeverAboard_9 (by decide) (fun z => absurd z (nI_ge hi4 (by omega))) (fun _ => ?_)
    refine lv_aload_n hx hb dX0_highestFeverAboard_12 rfl (lv_at hl 0 rfl) ?_
    refine lv_iload_n hx hb dX0_highestFeverAboard_13 rfl (lv_at hl 3 rfl) ?_
    refine lv_iconst (v := 0) hx hb dX0_highestFeverAboard_14 (by decide) ?_
    refine lv_iload_n hx hb dX0_highestFeverAboard_15 rfl (lv_at hl 1 rfl) ?_
    refine g_callV0 (n := 3) hc hw (k_X0_isAt l D cI cZ cL a w b n T hd5 hd4 hd30 (nI i4) (0 : Int32) x1 (vp_in_nI (show i4 < 30 by omega) (by omega))) gX0_highestFeverAboard_X0_isAt rfl (by decide +kernel) ⟨Nat.le_of_ble_eq_true rfl, Nat.le_of_ble_eq_true rfl⟩ 0 (wo_X0_T ..) rfl rfl rfl (rest := []) rfl hl.1 (Nat.le_of_ble_eq_true rfl) (st1 := [.int (r_X0_isAt w b n T (nI i4) (0 : Int32) x1)]) rfl dX0_highestFeverAboard_16 (k2 := 0) (s2 := 0) rfl rfl ⟨Nat.le_of_ble_eq_true rfl, Nat.le_of_ble_eq_true rfl⟩ (fun H locs hw => ?_)
    refine lv_if_eq (tgt := 33) hx hb dX0_highestFeverAboard_19 (by decide) (fun c1 => ?_) (fun c1 => ?_)
    · refine lv_iinc (v := (nI (i4 + 1))) (lv' := [(3, .int (nI (i4 + 1))), (0, .ref (a 0)), (1, .int x1), (2, .int q4)]) hx hb dX0_highestFeverAboard_33 hl (k := 3) rfl (inc_n i4) (by decide) rfl (fun ls hl => ?_)
      refine lv_goto (tgt := 4) hx hb dX0_highestFeverAboard_36 (by decide) ?_
      rw [show (f_X0_highestFeverAboard_4 w b n T x1) i4 q4 = (q4) from by rw [f_X0_highestFeverAboard_4, if_pos c1]] at k4
      exact k4 H locs ls hw (lv_sub hl [1, 2, 3, 0] rfl)
    · refine lv_iload_n hx hb dX0_highestFeverAboard_22 rfl (lv_at hl 2 rfl) ?_
      refine lv_aload_n hx hb dX0_highestFeverAboard_23 rfl (lv_at hl 0 rfl) ?_
      refine g_get (v := .ref (a 10)) hc hw hiX0 0 10 (wo_X0_T ..) rfl (by decide) (List.mem_of_getElem? (i := 2) rfl) (wv_X0_T_10 ..) dX0_highestFeverAboard_24 ?_
      refine lv_iload_n hx hb dX0_highestFeverAboard_27 rfl (lv_at hl 3 rfl) ?_
      refine g_iald (f := (ct_fe T)) hc hw 5 (wr_X0_T_10 ..) (vp_in_nI (show i4 < 30 by omega) (by omega)) dX0_highestFeverAboard_28 ?_
      refine g_mmax hc hl.1 (List.mem_of_getElem? (i := 3) rfl) (List.mem_of_getElem? (i := 4) rfl) (List.mem_of_getElem? (i := 5) rfl) (List.mem_of_getElem? (i := 6) rfl) (Nat.le_of_ble_eq_true rfl) (Nat.le_of_ble_eq_true rfl) (Nat.le_of_ble_eq_true rfl) (Nat.le_of_ble_eq_true rfl) dX0_highestFeverAboard_29 ?_
      refine lv_istore_n (lv' := [(2, .int (if q4 < ((ct_fe T) (nI i4).toNatClampNeg) then ((ct_fe T) (nI i4).toNatClampNeg) else q4)), (0, .ref (a 0)), (1, .int x1), (3, .int (nI i4))]) hx hb dX0_highestFeverAboard_32 rfl hl (by decide) rfl (fun ls hl => ?_)
      refine lv_iinc (v := (nI (i4 + 1))) (lv' := [(3, .int (nI (i4 + 1))), (2, .int (if q4 < ((ct_fe T) (nI i4).toNatClampNeg) then ((ct_fe T) (nI i4).toNatClampNeg) else q4)), (0, .ref (a 0)), (1, .int x1)]) hx hb dX0_highestFeverAboard_33 hl (k := 3) rfl (inc_n i4) (by decide) rfl (fun ls hl => ?_)
      refine lv_goto (tgt := 4) hx hb dX0_highestFeverAboard_36 (by decide) ?_
      rw [show (f_X0_highestFeverAboard_4 w b n T x1) i4 q4 = ((if q4 < ((ct_fe T) (nI i4).toNatClampNeg) then ((ct_fe T) (nI i4).toNatClampNeg) else q4)) from by rw [f_X0_highestFeverAboard_4, if_neg c1]] at k4
      exact k4 H locs ls hw (lv_sub hl [2, 3, 1, 0] rfl)
  · intro H locs ls hw hl
    refine lv_iload_n hx hb dX0_highestFeverAboard_4 rfl (lv_at hl 3 rfl) ?_
    refine lv_aload_n hx hb dX0_highestFeverAboard_5 rfl (lv_at hl 0 rfl) ?_
    refine g_get (v := .int (nI n)) hc hw hiX0 0 9 (wo_X0_T ..) rfl (by decide) (List.mem_of_getElem? (i := 1) rfl) (wv_X0_T_9 ..) dX0_highestFeverAboard_6 ?_
    refine lv_icmp_ge (tgt := 39) hx hb dX0_highestFeverAboard_9 (by decide) (fun _ => ?_) (fun z => absurd (nI_le (Nat.le_refl _) (by omega)) z)
    refine lv_iload_n hx hb dX0_highestFeverAboard_39 rfl (lv_at hl 2 rfl) ?_
    rw [show r_X0_highestFeverAboard w b n T x1 = (lpf (f_X0_highestFeverAboard_4 w b n T x1) n 0 ((0 : Int32))) from by rw [r_X0_highestFeverAboard]]
    exact g_ret hc hw rfl (Nat.le_of_ble_eq_true rfl) (Nat.le_of_ble_eq_true rfl) dX0_highestFeverAboard_40

def s_X0_raiseFever (w : Nat) (b : Nat) (n : Nat) (T : ct_T) (x1 : Int32) : ct_T := (cs_fe T (upd (ct_fe T) x1.toNatClampNeg (if (((ct_fe T) x1.toNatClampNeg) + (1 : Int32)) < (10 : Int32) then (((ct_fe T) x1.toNatClampNeg) + (1 : Int32)) else (10 : Int32))))
abbrev rm_X0_raiseFever : Room := { frames := 1, cells := 0, slots := 0, locals := 21 }
set_option maxHeartbeats 4000000 in
set_option maxRecDepth 100000 in
theorem k_X0_raiseFever (l : Launch) (D : va_G) (cI cZ cL : ClassId) (a : Nat → Nat) (w : Nat) (b : Nat) (n : Nat) (T : ct_T) (hd5 : w ≤ 5) (hd4 : b ≤ 4) (hd30 : n ≤ 30) (x1 : Int32) (hp1 : vp_in x1 30) : MX l yX0_raiseFever wsX0_raiseFever rm_X0_raiseFever D cI cZ cL [.ref (a 0), .int x1] (wt_c a cI cZ w b n T) none (wt_c a cI cZ w b n (s_X0_raiseFever w b n T x1)) := by
  refine MX.of (own := RX0) (cc := cX0_raiseFever) (maxL := 2) (ret := none) (lv0 := [(0, .ref (a 0)), (1, .int x1)]) (by decide) rfl rfl (Nat.le_of_ble_eq_true rfl) rfl ?_
  intro p e s m args below meth c A hc hnm hw ls hl
  obtain ⟨hx, hb, hr, hml, hown, hts, hlk, hK, hA⟩ := id hc
  have hiX0 : ∀ w ∈ u_ws RX0 TX0 16, w ∈ wsX0_raiseFever := fun _ h => List.mem_cons_of_mem _ (List.mem_append_right _ h)
  refine lv_aload_n hx hb dX0_raiseFever_0 rfl (lv_at hl 0 rfl) ?_
  refine g_get (v := .ref (a 10)) hc hw hiX0 0 10 (wo_X0_T ..) rfl (by decide) (List.mem_of_getElem? (i := 1) rfl) (wv_X0_T_10 ..) dX0_raiseFever_1 ?_
  refine lv_iload_n hx hb dX0_raiseFever_4 rfl (lv_at hl 1 rfl) ?_
  refine lv_bipush (v := 10) hx hb dX0_raiseFever_5 (by decide) ?_
  refine lv_aload_n hx hb dX0_raiseFever_7 rfl (lv_at hl 0 rfl) ?_
  refine g_get (v := .ref (a 10)) hc hw hiX0 0 10 (wo_X0_T ..) rfl (by decide) (List.mem_of_getElem? (i := 1) rfl) (wv_X0_T_10 ..) dX0_raiseFever_8 ?_
  refine lv_iload_n hx hb dX0_raiseFever_11 rfl (lv_at hl 1 rfl) ?_
  refine g_iald (f := (ct_fe T)) hc hw 5 (wr_X0_T_10 ..) hp1 dX0_raiseFever_12 ?_
  refine lv_iconst (v := 1) hx hb dX0_raiseFever_13 (by decide) ?_
  refine lv_iadd hx hb dX0_raiseFever_14 ?_
  refine g_mmin hc hl.1 (List.mem_of_getElem? (i := 2) rfl) (List.mem_of_getElem? (i := 3) rfl) (List.mem_of_getElem? (i := 4) rfl) (List.mem_of_getElem? (i := 5) rfl) (Nat.le_of_ble_eq_true rfl) (Nat.le_of_ble_eq_true rfl) (Nat.le_of_ble_eq_true rfl) (Nat.le_of_ble_eq_true rfl) dX0_raiseFever_15 ?_
  refine g_iast (f := (ct_fe T)) hc hw 5 (wr_X0_T_10 ..) hp1 (w' := (wt_c a cI cZ w b n (cs_fe T (upd (ct_fe T) x1.toNatClampNeg (if (((ct_fe T) x1.toNatClampNeg) + (1 : Int32)) < (10 : Int32) then (((ct_fe T) x1.toNatClampNeg) + (1 : Int32)) else (10 : Int32)))))) (wu_X0_T_10 ..) dX0_raiseFever_18 (fun H locs hw => ?_)
  rw [show s_X0_raiseFever w b n T x1 = (cs_fe T (upd (ct_fe T) x1.toNatClampNeg (if (((ct_fe T) x1.toNatClampNeg) + (1 : Int32)) < (10 : Int32) then (((ct_fe T) x1.toNatClampNeg) + (1 : Int32)) else (10 : Int32)))) from by rw [s_X0_raiseFever]]
  exact g_vret hc hw rfl (Nat.le_of_ble_eq_true rfl) (Nat.le_of_ble_eq_true rfl) dX0_raiseFever_19
end
section
def f_X0_giveBowls_17 (w : Nat) (b : Nat) (n : Nat) (T : ct_T) (i7 : Nat) (q7 : ct_T × Int32) (i17 : Nat) (q17 : ct_T × Int32) : ct_T × Int32 := if (r_X0_isAt w b n q17.1 (nI i17) (1 : Int32) (nI i7)) = (0 : Int32) then (q17.1, q17.2) else (if q17.2 = (0 : Int32) then ((cs_hd (cs_ht q17.1 (upd (ct_ht q17.1) (nI i17).toNatClampNeg (1 : Int32))) (upd (ct_hd (cs_ht q17.1 (upd (ct_ht q17.1) (nI i17).toNatClampNeg (1 : Int32)))) (nI i17).toNatClampNeg (((ct_hd (cs_ht q17.1 (upd (ct_ht q17.1) (nI i17).toNatClampNeg (1 : Int32)))) (nI i17).toNatClampNeg) + (1 : Int32)))), q17.2) else ((cs_ht q17.1 (upd (ct_ht q17.1) (nI i17).toNatClampNeg (0 : Int32))), (q17.2 + (-1))))
def f_X0_giveBowls_7 (w : Nat) (b : Nat) (n : Nat) (T : ct_T) (i7 : Nat) (q7 : ct_T × Int32) : ct_T × Int32 := ((lpf (f_X0_giveBowls_17 w b n T i7 q7) n 0 (q7.1, q7.2)).1, (lpf (f_X0_giveBowls_17 w b n T i7 q7) n 0 (q7.1, q7.2)).2)
def s_X0_giveBowls (w : Nat) (b : Nat) (n : Nat) (T : ct_T) : ct_T := (cs_ea (lpf (f_X0_giveBowls_7 w b n T) w 0 (T, (ct_bo T))).1 ((ct_ea (lpf (f_X0_giveBowls_7 w b n T) w 0 (T, (ct_bo T))).1) + ((ct_bo (lpf (f_X0_giveBowls_7 w b n T) w 0 (T, (ct_bo T))).1) - (lpf (f_X0_giveBowls_7 w b n T) w 0 (T, (ct_bo T))).2)))
abbrev rm_X0_giveBowls : Room := { frames := 1, cells := 0, slots := 0, locals := 23 }
set_option maxHeartbeats 4000000 in
set_option maxRecDepth 100000 in
theorem k_X0_giveBowls (l : Launch) (D : va_G) (cI cZ cL : ClassId) (a : Nat → Nat) (w : Nat) (b : Nat) (n : Nat) (T : ct_T) (hd5 : w ≤ 5) (hd4 : b ≤ 4) (hd30 : n ≤ 30)   : MX l yX0_giveBowls wsX0_giveBowls rm_X0_giveBowls D cI cZ cL [.ref (a 0)] (wt_c a cI cZ w b n T) none (wt_c a cI cZ w b n (s_X0_giveBowls w b n T)) := by
  refine MX.of (own := RX0) (cc := cX0_giveBowls) (maxL := 4) (ret := none) (lv0 := [(0, .ref (a 0))]) (by decide) rfl rfl (Nat.le_of_ble_eq_true rfl) rfl ?_
  intro p e s m args below meth c A hc hnm hw ls hl
  obtain ⟨hx, hb, hr, hml, hown, hts, hlk, hK, hA⟩ := id hc
  have hiX0 : ∀ w ∈ u_ws RX0 TX0 16, w ∈ wsX0_giveBowls := fun _ h => List.mem_cons_of_mem _ (List.mem_append_right _ h)
  refine lv_aload_n hx hb dX0_giveBowls_0 rfl (lv_at hl 0 rfl) ?_
  refine g_get (v := .int (ct_bo T)) hc hw hiX0 0 1 (wo_X0_T ..) rfl (by decide) (List.mem_of_getElem? (i := 1) rfl) (wv_X0_T_1 ..) dX0_giveBowls_1 ?_
  refine lv_istore_n (lv' := [(1, .int (ct_bo T)), (0, .ref (a 0))]) hx hb dX0_giveBowls_4 rfl hl (by decide) rfl (fun ls hl => ?_)
  refine lv_iconst (v := 0) hx hb dX0_giveBowls_5 (by decide) ?_
  refine lv_istore_n (lv' := [(2, .int (0 : Int32)), (1, .int (ct_bo T)), (0, .ref (a 0))]) hx hb dX0_giveBowls_6 rfl hl (by decide) rfl (fun ls hl => ?_)
  refine lp_go (fun (i7 : Nat) (q7 : ct_T × Int32) => ∀ (H : Heap) (locs : List Loc) (ls : Array Slot), Wo D A s.heap (wt_c a cI cZ w b n q7.1) H locs → lv_has ls 4 [(0, .ref (a 0)), (1, .int q7.2), (2, .int (nI i7))] → W p l e rm_X0_giveBowls s m args below meth c H locs 0 0 (QE below args s D A none (wt_c a cI cZ w b n (s_X0_giveBowls w b n T)) rm_X0_giveBowls) (F0 m 7 ls [])) (f_X0_giveBowls_7 w b n T) w (T, (ct_bo T)) ?_ ?_ s.heap [] ls hw (lv_sub hl [2, 1, 0] rfl)
  · intro i7 q7 hi7 k7 H locs ls hw hl
    refine lv_iload_n hx hb dX0_giveBowls_7 rfl (lv_at hl 2 rfl) ?_
    refine lv_aload_n hx hb dX0_giveBowls_8 rfl (lv_at hl 0 rfl) ?_
    refine g_get (v := .int (nI w)) hc hw hiX0 0 3 (wo_X0_T ..) rfl (by decide) (List.mem_of_getElem? (i := 2) rfl) (wv_X0_T_3 ..) dX0_giveBowls_9 ?_
    refine lv_icmp_ge (tgt := 85) hx hb dX0_giveBowls_12 (by decide) (fun z => absurd z (nI_ge hi7 (by omega))) (fun _ => ?_)
    refine lv_iconst (v := 0) hx hb dX0_giveBowls_15 (by decide) ?_
    refine lv_istore_n (lv' := [(3, .int (0 : Int32)), (0, .ref (a 0)), (1, .int q7.2), (2, .int (nI i7))]) hx hb dX0_giveBowls_16 rfl hl (by decide) rfl (fun ls hl => ?_)
    refine lp_go (fun (i17 : Nat) (q17 : ct_T × Int32) => ∀ (H : Heap) (locs : List Loc) (ls : Array Slot), Wo D A s.heap (wt_c a cI cZ w b n q17.1) H locs → lv_has ls 4 [(0, .ref (a 0)), (1, .int q17.2), (2, .int (nI i7)), (3, .int (nI i17))] → W p l e rm_X0_giveBowls s m args below meth c H locs 0 0 (QE below args s D A none (wt_c a cI cZ w b n (s_X0_giveBowls w b n T)) rm_X0_giveBowls) (F0 m 17 ls [])) (f_X0_giveBowls_17 w b n T i7 q7) n (q7.1, q7.2) ?_ ?_ H locs ls hw (lv_sub hl [1, 2, 3, 0] rfl)
    · intro i17 q17 hi17 k17 H locs ls hw hl
      refine lv_iload_n hx hb dX0_giveBowls_17 rfl (lv_at hl 3 rfl) ?_
      refine lv_aload_n hx hb dX0_giveBowls_18 rfl (lv_at hl 0 rfl) ?_
      refine g_get (v := .int (nI n)) hc hw hiX0 0 9 (wo_X0_T ..) rfl (by decide) (List.mem_of_getElem? (i := 3) rfl) (wv_X0_T_9 ..) dX0_giveBowls_19 ?_
      refine lv_icmp_ge (tgt := 79) hx hb dX0_giveBowls_22 (by decide) (fun z => absurd z (nI_ge hi17 (by omega))) (fun _ => ?_)
      refine lv_aload_n hx hb dX0_giveBowls_25 rfl (lv_at hl 0 rfl) ?_
      refine lv_iload_n hx hb dX0_giveBowls_26 rfl (lv_at hl 3 rfl) ?_
      refine lv_iconst (v := 1) hx hb dX0_giveBowls_27 (by decide) ?_
      refine lv_iload_n hx hb dX0_giveBowls_28 rfl (lv_at hl 2 rfl) ?_
      refine g_callV0 (n := 3) hc hw (k_X0_isAt l D cI cZ cL a w b n q17.1 hd5 hd4 hd30 (nI i17) (1 : Int32) (nI i7) (vp_in_nI (show i17 < 30 by omega) (by omega))) gX0_giveBowls_X0_isAt rfl (by decide +kernel) ⟨Nat.le_of_ble_eq_true rfl, Nat.le_of_ble_eq_true rfl⟩ 0 (wo_X0_T ..) rfl rfl rfl (rest := []) rfl hl.1 (Nat.le_of_ble_eq_true rfl) (st1 := [.int (r_X0_isAt w b n q17.1 (nI i17) (1 : Int32) (nI i7))]) rfl dX0_giveBowls_29 (k2 := 0) (s2 := 0) rfl rfl ⟨Nat.le_of_ble_eq_true rfl, Nat.le_of_ble_eq_true rfl⟩ (fun H locs hw => ?_)
      refine lv_if_ne (tgt := 38) hx hb dX0_giveBowls_32 (by decide) (fun c1 => ?_) (fun c1 => ?_)
      · refine lv_aload_n hx hb dX0_giveBowls_38 rfl (lv_at hl 0 rfl) ?_
        refine g_get (v := .ref (a 14)) hc hw hiX0 0 14 (wo_X0_T ..) rfl (by decide) (List.mem_of_getElem? (i := 4) rfl) (wv_X0_T_14 ..) dX0_giveBowls_39 ?_
        refine lv_iload_n hx hb dX0_giveBowls_42 rfl (lv_at hl 3 rfl) ?_
        refine lv_iload_n hx hb dX0_giveBowls_43 rfl (lv_at hl 1 rfl) ?_
        refine lv_if_ne (tgt := 51) hx hb dX0_giveBowls_44 (by decide) (fun c2 => ?_) (fun c2 => ?_)
        · refine lv_iconst (v := 0) hx hb dX0_giveBowls_51 (by decide) ?_
          refine g_zast (f := (ct_ht q17.1)) hc hw 9 (wr_X0_T_14 ..) (vp_in_nI (show i17 < 30 by omega) (by omega)) rfl (w' := (wt_c a cI cZ w b n (cs_ht q17.1 (upd (ct_ht q17.1) (nI i17).toNatClampNeg (0 : Int32))))) (wu_X0_T_14 ..) dX0_giveBowls_52 (fun H locs hw => ?_)
          refine lv_iload_n hx hb dX0_giveBowls_53 rfl (lv_at hl 1 rfl) ?_
          refine lv_if_ne (tgt := 70) hx hb dX0_giveBowls_54 (by decide) (fun _ => ?_) (fun z => absurd z c2)
          refine lv_iinc (v := (q17.2 + (-1))) (lv' := [(1, .int (q17.2 + (-1))), (0, .ref (a 0)), (2, .int (nI i7)), (3, .int (nI i17))]) hx hb dX0_giveBowls_70 hl (k := 1) rfl (dec_1 _) (by decide) rfl (fun ls hl => ?_)
          refine lv_iinc (v := (nI (i17 + 1))) (lv' := [(3, .int (nI (i17 + 1))), (1, .int (q17.2 + (-1))), (0, .ref (a 0)), (2, .int (nI i7))]) hx hb dX0_giveBowls_73 hl (k := 3) rfl (inc_n i17) (by decide) rfl (fun ls hl => ?_)
          refine lv_goto (tgt := 17) hx hb dX0_giveBowls_76 (by decide) ?_
          rw [show (f_X0_giveBowls_17 w b n T i7 q7) i17 q17 = ((cs_ht q17.1 (upd (ct_ht q17.1) (nI i17).toNatClampNeg (0 : Int32))), (q17.2 + (-1))) from by rw [f_X0_giveBowls_17, if_neg c1, if_neg c2]] at k17
          exact k17 H locs ls hw (lv_sub hl [2, 1, 3, 0] rfl)
        · refine lv_iconst (v := 1) hx hb dX0_giveBowls_47 (by decide) ?_
          refine lv_goto (tgt := 52) hx hb dX0_giveBowls_48 (by decide) ?_
          refine g_zast (f := (ct_ht q17.1)) hc hw 9 (wr_X0_T_14 ..) (vp_in_nI (show i17 < 30 by omega) (by omega)) rfl (w' := (wt_c a cI cZ w b n (cs_ht q17.1 (upd (ct_ht q17.1) (nI i17).toNatClampNeg (1 : Int32))))) (wu_X0_T_14 ..) dX0_giveBowls_52 (fun H locs hw => ?_)
          refine lv_iload_n hx hb dX0_giveBowls_53 rfl (lv_at hl 1 rfl) ?_
          refine lv_if_ne (tgt := 70) hx hb dX0_giveBowls_54 (by decide) (fun z => absurd c2 z) (fun _ => ?_)
          refine lv_aload_n hx hb dX0_giveBowls_57 rfl (lv_at hl 0 rfl) ?_
          refine g_get (v := .ref (a 13)) hc hw hiX0 0 13 (wo_X0_T ..) rfl (by decide) (List.mem_of_getElem? (i := 5) rfl) (wv_X0_T_13 ..) dX0_giveBowls_58 ?_
          refine lv_iload_n hx hb dX0_giveBowls_61 rfl (lv_at hl 3 rfl) ?_
          refine lv_dup2_11 hx hb dX0_giveBowls_62 rfl rfl ?_
          refine g_iald (f := (ct_hd (cs_ht q17.1 (upd (ct_ht q17.1) (nI i17).toNatClampNeg (1 : Int32))))) hc hw 8 (wr_X0_T_13 ..) (vp_in_nI (show i17 < 30 by omega) (by omega)) dX0_giveBowls_63 ?_
          refine lv_iconst (v := 1) hx hb dX0_giveBowls_64 (by decide) ?_
          refine lv_iadd hx hb dX0_giveBowls_65 ?_
          refine g_iast (f := (ct_hd (cs_ht q17.1 (upd (ct_ht q17.1) (nI i17).toNatClampNeg (1 : Int32))))) hc hw 8 (wr_X0_T_13 ..) (vp_in_nI (show i17 < 30 by omega) (by omega)) (w' := (wt_c a cI cZ w b n (cs_hd (cs_ht q17.1 (upd (ct_ht q17.1) (nI i17).toNatClampNeg (1 : Int32))) (upd (ct_hd (cs_ht q17.1 (upd (ct_ht q17.1) (nI i17).toNatClampNeg (1 : Int32)))) (nI i17).toNatClampNeg (((ct_hd (cs_ht q17.1 (upd (ct_ht q17.1) (nI i17).toNatClampNeg (1 : Int32)))) (nI i17).toNatClampNeg) + (1 : Int32)))))) (wu_X0_T_13 ..) dX0_giveBowls_66 (fun H locs hw => ?_)
          refine lv_goto (tgt := 73) hx hb dX0_giveBowls_67 (by decide) ?_
          refine lv_iinc (v := (nI (i17 + 1))) (lv' := [(3, .int (nI (i17 + 1))), (0, .ref (a 0)), (1, .int q17.2), (2, .int (nI i7))]) hx hb dX0_giveBowls_73 hl (k := 3) rfl (inc_n i17) (by decide) rfl (fun ls hl => ?_)
          refine lv_goto (tgt := 17) hx hb dX0_giveBowls_76 (by decide) ?_
          rw [show (f_X0_giveBowls_17 w b n T i7 q7) i17 q17 = ((cs_hd (cs_ht q17.1 (upd (ct_ht q17.1) (nI i17).toNatClampNeg (1 : Int32))) (upd (ct_hd (cs_ht q17.1 (upd (ct_ht q17.1) (nI i17).toNatClampNeg (1 : Int32)))) (nI i17).toNatClampNeg (((ct_hd (cs_ht q17.1 (upd (ct_ht q17.1) (nI i17).toNatClampNeg (1 : Int32)))) (nI i17).toNatClampNeg) + (1 : Int32)))), q17.2) from by rw [f_X0_giveBowls_17, if_neg c1, if_pos c2]] at k17
          exact k17 H locs ls hw (lv_sub hl [1, 2, 3, 0] rfl)
      · refine lv_goto (tgt := 73) hx hb dX0_giveBowls_35 (by decide) ?_
        refine lv_iinc (v := (nI (i17 + 1))) (lv' := [(3, .int (nI (i17 + 1))), (0, .ref (a 0)), (1, .int q17.2), (2, .int (nI i7))]) hx hb dX0_giveBowls_73 hl (k := 3) rfl (inc_n i17) (by decide) rfl (fun ls hl => ?_)
        refine lv_goto (tgt := 17) hx hb dX0_giveBowls_76 (by decide) ?_
        rw [show (f_X0_giveBowls_17 w b n T i7 q7) i17 q17 = (q17.1, q17.2) from by rw [f_X0_giveBowls_17, if_pos c1]] at k17
        exact k17 H locs ls hw (lv_sub hl [1, 2, 3, 0] rfl)
    · intro H locs ls hw hl
      refine lv_iload_n hx hb dX0_giveBowls_17 rfl (lv_at hl 3 rfl) ?_
      refine lv_aload_n hx hb dX0_giveBowls_18 rfl (lv_at hl 0 rfl) ?_
      refine g_get (v := .int (nI n)) hc hw hiX0 0 9 (wo_X0_T ..) rfl (by decide) (List.mem_of_getElem? (i := 3) rfl) (wv_X0_T_9 ..) dX0_giveBowls_19 ?_
      refine lv_icmp_ge (tgt := 79) hx hb dX0_giveBowls_22 (by decide) (fun _ => ?_) (fun z => absurd (nI_le (Nat.le_refl _) (by omega)) z)
      refine lv_iinc (v := (nI (i7 + 1))) (lv' := [(2, .int (nI (i7 + 1))), (0, .ref (a 0)), (1, .int ((lpf (f_X0_giveBowls_17 w b n T i7 q7) n 0 (q7.1, q7.2)).2)), (3, .int (nI n))]) hx hb dX0_giveBowls_79 hl (k := 2) rfl (inc_n i7) (by decide) rfl (fun ls hl => ?_)
      refine lv_goto (tgt := 7) hx hb dX0_giveBowls_82 (by decide) ?_
      rw [show (f_X0_giveBowls_7 w b n T) i7 q7 = ((lpf (f_X0_giveBowls_17 w b n T i7 q7) n 0 (q7.1, q7.2)).1, (lpf (f_X0_giveBowls_17 w b n T i7 q7) n 0 (q7.1, q7.2)).2) from by rw [f_X0_giveBowls_7]] at k7
      exact k7 H locs ls hw (lv_sub hl [1, 2, 0] rfl)
  · intro H locs ls hw hl
    refine lv_iload_n hx hb dX0_giveBowls_7 rfl (lv_at hl 2 rfl) ?_
    refine lv_aload_n hx hb dX0_giveBowls_8 rfl (lv_at hl 0 rfl) ?_
    refine g_get (v := .int (nI w)) hc hw hiX0 0 3 (wo_X0_T ..) rfl (by decide) (List.mem_of_getElem? (i := 2) rfl) (wv_X0_T_3 ..) dX0_giveBowls_9 ?_
    refine lv_icmp_ge (tgt := 85) hx hb dX0_giveBowls_12 (by decide) (fun _ => ?_) (fun z => absurd (nI_le (Nat.le_refl _) (by omega)) z)
    refine lv_aload_n hx hb dX0_giveBowls_85 rfl (lv_at hl 0 rfl) ?_
    refine lv_dup hx hb dX0_giveBowls_86 rfl ?_
    refine g_get (v := .int (ct_ea (lpf (f_X0_giveBowls_7 w b n T) w 0 (T, (ct_bo T))).1)) hc hw hiX0 0 2 (wo_X0_T ..) rfl (by decide) (List.mem_of_getElem? (i := 6) rfl) (wv_X0_T_2 ..) dX0_giveBowls_87 ?_
    refine lv_aload_n hx hb dX0_giveBowls_90 rfl (lv_at hl 0 rfl) ?_
    refine g_get (v := .int (ct_bo (lpf (f_X0_giveBowls_7 w b n T) w 0 (T, (ct_bo T))).1)) hc hw hiX0 0 1 (wo_X0_T ..) rfl (by decide) (List.mem_of_getElem? (i := 1) rfl) (wv_X0_T_1 ..) dX0_giveBowls_91 ?_
    refine lv_iload_n hx hb dX0_giveBowls_94 rfl (lv_at hl 1 rfl) ?_
    refine lv_isub hx hb dX0_giveBowls_95 ?_
    refine lv_iadd hx hb dX0_giveBowls_96 ?_
    refine g_put hc hw hiX0 tyX0 tyX0_ok nmX0 0 2 (wo_X0_T ..) rfl (by decide) (List.mem_of_getElem? (i := 6) rfl) (by decide) rfl rfl (Nat.le_of_ble_eq_true rfl) (w' := (wt_c a cI cZ w b n (cs_ea (lpf (f_X0_giveBowls_7 w b n T) w 0 (T, (ct_bo T))).1 ((ct_ea (lpf (f_X0_giveBowls_7 w b n T) w 0 (T, (ct_bo T))).1) + ((ct_bo (lpf (f_X0_giveBowls_7 w b n T) w 0 (T, (ct_bo T))).1) - (lpf (f_X0_giveBowls_7 w b n T) w 0 (T, (ct_bo T))).2))))) (wp_X0_T_2 ..) dX0_giveBowls_97 (fun H locs hw => ?_)
    rw [show s_X0_giveBowls w b n T = (cs_ea (lpf (f_X0_giveBowls_7 w b n T) w 0 (T, (ct_bo T))).1 ((ct_ea (lpf (f_X0_giveBowls_7 w b n T) w 0 (T, (ct_bo T))).1) + ((ct_bo (lpf (f_X0_giveBowls_7 w b n T) w 0 (T, (ct_bo T))).1) - (lpf (f_X0_giveBowls_7 w b n T) w 0 (T, (ct_bo T))).2))) from by rw [s_X0_giveBowls]]
    exact g_vret hc hw rfl (Nat.le_of_ble_eq_true rfl) (Nat.le_of_ble_eq_true rfl) dX0_giveBowls_100
end
section
def f_X0_changeFeversInWards_28 (w : Nat) (b : Nat) (n : Nat) (T : ct_T) (i2 : Nat) (q2 : ct_T) (i28 : Nat) (q28 : ct_T) : ct_T := if (r_X0_isAt w b n q28 (nI i28) (1 : Int32) (nI i2)) = (0 : Int32) then (q28) else (if (if ((ct_st q2) (nI i2).toNatClampNeg) < (5 : Int32) then (0 : Int32) else (1 : Int32)) = (0 : Int32) then (if ((ct_ht q28) (nI i28).toNatClampNeg) = (0 : Int32) then ((cs_fe q28 (upd (ct_fe q28) (nI i28).toNatClampNeg (if (0 : Int32) < (((ct_fe q28) (nI i28).toNatClampNeg) - (1 : Int32)) then (((ct_fe q28) (nI i28).toNatClampNeg) - (1 : Int32)) else (0 : Int32))))) else ((s_X0_raiseFever w b n q28 (nI i28)))) else ((s_X0_raiseFever w b n q28 (nI i28))))
def f_X0_changeFeversInWards_2 (w : Nat) (b : Nat) (n : Nat) (T : ct_T) (i2 : Nat) (q2 : ct_T) : ct_T := ((lpf (f_X0_changeFeversInWards_28 w b n T i2 q2) n 0 (q2)))
def s_X0_changeFeversInWards (w : Nat) (b : Nat) (n : Nat) (T : ct_T) : ct_T := (lpf (f_X0_changeFeversInWards_2 w b n T) w 0 (T))
abbrev rm_X0_changeFeversInWards : Room := { frames := 2, cells := 0, slots := 0, locals := 42 }
set_option maxHeartbeats 4000000 in
set_option maxRecDepth 100000 in
theorem k_X0_changeFeversInWards (l : Launch) (D : va_G) (cI cZ cL : ClassId) (a : Nat → Nat) (w : Nat) (b : Nat) (n : Nat) (T : ct_T) (hd5 : w ≤ 5) (hd4 : b ≤ 4) (hd30 : n ≤ 30)   : MX l yX0_changeFeversInWards wsX0_changeFeversInWards rm_X0_changeFeversInWards D cI cZ cL [.ref (a 0)] (wt_c a cI cZ w b n T) none (wt_c a cI cZ w b n (s_X0_changeFeversInWards w b n T)) := by
  refine MX.of (own := RX0) (cc := cX0_changeFeversInWards) (maxL := 4) (ret := none) (lv0 := [(0, .ref (a 0))]) (by decide) rfl rfl (Nat.le_of_ble_eq_true rfl) rfl ?_
  intro p e s m args below meth c A hc hnm hw ls hl
  obtain ⟨hx, hb, hr, hml, hown, hts, hlk, hK, hA⟩ := id hc
  have hiX0 : ∀ w ∈ u_ws RX0 TX0 16, w ∈ wsX0_changeFeversInWards := fun _ h => List.mem_cons_of_mem _ (List.mem_append_right _ h)
  refine lv_iconst (v := 0) hx hb dX0_changeFeversInWards_0 (by decide) ?_
  refine lv_istore_n (lv' := [(1, .int (0 : Int32)), (0, .ref (a 0))]) hx hb dX0_changeFeversInWards_1 rfl hl (by decide) rfl (fun ls hl => ?_)
  refine lp_go (fun (i2 : Nat) (q2 : ct_T) => ∀ (H : Heap) (locs : List Loc) (ls : Array Slot), Wo D A s.heap (wt_c a cI cZ w b n q2) H locs → lv_has ls 4 [(0, .ref (a 0)), (1, .int (nI i2))] → W p l e rm_X0_changeFeversInWards s m args below meth c H locs 0 0 (QE below args s D A none (wt_c a cI cZ w b n (s_X0_changeFeversInWards w b n T)) rm_X0_changeFeversInWards) (F0 m 2 ls [])) (f_X0_changeFeversInWards_2 w b n T) w (T) ?_ ?_ s.heap [] ls hw (lv_sub hl [1, 0] rfl)
  · intro i2 q2 hi2 k2 H locs ls hw hl
    refine lv_iload_n hx hb dX0_changeFeversInWards_2 rfl (lv_at hl 1 rfl) ?_
    refine lv_aload_n hx hb dX0_changeFeversInWards_3 rfl (lv_at hl 0 rfl) ?_
    refine g_get (v := .int (nI w)) hc hw hiX0 0 3 (wo_X0_T ..) rfl (by decide) (List.mem_of_getElem? (i := 1) rfl) (wv_X0_T_3 ..) dX0_changeFeversInWards_4 ?_
    refine lv_icmp_ge (tgt := 100) hx hb dX0_changeFeversInWards_7 (by decide) (fun z => absurd z (nI_ge hi2 (by omega))) (fun _ => ?_)
    refine lv_aload_n hx hb dX0_changeFeversInWards_10 rfl (lv_at hl 0 rfl) ?_
    refine g_get (v := .ref (a 5)) hc hw hiX0 0 5 (wo_X0_T ..) rfl (by decide) (List.mem_of_getElem? (i := 2) rfl) (wv_X0_T_5 ..) dX0_changeFeversInWards_11 ?_
    refine lv_iload_n hx hb dX0_changeFeversInWards_14 rfl (lv_at hl 1 rfl) ?_
    refine g_iald (f := (ct_st q2)) hc hw 2 (wr_X0_T_5 ..) (vp_in_nI (show i2 < 5 by omega) (by omega)) dX0_changeFeversInWards_15 ?_
    refine lv_iconst (v := 5) hx hb dX0_changeFeversInWards_16 (by decide) ?_
    have J2 : ∀ vJ2 : Int32, vJ2 = (if ((ct_st q2) (nI i2).toNatClampNeg) < (5 : Int32) then (0 : Int32) else (1 : Int32)) → W p l e rm_X0_changeFeversInWards s m args below meth c H locs 0 0 (QE below args s D A none (wt_c a cI cZ w b n (s_X0_changeFeversInWards w b n T)) rm_X0_changeFeversInWards) (F0 m 25 ls [.int vJ2]) := by
      intro vJ2 hvJ2
      subst hvJ2
      refine lv_istore_n (lv' := [(2, .int (if ((ct_st q2) (nI i2).toNatClampNeg) < (5 : Int32) then (0 : Int32) else (1 : Int32))), (0, .ref (a 0)), (1, .int (nI i2))]) hx hb dX0_changeFeversInWards_25 rfl hl (by decide) rfl (fun ls hl => ?_)
      refine lv_iconst (v := 0) hx hb dX0_changeFeversInWards_26 (by decide) ?_
      refine lv_istore_n (lv' := [(3, .int (0 : Int32)), (2, .int (if ((ct_st q2) (nI i2).toNatClampNeg) < (5 : Int32) then (0 : Int32) else (1 : Int32))), (0, .ref (a 0)), (1, .int (nI i2))]) hx hb dX0_changeFeversInWards_27 rfl hl (by decide) rfl (fun ls hl => ?_)
      refine lp_go (fun (i28 : Nat) (q28 : ct_T) => ∀ (H : Heap) (locs : List Loc) (ls : Array Slot), Wo D A s.heap (wt_c a cI cZ w b n q28) H locs → lv_has ls 4 [(0, .ref (a 0)), (1, .int (nI i2)), (2, .int (if ((ct_st q2) (nI i2).toNatClampNeg) < (5 : Int32) then (0 : Int32) else (1 : Int32))), (3, .int (nI i28))] → W p l e rm_X0_changeFeversInWards s m args below meth c H locs 0 0 (QE below args s D A none (wt_c a cI cZ w b n (s_X0_changeFeversInWards w b n T)) rm_X0_changeFeversInWards) (F0 m 28 ls [])) (f_X0_changeFeversInWards_28 w b n T i2 q2) n (q2) ?_ ?_ H locs ls hw (lv_sub hl [2, 3, 1, 0] rfl)
      · intro i28 q28 hi28 k28 H locs ls hw hl
        refine lv_iload_n hx hb dX0_changeFeversInWards_28 rfl (lv_at hl 3 rfl) ?_
        refine lv_aload_n hx hb dX0_changeFeversInWards_29 rfl (lv_at hl 0 rfl) ?_
        refine g_get (v := .int (nI n)) hc hw hiX0 0 9 (wo_X0_T ..) rfl (by decide) (List.mem_of_getElem? (i := 3) rfl) (wv_X0_T_9 ..) dX0_changeFeversInWards_30 ?_
        refine lv_icmp_ge (tgt := 94) hx hb dX0_changeFeversInWards_33 (by decide) (fun z => absurd z (nI_ge hi28 (by omega))) (fun _ => ?_)
        refine lv_aload_n hx hb dX0_changeFeversInWards_36 rfl (lv_at hl 0 rfl) ?_
        refine lv_iload_n hx hb dX0_changeFeversInWards_37 rfl (lv_at hl 3 rfl) ?_
        refine lv_iconst (v := 1) hx hb dX0_changeFeversInWards_38 (by decide) ?_
        refine lv_iload_n hx hb dX0_changeFeversInWards_39 rfl (lv_at hl 1 rfl) ?_
        refine g_callV0 (n := 3) hc hw (k_X0_isAt l D cI cZ cL a w b n q28 hd5 hd4 hd30 (nI i28) (1 : Int32) (nI i2) (vp_in_nI (show i28 < 30 by omega) (by omega))) gX0_changeFeversInWards_X0_isAt rfl (by decide +kernel) ⟨Nat.le_of_ble_eq_true rfl, Nat.le_of_ble_eq_true rfl⟩ 0 (wo_X0_T ..) rfl rfl rfl (rest := []) rfl hl.1 (Nat.le_of_ble_eq_true rfl) (st1 := [.int (r_X0_isAt w b n q28 (nI i28) (1 : Int32) (nI i2))]) rfl dX0_changeFeversInWards_40 (k2 := 0) (s2 := 0) rfl rfl ⟨Nat.le_of_ble_eq_true rfl, Nat.le_of_ble_eq_true rfl⟩ (fun H locs hw => ?_)
        refine lv_if_ne (tgt := 49) hx hb dX0_changeFeversInWards_43 (by decide) (fun c3 => ?_) (fun c3 => ?_)
        · refine lv_iload_n hx hb dX0_changeFeversInWards_49 rfl (lv_at hl 2 rfl) ?_
          refine lv_if_ne (tgt := 62) hx hb dX0_changeFeversInWards_50 (by decide) (fun c4 => ?_) (fun c4 => ?_)
          · refine lv_aload_n hx hb dX0_changeFeversInWards_62 rfl (lv_at hl 0 rfl) ?_
            refine lv_iload_n hx hb dX0_changeFeversInWards_63 rfl (lv_at hl 3 rfl) ?_
            refine g_callV0 (n := 1) hc hw (k_X0_raiseFever l D cI cZ cL a w b n q28 hd5 hd4 hd30 (nI i28) (vp_in_nI (show i28 < 30 by omega) (by omega))) gX0_changeFeversInWards_X0_raiseFever rfl (by decide +kernel) ⟨Nat.le_of_ble_eq_true rfl, Nat.le_of_ble_eq_true rfl⟩ 0 (wo_X0_T ..) rfl rfl rfl (rest := []) rfl hl.1 (Nat.le_of_ble_eq_true rfl) (st1 := []) rfl dX0_changeFeversInWards_64 (k2 := 0) (s2 := 0) rfl rfl ⟨Nat.le_of_ble_eq_true rfl, Nat.le_of_ble_eq_true rfl⟩ (fun H locs hw => ?_)
            refine lv_goto (tgt := 88) hx hb dX0_changeFeversInWards_67 (by decide) ?_
            refine lv_iinc (v := (nI (i28 + 1))) (lv' := [(3, .int (nI (i28 + 1))), (0, .ref (a 0)), (1, .int (nI i2)), (2, .int (if ((ct_st q2) (nI i2).toNatClampNeg) < (5 : Int32) then (0 : Int32) else (1 : Int32)))]) hx hb dX0_changeFeversInWards_88 hl (k := 3) rfl (inc_n i28) (by decide) rfl (fun ls hl => ?_)
            refine lv_goto (tgt := 28) hx hb dX0_changeFeversInWards_91 (by decide) ?_
            rw [show (f_X0_changeFeversInWards_28 w b n T i2 q2) i28 q28 = ((s_X0_raiseFever w b n q28 (nI i28))) from by rw [f_X0_changeFeversInWards_28, if_neg c3, if_neg c4]] at k28
            exact k28 H locs ls hw (lv_sub hl [1, 2, 3, 0] rfl)
          · refine lv_aload_n hx hb dX0_changeFeversInWards_53 rfl (lv_at hl 0 rfl) ?_
            refine g_get (v := .ref (a 14)) hc hw hiX0 0 14 (wo_X0_T ..) rfl (by decide) (List.mem_of_getElem? (i := 4) rfl) (wv_X0_T_14 ..) dX0_changeFeversInWards_54 ?_
            refine lv_iload_n hx hb dX0_changeFeversInWards_57 rfl (lv_at hl 3 rfl) ?_
            refine g_zald (f := (ct_ht q28)) hc hw 9 (wr_X0_T_14 ..) (vp_in_nI (show i28 < 30 by omega) (by omega)) dX0_changeFeversInWards_58 ?_
            refine lv_if_eq (tgt := 70) hx hb dX0_changeFeversInWards_59 (by decide) (fun c5 => ?_) (fun c5 => ?_)
            · refine lv_aload_n hx hb dX0_changeFeversInWards_70 rfl (lv_at hl 0 rfl) ?_
              refine g_get (v := .ref (a 10)) hc hw hiX0 0 10 (wo_X0_T ..) rfl (by decide) (List.mem_of_getElem? (i := 5) rfl) (wv_X0_T_10 ..) dX0_changeFeversInWards_71 ?_
              refine lv_iload_n hx hb dX0_changeFeversInWards_74 rfl (lv_at hl 3 rfl) ?_
              refine lv_iconst (v := 0) hx hb dX0_changeFeversInWards_75 (by decide) ?_
              refine lv_aload_n hx hb dX0_changeFeversInWards_76 rfl (lv_at hl 0 rfl) ?_
              refine g_get (v := .ref (a 10)) hc hw hiX0 0 10 (wo_X0_T ..) rfl (by decide) (List.mem_of_getElem? (i := 5) rfl) (wv_X0_T_10 ..) dX0_changeFeversInWards_77 ?_
              refine lv_iload_n hx hb dX0_changeFeversInWards_80 rfl (lv_at hl 3 rfl) ?_
              refine g_iald (f := (ct_fe q28)) hc hw 5 (wr_X0_T_10 ..) (vp_in_nI (show i28 < 30 by omega) (by omega)) dX0_changeFeversInWards_81 ?_
              refine lv_iconst (v := 1) hx hb dX0_changeFeversInWards_82 (by decide) ?_
              refine lv_isub hx hb dX0_changeFeversInWards_83 ?_
              refine g_mmax hc hl.1 (List.mem_of_getElem? (i := 6) rfl) (List.mem_of_getElem? (i := 7) rfl) (List.mem_of_getElem? (i := 8) rfl) (List.mem_of_getElem? (i := 9) rfl) (Nat.le_of_ble_eq_true rfl) (Nat.le_of_ble_eq_true rfl) (Nat.le_of_ble_eq_true rfl) (Nat.le_of_ble_eq_true rfl) dX0_changeFeversInWards_84 ?_
              refine g_iast (f := (ct_fe q28)) hc hw 5 (wr_X0_T_10 ..) (vp_in_nI (show i28 < 30 by omega) (by omega)) (w' := (wt_c a cI cZ w b n (cs_fe q28 (upd (ct_fe q28) (nI i28).toNatClampNeg (if (0 : Int32) < (((ct_fe q28) (nI i28).toNatClampNeg) - (1 : Int32)) then (((ct_fe q28) (nI i28).toNatClampNeg) - (1 : Int32)) else (0 : Int32)))))) (wu_X0_T_10 ..) dX0_changeFeversInWards_87 (fun H locs hw => ?_)
              refine lv_iinc (v := (nI (i28 + 1))) (lv' := [(3, .int (nI (i28 + 1))), (0, .ref (a 0)), (1, .int (nI i2)), (2, .int (if ((ct_st q2) (nI i2).toNatClampNeg) < (5 : Int32) then (0 : Int32) else (1 : Int32)))]) hx hb dX0_changeFeversInWards_88 hl (k := 3) rfl (inc_n i28) (by decide) rfl (fun ls hl => ?_)
              refine lv_goto (tgt := 28) hx hb dX0_changeFeversInWards_91 (by decide) ?_
              rw [show (f_X0_changeFeversInWards_28 w b n T i2 q2) i28 q28 = ((cs_fe q28 (upd (ct_fe q28) (nI i28).toNatClampNeg (if (0 : Int32) < (((ct_fe q28) (nI i28).toNatClampNeg) - (1 : Int32)) then (((ct_fe q28) (nI i28).toNatClampNeg) - (1 : Int32)) else (0 : Int32))))) from by rw [f_X0_changeFeversInWards_28, if_neg c3, if_pos c4, if_pos c5]] at k28
              exact k28 H locs ls hw (lv_sub hl [1, 2, 3, 0] rfl)
            · refine lv_aload_n hx hb dX0_changeFeversInWards_62 rfl (lv_at hl 0 rfl) ?_
              refine lv_iload_n hx hb dX0_changeFeversInWards_63 rfl (lv_at hl 3 rfl) ?_
              refine g_callV0 (n := 1) hc hw (k_X0_raiseFever l D cI cZ cL a w b n q28 hd5 hd4 hd30 (nI i28) (vp_in_nI (show i28 < 30 by omega) (by omega))) gX0_changeFeversInWards_X0_raiseFever rfl (by decide +kernel) ⟨Nat.le_of_ble_eq_true rfl, Nat.le_of_ble_eq_true rfl⟩ 0 (wo_X0_T ..) rfl rfl rfl (rest := []) rfl hl.1 (Nat.le_of_ble_eq_true rfl) (st1 := []) rfl dX0_changeFeversInWards_64 (k2 := 0) (s2 := 0) rfl rfl ⟨Nat.le_of_ble_eq_true rfl, Nat.le_of_ble_eq_true rfl⟩ (fun H locs hw => ?_)
              refine lv_goto (tgt := 88) hx hb dX0_changeFeversInWards_67 (by decide) ?_
              refine lv_iinc (v := (nI (i28 + 1))) (lv' := [(3, .int (nI (i28 + 1))), (0, .ref (a 0)), (1, .int (nI i2)), (2, .int (if ((ct_st q2) (nI i2).toNatClampNeg) < (5 : Int32) then (0 : Int32) else (1 : Int32)))]) hx hb dX0_changeFeversInWards_88 hl (k := 3) rfl (inc_n i28) (by decide) rfl (fun ls hl => ?_)
              refine lv_goto (tgt := 28) hx hb dX0_changeFeversInWards_91 (by decide) ?_
              rw [show (f_X0_changeFeversInWards_28 w b n T i2 q2) i28 q28 = ((s_X0_raiseFever w b n q28 (nI i28))) from by rw [f_X0_changeFeversInWards_28, if_neg c3, if_pos c4, if_neg c5]] at k28
              exact k28 H locs ls hw (lv_sub hl [1, 2, 3, 0] rfl)
        · refine lv_goto (tgt := 88) hx hb dX0_changeFeversInWards_46 (by decide) ?_
          refine lv_iinc (v := (nI (i28 + 1))) (lv' := [(3, .int (nI (i28 + 1))), (0, .ref (a 0)), (1, .int (nI i2)), (2, .int (if ((ct_st q2) (nI i2).toNatClampNeg) < (5 : Int32) then (0 : Int32) else (1 : Int32)))]) hx hb dX0_changeFeversInWards_88 hl (k := 3) rfl (inc_n i28) (by decide) rfl (fun ls hl => ?_)
          refine lv_goto (tgt := 28) hx hb dX0_changeFeversInWards_91 (by decide) ?_
          rw [show (f_X0_changeFeversInWards_28 w b n T i2 q2) i28 q28 = (q28) from by rw [f_X0_changeFeversInWards_28, if_pos c3]] at k28
          exact k28 H locs ls hw (lv_sub hl [1, 2, 3, 0] rfl)
      · intro H locs ls hw hl
        refine lv_iload_n hx hb dX0_changeFeversInWards_28 rfl (lv_at hl 3 rfl) ?_
        refine lv_aload_n hx hb dX0_changeFeversInWards_29 rfl (lv_at hl 0 rfl) ?_
        refine g_get (v := .int (nI n)) hc hw hiX0 0 9 (wo_X0_T ..) rfl (by decide) (List.mem_of_getElem? (i := 3) rfl) (wv_X0_T_9 ..) dX0_changeFeversInWards_30 ?_
        refine lv_icmp_ge (tgt := 94) hx hb dX0_changeFeversInWards_33 (by decide) (fun _ => ?_) (fun z => absurd (nI_le (Nat.le_refl _) (by omega)) z)
        refine lv_iinc (v := (nI (i2 + 1))) (lv' := [(1, .int (nI (i2 + 1))), (0, .ref (a 0)), (2, .int (if ((ct_st q2) (nI i2).toNatClampNeg) < (5 : Int32) then (0 : Int32) else (1 : Int32))), (3, .int (nI n))]) hx hb dX0_changeFeversInWards_94 hl (k := 1) rfl (inc_n i2) (by decide) rfl (fun ls hl => ?_)
        refine lv_goto (tgt := 2) hx hb dX0_changeFeversInWards_97 (by decide) ?_
        rw [show (f_X0_changeFeversInWards_2 w b n T) i2 q2 = ((lpf (f_X0_changeFeversInWards_28 w b n T i2 q2) n 0 (q2))) from by rw [f_X0_changeFeversInWards_2]] at k2
        exact k2 H locs ls hw (lv_sub hl [1, 0] rfl)
    refine lv_icmp_lt (tgt := 24) hx hb dX0_changeFeversInWards_17 (by decide) (fun c1 => ?_) (fun c1 => ?_)
    · refine lv_iconst (v := 0) hx hb dX0_changeFeversInWards_24 (by decide) ?_
      exact J2 _ (by rw [if_pos c1])
    · refine lv_iconst (v := 1) hx hb dX0_changeFeversInWards_20 (by decide) ?_
      refine lv_goto (tgt := 25) hx hb dX0_changeFeversInWards_21 (by decide) ?_
      exact J2 _ (by rw [if_neg c1])
  · intro H locs ls hw hl
    refine lv_iload_n hx hb dX0_changeFeversInWards_2 rfl (lv_at hl 1 rfl) ?_
    refine lv_aload_n hx hb dX0_changeFeversInWards_3 rfl (lv_at hl 0 rfl) ?_
    refine g_get (v := .int (nI w)) hc hw hiX0 0 3 (wo_X0_T ..) rfl (by decide) (List.mem_of_getElem? (i := 1) rfl) (wv_X0_T_3 ..) dX0_changeFeversInWards_4 ?_
    refine lv_icmp_ge (tgt := 100) hx hb dX0_changeFeversInWards_7 (by decide) (fun _ => ?_) (fun z => absurd (nI_le (Nat.le_refl _) (by omega)) z)
    rw [show s_X0_changeFeversInWards w b n T = (lpf (f_X0_changeFeversInWards_2 w b n T) w 0 (T)) from by rw [s_X0_changeFeversInWards]]
    exact g_vret hc hw rfl (Nat.le_of_ble_eq_true rfl) (Nat.le_of_ble_eq_true rfl) dX0_changeFeversInWards_100
end
section
def f_X0_countFeverish_4 (w : Nat) (b : Nat) (n : Nat) (T : ct_T) (x1 : Int32) (i4 : Nat) (q4 : Int32) : Int32 := if (r_X0_isAt w b n T (nI i4) (0 : Int32) x1) = (0 : Int32) then (q4) else (if ((ct_fe T) (nI i4).toNatClampNeg) ≤ (0 : Int32) then (q4) else ((q4 + 1)))
def r_X0_countFeverish (w : Nat) (b : Nat) (n : Nat) (T : ct_T) (x1 : Int32) : Int32 := (lpf (f_X0_countFeverish_4 w b n T x1) n 0 ((0 : Int32)))
abbrev rm_X0_countFeverish : Room := { frames := 1, cells := 0, slots := 0, locals := 23 }
set_option maxHeartbeats 4000000 in
set_option maxRecDepth 100000 in
theorem k_X0_countFeverish (l : Launch) (D : va_G) (cI cZ cL : ClassId) (a : Nat → Nat) (w : Nat) (b : Nat) (n : Nat) (T : ct_T) (hd5 : w ≤ 5) (hd4 : b ≤ 4) (hd30 : n ≤ 30) (x1 : Int32)  : MX l yX0_countFeverish wsX0_countFeverish rm_X0_countFeverish D cI cZ cL [.ref (a 0), .int x1] (wt_c a cI cZ w b n T) (some (.int (r_X0_countFeverish w b n T x1))) (wt_c a cI cZ w b n T) := by
  refine MX.of (own := RX0) (cc := cX0_countFeverish) (maxL := 4) (ret := (some .int)) (lv0 := [(0, .ref (a 0)), (1, .int x1)]) (by decide) rfl rfl (Nat.le_of_ble_eq_true rfl) rfl ?_
  intro p e s m args below meth c A hc hnm hw ls hl
  obtain ⟨hx, hb, hr, hml, hown, hts, hlk, hK, hA⟩ := id hc
  have hiX0 : ∀ w ∈ u_ws RX0 TX0 16, w ∈ wsX0_countFeverish := fun _ h => List.mem_cons_of_mem _ (List.mem_append_right _ h)
  refine lv_iconst (v := 0) hx hb dX0_countFeverish_0 (by decide) ?_
  refine lv_istore_n (lv' := [(2, .int (0 : Int32)), (0, .ref (a 0)), (1, .int x1)]) hx hb dX0_countFeverish_1 rfl hl (by decide) rfl (fun ls hl => ?_)
  refine lv_iconst (v := 0) hx hb dX0_countFeverish_2 (by decide) ?_
  refine lv_istore_n (lv' := [(3, .int (0 : Int32)), (2, .int (0 : Int32)), (0, .ref (a 0)), (1, .int x1)]) hx hb dX0_countFeverish_3 rfl hl (by decide) rfl (fun ls hl => ?_)
  refine lp_go (fun (i4 : Nat) (q4 : Int32) => ∀ (H : Heap) (locs : List Loc) (ls : Array Slot), Wo D A s.heap (wt_c a cI cZ w b n T) H locs → lv_has ls 4 [(0, .ref (a 0)), (1, .int x1), (2, .int q4), (3, .int (nI i4))] → W p l e rm_X0_countFeverish s m args below meth c H locs 0 0 (QE below args s D A (some (.int (r_X0_countFeverish w b n T x1))) (wt_c a cI cZ w b n T) rm_X0_countFeverish) (F0 m 4 ls [])) (f_X0_countFeverish_4 w b n T x1) n ((0 : Int32)) ?_ ?_ s.heap [] ls hw (lv_sub hl [2, 3, 1, 0] rfl)
  · intro i4 q4 hi4 k4 H locs ls hw hl
    refine lv_iload_n hx hb dX0_countFeverish_4 rfl (lv_at hl 3 rfl) ?_
    refine lv_aload_n hx hb dX0_countFeverish_5 rfl (lv_at hl 0 rfl) ?_
    refine g_get (v := .int (nI n)) hc hw hiX0 0 9 (wo_X0_T ..) rfl (by decide) (List.mem_of_getElem? (i := 1) rfl) (wv_X0_T_9 ..) dX0_countFeverish_6 ?_
    refine lv_icmp_ge (tgt := 40) hx hb dX0_countFeverish_9 (by decide) (fun z => absurd z (nI_ge hi4 (by omega))) (fun _ => ?_)
    refine lv_aload_n hx hb dX0_countFeverish_12 rfl (lv_at hl 0 rfl) ?_
    refine lv_iload_n hx hb dX0_countFeverish_13 rfl (lv_at hl 3 rfl) ?_
    refine lv_iconst (v := 0) hx hb dX0_countFeverish_14 (by decide) ?_
    refine lv_iload_n hx hb dX0_countFeverish_15 rfl (lv_at hl 1 rfl) ?_
    refine g_callV0 (n := 3) hc hw (k_X0_isAt l D cI cZ cL a w b n T hd5 hd4 hd30 (nI i4) (0 : Int32) x1 (vp_in_nI (show i4 < 30 by omega) (by omega))) gX0_countFeverish_X0_isAt rfl (by decide +kernel) ⟨Nat.le_of_ble_eq_true rfl, Nat.le_of_ble_eq_true rfl⟩ 0 (wo_X0_T ..) rfl rfl rfl (rest := []) rfl hl.1 (Nat.le_of_ble_eq_true rfl) (st1 := [.int (r_X0_isAt w b n T (nI i4) (0 : Int32) x1)]) rfl dX0_countFeverish_16 (k2 := 0) (s2 := 0) rfl rfl ⟨Nat.le_of_ble_eq_true rfl, Nat.le_of_ble_eq_true rfl⟩ (fun H locs hw => ?_)
    refine lv_if_eq (tgt := 34) hx hb dX0_countFeverish_19 (by decide) (fun c1 => ?_) (fun c1 => ?_)
    · refine lv_iinc (v := (nI (i4 + 1))) (lv' := [(3, .int (nI (i4 + 1))), (0, .ref (a 0)), (1, .int x1), (2, .int q4)]) hx hb dX0_countFeverish_34 hl (k := 3) rfl (inc_n i4) (by decide) rfl (fun ls hl => ?_)
      refine lv_goto (tgt := 4) hx hb dX0_countFeverish_37 (by decide) ?_
      rw [show (f_X0_countFeverish_4 w b n T x1) i4 q4 = (q4) from by rw [f_X0_countFeverish_4, if_pos c1]] at k4
      exact k4 H locs ls hw (lv_sub hl [1, 2, 3, 0] rfl)
    · refine lv_aload_n hx hb dX0_countFeverish_22 rfl (lv_at hl 0 rfl) ?_
      refine g_get (v := .ref (a 10)) hc hw hiX0 0 10 (wo_X0_T ..) rfl (by decide) (List.mem_of_getElem? (i := 2) rfl) (wv_X0_T_10 ..) dX0_countFeverish_23 ?_
      refine lv_iload_n hx hb dX0_countFeverish_26 rfl (lv_at hl 3 rfl) ?_
      refine g_iald (f := (ct_fe T)) hc hw 5 (wr_X0_T_10 ..) (vp_in_nI (show i4 < 30 by omega) (by omega)) dX0_countFeverish_27 ?_
      refine lv_if_le (tgt := 34) hx hb dX0_countFeverish_28 (by decide) (fun c2 => ?_) (fun c2 => ?_)
      · refine lv_iinc (v := (nI (i4 + 1))) (lv' := [(3, .int (nI (i4 + 1))), (0, .ref (a 0)), (1, .int x1), (2, .int q4)]) hx hb dX0_countFeverish_34 hl (k := 3) rfl (inc_n i4) (by decide) rfl (fun ls hl => ?_)
        refine lv_goto (tgt := 4) hx hb dX0_countFeverish_37 (by decide) ?_
        rw [show (f_X0_countFeverish_4 w b n T x1) i4 q4 = (q4) from by rw [f_X0_countFeverish_4, if_neg c1, if_pos c2]] at k4
        exact k4 H locs ls hw (lv_sub hl [1, 2, 3, 0] rfl)
      · refine lv_iinc (v := (q4 + 1)) (lv' := [(2, .int (q4 + 1)), (0, .ref (a 0)), (1, .int x1), (3, .int (nI i4))]) hx hb dX0_countFeverish_31 hl (k := 2) rfl (inc_1 _) (by decide) rfl (fun ls hl => ?_)
        refine lv_iinc (v := (nI (i4 + 1))) (lv' := [(3, .int (nI (i4 + 1))), (2, .int (q4 + 1)), (0, .ref (a 0)), (1, .int x1)]) hx hb dX0_countFeverish_34 hl (k := 3) rfl (inc_n i4) (by decide) rfl (fun ls hl => ?_)
        refine lv_goto (tgt := 4) hx hb dX0_countFeverish_37 (by decide) ?_
        rw [show (f_X0_countFeverish_4 w b n T x1) i4 q4 = ((q4 + 1)) from by rw [f_X0_countFeverish_4, if_neg c1, if_neg c2]] at k4
        exact k4 H locs ls hw (lv_sub hl [2, 3, 1, 0] rfl)
  · intro H locs ls hw hl
    refine lv_iload_n hx hb dX0_countFeverish_4 rfl (lv_at hl 3 rfl) ?_
    refine lv_aload_n hx hb dX0_countFeverish_5 rfl (lv_at hl 0 rfl) ?_
    refine g_get (v := .int (nI n)) hc hw hiX0 0 9 (wo_X0_T ..) rfl (by decide) (List.mem_of_getElem? (i := 1) rfl) (wv_X0_T_9 ..) dX0_countFeverish_6 ?_
    refine lv_icmp_ge (tgt := 40) hx hb dX0_countFeverish_9 (by decide) (fun _ => ?_) (fun z => absurd (nI_le (Nat.le_refl _) (by omega)) z)
    refine lv_iload_n hx hb dX0_countFeverish_40 rfl (lv_at hl 2 rfl) ?_
    rw [show r_X0_countFeverish w b n T x1 = (lpf (f_X0_countFeverish_4 w b n T x1) n 0 ((0 : Int32))) from by rw [r_X0_countFeverish]]
    exact g_ret hc hw rfl (Nat.le_of_ble_eq_true rfl) (Nat.le_of_ble_eq_true rfl) dX0_countFeverish_41

def f_X0_spreadFever_8 (w : Nat) (b : Nat) (n : Nat) (T : ct_T) (x1 : Int32) (i8 : Nat) (q8 : ct_T) : ct_T := if (r_X0_isAt w b n q8 (nI i8) (0 : Int32) x1) = (0 : Int32) then (q8) else (if (if ((ct_fe q8) (nI i8).toNatClampNeg) ≤ (0 : Int32) then (r_X0_countFeverish w b n T x1) else ((r_X0_countFeverish w b n T x1) - (1 : Int32))) ≤ (0 : Int32) then (q8) else ((s_X0_raiseFever w b n q8 (nI i8))))
def s_X0_spreadFever (w : Nat) (b : Nat) (n : Nat) (T : ct_T) (x1 : Int32) : ct_T := (lpf (f_X0_spreadFever_8 w b n T x1) n 0 (T))
abbrev rm_X0_spreadFever : Room := { frames := 2, cells := 0, slots := 0, locals := 46 }
set_option maxHeartbeats 4000000 in
set_option maxRecDepth 100000 in
theorem k_X0_spreadFever (l : Launch) (D : va_G) (cI cZ cL : ClassId) (a : Nat → Nat) (w : Nat) (b : Nat) (n : Nat) (T : ct_T) (hd5 : w ≤ 5) (hd4 : b ≤ 4) (hd30 : n ≤ 30) (x1 : Int32)  : MX l yX0_spreadFever wsX0_spreadFever rm_X0_spreadFever D cI cZ cL [.ref (a 0), .int x1] (wt_c a cI cZ w b n T) none (wt_c a cI cZ w b n (s_X0_spreadFever w b n T x1)) := by
  refine MX.of (own := RX0) (cc := cX0_spreadFever) (maxL := 5) (ret := none) (lv0 := [(0, .ref (a 0)), (1, .int x1)]) (by decide) rfl rfl (Nat.le_of_ble_eq_true rfl) rfl ?_
  intro p e s m args below meth c A hc hnm hw ls hl
  obtain ⟨hx, hb, hr, hml, hown, hts, hlk, hK, hA⟩ := id hc
  have hiX0 : ∀ w ∈ u_ws RX0 TX0 16, w ∈ wsX0_spreadFever := fun _ h => List.mem_cons_of_mem _ (List.mem_append_right _ h)
  refine lv_aload_n hx hb dX0_spreadFever_0 rfl (lv_at hl 0 rfl) ?_
  refine lv_iload_n hx hb dX0_spreadFever_1 rfl (lv_at hl 1 rfl) ?_
  refine g_callV0 (n := 1) hc hw (k_X0_countFeverish l D cI cZ cL a w b n T hd5 hd4 hd30 x1) gX0_spreadFever_X0_countFeverish rfl (by decide +kernel) ⟨Nat.le_of_ble_eq_true rfl, Nat.le_of_ble_eq_true rfl⟩ 0 (wo_X0_T ..) rfl rfl rfl (rest := []) rfl hl.1 (Nat.le_of_ble_eq_true rfl) (st1 := [.int (r_X0_countFeverish w b n T x1)]) rfl dX0_spreadFever_2 (k2 := 0) (s2 := 0) rfl rfl ⟨Nat.le_of_ble_eq_true rfl, Nat.le_of_ble_eq_true rfl⟩ (fun H locs hw => ?_)
  refine lv_istore_n (lv' := [(2, .int (r_X0_countFeverish w b n T x1)), (0, .ref (a 0)), (1, .int x1)]) hx hb dX0_spreadFever_5 rfl hl (by decide) rfl (fun ls hl => ?_)
  refine lv_iconst (v := 0) hx hb dX0_spreadFever_6 (by decide) ?_
  refine lv_istore_n (lv' := [(3, .int (0 : Int32)), (2, .int (r_X0_countFeverish w b n T x1)), (0, .ref (a 0)), (1, .int x1)]) hx hb dX0_spreadFever_7 rfl hl (by decide) rfl (fun ls hl => ?_)
  refine lp_go (fun (i8 : Nat) (q8 : ct_T) => ∀ (H : Heap) (locs : List Loc) (ls : Array Slot), Wo D A s.heap (wt_c a cI cZ w b n q8) H locs → lv_has ls 5 [(0, .ref (a 0)), (1, .int x1), (2, .int (r_X0_countFeverish w b n T x1)), (3, .int (nI i8))] → W p l e rm_X0_spreadFever s m args below meth c H locs 0 0 (QE below args s D A none (wt_c a cI cZ w b n (s_X0_spreadFever w b n T x1)) rm_X0_spreadFever) (F0 m 8 ls [])) (f_X0_spreadFever_8 w b n T x1) n (T) ?_ ?_ H locs ls hw (lv_sub hl [2, 3, 1, 0] rfl)
  · intro i8 q8 hi8 k8 H locs ls hw hl
    refine lv_iload_n hx hb dX0_spreadFever_8 rfl (lv_at hl 3 rfl) ?_
    refine lv_aload_n hx hb dX0_spreadFever_9 rfl (lv_at hl 0 rfl) ?_
    refine g_get (v := .int (nI n)) hc hw hiX0 0 9 (wo_X0_T ..) rfl (by decide) (List.mem_of_getElem? (i := 1) rfl) (wv_X0_T_9 ..) dX0_spreadFever_10 ?_
    refine lv_icmp_ge (tgt := 63) hx hb dX0_spreadFever_13 (by decide) (fun z => absurd z (nI_ge hi8 (by omega))) (fun _ => ?_)
    refine lv_aload_n hx hb dX0_spreadFever_16 rfl (lv_at hl 0 rfl) ?_
    refine lv_iload_n hx hb dX0_spreadFever_17 rfl (lv_at hl 3 rfl) ?_
    refine lv_iconst (v := 0) hx hb dX0_spreadFever_18 (by decide) ?_
    refine lv_iload_n hx hb dX0_spreadFever_19 rfl (lv_at hl 1 rfl) ?_
    refine g_callV0 (n := 3) hc hw (k_X0_isAt l D cI cZ cL a w b n q8 hd5 hd4 hd30 (nI i8) (0 : Int32) x1 (vp_in_nI (show i8 < 30 by omega) (by omega))) gX0_spreadFever_X0_isAt rfl (by decide +kernel) ⟨Nat.le_of_ble_eq_true rfl, Nat.le_of_ble_eq_true rfl⟩ 0 (wo_X0_T ..) rfl rfl rfl (rest := []) rfl hl.1 (Nat.le_of_ble_eq_true rfl) (st1 := [.int (r_X0_isAt w b n q8 (nI i8) (0 : Int32) x1)]) rfl dX0_spreadFever_20 (k2 := 0) (s2 := 0) rfl rfl ⟨Nat.le_of_ble_eq_true rfl, Nat.le_of_ble_eq_true rfl⟩ (fun H locs hw => ?_)
    refine lv_if_ne (tgt := 29) hx hb dX0_spreadFever_23 (by decide) (fun c1 => ?_) (fun c1 => ?_)
    · refine lv_aload_n hx hb dX0_spreadFever_29 rfl (lv_at hl 0 rfl) ?_
      refine g_get (v := .ref (a 10)) hc hw hiX0 0 10 (wo_X0_T ..) rfl (by decide) (List.mem_of_getElem? (i := 2) rfl) (wv_X0_T_10 ..) dX0_spreadFever_30 ?_
      refine lv_iload_n hx hb dX0_spreadFever_33 rfl (lv_at hl 3 rfl) ?_
      refine g_iald (f := (ct_fe q8)) hc hw 5 (wr_X0_T_10 ..) (vp_in_nI (show i8 < 30 by omega) (by omega)) dX0_spreadFever_34 ?_
      have J3 : ∀ vJ3 : Int32, vJ3 = (if ((ct_fe q8) (nI i8).toNatClampNeg) ≤ (0 : Int32) then (r_X0_countFeverish w b n T x1) else ((r_X0_countFeverish w b n T x1) - (1 : Int32))) → W p l e rm_X0_spreadFever s m args below meth c H locs 0 0 (QE below args s D A none (wt_c a cI cZ w b n (s_X0_spreadFever w b n T x1)) rm_X0_spreadFever) (F0 m 45 ls [.int vJ3]) := by
        intro vJ3 hvJ3
        subst hvJ3
        refine lv_istore (lv' := [(4, .int (if ((ct_fe q8) (nI i8).toNatClampNeg) ≤ (0 : Int32) then (r_X0_countFeverish w b n T x1) else ((r_X0_countFeverish w b n T x1) - (1 : Int32)))), (0, .ref (a 0)), (1, .int x1), (2, .int (r_X0_countFeverish w b n T x1)), (3, .int (nI i8))]) hx hb dX0_spreadFever_45 hl (by decide) rfl (fun ls hl => ?_)
        refine lv_iload hx hb dX0_spreadFever_47 (lv_at hl 0 rfl) ?_
        refine lv_if_le (tgt := 57) hx hb dX0_spreadFever_49 (by decide) (fun c4 => ?_) (fun c4 => ?_)
        · refine lv_iinc (v := (nI (i8 + 1))) (lv' := [(3, .int (nI (i8 + 1))), (4, .int (if ((ct_fe q8) (nI i8).toNatClampNeg) ≤ (0 : Int32) then (r_X0_countFeverish w b n T x1) else ((r_X0_countFeverish w b n T x1) - (1 : Int32)))), (0, .ref (a 0)), (1, .int x1), (2, .int (r_X0_countFeverish w b n T x1))]) hx hb dX0_spreadFever_57 hl (k := 4) rfl (inc_n i8) (by decide) rfl (fun ls hl => ?_)
          refine lv_goto (tgt := 8) hx hb dX0_spreadFever_60 (by decide) ?_
          rw [show (f_X0_spreadFever_8 w b n T x1) i8 q8 = (q8) from by rw [f_X0_spreadFever_8, if_neg c1, if_pos c4]] at k8
          exact k8 H locs ls hw (lv_sub hl [2, 3, 4, 0] rfl)
        · refine lv_aload_n hx hb dX0_spreadFever_52 rfl (lv_at hl 1 rfl) ?_
          refine lv_iload_n hx hb dX0_spreadFever_53 rfl (lv_at hl 4 rfl) ?_
          refine g_callV0 (n := 1) hc hw (k_X0_raiseFever l D cI cZ cL a w b n q8 hd5 hd4 hd30 (nI i8) (vp_in_nI (show i8 < 30 by omega) (by omega))) gX0_spreadFever_X0_raiseFever rfl (by decide +kernel) ⟨Nat.le_of_ble_eq_true rfl, Nat.le_of_ble_eq_true rfl⟩ 0 (wo_X0_T ..) rfl rfl rfl (rest := []) rfl hl.1 (Nat.le_of_ble_eq_true rfl) (st1 := []) rfl dX0_spreadFever_54 (k2 := 0) (s2 := 0) rfl rfl ⟨Nat.le_of_ble_eq_true rfl, Nat.le_of_ble_eq_true rfl⟩ (fun H locs hw => ?_)
          refine lv_iinc (v := (nI (i8 + 1))) (lv' := [(3, .int (nI (i8 + 1))), (4, .int (if ((ct_fe q8) (nI i8).toNatClampNeg) ≤ (0 : Int32) then (r_X0_countFeverish w b n T x1) else ((r_X0_countFeverish w b n T x1) - (1 : Int32)))), (0, .ref (a 0)), (1, .int x1), (2, .int (r_X0_countFeverish w b n T x1))]) hx hb dX0_spreadFever_57 hl (k := 4) rfl (inc_n i8) (by decide) rfl (fun ls hl => ?_)
          refine lv_goto (tgt := 8) hx hb dX0_spreadFever_60 (by decide) ?_
          rw [show (f_X0_spreadFever_8 w b n T x1) i8 q8 = ((s_X0_raiseFever w b n q8 (nI i8))) from by rw [f_X0_spreadFever_8, if_neg c1, if_neg c4]] at k8
          exact k8 H locs ls hw (lv_sub hl [2, 3, 4, 0] rfl)
      refine lv_if_le (tgt := 44) hx hb dX0_spreadFever_35 (by decide) (fun c2 => ?_) (fun c2 => ?_)
      · refine lv_iload_n hx hb dX0_spreadFever_44 rfl (lv_at hl 2 rfl) ?_
        exact J3 _ (by rw [if_pos c2])
      · refine lv_iload_n hx hb dX0_spreadFever_38 rfl (lv_at hl 2 rfl) ?_
        refine lv_iconst (v := 1) hx hb dX0_spreadFever_39 (by decide) ?_
        refine lv_isub hx hb dX0_spreadFever_40 ?_
        refine lv_goto (tgt := 45) hx hb dX0_spreadFever_41 (by decide) ?_
        exact J3 _ (by rw [if_neg c2])
    · refine lv_goto (tgt := 57) hx hb dX0_spreadFever_26 (by decide) ?_
      refine lv_iinc (v := (nI (i8 + 1))) (lv' := [(3, .int (nI (i8 + 1))), (0, .ref (a 0)), (1, .int x1), (2, .int (r_X0_countFeverish w b n T x1))]) hx hb dX0_spreadFever_57 hl (k := 3) rfl (inc_n i8) (by decide) rfl (fun ls hl => ?_)
      refine lv_goto (tgt := 8) hx hb dX0_spreadFever_60 (by decide) ?_
      rw [show (f_X0_spreadFever_8 w b n T x1) i8 q8 = (q8) from by rw [f_X0_spreadFever_8, if_pos c1]] at k8
      exact k8 H locs ls hw (lv_sub hl [1, 2, 3, 0] rfl)
  · intro H locs ls hw hl
    refine lv_iload_n hx hb dX0_spreadFever_8 rfl (lv_at hl 3 rfl) ?_
    refine lv_aload_n hx hb dX0_spreadFever_9 rfl (lv_at hl 0 rfl) ?_
    refine g_get (v := .int (nI n)) hc hw hiX0 0 9 (wo_X0_T ..) rfl (by decide) (List.mem_of_getElem? (i := 1) rfl) (wv_X0_T_9 ..) dX0_spreadFever_10 ?_
    refine lv_icmp_ge (tgt := 63) hx hb dX0_spreadFever_13 (by decide) (fun _ => ?_) (fun z => absurd (nI_le (Nat.le_refl _) (by omega)) z)
    rw [show s_X0_spreadFever w b n T x1 = (lpf (f_X0_spreadFever_8 w b n T x1) n 0 (T)) from by rw [s_X0_spreadFever]]
    exact g_vret hc hw rfl (Nat.le_of_ble_eq_true rfl) (Nat.le_of_ble_eq_true rfl) dX0_spreadFever_63

def f_X0_bringBargesNearer_2 (w : Nat) (b : Nat) (n : Nat) (T : ct_T) (i2 : Nat) (q2 : ct_T) : ct_T := if ((ct_to q2) (nI i2).toNatClampNeg) ≤ (0 : Int32) then (q2) else (if ((ct_to (cs_to q2 (upd (ct_to q2) (nI i2).toNatClampNeg (((ct_to q2) (nI i2).toNatClampNeg) - (1 : Int32))))) (nI i2).toNatClampNeg) ≤ (0 : Int32) then ((cs_to q2 (upd (ct_to q2) (nI i2).toNatClampNeg (((ct_to q2) (nI i2).toNatClampNeg) - (1 : Int32))))) else ((s_X0_spreadFever w b n (cs_to q2 (upd (ct_to q2) (nI i2).toNatClampNeg (((ct_to q2) (nI i2).toNatClampNeg) - (1 : Int32)))) (nI i2))))
def s_X0_bringBargesNearer (w : Nat) (b : Nat) (n : Nat) (T : ct_T) : ct_T := (lpf (f_X0_bringBargesNearer_2 w b n T) b 0 (T))
abbrev rm_X0_bringBargesNearer : Room := { frames := 3, cells := 0, slots := 0, locals := 70 }
set_option maxHeartbeats 4000000 in
set_option maxRecDepth 100000 in
theorem k_X0_bringBargesNearer (l : Launch) (D : va_G) (cI cZ cL : ClassId) (a : Nat → Nat) (w : Nat) (b : Nat) (n : Nat) (T : ct_T) (hd5 : w ≤ 5) (hd4 : b ≤ 4) (hd30 : n ≤ 30)   : MX l yX0_bringBargesNearer wsX0_bringBargesNearer rm_X0_bringBargesNearer D cI cZ cL [.ref (a 0)] (wt_c a cI cZ w b n T) none (wt_c a cI cZ w b n (s_X0_bringBargesNearer w b n T)) := by
  refine MX.of (own := RX0) (cc := cX0_bringBargesNearer) (maxL := 2) (ret := none) (lv0 := [(0, .ref (a 0))]) (by decide) rfl rfl (Nat.le_of_ble_eq_true rfl) rfl ?_
  intro p e s m args below meth c A hc hnm hw ls hl
  obtain ⟨hx, hb, hr, hml, hown, hts, hlk, hK, hA⟩ := id hc
  have hiX0 : ∀ w ∈ u_ws RX0 TX0 16, w ∈ wsX0_bringBargesNearer := fun _ h => List.mem_cons_of_mem _ (List.mem_append_right _ h)
  refine lv_iconst (v := 0) hx hb dX0_bringBargesNearer_0 (by decide) ?_
  refine lv_istore_n (lv' := [(1, .int (0 : Int32)), (0, .ref (a 0))]) hx hb dX0_bringBargesNearer_1 rfl hl (by decide) rfl (fun ls hl => ?_)
  refine lp_go (fun (i2 : Nat) (q2 : ct_T) => ∀ (H : Heap) (locs : List Loc) (ls : Array Slot), Wo D A s.heap (wt_c a cI cZ w b n q2) H locs → lv_has ls 2 [(0, .ref (a 0)), (1, .int (nI i2))] → W p l e rm_X0_bringBargesNearer s m args below meth c H locs 0 0 (QE below args s D A none (wt_c a cI cZ w b n (s_X0_bringBargesNearer w b n T)) rm_X0_bringBargesNearer) (F0 m 2 ls [])) (f_X0_bringBargesNearer_2 w b n T) b (T) ?_ ?_ s.heap [] ls hw (lv_sub hl [1, 0] rfl)
  · intro i2 q2 hi2 k2 H locs ls hw hl
    refine lv_iload_n hx hb dX0_bringBargesNearer_2 rfl (lv_at hl 1 rfl) ?_
    refine lv_aload_n hx hb dX0_bringBargesNearer_3 rfl (lv_at hl 0 rfl) ?_
    refine g_get (v := .int (nI b)) hc hw hiX0 0 6 (wo_X0_T ..) rfl (by decide) (List.mem_of_getElem? (i := 1) rfl) (wv_X0_T_6 ..) dX0_bringBargesNearer_4 ?_
    refine lv_icmp_ge (tgt := 49) hx hb dX0_bringBargesNearer_7 (by decide) (fun z => absurd z (nI_ge hi2 (by omega))) (fun _ => ?_)
    refine lv_aload_n hx hb dX0_bringBargesNearer_10 rfl (lv_at hl 0 rfl) ?_
    refine g_get (v := .ref (a 8)) hc hw hiX0 0 8 (wo_X0_T ..) rfl (by decide) (List.mem_of_getElem? (i := 2) rfl) (wv_X0_T_8 ..) dX0_bringBargesNearer_11 ?_
    refine lv_iload_n hx hb dX0_bringBargesNearer_14 rfl (lv_at hl 1 rfl) ?_
    refine g_iald (f := (ct_to q2)) hc hw 4 (wr_X0_T_8 ..) (vp_in_nI (show i2 < 4 by omega) (by omega)) dX0_bringBargesNearer_15 ?_
    refine lv_if_le (tgt := 43) hx hb dX0_bringBargesNearer_16 (by decide) (fun c1 => ?_) (fun c1 => ?_)
    · refine lv_iinc (v := (nI (i2 + 1))) (lv' := [(1, .int (nI (i2 + 1))), (0, .ref (a 0))]) hx hb dX0_bringBargesNearer_43 hl (k := 1) rfl (inc_n i2) (by decide) rfl (fun ls hl => ?_)
      refine lv_goto (tgt := 2) hx hb dX0_bringBargesNearer_46 (by decide) ?_
      rw [show (f_X0_bringBargesNearer_2 w b n T) i2 q2 = (q2) from by rw [f_X0_bringBargesNearer_2, if_pos c1]] at k2
      exact k2 H locs ls hw (lv_sub hl [1, 0] rfl)
    · refine lv_aload_n hx hb dX0_bringBargesNearer_19 rfl (lv_at hl 0 rfl) ?_
      refine g_get (v := .ref (a 8)) hc hw hiX0 0 8 (wo_X0_T ..) rfl (by decide) (List.mem_of_getElem? (i := 2) rfl) (wv_X0_T_8 ..) dX0_bringBargesNearer_20 ?_
      refine lv_iload_n hx hb dX0_bringBargesNearer_23 rfl (lv_at hl 1 rfl) ?_
      refine lv_dup2_11 hx hb dX0_bringBargesNearer_24 rfl rfl ?_
      refine g_iald (f := (ct_to q2)) hc hw 4 (wr_X0_T_8 ..) (vp_in_nI (show i2 < 4 by omega) (by omega)) dX0_bringBargesNearer_25 ?_
      refine lv_iconst (v := 1) hx hb dX0_bringBargesNearer_26 (by decide) ?_
      refine lv_isub hx hb dX0_bringBargesNearer_27 ?_
      refine g_iast (f := (ct_to q2)) hc hw 4 (wr_X0_T_8 ..) (vp_in_nI (show i2 < 4 by omega) (by omega)) (w' := (wt_c a cI cZ w b n (cs_to q2 (upd (ct_to q2) (nI i2).toNatClampNeg (((ct_to q2) (nI i2).toNatClampNeg) - (1 : Int32)))))) (wu_X0_T_8 ..) dX0_bringBargesNearer_28 (fun H locs hw => ?_)
      refine lv_aload_n hx hb dX0_bringBargesNearer_29 rfl (lv_at hl 0 rfl) ?_
      refine g_get (v := .ref (a 8)) hc hw hiX0 0 8 (wo_X0_T ..) rfl (by decide) (List.mem_of_getElem? (i := 2) rfl) (wv_X0_T_8 ..) dX0_bringBargesNearer_30 ?_
      refine lv_iload_n hx hb dX0_bringBargesNearer_33 rfl (lv_at hl 1 rfl) ?_
      refine g_iald (f := (ct_to (cs_to q2 (upd (ct_to q2) (nI i2).toNatClampNeg (((ct_to q2) (nI i2).toNatClampNeg) - (1 : Int32)))))) hc hw 4 (wr_X0_T_8 ..) (vp_in_nI (show i2 < 4 by omega) (by omega)) dX0_bringBargesNearer_34 ?_
      refine lv_if_le (tgt := 43) hx hb dX0_bringBargesNearer_35 (by decide) (fun c2 => ?_) (fun c2 => ?_)
      · refine lv_iinc (v := (nI (i2 + 1))) (lv' := [(1, .int (nI (i2 + 1))), (0, .ref (a 0))]) hx hb dX0_bringBargesNearer_43 hl (k := 1) rfl (inc_n i2) (by decide) rfl (fun ls hl => ?_)
        refine lv_goto (tgt := 2) hx hb dX0_bringBargesNearer_46 (by decide) ?_
        rw [show (f_X0_bringBargesNearer_2 w b n T) i2 q2 = ((cs_to q2 (upd (ct_to q2) (nI i2).toNatClampNeg (((ct_to q2) (nI i2).toNatClampNeg) - (1 : Int32))))) from by rw [f_X0_bringBargesNearer_2, if_neg c1, if_pos c2]] at k2
        exact k2 H locs ls hw (lv_sub hl [1, 0] rfl)
      · refine lv_aload_n hx hb dX0_bringBargesNearer_38 rfl (lv_at hl 0 rfl) ?_
        refine lv_iload_n hx hb dX0_bringBargesNearer_39 rfl (lv_at hl 1 rfl) ?_
        refine g_callV0 (n := 1) hc hw (k_X0_spreadFever l D cI cZ cL a w b n (cs_to q2 (upd (ct_to q2) (nI i2).toNatClampNeg (((ct_to q2) (nI i2).toNatClampNeg) - (1 : Int32)))) hd5 hd4 hd30 (nI i2)) gX0_bringBargesNearer_X0_spreadFever rfl (by decide +kernel) ⟨Nat.le_of_ble_eq_true rfl, Nat.le_of_ble_eq_true rfl⟩ 0 (wo_X0_T ..) rfl rfl rfl (rest := []) rfl hl.1 (Nat.le_of_ble_eq_true rfl) (st1 := []) rfl dX0_bringBargesNearer_40 (k2 := 0) (s2 := 0) rfl rfl ⟨Nat.le_of_ble_eq_true rfl, Nat.le_of_ble_eq_true rfl⟩ (fun H locs hw => ?_)
        refine lv_iinc (v := (nI (i2 + 1))) (lv' := [(1, .int (nI (i2 + 1))), (0, .ref (a 0))]) hx hb dX0_bringBargesNearer_43 hl (k := 1) rfl (inc_n i2) (by decide) rfl (fun ls hl => ?_)
        refine lv_goto (tgt := 2) hx hb dX0_bringBargesNearer_46 (by decide) ?_
        rw [show (f_X0_bringBargesNearer_2 w b n T) i2 q2 = ((s_X0_spreadFever w b n (cs_to q2 (upd (ct_to q2) (nI i2).toNatClampNeg (((ct_to q2) (nI i2).toNatClampNeg) - (1 : Int32)))) (nI i2))) from by rw [f_X0_bringBargesNearer_2, if_neg c1, if_neg c2]] at k2
        exact k2 H locs ls hw (lv_sub hl [1, 0] rfl)
  · intro H locs ls hw hl
    refine lv_iload_n hx hb dX0_bringBargesNearer_2 rfl (lv_at hl 1 rfl) ?_
    refine lv_aload_n hx hb dX0_bringBargesNearer_3 rfl (lv_at hl 0 rfl) ?_
    refine g_get (v := .int (nI b)) hc hw hiX0 0 6 (wo_X0_T ..) rfl (by decide) (List.mem_of_getElem? (i := 1) rfl) (wv_X0_T_6 ..) dX0_bringBargesNearer_4 ?_
    refine lv_icmp_ge (tgt := 49) hx hb dX0_bringBargesNearer_7 (by decide) (fun _ => ?_) (fun z => absurd (nI_le (Nat.le_refl _) (by omega)) z)
    rw [show s_X0_bringBargesNearer w b n T = (lpf (f_X0_bringBargesNearer_2 w b n T) b 0 (T)) from by rw [s_X0_bringBargesNearer]]
    exact g_vret hc hw rfl (Nat.le_of_ble_eq_true rfl) (Nat.le_of_ble_eq_true rfl) dX0_bringBargesNearer_49

def f_X0_ageStraw_2 (w : Nat) (b : Nat) (n : Nat) (T : ct_T) (i2 : Nat) (q2 : ct_T) : ct_T := ((cs_st q2 (upd (ct_st q2) (nI i2).toNatClampNeg (((ct_st q2) (nI i2).toNatClampNeg) + (1 : Int32)))))
def s_X0_ageStraw (w : Nat) (b : Nat) (n : Nat) (T : ct_T) : ct_T := (lpf (f_X0_ageStraw_2 w b n T) w 0 (T))
abbrev rm_X0_ageStraw : Room := { frames := 0, cells := 0, slots := 0, locals := 0 }
set_option maxHeartbeats 4000000 in
set_option maxRecDepth 100000 in
theorem k_X0_ageStraw (l : Launch) (D : va_G) (cI cZ cL : ClassId) (a : Nat → Nat) (w : Nat) (b : Nat) (n : Nat) (T : ct_T) (hd5 : w ≤ 5) (hd4 : b ≤ 4) (hd30 : n ≤ 30)   : MX l yX0_ageStraw wsX0_ageStraw rm_X0_ageStraw D cI cZ cL [.ref (a 0)] (wt_c a cI cZ w b n T) none (wt_c a cI cZ w b n (s_X0_ageStraw w b n T)) := by
  refine MX.of (own := RX0) (cc := cX0_ageStraw) (maxL := 2) (ret := none) (lv0 := [(0, .ref (a 0))]) (by decide) rfl rfl (Nat.le_of_ble_eq_true rfl) rfl ?_
  intro p e s m args below meth c A hc hnm hw ls hl
  obtain ⟨hx, hb, hr, hml, hown, hts, hlk, hK, hA⟩ := id hc
  have hiX0 : ∀ w ∈ u_ws RX0 TX0 16, w ∈ wsX0_ageStraw := fun _ h => List.mem_cons_of_mem _ (List.mem_append_right _ h)
  refine lv_iconst (v := 0) hx hb dX0_ageStraw_0 (by decide) ?_
  refine lv_istore_n (lv' := [(1, .int (0 : Int32)), (0, .ref (a 0))]) hx hb dX0_ageStraw_1 rfl hl (by decide) rfl (fun ls hl => ?_)
  refine lp_go (fun (i2 : Nat) (q2 : ct_T) => ∀ (H : Heap) (locs : List Loc) (ls : Array Slot), Wo D A s.heap (wt_c a cI cZ w b n q2) H locs → lv_has ls 2 [(0, .ref (a 0)), (1, .int (nI i2))] → W p l e rm_X0_ageStraw s m args below meth c H locs 0 0 (QE below args s D A none (wt_c a cI cZ w b n (s_X0_ageStraw w b n T)) rm_X0_ageStraw) (F0 m 2 ls [])) (f_X0_ageStraw_2 w b n T) w (T) ?_ ?_ s.heap [] ls hw (lv_sub hl [1, 0] rfl)
  · intro i2 q2 hi2 k2 H locs ls hw hl
    refine lv_iload_n hx hb dX0_ageStraw_2 rfl (lv_at hl 1 rfl) ?_
    refine lv_aload_n hx hb dX0_ageStraw_3 rfl (lv_at hl 0 rfl) ?_
    refine g_get (v := .int (nI w)) hc hw hiX0 0 3 (wo_X0_T ..) rfl (by decide) (List.mem_of_getElem? (i := 1) rfl) (wv_X0_T_3 ..) dX0_ageStraw_4 ?_
    refine lv_icmp_ge (tgt := 26) hx hb dX0_ageStraw_7 (by decide) (fun z => absurd z (nI_ge hi2 (by omega))) (fun _ => ?_)
    refine lv_aload_n hx hb dX0_ageStraw_10 rfl (lv_at hl 0 rfl) ?_
    refine g_get (v := .ref (a 5)) hc hw hiX0 0 5 (wo_X0_T ..) rfl (by decide) (List.mem_of_getElem? (i := 2) rfl) (wv_X0_T_5 ..) dX0_ageStraw_11 ?_
    refine lv_iload_n hx hb dX0_ageStraw_14 rfl (lv_at hl 1 rfl) ?_
    refine lv_dup2_11 hx hb dX0_ageStraw_15 rfl rfl ?_
    refine g_iald (f := (ct_st q2)) hc hw 2 (wr_X0_T_5 ..) (vp_in_nI (show i2 < 5 by omega) (by omega)) dX0_ageStraw_16 ?_
    refine lv_iconst (v := 1) hx hb dX0_ageStraw_17 (by decide) ?_
    refine lv_iadd hx hb dX0_ageStraw_18 ?_
    refine g_iast (f := (ct_st q2)) hc hw 2 (wr_X0_T_5 ..) (vp_in_nI (show i2 < 5 by omega) (by omega)) (w' := (wt_c a cI cZ w b n (cs_st q2 (upd (ct_st q2) (nI i2).toNatClampNeg (((ct_st q2) (nI i2).toNatClampNeg) + (1 : Int32)))))) (wu_X0_T_5 ..) dX0_ageStraw_19 (fun H locs hw => ?_)
    refine lv_iinc (v := (nI (i2 + 1))) (lv' := [(1, .int (nI (i2 + 1))), (0, .ref (a 0))]) hx hb dX0_ageStraw_20 hl (k := 1) rfl (inc_n i2) (by decide) rfl (fun ls hl => ?_)
    refine lv_goto (tgt := 2) hx hb dX0_ageStraw_23 (by decide) ?_
    rw [show (f_X0_ageStraw_2 w b n T) i2 q2 = ((cs_st q2 (upd (ct_st q2) (nI i2).toNatClampNeg (((ct_st q2) (nI i2).toNatClampNeg) + (1 : Int32))))) from by rw [f_X0_ageStraw_2]] at k2
    exact k2 H locs ls hw (lv_sub hl [1, 0] rfl)
  · intro H locs ls hw hl
    refine lv_iload_n hx hb dX0_ageStraw_2 rfl (lv_at hl 1 rfl) ?_
    refine lv_aload_n hx hb dX0_ageStraw_3 rfl (lv_at hl 0 rfl) ?_
    refine g_get (v := .int (nI w)) hc hw hiX0 0 3 (wo_X0_T ..) rfl (by decide) (List.mem_of_getElem? (i := 1) rfl) (wv_X0_T_3 ..) dX0_ageStraw_4 ?_
    refine lv_icmp_ge (tgt := 26) hx hb dX0_ageStraw_7 (by decide) (fun _ => ?_) (fun z => absurd (nI_le (Nat.le_refl _) (by omega)) z)
    rw [show s_X0_ageStraw w b n T = (lpf (f_X0_ageStraw_2 w b n T) w 0 (T)) from by rw [s_X0_ageStraw]]
    exact g_vret hc hw rfl (Nat.le_of_ble_eq_true rfl) (Nat.le_of_ble_eq_true rfl) dX0_ageStraw_26

def f_X0_leaveWards_2 (w : Nat) (b : Nat) (n : Nat) (T : ct_T) (i2 : Nat) (q2 : ct_T) : ct_T := if ((ct_wh q2) (nI i2).toNatClampNeg) = (1 : Int32) then (if ((ct_fe q2) (nI i2).toNatClampNeg) = (0 : Int32) then ((s_X0_move w b n q2 (nI i2) (2 : Int32) (-1 : Int32))) else (if ((ct_fe q2) (nI i2).toNatClampNeg) = (10 : Int32) then ((s_X0_move w b n q2 (nI i2) (3 : Int32) (-1 : Int32))) else (q2))) else (q2)
def s_X0_leaveWards (w : Nat) (b : Nat) (n : Nat) (T : ct_T) : ct_T := (lpf (f_X0_leaveWards_2 w b n T) n 0 (T))
abbrev rm_X0_leaveWards : Room := { frames := 1, cells := 0, slots := 0, locals := 23 }
set_option maxHeartbeats 4000000 in
set_option maxRecDepth 100000 in
theorem k_X0_leaveWards (l : Launch) (D : va_G) (cI cZ cL : ClassId) (a : Nat → Nat) (w : Nat) (b : Nat) (n : Nat) (T : ct_T) (hd5 : w ≤ 5) (hd4 : b ≤ 4) (hd30 : n ≤ 30)   : MX l yX0_leaveWards wsX0_leaveWards rm_X0_leaveWards D cI cZ cL [.ref (a 0)] (wt_c a cI cZ w b n T) none (wt_c a cI cZ w b n (s_X0_leaveWards w b n T)) := by
  refine MX.of (own := RX0) (cc := cX0_leaveWards) (maxL := 2) (ret := none) (lv0 := [(0, .ref (a 0))]) (by decide) rfl rfl (Nat.le_of_ble_eq_true rfl) rfl ?_
  intro p e s m args below meth c A hc hnm hw ls hl
  obtain ⟨hx, hb, hr, hml, hown, hts, hlk, hK, hA⟩ := id hc
  have hiX0 : ∀ w ∈ u_ws RX0 TX0 16, w ∈ wsX0_leaveWards := fun _ h => List.mem_cons_of_mem _ (List.mem_append_right _ h)
  refine lv_iconst (v := 0) hx hb dX0_leaveWards_0 (by decide) ?_
  refine lv_istore_n (lv' := [(1, .int (0 : Int32)), (0, .ref (a 0))]) hx hb dX0_leaveWards_1 rfl hl (by decide) rfl (fun ls hl => ?_)
  refine lp_go (fun (i2 : Nat) (q2 : ct_T) => ∀ (H : Heap) (locs : List Loc) (ls : Array Slot), Wo D A s.heap (wt_c a cI cZ w b n q2) H locs → lv_has ls 2 [(0, .ref (a 0)), (1, .int (nI i2))] → W p l e rm_X0_leaveWards s m args below meth c H locs 0 0 (QE below args s D A none (wt_c a cI cZ w b n (s_X0_leaveWards w b n T)) rm_X0_leaveWards) (F0 m 2 ls [])) (f_X0_leaveWards_2 w b n T) n (T) ?_ ?_ s.heap [] ls hw (lv_sub hl [1, 0] rfl)
  · intro i2 q2 hi2 k2 H locs ls hw hl
    refine lv_iload_n hx hb dX0_leaveWards_2 rfl (lv_at hl 1 rfl) ?_
    refine lv_aload_n hx hb dX0_leaveWards_3 rfl (lv_at hl 0 rfl) ?_
    refine g_get (v := .int (nI n)) hc hw hiX0 0 9 (wo_X0_T ..) rfl (by decide) (List.mem_of_getElem? (i := 1) rfl) (wv_X0_T_9 ..) dX0_leaveWards_4 ?_
    refine lv_icmp_ge (tgt := 66) hx hb dX0_leaveWards_7 (by decide) (fun z => absurd z (nI_ge hi2 (by omega))) (fun _ => ?_)
    refine lv_aload_n hx hb dX0_leaveWards_10 rfl (lv_at hl 0 rfl) ?_
    refine g_get (v := .ref (a 11)) hc hw hiX0 0 11 (wo_X0_T ..) rfl (by decide) (List.mem_of_getElem? (i := 2) rfl) (wv_X0_T_11 ..) dX0_leaveWards_11 ?_
    refine lv_iload_n hx hb dX0_leaveWards_14 rfl (lv_at hl 1 rfl) ?_
    refine g_iald (f := (ct_wh q2)) hc hw 6 (wr_X0_T_11 ..) (vp_in_nI (show i2 < 30 by omega) (by omega)) dX0_leaveWards_15 ?_
    refine lv_iconst (v := 1) hx hb dX0_leaveWards_16 (by decide) ?_
    refine lv_icmp_eq (tgt := 23) hx hb dX0_leaveWards_17 (by decide) (fun c1 => ?_) (fun c1 => ?_)
    · refine lv_aload_n hx hb dX0_leaveWards_23 rfl (lv_at hl 0 rfl) ?_
      refine g_get (v := .ref (a 10)) hc hw hiX0 0 10 (wo_X0_T ..) rfl (by decide) (List.mem_of_getElem? (i := 3) rfl) (wv_X0_T_10 ..) dX0_leaveWards_24 ?_
      refine lv_iload_n hx hb dX0_leaveWards_27 rfl (lv_at hl 1 rfl) ?_
      refine g_iald (f := (ct_fe q2)) hc hw 5 (wr_X0_T_10 ..) (vp_in_nI (show i2 < 30 by omega) (by omega)) dX0_leaveWards_28 ?_
      refine lv_if_ne (tgt := 42) hx hb dX0_leaveWards_29 (by decide) (fun c2 => ?_) (fun c2 => ?_)
      · refine lv_aload_n hx hb dX0_leaveWards_42 rfl (lv_at hl 0 rfl) ?_
        refine g_get (v := .ref (a 10)) hc hw hiX0 0 10 (wo_X0_T ..) rfl (by decide) (List.mem_of_getElem? (i := 3) rfl) (wv_X0_T_10 ..) dX0_leaveWards_43 ?_
        refine lv_iload_n hx hb dX0_leaveWards_46 rfl (lv_at hl 1 rfl) ?_
        refine g_iald (f := (ct_fe q2)) hc hw 5 (wr_X0_T_10 ..) (vp_in_nI (show i2 < 30 by omega) (by omega)) dX0_leaveWards_47 ?_
        refine lv_bipush (v := 10) hx hb dX0_leaveWards_48 (by decide) ?_
        refine lv_icmp_ne (tgt := 60) hx hb dX0_leaveWards_50 (by decide) (fun c3 => ?_) (fun c3 => ?_)
        · refine lv_iinc (v := (nI (i2 + 1))) (lv' := [(1, .int (nI (i2 + 1))), (0, .ref (a 0))]) hx hb dX0_leaveWards_60 hl (k := 1) rfl (inc_n i2) (by decide) rfl (fun ls hl => ?_)
          refine lv_goto (tgt := 2) hx hb dX0_leaveWards_63 (by decide) ?_
          rw [show (f_X0_leaveWards_2 w b n T) i2 q2 = (q2) from by rw [f_X0_leaveWards_2, if_pos c1, if_neg c2, if_neg c3]] at k2
          exact k2 H locs ls hw (lv_sub hl [1, 0] rfl)
        · refine lv_aload_n hx hb dX0_leaveWards_53 rfl (lv_at hl 0 rfl) ?_
          refine lv_iload_n hx hb dX0_leaveWards_54 rfl (lv_at hl 1 rfl) ?_
          refine lv_iconst (v := 3) hx hb dX0_leaveWards_55 (by decide) ?_
          refine lv_iconst (v := (-1)) hx hb dX0_leaveWards_56 (by decide) ?_
          refine g_callV0 (n := 3) hc hw (k_X0_move l D cI cZ cL a w b n q2 hd5 hd4 hd30 (nI i2) (3 : Int32) (-1 : Int32) (vp_in_nI (show i2 < 30 by omega) (by omega))) gX0_leaveWards_X0_move rfl (by decide +kernel) ⟨Nat.le_of_ble_eq_true rfl, Nat.le_of_ble_eq_true rfl⟩ 0 (wo_X0_T ..) rfl rfl rfl (rest := []) rfl hl.1 (Nat.le_of_ble_eq_true rfl) (st1 := []) rfl dX0_leaveWards_57 (k2 := 0) (s2 := 0) rfl rfl ⟨Nat.le_of_ble_eq_true rfl, Nat.le_of_ble_eq_true rfl⟩ (fun H locs hw => ?_)
          refine lv_iinc (v := (nI (i2 + 1))) (lv' := [(1, .int (nI (i2 + 1))), (0, .ref (a 0))]) hx hb dX0_leaveWards_60 hl (k := 1) rfl (inc_n i2) (by decide) rfl (fun ls hl => ?_)
          refine lv_goto (tgt := 2) hx hb dX0_leaveWards_63 (by decide) ?_
          rw [show (f_X0_leaveWards_2 w b n T) i2 q2 = ((s_X0_move w b n q2 (nI i2) (3 : Int32) (-1 : Int32))) from by rw [f_X0_leaveWards_2, if_pos c1, if_neg c2, if_pos c3]] at k2
          exact k2 H locs ls hw (lv_sub hl [1, 0] rfl)
      · refine lv_aload_n hx hb dX0_leaveWards_32 rfl (lv_at hl 0 rfl) ?_
        refine lv_iload_n hx hb dX0_leaveWards_33 rfl (lv_at hl 1 rfl) ?_
        refine lv_iconst (v := 2) hx hb dX0_leaveWards_34 (by decide) ?_
        refine lv_iconst (v := (-1)) hx hb dX0_leaveWards_35 (by decide) ?_
        refine g_callV0 (n := 3) hc hw (k_X0_move l D cI cZ cL a w b n q2 hd5 hd4 hd30 (nI i2) (2 : Int32) (-1 : Int32) (vp_in_nI (show i2 < 30 by omega) (by omega))) gX0_leaveWards_X0_move rfl (by decide +kernel) ⟨Nat.le_of_ble_eq_true rfl, Nat.le_of_ble_eq_true rfl⟩ 0 (wo_X0_T ..) rfl rfl rfl (rest := []) rfl hl.1 (Nat.le_of_ble_eq_true rfl) (st1 := []) rfl dX0_leaveWards_36 (k2 := 0) (s2 := 0) rfl rfl ⟨Nat.le_of_ble_eq_true rfl, Nat.le_of_ble_eq_true rfl⟩ (fun H locs hw => ?_)
        refine lv_goto (tgt := 60) hx hb dX0_leaveWards_39 (by decide) ?_
        refine lv_iinc (v := (nI (i2 + 1))) (lv' := [(1, .int (nI (i2 + 1))), (0, .ref (a 0))]) hx hb dX0_leaveWards_60 hl (k := 1) rfl (inc_n i2) (by decide) rfl (fun ls hl => ?_)
        refine lv_goto (tgt := 2) hx hb dX0_leaveWards_63 (by decide) ?_
        rw [show (f_X0_leaveWards_2 w b n T) i2 q2 = ((s_X0_move w b n q2 (nI i2) (2 : Int32) (-1 : Int32))) from by rw [f_X0_leaveWards_2, if_pos c1, if_pos c2]] at k2
        exact k2 H locs ls hw (lv_sub hl [1, 0] rfl)
    · refine lv_goto (tgt := 60) hx hb dX0_leaveWards_20 (by decide) ?_
      refine lv_iinc (v := (nI (i2 + 1))) (lv' := [(1, .int (nI (i2 + 1))), (0, .ref (a 0))]) hx hb dX0_leaveWards_60 hl (k := 1) rfl (inc_n i2) (by decide) rfl (fun ls hl => ?_)
      refine lv_goto (tgt := 2) hx hb dX0_leaveWards_63 (by decide) ?_
      rw [show (f_X0_leaveWards_2 w b n T) i2 q2 = (q2) from by rw [f_X0_leaveWards_2, if_neg c1]] at k2
      exact k2 H locs ls hw (lv_sub hl [1, 0] rfl)
  · intro H locs ls hw hl
    refine lv_iload_n hx hb dX0_leaveWards_2 rfl (lv_at hl 1 rfl) ?_
    refine lv_aload_n hx hb dX0_leaveWards_3 rfl (lv_at hl 0 rfl) ?_
    refine g_get (v := .int (nI n)) hc hw hiX0 0 9 (wo_X0_T ..) rfl (by decide) (List.mem_of_getElem? (i := 1) rfl) (wv_X0_T_9 ..) dX0_leaveWards_4 ?_
    refine lv_icmp_ge (tgt := 66) hx hb dX0_leaveWards_7 (by decide) (fun _ => ?_) (fun z => absurd (nI_le (Nat.le_refl _) (by omega)) z)
    rw [show s_X0_leaveWards w b n T = (lpf (f_X0_leaveWards_2 w b n T) n 0 (T)) from by rw [s_X0_leaveWards]]
    exact g_vret hc hw rfl (Nat.le_of_ble_eq_true rfl) (Nat.le_of_ble_eq_true rfl) dX0_leaveWards_66
end
section
def f_X0_takeFirstFreePlace_2 (w : Nat) (b : Nat) (n : Nat) (T : ct_T) (i2 : Nat) (q2 : ct_T) : (Int32 × ct_T) ⊕ (ct_T) := if ((ct_fr q2) (nI i2).toNatClampNeg) ≤ (0 : Int32) then (.inr (q2)) else (.inl ((nI i2), (cs_fr q2 (upd (ct_fr q2) (nI i2).toNatClampNeg (((ct_fr q2) (nI i2).toNatClampNeg) - (1 : Int32))))))
def r_X0_takeFirstFreePlace (w : Nat) (b : Nat) (n : Nat) (T : ct_T) : Int32 := match lpx (f_X0_takeFirstFreePlace_2 w b n T) w 0 (T) with | .inl bb => bb.1 | .inr q2 => (-1 : Int32)
def s_X0_takeFirstFreePlace (w : Nat) (b : Nat) (n : Nat) (T : ct_T) : ct_T := match lpx (f_X0_takeFirstFreePlace_2 w b n T) w 0 (T) with | .inl bb => bb.2 | .inr q2 => q2
abbrev rm_X0_takeFirstFreePlace : Room := { frames := 0, cells := 0, slots := 0, locals := 0 }
set_option maxHeartbeats 4000000 in
set_option maxRecDepth 100000 in
theorem k_X0_takeFirstFreePlace (l : Launch) (D : va_G) (cI cZ cL : ClassId) (a : Nat → Nat) (w : Nat) (b : Nat) (n : Nat) (T : ct_T) (hd5 : w ≤ 5) (hd4 : b ≤ 4) (hd30 : n ≤ 30)   : MX l yX0_takeFirstFreePlace wsX0_takeFirstFreePlace rm_X0_takeFirstFreePlace D cI cZ cL [.ref (a 0)] (wt_c a cI cZ w b n T) (some (.int (r_X0_takeFirstFreePlace w b n T))) (wt_c a cI cZ w b n (s_X0_takeFirstFreePlace w b n T)) := by
  refine MX.of (own := RX0) (cc := cX0_takeFirstFreePlace) (maxL := 2) (ret := (some .int)) (lv0 := [(0, .ref (a 0))]) (by decide) rfl rfl (Nat.le_of_ble_eq_true rfl) rfl ?_
  intro p e s m args below meth c A hc hnm hw ls hl
  obtain ⟨hx, hb, hr, hml, hown, hts, hlk, hK, hA⟩ := id hc
  have hiX0 : ∀ w ∈ u_ws RX0 TX0 16, w ∈ wsX0_takeFirstFreePlace := fun _ h => List.mem_cons_of_mem _ (List.mem_append_right _ h)
  refine lv_iconst (v := 0) hx hb dX0_takeFirstFreePlace_0 (by decide) ?_
  refine lv_istore_n (lv' := [(1, .int (0 : Int32)), (0, .ref (a 0))]) hx hb dX0_takeFirstFreePlace_1 rfl hl (by decide) rfl (fun ls hl => ?_)
  refine lpx_go (fun (i2 : Nat) (q2 : ct_T) => ∀ (H : Heap) (locs : List Loc) (ls : Array Slot), Wo D A s.heap (wt_c a cI cZ w b n q2) H locs → lv_has ls 2 [(0, .ref (a 0)), (1, .int (nI i2))] → W p l e rm_X0_takeFirstFreePlace s m args below meth c H locs 0 0 (QE below args s D A (some (.int (r_X0_takeFirstFreePlace w b n T))) (wt_c a cI cZ w b n (s_X0_takeFirstFreePlace w b n T)) rm_X0_takeFirstFreePlace) (F0 m 2 ls [])) (fun (bb : Int32 × ct_T) => r_X0_takeFirstFreePlace w b n T = bb.1 ∧ s_X0_takeFirstFreePlace w b n T = bb.2) (f_X0_takeFirstFreePlace_2 w b n T) w (T) ?_ ?_ ?_ s.heap [] ls hw (lv_sub hl [1, 0] rfl)
  · intro i2 q2 hi2 x2_x k2 H locs ls hw hl
    refine lv_iload_n hx hb dX0_takeFirstFreePlace_2 rfl (lv_at hl 1 rfl) ?_
    refine lv_aload_n hx hb dX0_takeFirstFreePlace_3 rfl (lv_at hl 0 rfl) ?_
    refine g_get (v := .int (nI w)) hc hw hiX0 0 3 (wo_X0_T ..) rfl (by decide) (List.mem_of_getElem? (i := 1) rfl) (wv_X0_T_3 ..) dX0_takeFirstFreePlace_4 ?_
    refine lv_icmp_ge (tgt := 37) hx hb dX0_takeFirstFreePlace_7 (by decide) (fun z => absurd z (nI_ge hi2 (by omega))) (fun _ => ?_)
    refine lv_aload_n hx hb dX0_takeFirstFreePlace_10 rfl (lv_at hl 0 rfl) ?_
    refine g_get (v := .ref (a 15)) hc hw hiX0 0 15 (wo_X0_T ..) rfl (by decide) (List.mem_of_getElem? (i := 2) rfl) (wv_X0_T_15 ..) dX0_takeFirstFreePlace_11 ?_
    refine lv_iload_n hx hb dX0_takeFirstFreePlace_14 rfl (lv_at hl 1 rfl) ?_
    refine g_iald (f := (ct_fr q2)) hc hw 10 (wr_X0_T_15 ..) (vp_in_nI (show i2 < 5 by omega) (by omega)) dX0_takeFirstFreePlace_15 ?_
    refine lv_if_le (tgt := 31) hx hb dX0_takeFirstFreePlace_16 (by decide) (fun c1 => ?_) (fun c1 => ?_)
    · refine lv_iinc (v := (nI (i2 + 1))) (lv' := [(1, .int (nI (i2 + 1))), (0, .ref (a 0))]) hx hb dX0_takeFirstFreePlace_31 hl (k := 1) rfl (inc_n i2) (by decide) rfl (fun ls hl => ?_)
      refine lv_goto (tgt := 2) hx hb dX0_takeFirstFreePlace_34 (by decide) ?_
      exact k2 (q2) (by rw [f_X0_takeFirstFreePlace_2, if_pos c1]) H locs ls hw (lv_sub hl [1, 0] rfl)
    · refine lv_aload_n hx hb dX0_takeFirstFreePlace_19 rfl (lv_at hl 0 rfl) ?_
      refine g_get (v := .ref (a 15)) hc hw hiX0 0 15 (wo_X0_T ..) rfl (by decide) (List.mem_of_getElem? (i := 2) rfl) (wv_X0_T_15 ..) dX0_takeFirstFreePlace_20 ?_
      refine lv_iload_n hx hb dX0_takeFirstFreePlace_23 rfl (lv_at hl 1 rfl) ?_
      refine lv_dup2_11 hx hb dX0_takeFirstFreePlace_24 rfl rfl ?_
      refine g_iald (f := (ct_fr q2)) hc hw 10 (wr_X0_T_15 ..) (vp_in_nI (show i2 < 5 by omega) (by omega)) dX0_takeFirstFreePlace_25 ?_
      refine lv_iconst (v := 1) hx hb dX0_takeFirstFreePlace_26 (by decide) ?_
      refine lv_isub hx hb dX0_takeFirstFreePlace_27 ?_
      refine g_iast (f := (ct_fr q2)) hc hw 10 (wr_X0_T_15 ..) (vp_in_nI (show i2 < 5 by omega) (by omega)) (w' := (wt_c a cI cZ w b n (cs_fr q2 (upd (ct_fr q2) (nI i2).toNatClampNeg (((ct_fr q2) (nI i2).toNatClampNeg) - (1 : Int32)))))) (wu_X0_T_15 ..) dX0_takeFirstFreePlace_28 (fun H locs hw => ?_)
      refine lv_iload_n hx hb dX0_takeFirstFreePlace_29 rfl (lv_at hl 1 rfl) ?_
      obtain ⟨e0, e1⟩ := x2_x ((nI i2), (cs_fr q2 (upd (ct_fr q2) (nI i2).toNatClampNeg (((ct_fr q2) (nI i2).toNatClampNeg) - (1 : Int32))))) (by rw [f_X0_takeFirstFreePlace_2, if_neg c1])
      rw [show r_X0_takeFirstFreePlace w b n T = _ from e0]
      rw [show s_X0_takeFirstFreePlace w b n T = _ from e1]
      exact g_ret hc hw rfl (Nat.le_of_ble_eq_true rfl) (Nat.le_of_ble_eq_true rfl) dX0_takeFirstFreePlace_30
  · intro bb hL2
    exact ⟨by rw [r_X0_takeFirstFreePlace, hL2], by rw [s_X0_takeFirstFreePlace, hL2]⟩
  · intro q2 hL2 H locs ls hw hl
    refine lv_iload_n hx hb dX0_takeFirstFreePlace_2 rfl (lv_at hl 1 rfl) ?_
    refine lv_aload_n hx hb dX0_takeFirstFreePlace_3 rfl (lv_at hl 0 rfl) ?_
    refine g_get (v := .int (nI w)) hc hw hiX0 0 3 (wo_X0_T ..) rfl (by decide) (List.mem_of_getElem? (i := 1) rfl) (wv_X0_T_3 ..) dX0_takeFirstFreePlace_4 ?_
    refine lv_icmp_ge (tgt := 37) hx hb dX0_takeFirstFreePlace_7 (by decide) (fun _ => ?_) (fun z => absurd (nI_le (Nat.le_refl _) (by omega)) z)
    refine lv_iconst (v := (-1)) hx hb dX0_takeFirstFreePlace_37 (by decide) ?_
    rw [show r_X0_takeFirstFreePlace w b n T = (-1 : Int32) from by rw [r_X0_takeFirstFreePlace, hL2]]
    rw [show s_X0_takeFirstFreePlace w b n T = q2 from by rw [s_X0_takeFirstFreePlace, hL2]]
    exact g_ret hc hw rfl (Nat.le_of_ble_eq_true rfl) (Nat.le_of_ble_eq_true rfl) dX0_takeFirstFreePlace_38

def f_X0_landAll_4 (w : Nat) (b : Nat) (n : Nat) (T : ct_T) (x1 : Int32) (i4 : Nat) (q4 : ct_T × Int32) : ct_T × Int32 := if (r_X0_isAt w b n q4.1 (nI i4) (0 : Int32) x1) = (0 : Int32) then (q4.1, q4.2) else (if ((ct_fe q4.1) (nI i4).toNatClampNeg) = (0 : Int32) then ((s_X0_move w b n q4.1 (nI i4) (2 : Int32) (-1 : Int32)), q4.2) else (if (r_X0_takeFirstFreePlace w b n q4.1) = (-1 : Int32) then ((s_X0_takeFirstFreePlace w b n q4.1), (0 : Int32)) else ((s_X0_move w b n (s_X0_takeFirstFreePlace w b n q4.1) (nI i4) (1 : Int32) (r_X0_takeFirstFreePlace w b n q4.1)), q4.2)))
def r_X0_landAll (w : Nat) (b : Nat) (n : Nat) (T : ct_T) (x1 : Int32) : Int32 := ((lpf (f_X0_landAll_4 w b n T x1) n 0 (T, (1 : Int32))).2)
def s_X0_landAll (w : Nat) (b : Nat) (n : Nat) (T : ct_T) (x1 : Int32) : ct_T := (lpf (f_X0_landAll_4 w b n T x1) n 0 (T, (1 : Int32))).1
abbrev rm_X0_landAll : Room := { frames := 1, cells := 0, slots := 0, locals := 23 }
set_option maxHeartbeats 4000000 in
set_option maxRecDepth 100000 in
theorem k_X0_landAll (l : Launch) (D : va_G) (cI cZ cL : ClassId) (a : Nat → Nat) (w : Nat) (b : Nat) (n : Nat) (T : ct_T) (hd5 : w ≤ 5) (hd4 : b ≤ 4) (hd30 : n ≤ 30) (x1 : Int32)  : MX l yX0_landAll wsX0_landAll rm_X0_landAll D cI cZ cL [.ref (a 0), .int x1] (wt_c a cI cZ w b n T) (some (.int (r_X0_landAll w b n T x1))) (wt_c a cI cZ w b n (s_X0_landAll w b n T x1)) := by
  refine MX.of (own := RX0) (cc := cX0_landAll) (maxL := 5) (ret := (some .boolean)) (lv0 := [(0, .ref (a 0)), (1, .int x1)]) (by decide) rfl rfl (Nat.le_of_ble_eq_true rfl) rfl ?_
  intro p e s m args below meth c A hc hnm hw ls hl
  obtain ⟨hx, hb, hr, hml, hown, hts, hlk, hK, hA⟩ := id hc
  have hiX0 : ∀ w ∈ u_ws RX0 TX0 16, w ∈ wsX0_landAll := fun _ h => List.mem_cons_of_mem _ (List.mem_append_right _ h)
  refine lv_iconst (v := 1) hx hb dX0_landAll_0 (by decide) ?_
  refine lv_istore_n (lv' := [(2, .int (1 : Int32)), (0, .ref (a 0)), (1, .int x1)]) hx hb dX0_landAll_1 rfl hl (by decide) rfl (fun ls hl => ?_)
  refine lv_iconst (v := 0) hx hb dX0_landAll_2 (by decide) ?_
  refine lv_istore_n (lv' := [(3, .int (0 : Int32)), (2, .int (1 : Int32)), (0, .ref (a 0)), (1, .int x1)]) hx hb dX0_landAll_3 rfl hl (by decide) rfl (fun ls hl => ?_)
  refine lp_go (fun (i4 : Nat) (q4 : ct_T × Int32) => ∀ (H : Heap) (locs : List Loc) (ls : Array Slot), Wo D A s.heap (wt_c a cI cZ w b n q4.1) H locs → lv_has ls 5 [(0, .ref (a 0)), (1, .int x1), (2, .int q4.2), (3, .int (nI i4))] → W p l e rm_X0_landAll s m args below meth c H locs 0 0 (QE below args s D A (some (.int (r_X0_landAll w b n T x1))) (wt_c a cI cZ w b n (s_X0_landAll w b n T x1)) rm_X0_landAll) (F0 m 4 ls [])) (f_X0_landAll_4 w b n T x1) n (T, (1 : Int32)) ?_ ?_ s.heap [] ls hw (lv_sub hl [2, 3, 1, 0] rfl)
  · intro i4 q4 hi4 k4 H locs ls hw hl
    refine lv_iload_n hx hb dX0_landAll_4 rfl (lv_at hl 3 rfl) ?_
    refine lv_aload_n hx hb dX0_landAll_5 rfl (lv_at hl 0 rfl) ?_
    refine g_get (v := .int (nI n)) hc hw hiX0 0 9 (wo_X0_T ..) rfl (by decide) (List.mem_of_getElem? (i := 1) rfl) (wv_X0_T_9 ..) dX0_landAll_6 ?_
    refine lv_icmp_ge (tgt := 75) hx hb dX0_landAll_9 (by decide) (fun z => absurd z (nI_ge hi4 (by omega))) (fun _ => ?_)
    refine lv_aload_n hx hb dX0_landAll_12 rfl (lv_at hl 0 rfl) ?_
    refine lv_iload_n hx hb dX0_landAll_13 rfl (lv_at hl 3 rfl) ?_
    refine lv_iconst (v := 0) hx hb dX0_landAll_14 (by decide) ?_
    refine lv_iload_n hx hb dX0_landAll_15 rfl (lv_at hl 1 rfl) ?_
    refine g_callV0 (n := 3) hc hw (k_X0_isAt l D cI cZ cL a w b n q4.1 hd5 hd4 hd30 (nI i4) (0 : Int32) x1 (vp_in_nI (show i4 < 30 by omega) (by omega))) gX0_landAll_X0_isAt rfl (by decide +kernel) ⟨Nat.le_of_ble_eq_true rfl, Nat.le_of_ble_eq_true rfl⟩ 0 (wo_X0_T ..) rfl rfl rfl (rest := []) rfl hl.1 (Nat.le_of_ble_eq_true rfl) (st1 := [.int (r_X0_isAt w b n q4.1 (nI i4) (0 : Int32) x1)]) rfl dX0_landAll_16 (k2 := 0) (s2 := 0) rfl rfl ⟨Nat.le_of_ble_eq_true rfl, Nat.le_of_ble_eq_true rfl⟩ (fun H locs hw => ?_)
    refine lv_if_ne (tgt := 25) hx hb dX0_landAll_19 (by decide) (fun c1 => ?_) (fun c1 => ?_)
    · refine lv_aload_n hx hb dX0_landAll_25 rfl (lv_at hl 0 rfl) ?_
      refine g_get (v := .ref (a 10)) hc hw hiX0 0 10 (wo_X0_T ..) rfl (by decide) (List.mem_of_getElem? (i := 2) rfl) (wv_X0_T_10 ..) dX0_landAll_26 ?_
      refine lv_iload_n hx hb dX0_landAll_29 rfl (lv_at hl 3 rfl) ?_
      refine g_iald (f := (ct_fe q4.1)) hc hw 5 (wr_X0_T_10 ..) (vp_in_nI (show i4 < 30 by omega) (by omega)) dX0_landAll_30 ?_
      refine lv_if_ne (tgt := 44) hx hb dX0_landAll_31 (by decide) (fun c2 => ?_) (fun c2 => ?_)
      · refine lv_aload_n hx hb dX0_landAll_44 rfl (lv_at hl 0 rfl) ?_
        refine g_callV0 (n := 0) hc hw (k_X0_takeFirstFreePlace l D cI cZ cL a w b n q4.1 hd5 hd4 hd30) gX0_landAll_X0_takeFirstFreePlace rfl (by decide +kernel) ⟨Nat.le_of_ble_eq_true rfl, Nat.le_of_ble_eq_true rfl⟩ 0 (wo_X0_T ..) rfl rfl rfl (rest := []) rfl hl.1 (Nat.le_of_ble_eq_true rfl) (st1 := [.int (r_X0_takeFirstFreePlace w b n q4.1)]) rfl dX0_landAll_45 (k2 := 0) (s2 := 0) rfl rfl ⟨Nat.le_of_ble_eq_true rfl, Nat.le_of_ble_eq_true rfl⟩ (fun H locs hw => ?_)
        refine lv_istore (lv' := [(4, .int (r_X0_takeFirstFreePlace w b n q4.1)), (0, .ref (a 0)), (1, .int x1), (2, .int q4.2), (3, .int (nI i4))]) hx hb dX0_landAll_48 hl (by decide) rfl (fun ls hl => ?_)
        refine lv_iload hx hb dX0_landAll_50 (lv_at hl 0 rfl) ?_
        refine lv_iconst (v := (-1)) hx hb dX0_landAll_52 (by decide) ?_
        refine lv_icmp_ne (tgt := 61) hx hb dX0_landAll_53 (by decide) (fun c3 => ?_) (fun c3 => ?_)
        · refine lv_aload_n hx hb dX0_landAll_61 rfl (lv_at hl 1 rfl) ?_
          refine lv_iload_n hx hb dX0_landAll_62 rfl (lv_at hl 4 rfl) ?_
          refine lv_iconst (v := 1) hx hb dX0_landAll_63 (by decide) ?_
          refine lv_iload hx hb dX0_landAll_64 (lv_at hl 0 rfl) ?_
          refine g_callV0 (n := 3) hc hw (k_X0_move l D cI cZ cL a w b n (s_X0_takeFirstFreePlace w b n q4.1) hd5 hd4 hd30 (nI i4) (1 : Int32) (r_X0_takeFirstFreePlace w b n q4.1) (vp_in_nI (show i4 < 30 by omega) (by omega))) gX0_landAll_X0_move rfl (by decide +kernel) ⟨Nat.le_of_ble_eq_true rfl, Nat.le_of_ble_eq_true rfl⟩ 0 (wo_X0_T ..) rfl rfl rfl (rest := []) rfl hl.1 (Nat.le_of_ble_eq_true rfl) (st1 := []) rfl dX0_landAll_66 (k2 := 0) (s2 := 0) rfl rfl ⟨Nat.le_of_ble_eq_true rfl, Nat.le_of_ble_eq_true rfl⟩ (fun H locs hw => ?_)
          refine lv_iinc (v := (nI (i4 + 1))) (lv' := [(3, .int (nI (i4 + 1))), (4, .int (r_X0_takeFirstFreePlace w b n q4.1)), (0, .ref (a 0)), (1, .int x1), (2, .int q4.2)]) hx hb dX0_landAll_69 hl (k := 4) rfl (inc_n i4) (by decide) rfl (fun ls hl => ?_)
          refine lv_goto (tgt := 4) hx hb dX0_landAll_72 (by decide) ?_
          rw [show (f_X0_landAll_4 w b n T x1) i4 q4 = ((s_X0_move w b n (s_X0_takeFirstFreePlace w b n q4.1) (nI i4) (1 : Int32) (r_X0_takeFirstFreePlace w b n q4.1)), q4.2) from by rw [f_X0_landAll_4, if_neg c1, if_neg c2, if_neg c3]] at k4
          exact k4 H locs ls hw (lv_sub hl [2, 3, 4, 0] rfl)
        · refine lv_iconst (v := 0) hx hb dX0_landAll_56 (by decide) ?_
          refine lv_istore_n (lv' := [(2, .int (0 : Int32)), (4, .int (r_X0_takeFirstFreePlace w b n q4.1)), (0, .ref (a 0)), (1, .int x1), (3, .int (nI i4))]) hx hb dX0_landAll_57 rfl hl (by decide) rfl (fun ls hl => ?_)
          refine lv_goto (tgt := 69) hx hb dX0_landAll_58 (by decide) ?_
          refine lv_iinc (v := (nI (i4 + 1))) (lv' := [(3, .int (nI (i4 + 1))), (2, .int (0 : Int32)), (4, .int (r_X0_takeFirstFreePlace w b n q4.1)), (0, .ref (a 0)), (1, .int x1)]) hx hb dX0_landAll_69 hl (k := 4) rfl (inc_n i4) (by decide) rfl (fun ls hl => ?_)
          refine lv_goto (tgt := 4) hx hb dX0_landAll_72 (by decide) ?_
          rw [show (f_X0_landAll_4 w b n T x1) i4 q4 = ((s_X0_takeFirstFreePlace w b n q4.1), (0 : Int32)) from by rw [f_X0_landAll_4, if_neg c1, if_neg c2, if_pos c3]] at k4
          exact k4 H locs ls hw (lv_sub hl [3, 4, 1, 0] rfl)
      · refine lv_aload_n hx hb dX0_landAll_34 rfl (lv_at hl 0 rfl) ?_
        refine lv_iload_n hx hb dX0_landAll_35 rfl (lv_at hl 3 rfl) ?_
        refine lv_iconst (v := 2) hx hb dX0_landAll_36 (by decide) ?_
        refine lv_iconst (v := (-1)) hx hb dX0_landAll_37 (by decide) ?_
        refine g_callV0 (n := 3) hc hw (k_X0_move l D cI cZ cL a w b n q4.1 hd5 hd4 hd30 (nI i4) (2 : Int32) (-1 : Int32) (vp_in_nI (show i4 < 30 by omega) (by omega))) gX0_landAll_X0_move rfl (by decide +kernel) ⟨Nat.le_of_ble_eq_true rfl, Nat.le_of_ble_eq_true rfl⟩ 0 (wo_X0_T ..) rfl rfl rfl (rest := []) rfl hl.1 (Nat.le_of_ble_eq_true rfl) (st1 := []) rfl dX0_landAll_38 (k2 := 0) (s2 := 0) rfl rfl ⟨Nat.le_of_ble_eq_true rfl, Nat.le_of_ble_eq_true rfl⟩ (fun H locs hw => ?_)
        refine lv_goto (tgt := 69) hx hb dX0_landAll_41 (by decide) ?_
        refine lv_iinc (v := (nI (i4 + 1))) (lv' := [(3, .int (nI (i4 + 1))), (0, .ref (a 0)), (1, .int x1), (2, .int q4.2)]) hx hb dX0_landAll_69 hl (k := 3) rfl (inc_n i4) (by decide) rfl (fun ls hl => ?_)
        refine lv_goto (tgt := 4) hx hb dX0_landAll_72 (by decide) ?_
        rw [show (f_X0_landAll_4 w b n T x1) i4 q4 = ((s_X0_move w b n q4.1 (nI i4) (2 : Int32) (-1 : Int32)), q4.2) from by rw [f_X0_landAll_4, if_neg c1, if_pos c2]] at k4
        exact k4 H locs ls hw (lv_sub hl [1, 2, 3, 0] rfl)
    · refine lv_goto (tgt := 69) hx hb dX0_landAll_22 (by decide) ?_
      refine lv_iinc (v := (nI (i4 + 1))) (lv' := [(3, .int (nI (i4 + 1))), (0, .ref (a 0)), (1, .int x1), (2, .int q4.2)]) hx hb dX0_landAll_69 hl (k := 3) rfl (inc_n i4) (by decide) rfl (fun ls hl => ?_)
      refine lv_goto (tgt := 4) hx hb dX0_landAll_72 (by decide) ?_
      rw [show (f_X0_landAll_4 w b n T x1) i4 q4 = (q4.1, q4.2) from by rw [f_X0_landAll_4, if_pos c1]] at k4
      exact k4 H locs ls hw (lv_sub hl [1, 2, 3, 0] rfl)
  · intro H locs ls hw hl
    refine lv_iload_n hx hb dX0_landAll_4 rfl (lv_at hl 3 rfl) ?_
    refine lv_aload_n hx hb dX0_landAll_5 rfl (lv_at hl 0 rfl) ?_
    refine g_get (v := .int (nI n)) hc hw hiX0 0 9 (wo_X0_T ..) rfl (by decide) (List.mem_of_getElem? (i := 1) rfl) (wv_X0_T_9 ..) dX0_landAll_6 ?_
    refine lv_icmp_ge (tgt := 75) hx hb dX0_landAll_9 (by decide) (fun _ => ?_) (fun z => absurd (nI_le (Nat.le_refl _) (by omega)) z)
    refine lv_iload_n hx hb dX0_landAll_75 rfl (lv_at hl 2 rfl) ?_
    rw [show r_X0_landAll w b n T x1 = ((lpf (f_X0_landAll_4 w b n T x1) n 0 (T, (1 : Int32))).2) from by rw [r_X0_landAll]]
    rw [show s_X0_landAll w b n T x1 = (lpf (f_X0_landAll_4 w b n T x1) n 0 (T, (1 : Int32))).1 from by rw [s_X0_landAll]]
    exact g_zret hc hw rfl (nz_01 (lpf_P (fun q : ct_T × Int32 => q.2 = 0 ∨ q.2 = 1) _ (fun i q h => by unfold f_X0_landAll_4; (repeat' split) <;> first | exact h | exact Or.inl rfl) n 0 _ (Or.inr rfl))) (Nat.le_of_ble_eq_true rfl) (Nat.le_of_ble_eq_true rfl) dX0_landAll_76
end
section
def f_X0_landBarges_2 (w : Nat) (b : Nat) (n : Nat) (T : ct_T) (i2 : Nat) (q2 : ct_T) : ct_T := ((cs_fr q2 (upd (ct_fr q2) (nI i2).toNatClampNeg (r_X0_freeIn w b n q2 (nI i2)))))
def f_X0_landBarges_29 (w : Nat) (b : Nat) (n : Nat) (T : ct_T) (i29 : Nat) (q29 : ct_T) : ct_T := if ((ct_to q29) (nI i29).toNatClampNeg) = (0 : Int32) then (if (r_X0_landAll w b n q29 (nI i29)) = (0 : Int32) then ((cs_to (s_X0_landAll w b n q29 (nI i29)) (upd (ct_to (s_X0_landAll w b n q29 (nI i29))) (nI i29).toNatClampNeg ((ct_ke (s_X0_landAll w b n q29 (nI i29))) (nI i29).toNatClampNeg)))) else ((s_X0_landAll w b n q29 (nI i29)))) else (q29)
def s_X0_landBarges (w : Nat) (b : Nat) (n : Nat) (T : ct_T) : ct_T := (lpf (f_X0_landBarges_29 w b n T) b 0 ((lpf (f_X0_landBarges_2 w b n T) w 0 (T))))
abbrev rm_X0_landBarges : Room := { frames := 3, cells := 0, slots := 0, locals := 68 }
set_option maxHeartbeats 4000000 in
set_option maxRecDepth 100000 in
theorem k_X0_landBarges (l : Launch) (D : va_G) (cI cZ cL : ClassId) (a : Nat → Nat) (w : Nat) (b : Nat) (n : Nat) (T : ct_T) (hd5 : w ≤ 5) (hd4 : b ≤ 4) (hd30 : n ≤ 30)   : MX l yX0_landBarges wsX0_landBarges rm_X0_landBarges D cI cZ cL [.ref (a 0)] (wt_c a cI cZ w b n T) none (wt_c a cI cZ w b n (s_X0_landBarges w b n T)) := by
  refine MX.of (own := RX0) (cc := cX0_landBarges) (maxL := 2) (ret := none) (lv0 := [(0, .ref (a 0))]) (by decide) rfl rfl (Nat.le_of_ble_eq_true rfl) rfl ?_
  intro p e s m args below meth c A hc hnm hw ls hl
  obtain ⟨hx, hb, hr, hml, hown, hts, hlk, hK, hA⟩ := id hc
  have hiX0 : ∀ w ∈ u_ws RX0 TX0 16, w ∈ wsX0_landBarges := fun _ h => List.mem_cons_of_mem _ (List.mem_append_right _ h)
  refine lv_iconst (v := 0) hx hb dX0_landBarges_0 (by decide) ?_
  refine lv_istore_n (lv' := [(1, .int (0 : Int32)), (0, .ref (a 0))]) hx hb dX0_landBarges_1 rfl hl (by decide) rfl (fun ls hl => ?_)
  refine lp_go (fun (i2 : Nat) (q2 : ct_T) => ∀ (H : Heap) (locs : List Loc) (ls : Array Slot), Wo D A s.heap (wt_c a cI cZ w b n q2) H locs → lv_has ls 2 [(0, .ref (a 0)), (1, .int (nI i2))] → W p l e rm_X0_landBarges s m args below meth c H locs 0 0 (QE below args s D A none (wt_c a cI cZ w b n (s_X0_landBarges w b n T)) rm_X0_landBarges) (F0 m 2 ls [])) (f_X0_landBarges_2 w b n T) w (T) ?_ ?_ s.heap [] ls hw (lv_sub hl [1, 0] rfl)
  · intro i2 q2 hi2 k2 H locs ls hw hl
    refine lv_iload_n hx hb dX0_landBarges_2 rfl (lv_at hl 1 rfl) ?_
    refine lv_aload_n hx hb dX0_landBarges_3 rfl (lv_at hl 0 rfl) ?_
    refine g_get (v := .int (nI w)) hc hw hiX0 0 3 (wo_X0_T ..) rfl (by decide) (List.mem_of_getElem? (i := 1) rfl) (wv_X0_T_3 ..) dX0_landBarges_4 ?_
    refine lv_icmp_ge (tgt := 27) hx hb dX0_landBarges_7 (by decide) (fun z => absurd z (nI_ge hi2 (by omega))) (fun _ => ?_)
    refine lv_aload_n hx hb dX0_landBarges_10 rfl (lv_at hl 0 rfl) ?_
    refine g_get (v := .ref (a 15)) hc hw hiX0 0 15 (wo_X0_T ..) rfl (by decide) (List.mem_of_getElem? (i := 2) rfl) (wv_X0_T_15 ..) dX0_landBarges_11 ?_
    refine lv_iload_n hx hb dX0_landBarges_14 rfl (lv_at hl 1 rfl) ?_
    refine lv_aload_n hx hb dX0_landBarges_15 rfl (lv_at hl 0 rfl) ?_
    refine lv_iload_n hx hb dX0_landBarges_16 rfl (lv_at hl 1 rfl) ?_
    refine g_callV0 (n := 1) hc hw (k_X0_freeIn l D cI cZ cL a w b n q2 hd5 hd4 hd30 (nI i2) (vp_in_nI (show i2 < 5 by omega) (by omega))) gX0_landBarges_X0_freeIn rfl (by decide +kernel) ⟨Nat.le_of_ble_eq_true rfl, Nat.le_of_ble_eq_true rfl⟩ 0 (wo_X0_T ..) rfl rfl rfl (rest := [.int (nI i2), .ref (a 15)]) rfl hl.1 (Nat.le_of_ble_eq_true rfl) (st1 := [.int (r_X0_freeIn w b n q2 (nI i2)), .int (nI i2), .ref (a 15)]) rfl dX0_landBarges_17 (k2 := 0) (s2 := 0) rfl rfl ⟨Nat.le_of_ble_eq_true rfl, Nat.le_of_ble_eq_true rfl⟩ (fun H locs hw => ?_)
    refine g_iast (f := (ct_fr q2)) hc hw 10 (wr_X0_T_15 ..) (vp_in_nI (show i2 < 5 by omega) (by omega)) (w' := (wt_c a cI cZ w b n (cs_fr q2 (upd (ct_fr q2) (nI i2).toNatClampNeg (r_X0_freeIn w b n q2 (nI i2)))))) (wu_X0_T_15 ..) dX0_landBarges_20 (fun H locs hw => ?_)
    refine lv_iinc (v := (nI (i2 + 1))) (lv' := [(1, .int (nI (i2 + 1))), (0, .ref (a 0))]) hx hb dX0_landBarges_21 hl (k := 1) rfl (inc_n i2) (by decide) rfl (fun ls hl => ?_)
    refine lv_goto (tgt := 2) hx hb dX0_landBarges_24 (by decide) ?_
    rw [show (f_X0_landBarges_2 w b n T) i2 q2 = ((cs_fr q2 (upd (ct_fr q2) (nI i2).toNatClampNeg (r_X0_freeIn w b n q2 (nI i2))))) from by rw [f_X0_landBarges_2]] at k2
    exact k2 H locs ls hw (lv_sub hl [1, 0] rfl)
  · intro H locs ls hw hl
    refine lv_iload_n hx hb dX0_landBarges_2 rfl (lv_at hl 1 rfl) ?_
    refine lv_aload_n hx hb dX0_landBarges_3 rfl (lv_at hl 0 rfl) ?_
    refine g_get (v := .int (nI w)) hc hw hiX0 0 3 (wo_X0_T ..) rfl (by decide) (List.mem_of_getElem? (i := 1) rfl) (wv_X0_T_3 ..) dX0_landBarges_4 ?_
    refine lv_icmp_ge (tgt := 27) hx hb dX0_landBarges_7 (by decide) (fun _ => ?_) (fun z => absurd (nI_le (Nat.le_refl _) (by omega)) z)
    refine lv_iconst (v := 0) hx hb dX0_landBarges_27 (by decide) ?_
    refine lv_istore_n (lv' := [(1, .int (0 : Int32)), (0, .ref (a 0))]) hx hb dX0_landBarges_28 rfl hl (by decide) rfl (fun ls hl => ?_)
    refine lp_go (fun (i29 : Nat) (q29 : ct_T) => ∀ (H : Heap) (locs : List Loc) (ls : Array Slot), Wo D A s.heap (wt_c a cI cZ w b n q29) H locs → lv_has ls 2 [(0, .ref (a 0)), (1, .int (nI i29))] → W p l e rm_X0_landBarges s m args below meth c H locs 0 0 (QE below args s D A none (wt_c a cI cZ w b n (s_X0_landBarges w b n T)) rm_X0_landBarges) (F0 m 29 ls [])) (f_X0_landBarges_29 w b n T) b ((lpf (f_X0_landBarges_2 w b n T) w 0 (T))) ?_ ?_ H locs ls hw (lv_sub hl [1, 0] rfl)
    · intro i29 q29 hi29 k29 H locs ls hw hl
      refine lv_iload_n hx hb dX0_landBarges_29 rfl (lv_at hl 1 rfl) ?_
      refine lv_aload_n hx hb dX0_landBarges_30 rfl (lv_at hl 0 rfl) ?_
      refine g_get (v := .int (nI b)) hc hw hiX0 0 6 (wo_X0_T ..) rfl (by decide) (List.mem_of_getElem? (i := 3) rfl) (wv_X0_T_6 ..) dX0_landBarges_31 ?_
      refine lv_icmp_ge (tgt := 72) hx hb dX0_landBarges_34 (by decide) (fun z => absurd z (nI_ge hi29 (by omega))) (fun _ => ?_)
      refine lv_aload_n hx hb dX0_landBarges_37 rfl (lv_at hl 0 rfl) ?_
      refine g_get (v := .ref (a 8)) hc hw hiX0 0 8 (wo_X0_T ..) rfl (by decide) (List.mem_of_getElem? (i := 4) rfl) (wv_X0_T_8 ..) dX0_landBarges_38 ?_
      refine lv_iload_n hx hb dX0_landBarges_41 rfl (lv_at hl 1 rfl) ?_
      refine g_iald (f := (ct_to q29)) hc hw 4 (wr_X0_T_8 ..) (vp_in_nI (show i29 < 4 by omega) (by omega)) dX0_landBarges_42 ?_
      refine lv_if_ne (tgt := 66) hx hb dX0_landBarges_43 (by decide) (fun c1 => ?_) (fun c1 => ?_)
      · refine lv_iinc (v := (nI (i29 + 1))) (lv' := [(1, .int (nI (i29 + 1))), (0, .ref (a 0))]) hx hb dX0_landBarges_66 hl (k := 1) rfl (inc_n i29) (by decide) rfl (fun ls hl => ?_)
        refine lv_goto (tgt := 29) hx hb dX0_landBarges_69 (by decide) ?_
        rw [show (f_X0_landBarges_29 w b n T) i29 q29 = (q29) from by rw [f_X0_landBarges_29, if_neg c1]] at k29
        exact k29 H locs ls hw (lv_sub hl [1, 0] rfl)
      · refine lv_aload_n hx hb dX0_landBarges_46 rfl (lv_at hl 0 rfl) ?_
        refine lv_iload_n hx hb dX0_landBarges_47 rfl (lv_at hl 1 rfl) ?_
        refine g_callV0 (n := 1) hc hw (k_X0_landAll l D cI cZ cL a w b n q29 hd5 hd4 hd30 (nI i29)) gX0_landBarges_X0_landAll rfl (by decide +kernel) ⟨Nat.le_of_ble_eq_true rfl, Nat.le_of_ble_eq_true rfl⟩ 0 (wo_X0_T ..) rfl rfl rfl (rest := []) rfl hl.1 (Nat.le_of_ble_eq_true rfl) (st1 := [.int (r_X0_landAll w b n q29 (nI i29))]) rfl dX0_landBarges_48 (k2 := 0) (s2 := 0) rfl rfl ⟨Nat.le_of_ble_eq_true rfl, Nat.le_of_ble_eq_true rfl⟩ (fun H locs hw => ?_)
        refine lv_if_ne (tgt := 66) hx hb dX0_landBarges_51 (by decide) (fun c2 => ?_) (fun c2 => ?_)
        · refine lv_iinc (v := (nI (i29 + 1))) (lv' := [(1, .int (nI (i29 + 1))), (0, .ref (a 0))]) hx hb dX0_landBarges_66 hl (k := 1) rfl (inc_n i29) (by decide) rfl (fun ls hl => ?_)
          refine lv_goto (tgt := 29) hx hb dX0_landBarges_69 (by decide) ?_
          rw [show (f_X0_landBarges_29 w b n T) i29 q29 = ((s_X0_landAll w b n q29 (nI i29))) from by rw [f_X0_landBarges_29, if_pos c1, if_neg c2]] at k29
          exact k29 H locs ls hw (lv_sub hl [1, 0] rfl)
        · refine lv_aload_n hx hb dX0_landBarges_54 rfl (lv_at hl 0 rfl) ?_
          refine g_get (v := .ref (a 8)) hc hw hiX0 0 8 (wo_X0_T ..) rfl (by decide) (List.mem_of_getElem? (i := 4) rfl) (wv_X0_T_8 ..) dX0_landBarges_55 ?_
          refine lv_iload_n hx hb dX0_landBarges_58 rfl (lv_at hl 1 rfl) ?_
          refine lv_aload_n hx hb dX0_landBarges_59 rfl (lv_at hl 0 rfl) ?_
          refine g_get (v := .ref (a 7)) hc hw hiX0 0 7 (wo_X0_T ..) rfl (by decide) (List.mem_of_getElem? (i := 5) rfl) (wv_X0_T_7 ..) dX0_landBarges_60 ?_
          refine lv_iload_n hx hb dX0_landBarges_63 rfl (lv_at hl 1 rfl) ?_
          refine g_iald (f := (ct_ke (s_X0_landAll w b n q29 (nI i29)))) hc hw 3 (wr_X0_T_7 ..) (vp_in_nI (show i29 < 4 by omega) (by omega)) dX0_landBarges_64 ?_
          refine g_iast (f := (ct_to (s_X0_landAll w b n q29 (nI i29)))) hc hw 4 (wr_X0_T_8 ..) (vp_in_nI (show i29 < 4 by omega) (by omega)) (w' := (wt_c a cI cZ w b n (cs_to (s_X0_landAll w b n q29 (nI i29)) (upd (ct_to (s_X0_landAll w b n q29 (nI i29))) (nI i29).toNatClampNeg ((ct_ke (s_X0_landAll w b n q29 (nI i29))) (nI i29).toNatClampNeg))))) (wu_X0_T_8 ..) dX0_landBarges_65 (fun H locs hw => ?_)
          refine lv_iinc (v := (nI (i29 + 1))) (lv' := [(1, .int (nI (i29 + 1))), (0, .ref (a 0))]) hx hb dX0_landBarges_66 hl (k := 1) rfl (inc_n i29) (by decide) rfl (fun ls hl => ?_)
          refine lv_goto (tgt := 29) hx hb dX0_landBarges_69 (by decide) ?_
          rw [show (f_X0_landBarges_29 w b n T) i29 q29 = ((cs_to (s_X0_landAll w b n q29 (nI i29)) (upd (ct_to (s_X0_landAll w b n q29 (nI i29))) (nI i29).toNatClampNeg ((ct_ke (s_X0_landAll w b n q29 (nI i29))) (nI i29).toNatClampNeg)))) from by rw [f_X0_landBarges_29, if_pos c1, if_pos c2]] at k29
          exact k29 H locs ls hw (lv_sub hl [1, 0] rfl)
    · intro H locs ls hw hl
      refine lv_iload_n hx hb dX0_landBarges_29 rfl (lv_at hl 1 rfl) ?_
      refine lv_aload_n hx hb dX0_landBarges_30 rfl (lv_at hl 0 rfl) ?_
      refine g_get (v := .int (nI b)) hc hw hiX0 0 6 (wo_X0_T ..) rfl (by decide) (List.mem_of_getElem? (i := 3) rfl) (wv_X0_T_6 ..) dX0_landBarges_31 ?_
      refine lv_icmp_ge (tgt := 72) hx hb dX0_landBarges_34 (by decide) (fun _ => ?_) (fun z => absurd (nI_le (Nat.le_refl _) (by omega)) z)
      rw [show s_X0_landBarges w b n T = (lpf (f_X0_landBarges_29 w b n T) b 0 ((lpf (f_X0_landBarges_2 w b n T) w 0 (T)))) from by rw [s_X0_landBarges]]
      exact g_vret hc hw rfl (Nat.le_of_ble_eq_true rfl) (Nat.le_of_ble_eq_true rfl) dX0_landBarges_72

def f_X0_liveDays_2 (w : Nat) (b : Nat) (n : Nat) (T : ct_T) (x1 : Nat) (i2 : Nat) (q2 : ct_T) : ct_T := ((cs_day (s_X0_landBarges w b n (s_X0_leaveWards w b n (s_X0_ageStraw w b n (s_X0_bringBargesNearer w b n (s_X0_changeFeversInWards w b n (s_X0_giveBowls w b n q2)))))) ((ct_day (s_X0_landBarges w b n (s_X0_leaveWards w b n (s_X0_ageStraw w b n (s_X0_bringBargesNearer w b n (s_X0_changeFeversInWards w b n (s_X0_giveBowls w b n q2))))))) + (1 : Int32))))
def s_X0_liveDays (w : Nat) (b : Nat) (n : Nat) (T : ct_T) (x1 : Nat) : ct_T := (lpf (f_X0_liveDays_2 w b n T x1) x1 0 (T))
abbrev rm_X0_liveDays : Room := { frames := 4, cells := 0, slots := 0, locals := 91 }
set_option maxHeartbeats 4000000 in
set_option maxRecDepth 100000 in
theorem k_X0_liveDays (l : Launch) (D : va_G) (cI cZ cL : ClassId) (a : Nat → Nat) (w : Nat) (b : Nat) (n : Nat) (T : ct_T) (hd5 : w ≤ 5) (hd4 : b ≤ 4) (hd30 : n ≤ 30) (x1 : Nat) (hp1 : x1 < 2 ^ 31) : MX l yX0_liveDays wsX0_liveDays rm_X0_liveDays D cI cZ cL [.ref (a 0), .int (nI x1)] (wt_c a cI cZ w b n T) none (wt_c a cI cZ w b n (s_X0_liveDays w b n T x1)) := by
  refine MX.of (own := RX0) (cc := cX0_liveDays) (maxL := 3) (ret := none) (lv0 := [(0, .ref (a 0)), (1, .int (nI x1))]) (by decide) rfl rfl (Nat.le_of_ble_eq_true rfl) rfl ?_
  intro p e s m args below meth c A hc hnm hw ls hl
  obtain ⟨hx, hb, hr, hml, hown, hts, hlk, hK, hA⟩ := id hc
  have hiX0 : ∀ w ∈ u_ws RX0 TX0 16, w ∈ wsX0_liveDays := fun _ h => List.mem_cons_of_mem _ (List.mem_append_right _ h)
  refine lv_iconst (v := 0) hx hb dX0_liveDays_0 (by decide) ?_
  refine lv_istore_n (lv' := [(2, .int (0 : Int32)), (0, .ref (a 0)), (1, .int (nI x1))]) hx hb dX0_liveDays_1 rfl hl (by decide) rfl (fun ls hl => ?_)
  refine lp_go (fun (i2 : Nat) (q2 : ct_T) => ∀ (H : Heap) (locs : List Loc) (ls : Array Slot), Wo D A s.heap (wt_c a cI cZ w b n q2) H locs → lv_has ls 3 [(0, .ref (a 0)), (1, .int (nI x1)), (2, .int (nI i2))] → W p l e rm_X0_liveDays s m args below meth c H locs 0 0 (QE below args s D A none (wt_c a cI cZ w b n (s_X0_liveDays w b n T x1)) rm_X0_liveDays) (F0 m 2 ls [])) (f_X0_liveDays_2 w b n T x1) x1 (T) ?_ ?_ s.heap [] ls hw (lv_sub hl [1, 2, 0] rfl)
  · intro i2 q2 hi2 k2 H locs ls hw hl
    refine lv_iload_n hx hb dX0_liveDays_2 rfl (lv_at hl 2 rfl) ?_
    refine lv_iload_n hx hb dX0_liveDays_3 rfl (lv_at hl 1 rfl) ?_
    refine lv_icmp_ge (tgt := 47) hx hb dX0_liveDays_4 (by decide) (fun z => absurd z (nI_ge hi2 (by omega))) (fun _ => ?_)
    refine lv_aload_n hx hb dX0_liveDays_7 rfl (lv_at hl 0 rfl) ?_
    refine g_callV0 (n := 0) hc hw (k_X0_giveBowls l D cI cZ cL a w b n q2 hd5 hd4 hd30) gX0_liveDays_X0_giveBowls rfl (by decide +kernel) ⟨Nat.le_of_ble_eq_true rfl, Nat.le_of_ble_eq_true rfl⟩ 0 (wo_X0_T ..) rfl rfl rfl (rest := []) rfl hl.1 (Nat.le_of_ble_eq_true rfl) (st1 := []) rfl dX0_liveDays_8 (k2 := 0) (s2 := 0) rfl rfl ⟨Nat.le_of_ble_eq_true rfl, Nat.le_of_ble_eq_true rfl⟩ (fun H locs hw => ?_)
    refine lv_aload_n hx hb dX0_liveDays_11 rfl (lv_at hl 0 rfl) ?_
    refine g_callV0 (n := 0) hc hw (k_X0_changeFeversInWards l D cI cZ cL a w b n (s_X0_giveBowls w b n q2) hd5 hd4 hd30) gX0_liveDays_X0_changeFeversInWards rfl (by decide +kernel) ⟨Nat.le_of_ble_eq_true rfl, Nat.le_of_ble_eq_true rfl⟩ 0 (wo_X0_T ..) rfl rfl rfl (rest := []) rfl hl.1 (Nat.le_of_ble_eq_true rfl) (st1 := []) rfl dX0_liveDays_12 (k2 := 0) (s2 := 0) rfl rfl ⟨Nat.le_of_ble_eq_true rfl, Nat.le_of_ble_eq_true rfl⟩ (fun H locs hw => ?_)
    refine lv_aload_n hx hb dX0_liveDays_15 rfl (lv_at hl 0 rfl) ?_
    refine g_callV0 (n := 0) hc hw (k_X0_bringBargesNearer l D cI cZ cL a w b n (s_X0_changeFeversInWards w b n (s_X0_giveBowls w b n q2)) hd5 hd4 hd30) gX0_liveDays_X0_bringBargesNearer rfl (by decide +kernel) ⟨Nat.le_of_ble_eq_true rfl, Nat.le_of_ble_eq_true rfl⟩ 0 (wo_X0_T ..) rfl rfl rfl (rest := []) rfl hl.1 (Nat.le_of_ble_eq_true rfl) (st1 := []) rfl dX0_liveDays_16 (k2 := 0) (s2 := 0) rfl rfl ⟨Nat.le_of_ble_eq_true rfl, Nat.le_of_ble_eq_true rfl⟩ (fun H locs hw => ?_)
    refine lv_aload_n hx hb dX0_liveDays_19 rfl (lv_at hl 0 rfl) ?_
    refine g_callV0 (n := 0) hc hw (k_X0_ageStraw l D cI cZ cL a w b n (s_X0_bringBargesNearer w b n (s_X0_changeFeversInWards w b n (s_X0_giveBowls w b n q2))) hd5 hd4 hd30) gX0_liveDays_X0_ageStraw rfl (by decide +kernel) ⟨Nat.le_of_ble_eq_true rfl, Nat.le_of_ble_eq_true rfl⟩ 0 (wo_X0_T ..) rfl rfl rfl (rest := []) rfl hl.1 (Nat.le_of_ble_eq_true rfl) (st1 := []) rfl dX0_liveDays_20 (k2 := 0) (s2 := 0) rfl rfl ⟨Nat.le_of_ble_eq_true rfl, Nat.le_of_ble_eq_true rfl⟩ (fun H locs hw => ?_)
    refine lv_aload_n hx hb dX0_liveDays_23 rfl (lv_at hl 0 rfl) ?_
    refine g_callV0 (n := 0) hc hw (k_X0_leaveWards l D cI cZ cL a w b n (s_X0_ageStraw w b n (s_X0_bringBargesNearer w b n (s_X0_changeFeversInWards w b n (s_X0_giveBowls w b n q2)))) hd5 hd4 hd30) gX0_liveDays_X0_leaveWards rfl (by decide +kernel) ⟨Nat.le_of_ble_eq_true rfl, Nat.le_of_ble_eq_true rfl⟩ 0 (wo_X0_T ..) rfl rfl rfl (rest := []) rfl hl.1 (Nat.le_of_ble_eq_true rfl) (st1 := []) rfl dX0_liveDays_24 (k2 := 0) (s2 := 0) rfl rfl ⟨Nat.le_of_ble_eq_true rfl, Nat.le_of_ble_eq_true rfl⟩ (fun H locs hw => ?_)
    refine lv_aload_n hx hb dX0_liveDays_27 rfl (lv_at hl 0 rfl) ?_
    refine g_callV0 (n := 0) hc hw (k_X0_landBarges l D cI cZ cL a w b n (s_X0_leaveWards w b n (s_X0_ageStraw w b n (s_X0_bringBargesNearer w b n (s_X0_changeFeversInWards w b n (s_X0_giveBowls w b n q2))))) hd5 hd4 hd30) gX0_liveDays_X0_landBarges rfl (by decide +kernel) ⟨Nat.le_of_ble_eq_true rfl, Nat.le_of_ble_eq_true rfl⟩ 0 (wo_X0_T ..) rfl rfl rfl (rest := []) rfl hl.1 (Nat.le_of_ble_eq_true rfl) (st1 := []) rfl dX0_liveDays_28 (k2 := 0) (s2 := 0) rfl rfl ⟨Nat.le_of_ble_eq_true rfl, Nat.le_of_ble_eq_true rfl⟩ (fun H locs hw => ?_)
    refine lv_aload_n hx hb dX0_liveDays_31 rfl (lv_at hl 0 rfl) ?_
    refine lv_dup hx hb dX0_liveDays_32 rfl ?_
    refine g_get (v := .int (ct_day (s_X0_landBarges w b n (s_X0_leaveWards w b n (s_X0_ageStraw w b n (s_X0_bringBargesNearer w b n (s_X0_changeFeversInWards w b n (s_X0_giveBowls w b n q2)))))))) hc hw hiX0 0 0 (wo_X0_T ..) rfl (by decide) (List.mem_of_getElem? (i := 1) rfl) (wv_X0_T_0 ..) dX0_liveDays_33 ?_
    refine lv_iconst (v := 1) hx hb dX0_liveDays_36 (by decide) ?_
    refine lv_iadd hx hb dX0_liveDays_37 ?_
    refine g_put hc hw hiX0 tyX0 tyX0_ok nmX0 0 0 (wo_X0_T ..) rfl (by decide) (List.mem_of_getElem? (i := 1) rfl) (by decide) rfl rfl (Nat.le_of_ble_eq_true rfl) (w' := (wt_c a cI cZ w b n (cs_day (s_X0_landBarges w b n (s_X0_leaveWards w b n (s_X0_ageStraw w b n (s_X0_bringBargesNearer w b n (s_X0_changeFeversInWards w b n (s_X0_giveBowls w b n q2)))))) ((ct_day (s_X0_landBarges w b n (s_X0_leaveWards w b n (s_X0_ageStraw w b n (s_X0_bringBargesNearer w b n (s_X0_changeFeversInWards w b n (s_X0_giveBowls w b n q2))))))) + (1 : Int32))))) (wp_X0_T_0 ..) dX0_liveDays_38 (fun H locs hw => ?_)
    refine lv_iinc (v := (nI (i2 + 1))) (lv' := [(2, .int (nI (i2 + 1))), (0, .ref (a 0)), (1, .int (nI x1))]) hx hb dX0_liveDays_41 hl (k := 2) rfl (inc_n i2) (by decide) rfl (fun ls hl => ?_)
    refine lv_goto (tgt := 2) hx hb dX0_liveDays_44 (by decide) ?_
    rw [show (f_X0_liveDays_2 w b n T x1) i2 q2 = ((cs_day (s_X0_landBarges w b n (s_X0_leaveWards w b n (s_X0_ageStraw w b n (s_X0_bringBargesNearer w b n (s_X0_changeFeversInWards w b n (s_X0_giveBowls w b n q2)))))) ((ct_day (s_X0_landBarges w b n (s_X0_leaveWards w b n (s_X0_ageStraw w b n (s_X0_bringBargesNearer w b n (s_X0_changeFeversInWards w b n (s_X0_giveBowls w b n q2))))))) + (1 : Int32)))) from by rw [f_X0_liveDays_2]] at k2
    exact k2 H locs ls hw (lv_sub hl [1, 2, 0] rfl)
  · intro H locs ls hw hl
    refine lv_iload_n hx hb dX0_liveDays_2 rfl (lv_at hl 2 rfl) ?_
    refine lv_iload_n hx hb dX0_liveDays_3 rfl (lv_at hl 1 rfl) ?_
    refine lv_icmp_ge (tgt := 47) hx hb dX0_liveDays_4 (by decide) (fun _ => ?_) (fun z => absurd (nI_le (Nat.le_refl _) (by omega)) z)
    rw [show s_X0_liveDays w b n T x1 = (lpf (f_X0_liveDays_2 w b n T x1) x1 0 (T)) from by rw [s_X0_liveDays]]
    exact g_vret hc hw rfl (Nat.le_of_ble_eq_true rfl) (Nat.le_of_ble_eq_true rfl) dX0_liveDays_47

def r_X0_openWard (w : Nat) (b : Nat) (n : Nat) (T : ct_T) (x1 : Int32) : Int32 := (nI w)
def s_X0_openWard (w : Nat) (b : Nat) (n : Nat) (T : ct_T) (x1 : Int32) : ct_T := (cs_pl T (upd (ct_pl T) (nI w).toNatClampNeg x1))
abbrev rm_X0_openWard : Room := { frames := 0, cells := 0, slots := 0, locals := 0 }
set_option maxHeartbeats 4000000 in
set_option maxRecDepth 100000 in
theorem k_X0_openWard (l : Launch) (D : va_G) (cI cZ cL : ClassId) (a : Nat → Nat) (w : Nat) (b : Nat) (n : Nat) (T : ct_T) (hd5 : w ≤ 5) (hd4 : b ≤ 4) (hd30 : n ≤ 30) (x1 : Int32) (hlt : w < 5) : MX l yX0_openWard wsX0_openWard rm_X0_openWard D cI cZ cL [.ref (a 0), .int x1] (wt_c a cI cZ w b n T) (some (.int (r_X0_openWard w b n T x1))) (wt_c a cI cZ (w + 1) b n (s_X0_openWard w b n T x1)) := by
  refine MX.of (own := RX0) (cc := cX0_openWard) (maxL := 3) (ret := (some .int)) (lv0 := [(0, .ref (a 0)), (1, .int x1)]) (by decide) rfl rfl (Nat.le_of_ble_eq_true rfl) rfl ?_
  intro p e s m args below meth c A hc hnm hw ls hl
  obtain ⟨hx, hb, hr, hml, hown, hts, hlk, hK, hA⟩ := id hc
  have hiX0 : ∀ w ∈ u_ws RX0 TX0 16, w ∈ wsX0_openWard := fun _ h => List.mem_cons_of_mem _ (List.mem_append_right _ h)
  refine lv_aload_n hx hb dX0_openWard_0 rfl (lv_at hl 0 rfl) ?_
  refine g_get (v := .int (nI w)) hc hw hiX0 0 3 (wo_X0_T ..) rfl (by decide) (List.mem_of_getElem? (i := 1) rfl) (wv_X0_T_3 ..) dX0_openWard_1 ?_
  refine lv_istore_n (lv' := [(2, .int (nI w)), (0, .ref (a 0)), (1, .int x1)]) hx hb dX0_openWard_4 rfl hl (by decide) rfl (fun ls hl => ?_)
  refine lv_aload_n hx hb dX0_openWard_5 rfl (lv_at hl 1 rfl) ?_
  refine g_get (v := .ref (a 4)) hc hw hiX0 0 4 (wo_X0_T ..) rfl (by decide) (List.mem_of_getElem? (i := 2) rfl) (wv_X0_T_4 ..) dX0_openWard_6 ?_
  refine lv_iload_n hx hb dX0_openWard_9 rfl (lv_at hl 0 rfl) ?_
  refine lv_iload_n hx hb dX0_openWard_10 rfl (lv_at hl 2 rfl) ?_
  refine g_iast (f := (ct_pl T)) hc hw 1 (wr_X0_T_4 ..) (vp_in_nI (show w < 5 by omega) (by omega)) (w' := (wt_c a cI cZ w b n (cs_pl T (upd (ct_pl T) (nI w).toNatClampNeg x1)))) (wu_X0_T_4 ..) dX0_openWard_11 (fun H locs hw => ?_)
  refine lv_aload_n hx hb dX0_openWard_12 rfl (lv_at hl 1 rfl) ?_
  refine lv_dup hx hb dX0_openWard_13 rfl ?_
  refine g_get (v := .int (nI w)) hc hw hiX0 0 3 (wo_X0_T ..) rfl (by decide) (List.mem_of_getElem? (i := 1) rfl) (wv_X0_T_3 ..) dX0_openWard_14 ?_
  refine lv_iconst (v := 1) hx hb dX0_openWard_17 (by decide) ?_
  refine lv_iadd hx hb dX0_openWard_18 ?_
  rw [nI_1 w]
  refine g_put hc hw hiX0 tyX0 tyX0_ok nmX0 0 3 (wo_X0_T ..) rfl (by decide) (List.mem_of_getElem? (i := 1) rfl) (by decide) rfl rfl (Nat.le_of_ble_eq_true rfl) (w' := (wt_c a cI cZ (w + 1) b n (cs_pl T (upd (ct_pl T) (nI w).toNatClampNeg x1)))) (wp_X0_T_3 ..) dX0_openWard_19 (fun H locs hw => ?_)
  refine lv_iload_n hx hb dX0_openWard_22 rfl (lv_at hl 0 rfl) ?_
  rw [show r_X0_openWard w b n T x1 = (nI w) from by rw [r_X0_openWard]]
  rw [show s_X0_openWard w b n T x1 = (cs_pl T (upd (ct_pl T) (nI w).toNatClampNeg x1)) from by rw [s_X0_openWard]]
  exact g_ret hc hw rfl (Nat.le_of_ble_eq_true rfl) (Nat.le_of_ble_eq_true rfl) dX0_openWard_23

def r_X0_openBarge (w : Nat) (b : Nat) (n : Nat) (T : ct_T) (x1 : Int32) : Int32 := (nI b)
def s_X0_openBarge (w : Nat) (b : Nat) (n : Nat) (T : ct_T) (x1 : Int32) : ct_T := (cs_to (cs_ke T (upd (ct_ke T) (nI b).toNatClampNeg x1)) (upd (ct_to (cs_ke T (upd (ct_ke T) (nI b).toNatClampNeg x1))) (nI b).toNatClampNeg x1))
abbrev rm_X0_openBarge : Room := { frames := 0, cells := 0, slots := 0, locals := 0 }
set_option maxHeartbeats 4000000 in
set_option maxRecDepth 100000 in
theorem k_X0_openBarge (l : Launch) (D : va_G) (cI cZ cL : ClassId) (a : Nat → Nat) (w : Nat) (b : Nat) (n : Nat) (T : ct_T) (hd5 : w ≤ 5) (hd4 : b ≤ 4) (hd30 : n ≤ 30) (x1 : Int32) (hlt : b < 4) : MX l yX0_openBarge wsX0_openBarge rm_X0_openBarge D cI cZ cL [.ref (a 0), .int x1] (wt_c a cI cZ w b n T) (some (.int (r_X0_openBarge w b n T x1))) (wt_c a cI cZ w (b + 1) n (s_X0_openBarge w b n T x1)) := by
  refine MX.of (own := RX0) (cc := cX0_openBarge) (maxL := 3) (ret := (some .int)) (lv0 := [(0, .ref (a 0)), (1, .int x1)]) (by decide) rfl rfl (Nat.le_of_ble_eq_true rfl) rfl ?_
  intro p e s m args below meth c A hc hnm hw ls hl
  obtain ⟨hx, hb, hr, hml, hown, hts, hlk, hK, hA⟩ := id hc
  have hiX0 : ∀ w ∈ u_ws RX0 TX0 16, w ∈ wsX0_openBarge := fun _ h => List.mem_cons_of_mem _ (List.mem_append_right _ h)
  refine lv_aload_n hx hb dX0_openBarge_0 rfl (lv_at hl 0 rfl) ?_
  refine g_get (v := .int (nI b)) hc hw hiX0 0 6 (wo_X0_T ..) rfl (by decide) (List.mem_of_getElem? (i := 1) rfl) (wv_X0_T_6 ..) dX0_openBarge_1 ?_
  refine lv_istore_n (lv' := [(2, .int (nI b)), (0, .ref (a 0)), (1, .int x1)]) hx hb dX0_openBarge_4 rfl hl (by decide) rfl (fun ls hl => ?_)
  refine lv_aload_n hx hb dX0_openBarge_5 rfl (lv_at hl 1 rfl) ?_
  refine g_get (v := .ref (a 7)) hc hw hiX0 0 7 (wo_X0_T ..) rfl (by decide) (List.mem_of_getElem? (i := 2) rfl) (wv_X0_T_7 ..) dX0_openBarge_6 ?_
  refine lv_iload_n hx hb dX0_openBarge_9 rfl (lv_at hl 0 rfl) ?_
  refine lv_iload_n hx hb dX0_openBarge_10 rfl (lv_at hl 2 rfl) ?_
  refine g_iast (f := (ct_ke T)) hc hw 3 (wr_X0_T_7 ..) (vp_in_nI (show b < 4 by omega) (by omega)) (w' := (wt_c a cI cZ w b n (cs_ke T (upd (ct_ke T) (nI b).toNatClampNeg x1)))) (wu_X0_T_7 ..) dX0_openBarge_11 (fun H locs hw => ?_)
  refine lv_aload_n hx hb dX0_openBarge_12 rfl (lv_at hl 1 rfl) ?_
  refine g_get (v := .ref (a 8)) hc hw hiX0 0 8 (wo_X0_T ..) rfl (by decide) (List.mem_of_getElem? (i := 3) rfl) (wv_X0_T_8 ..) dX0_openBarge_13 ?_
  refine lv_iload_n hx hb dX0_openBarge_16 rfl (lv_at hl 0 rfl) ?_
  refine lv_iload_n hx hb dX0_openBarge_17 rfl (lv_at hl 2 rfl) ?_
  refine g_iast (f := (ct_to (cs_ke T (upd (ct_ke T) (nI b).toNatClampNeg x1)))) hc hw 4 (wr_X0_T_8 ..) (vp_in_nI (show b < 4 by omega) (by omega)) (w' := (wt_c a cI cZ w b n (cs_to (cs_ke T (upd (ct_ke T) (nI b).toNatClampNeg x1)) (upd (ct_to (cs_ke T (upd (ct_ke T) (nI b).toNatClampNeg x1))) (nI b).toNatClampNeg x1)))) (wu_X0_T_8 ..) dX0_openBarge_18 (fun H locs hw => ?_)
  refine lv_aload_n hx hb dX0_openBarge_19 rfl (lv_at hl 1 rfl) ?_
  refine lv_dup hx hb dX0_openBarge_20 rfl ?_
  refine g_get (v := .int (nI b)) hc hw hiX0 0 6 (wo_X0_T ..) rfl (by decide) (List.mem_of_getElem? (i := 1) rfl) (wv_X0_T_6 ..) dX0_openBarge_21 ?_
  refine lv_iconst (v := 1) hx hb dX0_openBarge_24 (by decide) ?_
  refine lv_iadd hx hb dX0_openBarge_25 ?_
  rw [nI_1 b]
  refine g_put hc hw hiX0 tyX0 tyX0_ok nmX0 0 6 (wo_X0_T ..) rfl (by decide) (List.mem_of_getElem? (i := 1) rfl) (by decide) rfl rfl (Nat.le_of_ble_eq_true rfl) (w' := (wt_c a cI cZ w (b + 1) n (cs_to (cs_ke T (upd (ct_ke T) (nI b).toNatClampNeg x1)) (upd (ct_to (cs_ke T (upd (ct_ke T) (nI b).toNatClampNeg x1))) (nI b).toNatClampNeg x1)))) (wp_X0_T_6 ..) dX0_openBarge_26 (fun H locs hw => ?_)
  refine lv_iload_n hx hb dX0_openBarge_29 rfl (lv_at hl 0 rfl) ?_
  rw [show r_X0_openBarge w b n T x1 = (nI b) from by rw [r_X0_openBarge]]
  rw [show s_X0_openBarge w b n T x1 = (cs_to (cs_ke T (upd (ct_ke T) (nI b).toNatClampNeg x1)) (upd (ct_to (cs_ke T (upd (ct_ke T) (nI b).toNatClampNeg x1))) (nI b).toNatClampNeg x1)) from by rw [s_X0_openBarge]]
  exact g_ret hc hw rfl (Nat.le_of_ble_eq_true rfl) (Nat.le_of_ble_eq_true rfl) dX0_openBarge_30

def r_X0_takeAboard (w : Nat) (b : Nat) (n : Nat) (T : ct_T) (x1 : Int32) (x2 : Int32) : Int32 := if ((ct_to (s_X0_move w b n (cs_fe T (upd (ct_fe T) (nI n).toNatClampNeg x2)) (nI n) (0 : Int32) x1)) x1.toNatClampNeg) = (0 : Int32) then ((nI n)) else ((nI n))
def s_X0_takeAboard (w : Nat) (b : Nat) (n : Nat) (T : ct_T) (x1 : Int32) (x2 : Int32) : ct_T := if ((ct_to (s_X0_move w b n (cs_fe T (upd (ct_fe T) (nI n).toNatClampNeg x2)) (nI n) (0 : Int32) x1)) x1.toNatClampNeg) = (0 : Int32) then ((cs_to (s_X0_move w b n (cs_fe T (upd (ct_fe T) (nI n).toNatClampNeg x2)) (nI n) (0 : Int32) x1) (upd (ct_to (s_X0_move w b n (cs_fe T (upd (ct_fe T) (nI n).toNatClampNeg x2)) (nI n) (0 : Int32) x1)) x1.toNatClampNeg ((ct_ke (s_X0_move w b n (cs_fe T (upd (ct_fe T) (nI n).toNatClampNeg x2)) (nI n) (0 : Int32) x1)) x1.toNatClampNeg)))) else ((s_X0_move w b n (cs_fe T (upd (ct_fe T) (nI n).toNatClampNeg x2)) (nI n) (0 : Int32) x1))
abbrev rm_X0_takeAboard : Room := { frames := 1, cells := 0, slots := 0, locals := 23 }
set_option maxHeartbeats 4000000 in
set_option maxRecDepth 100000 in
theorem k_X0_takeAboard (l : Launch) (D : va_G) (cI cZ cL : ClassId) (a : Nat → Nat) (w : Nat) (b : Nat) (n : Nat) (T : ct_T) (hd5 : w ≤ 5) (hd4 : b ≤ 4) (hd30 : n ≤ 30) (x1 : Int32) (x2 : Int32) (hp1 : vp_in x1 4) (hlt : n < 30) : MX l yX0_takeAboard wsX0_takeAboard rm_X0_takeAboard D cI cZ cL [.ref (a 0), .int x1, .int x2] (wt_c a cI cZ w b n T) (some (.int (r_X0_takeAboard w b n T x1 x2))) (wt_c a cI cZ w b (n + 1) (s_X0_takeAboard w b n T x1 x2)) := by
  refine MX.of (own := RX0) (cc := cX0_takeAboard) (maxL := 4) (ret := (some .int)) (lv0 := [(0, .ref (a 0)), (1, .int x1), (2, .int x2)]) (by decide) rfl rfl (Nat.le_of_ble_eq_true rfl) rfl ?_
  intro p e s m args below meth c A hc hnm hw ls hl
  obtain ⟨hx, hb, hr, hml, hown, hts, hlk, hK, hA⟩ := id hc
  have hiX0 : ∀ w ∈ u_ws RX0 TX0 16, w ∈ wsX0_takeAboard := fun _ h => List.mem_cons_of_mem _ (List.mem_append_right _ h)
  refine lv_aload_n hx hb dX0_takeAboard_0 rfl (lv_at hl 0 rfl) ?_
  refine g_get (v := .int (nI n)) hc hw hiX0 0 9 (wo_X0_T ..) rfl (by decide) (List.mem_of_getElem? (i := 1) rfl) (wv_X0_T_9 ..) dX0_takeAboard_1 ?_
  refine lv_istore_n (lv' := [(3, .int (nI n)), (0, .ref (a 0)), (1, .int x1), (2, .int x2)]) hx hb dX0_takeAboard_4 rfl hl (by decide) rfl (fun ls hl => ?_)
  refine lv_aload_n hx hb dX0_takeAboard_5 rfl (lv_at hl 1 rfl) ?_
  refine g_get (v := .ref (a 10)) hc hw hiX0 0 10 (wo_X0_T ..) rfl (by decide) (List.mem_of_getElem? (i := 2) rfl) (wv_X0_T_10 ..) dX0_takeAboard_6 ?_
  refine lv_iload_n hx hb dX0_takeAboard_9 rfl (lv_at hl 0 rfl) ?_
  refine lv_iload_n hx hb dX0_takeAboard_10 rfl (lv_at hl 3 rfl) ?_
  refine g_iast (f := (ct_fe T)) hc hw 5 (wr_X0_T_10 ..) (vp_in_nI (show n < 30 by omega) (by omega)) (w' := (wt_c a cI cZ w b n (cs_fe T (upd (ct_fe T) (nI n).toNatClampNeg x2)))) (wu_X0_T_10 ..) dX0_takeAboard_11 (fun H locs hw => ?_)
  refine lv_aload_n hx hb dX0_takeAboard_12 rfl (lv_at hl 1 rfl) ?_
  refine lv_iload_n hx hb dX0_takeAboard_13 rfl (lv_at hl 0 rfl) ?_
  refine lv_iconst (v := 0) hx hb dX0_takeAboard_14 (by decide) ?_
  refine lv_iload_n hx hb dX0_takeAboard_15 rfl (lv_at hl 2 rfl) ?_
  refine g_callV0 (n := 3) hc hw (k_X0_move l D cI cZ cL a w b n (cs_fe T (upd (ct_fe T) (nI n).toNatClampNeg x2)) hd5 hd4 hd30 (nI n) (0 : Int32) x1 (vp_in_nI (show n < 30 by omega) (by omega))) gX0_takeAboard_X0_move rfl (by decide +kernel) ⟨Nat.le_of_ble_eq_true rfl, Nat.le_of_ble_eq_true rfl⟩ 0 (wo_X0_T ..) rfl rfl rfl (rest := []) rfl hl.1 (Nat.le_of_ble_eq_true rfl) (st1 := []) rfl dX0_takeAboard_16 (k2 := 0) (s2 := 0) rfl rfl ⟨Nat.le_of_ble_eq_true rfl, Nat.le_of_ble_eq_true rfl⟩ (fun H locs hw => ?_)
  refine lv_aload_n hx hb dX0_takeAboard_19 rfl (lv_at hl 1 rfl) ?_
  refine lv_dup hx hb dX0_takeAboard_20 rfl ?_
  refine g_get (v := .int (nI n)) hc hw hiX0 0 9 (wo_X0_T ..) rfl (by decide) (List.mem_of_getElem? (i := 1) rfl) (wv_X0_T_9 ..) dX0_takeAboard_21 ?_
  refine lv_iconst (v := 1) hx hb dX0_takeAboard_24 (by decide) ?_
  refine lv_iadd hx hb dX0_takeAboard_25 ?_
  rw [nI_1 n]
  refine g_put hc hw hiX0 tyX0 tyX0_ok nmX0 0 9 (wo_X0_T ..) rfl (by decide) (List.mem_of_getElem? (i := 1) rfl) (by decide) rfl rfl (Nat.le_of_ble_eq_true rfl) (w' := (wt_c a cI cZ w b (n + 1) (s_X0_move w b n (cs_fe T (upd (ct_fe T) (nI n).toNatClampNeg x2)) (nI n) (0 : Int32) x1))) (wp_X0_T_9 ..) dX0_takeAboard_26 (fun H locs hw => ?_)
  refine lv_aload_n hx hb dX0_takeAboard_29 rfl (lv_at hl 1 rfl) ?_
  refine g_get (v := .ref (a 8)) hc hw hiX0 0 8 (wo_X0_T ..) rfl (by decide) (List.mem_of_getElem? (i := 3) rfl) (wv_X0_T_8 ..) dX0_takeAboard_30 ?_
  refine lv_iload_n hx hb dX0_takeAboard_33 rfl (lv_at hl 2 rfl) ?_
  refine g_iald (f := (ct_to (s_X0_move w b n (cs_fe T (upd (ct_fe T) (nI n).toNatClampNeg x2)) (nI n) (0 : Int32) x1))) hc hw 4 (wr_X0_T_8 ..) hp1 dX0_takeAboard_34 ?_
  refine lv_if_ne (tgt := 50) hx hb dX0_takeAboard_35 (by decide) (fun c1 => ?_) (fun c1 => ?_)
  · refine lv_iload_n hx hb dX0_takeAboard_50 rfl (lv_at hl 0 rfl) ?_
    rw [show r_X0_takeAboard w b n T x1 x2 = (nI n) from by rw [r_X0_takeAboard, if_neg c1]]
    rw [show s_X0_takeAboard w b n T x1 x2 = (s_X0_move w b n (cs_fe T (upd (ct_fe T) (nI n).toNatClampNeg x2)) (nI n) (0 : Int32) x1) from by rw [s_X0_takeAboard, if_neg c1]]
    exact g_ret hc hw rfl (Nat.le_of_ble_eq_true rfl) (Nat.le_of_ble_eq_true rfl) dX0_takeAboard_51
  · refine lv_aload_n hx hb dX0_takeAboard_38 rfl (lv_at hl 1 rfl) ?_
    refine g_get (v := .ref (a 8)) hc hw hiX0 0 8 (wo_X0_T ..) rfl (by decide) (List.mem_of_getElem? (i := 3) rfl) (wv_X0_T_8 ..) dX0_takeAboard_39 ?_
    refine lv_iload_n hx hb dX0_takeAboard_42 rfl (lv_at hl 2 rfl) ?_
    refine lv_aload_n hx hb dX0_takeAboard_43 rfl (lv_at hl 1 rfl) ?_
    refine g_get (v := .ref (a 7)) hc hw hiX0 0 7 (wo_X0_T ..) rfl (by decide) (List.mem_of_getElem? (i := 4) rfl) (wv_X0_T_7 ..) dX0_takeAboard_44 ?_
    refine lv_iload_n hx hb dX0_takeAboard_47 rfl (lv_at hl 2 rfl) ?_
    refine g_iald (f := (ct_ke (s_X0_move w b n (cs_fe T (upd (ct_fe T) (nI n).toNatClampNeg x2)) (nI n) (0 : Int32) x1))) hc hw 3 (wr_X0_T_7 ..) hp1 dX0_takeAboard_48 ?_
    refine g_iast (f := (ct_to (s_X0_move w b n (cs_fe T (upd (ct_fe T) (nI n).toNatClampNeg x2)) (nI n) (0 : Int32) x1))) hc hw 4 (wr_X0_T_8 ..) hp1 (w' := (wt_c a cI cZ w b (n + 1) (cs_to (s_X0_move w b n (cs_fe T (upd (ct_fe T) (nI n).toNatClampNeg x2)) (nI n) (0 : Int32) x1) (upd (ct_to (s_X0_move w b n (cs_fe T (upd (ct_fe T) (nI n).toNatClampNeg x2)) (nI n) (0 : Int32) x1)) x1.toNatClampNeg ((ct_ke (s_X0_move w b n (cs_fe T (upd (ct_fe T) (nI n).toNatClampNeg x2)) (nI n) (0 : Int32) x1)) x1.toNatClampNeg))))) (wu_X0_T_8 ..) dX0_takeAboard_49 (fun H locs hw => ?_)
    refine lv_iload_n hx hb dX0_takeAboard_50 rfl (lv_at hl 0 rfl) ?_
    rw [show r_X0_takeAboard w b n T x1 x2 = (nI n) from by rw [r_X0_takeAboard, if_pos c1]]
    rw [show s_X0_takeAboard w b n T x1 x2 = (cs_to (s_X0_move w b n (cs_fe T (upd (ct_fe T) (nI n).toNatClampNeg x2)) (nI n) (0 : Int32) x1) (upd (ct_to (s_X0_move w b n (cs_fe T (upd (ct_fe T) (nI n).toNatClampNeg x2)) (nI n) (0 : Int32) x1)) x1.toNatClampNeg ((ct_ke (s_X0_move w b n (cs_fe T (upd (ct_fe T) (nI n).toNatClampNeg x2)) (nI n) (0 : Int32) x1)) x1.toNatClampNeg))) from by rw [s_X0_takeAboard, if_pos c1]]
    exact g_ret hc hw rfl (Nat.le_of_ble_eq_true rfl) (Nat.le_of_ble_eq_true rfl) dX0_takeAboard_51
end
section
theorem zz_look : (1 : Nat) = 1 := rfl
end
