/-! 15.b: the law's world, and the end of a turn -/
section LB
def Lw (cI cZ cL : ClassId) (h hm o : Nat) (a a2 am am2 : Nat → Nat) (th : Int32) (w b n : Nat) (T : ct_T) (M : mt_T) (w2 b2 n2 : Nat) (T2 : ct_T) (w3 b3 n3 : Nat) (M2 : mt_T) (f : Nat → Int64) : va_W := wb_m hm am am2 cI th w b n M w3 b3 n3 M2 ++ (wb_c h a a2 cI cZ w b n T w2 b2 n2 T2 ++ [(o, .inl (cL, 1, .inr (.inl f)))])
def Lok (w b n w2 b2 n2 w3 b3 n3 : Nat) : Prop := (w ≤ 5 ∧ b ≤ 4 ∧ n ≤ 30) ∧ (w2 ≤ 5 ∧ b2 ≤ 4 ∧ n2 ≤ 30) ∧ (w3 ≤ 5 ∧ b3 ≤ 4 ∧ n3 ≤ 30)
/-- the standing facts of the law's walk -/
def LC (p : Program) (s : State) (m : MethodId) (meth : Method) (c0 : Code) (b0 L : Nat) (xs : Nat → Int32) (D : va_G) (cI cZ cL : ClassId) : Prop := Cx p s m #[Value.ref b0] meth c0 cL_law 9 wsL_law RL ret D cI cZ cL (fun q => s.heap.size ≤ q) ∧ Tx (fun q => s.heap.size ≤ q) s ∧ va_X b0 L xs s s.heap ∧ b0 < s.heap.size
/-- the loop's head, its number being c -/
def LH (p : Program) (l : Launch) (e : Env) (s : State) (m : MethodId) (below : List Frame) (meth : Method) (c0 : Code) (b0 : Nat) (D : va_G) (cI cZ cL : ClassId) (h hm o : Nat) (a a2 am am2 : Nat → Nat) (c : Nat) : Prop := ∀ (H : Heap) (locs : List Loc) (ls : Array Slot) (th : Int32) (w b n : Nat) (T : ct_T) (M : mt_T) (w2 b2 n2 : Nat) (T2 : ct_T) (w3 b3 n3 : Nat) (M2 : mt_T) (f : Nat → Int64), Lok w b n w2 b2 n2 w3 b3 n3 → RR w b n T M → Wo D (fun q => s.heap.size ≤ q) s.heap (Lw cI cZ cL h hm o a a2 am am2 th w b n T M w2 b2 n2 T2 w3 b3 n3 M2 f) H locs → lv_has ls 9 [(4, .int (nI c)), (0, .ref b0), (1, .ref h), (2, .ref hm), (3, .ref o)] →
  W p l e room_1 s m #[Value.ref b0] below meth c0 H locs (60 + c) (700 + 6 * c) (lw_Z below #[Value.ref b0] s) (F0 m 23 ls [])
theorem l_back {p : Program} {l : Launch} {e : Env} {s : State} {m : MethodId} {below : List Frame} {meth : Method} {c0 : Code} {b0 L : Nat} {xs : Nat → Int32} {D : va_G} {cI cZ cL : ClassId} {h hm o : Nat} {a a2 am am2 : Nat → Nat} (hC : LC p s m meth c0 b0 L xs D cI cZ cL) {c : Nat} (hK : LH p l e s m below meth c0 b0 D cI cZ cL h hm o a a2 am am2 (c + 3)) {H : Heap} {locs : List Loc} {ls : Array Slot} {th : Int32} {w b n : Nat} {T : ct_T} {M : mt_T} {w2 b2 n2 : Nat} {T2 : ct_T} {w3 b3 n3 : Nat} {M2 : mt_T} {f : Nat → Int64} (hok : Lok w b n w2 b2 n2 w3 b3 n3) (hR : RR w b n T M) (hw : Wo D (fun q => s.heap.size ≤ q) s.heap (Lw cI cZ cL h hm o a a2 am am2 th w b n T M w2 b2 n2 T2 w3 b3 n3 M2 f) H locs) (hl : lv_has ls 9 [(4, .int (nI c)), (0, .ref b0), (1, .ref h), (2, .ref hm), (3, .ref o)]) {k n9 : Nat} (h1 : k ≤ 63 + c) (h2 : n9 ≤ 718 + 6 * c) :
    W p l e room_1 s m #[Value.ref b0] below meth c0 H locs k n9 (lw_Z below #[Value.ref b0] s) (F0 m 1840 ls []) := by
  obtain ⟨hc, hTx, hX, hb0⟩ := hC
  obtain ⟨hx, hb, hr, hml, hown, hts, hlk, hK9, hA⟩ := id hc
  refine W.widen (k := 60 + (c + 3)) (n := 700 + 6 * (c + 3)) (by omega) (by omega) ?_
  refine lv_iinc (v := nI (c + 3)) (lv' := [(4, .int (nI (c + 3))), (0, .ref b0), (1, .ref h), (2, .ref hm), (3, .ref o)]) hx hb dL_law_1840 hl (k := 0) rfl (nI_add c 3) (by decide) rfl (fun ls hl => ?_)
  refine lv_goto (tgt := 23) hx hb dL_law_1843 (by decide) ?_
  exact hK _ _ _ _ _ _ _ _ _ _ _ _ _ _ _ _ _ _ hok hR hw hl
theorem lg_same (x : Int64) : lg_cmp x x = 0 := by simp [lg_cmp]
end LB