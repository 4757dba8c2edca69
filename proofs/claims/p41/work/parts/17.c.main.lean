/-! 17.c: the law, from its entry -/
set_option maxHeartbeats 8000000 in
set_option maxRecDepth 100000 in
theorem law_loop {p : Program} {l : Launch} (hst : l.stackTraces = false) {e : Env} {s : State} {m : MethodId} {args : Array Value} {below : List Frame} {meth : Method} {c : Code} {H : Heap} {locs : List Loc} {Q : State → Prop} {D : va_G} {cI cZ cL : ClassId} {A : Nat → Prop} {ls : Array Slot} {h b0 : Nat} {a a2 : Nat → Nat} {w b n k : Nat} {T : ct_T} {w2 b2 n2 : Nat} {T2 : ct_T} {Z : sA} {S : sm_T} (hd5 : w ≤ 5) (hd4 : b ≤ 4) (hd30 : n ≤ 30) (he5 : w2 ≤ 5) (he4 : b2 ≤ 4) (he30 : n2 ≤ 30) (hk : k ≤ 60) (hD : DI w b n k T S) (hF : FH n T) (hc : Cx p s m args meth c cL_law 26 wsL_law RL ret D cI cZ cL A) (hT : Tx A s) (hwp : 0 < w) (hbp : 0 < b) {L : Nat} {xs : Nat → Int32} (hL : L < 2 ^ 31) (hX : va_X b0 L xs s s.heap) (hbl : b0 < s.heap.size) (hbA : ¬ A b0) (hw : Wo D A s.heap (wb_c h a a2 cI cZ w b n T w2 b2 n2 T2 ++ ws_s Z cI cL w b n (sm_dy S) (nI k) (sm_ea S) (sm_W S) (sm_B S) (sm_P S) []) H locs) (hl : lv_has ls 26 [(0, .ref b0), (1, .ref h), (2, .ref (zh Z)), (3, .int (nI w)), (4, .int (nI b)), (5, .int (nI 0))]) (kx : ∀ (H : Heap) (locs : List Loc) (ls : Array Slot), (∀ q ∈ locs, A q.base) → W p l e room_1 s m args below meth c H locs 60000 500000 Q (F0 m 791 ls [.int 1])) : W p l e room_1 s m args below meth c H locs 400 4000 Q (F0 m 34 ls []) := by
  obtain ⟨hx, hb, hr, hml, hown, hts, hlk, hK, hA⟩ := id hc
  refine lp_go0 (fun (t : Nat) => ∀ (n k : Nat) (T : ct_T) (w2 b2 n2 : Nat) (T2 : ct_T) (S : sm_T) (Z : sA), n ≤ 30 → k ≤ 60 → w2 ≤ 5 → b2 ≤ 4 → n2 ≤ 30 → DI w b n k T S → FH n T → ∀ (H : Heap) (locs : List Loc) (ls : Array Slot), Wo D A s.heap (wb_c h a a2 cI cZ w b n T w2 b2 n2 T2 ++ ws_s Z cI cL w b n (sm_dy S) (nI k) (sm_ea S) (sm_W S) (sm_B S) (sm_P S) []) H locs → lv_has ls 26 [(0, .ref b0), (1, .ref h), (2, .ref (zh Z)), (3, .int (nI w)), (4, .int (nI b)), (5, .int (nI t))] → W p l e room_1 s m args below meth c H locs (400 + 4000 * t) (4000 + 30000 * t) Q (F0 m 34 ls [])) 14 ?_ ?_ n k T w2 b2 n2 T2 S Z hd30 hk he5 he4 he30 hD hF H locs ls hw hl
  · intro t ht kk n k T w2 b2 n2 T2 S Z hd30 hk he5 he4 he30 hD hF H locs ls hw hl
    refine lv_iload hx hb dL_law_34 (lv_at hl 5 rfl) ?_
    refine lv_bipush (v := 14) hx hb dL_law_36 (by decide) ?_
    refine lv_icmp_ge (tgt := 786) hx hb dL_law_38 (by decide) (fun z => absurd z (nI_ge ht (by decide))) (fun _ => ?_)
    exact law_T hst hd5 hd4 hd30 he5 he4 he30 hk hD hF hc hT (ce := 400 + 4000 * t) (sl := 4000 + 30000 * t) (by omega) (by omega) hwp hbp (by omega) (by omega) hL hX hbl hbA ht hw hl (fun n1 k1 T1 w3 b3 n3 T3 S1 Z1 g1 g2 g3 g4 g5 g6 g7 H locs ls hw hl => W.widen (show 4000 + (400 + 4000 * t) ≤ 400 + 4000 * (t + 1) by omega) (show 30000 + (4000 + 30000 * t) ≤ 4000 + 30000 * (t + 1) by omega) (kk n1 k1 T1 w3 b3 n3 T3 S1 Z1 g1 g2 g3 g4 g5 g6 g7 H locs ls hw hl))
  · intro n k T w2 b2 n2 T2 S Z hd30 hk he5 he4 he30 hD hF H locs ls hw hl
    refine lv_iload hx hb dL_law_34 (lv_at hl 5 rfl) ?_
    refine lv_bipush (v := 14) hx hb dL_law_36 (by decide) ?_
    refine lv_icmp_ge (tgt := 786) hx hb dL_law_38 (by decide) (fun _ => ?_) (fun z => absurd (by decide) z)
    refine lv_aload_n hx hb dL_law_786 rfl (lv_at hl 2 rfl) ?_
    refine lv_aload_n hx hb dL_law_787 rfl (lv_at hl 1 rfl) ?_
    refine G_callV (n := 1) (q0 := 23 + (0)) (As := [.ref h]) (rest := []) hc hT hw.2.2 (Pt.all hw hA) (k_X2_isSame hst D cI cZ cL (dy := sm_dy S) (ea := sm_ea S) (Wr := sm_W S) (Br := sm_B S) (Pr := sm_P S) hd5 hd4 hd30 he5 he4 he30 hk hD) gL_law_X2_isSame rfl (by decide +kernel) ⟨Nat.le_of_ble_eq_true rfl, Nat.le_of_ble_eq_true rfl⟩ (two_get s_H) rfl rfl rfl rfl hl.1 (Nat.le_of_ble_eq_true rfl) dL_law_788 (k2 := 56800) (s2 := 426400) (by decide) (by decide) ⟨Nat.le_of_ble_eq_true rfl, Nat.le_of_ble_eq_true rfl⟩ (fun res w1 H locs hG hw => ?_)
    obtain ⟨rfl, rfl⟩ := hG
    exact W.widen (show 56800 ≤ 60000 by decide) (show 426400 ≤ 500000 by decide) (kx H locs ls hw.2.2.2.2)
section LS
theorem l_exit {p : Program} {l : Launch} {e : Env} {s : State} {m : MethodId} {below : List Frame} {meth : Method} {c0 : Code} {b0 : Nat} {D : va_G} {cI cZ cL : ClassId} (hc : Cx p s m #[Value.ref b0] meth c0 cL_law 26 wsL_law RL ret D cI cZ cL (fun q => s.heap.size ≤ q)) {H : Heap} {locs : List Loc} {ls : Array Slot} {k n9 : Nat} (hf : ∀ q ∈ locs, s.heap.size ≤ q.base) (h1 : k ≤ 600172) (h2 : n9 ≤ 7300668) : W p l e room_1 s m #[Value.ref b0] below meth c0 H locs k n9 (lw_Z below #[Value.ref b0] s) (F0 m 791 ls [.int 1]) := by
  obtain ⟨hx, hb, hr, hml, hown, hts, hlk, hK9, hA⟩ := id hc
  refine va_forget hf ?_
  refine W.widen h1 h2 ?_
  refine W.base ?_
  exact lw_ret (Drawn.sameBut.refl s.drawn lw_cs) hx hb hr hlk dL_law_791
theorem l_m1 : Cond.classLink RL 32 RX1 ∈ wsL_law ∧ Cond.instantiable RX1 2 ∈ wsL_law ∧ Cond.initialized RX1 ∈ wsL_law ∧ Cond.methodLink RL 75 yX1_init ∈ wsL_law ∧ Cond.instanceMethod yX1_init ∈ wsL_law := ⟨(List.mem_of_getElem? (i := 0) rfl), (List.mem_of_getElem? (i := 1) rfl), (List.mem_of_getElem? (i := 2) rfl), (List.mem_of_getElem? (i := 14) rfl), (List.mem_of_getElem? (i := 15) rfl)⟩
set_option maxHeartbeats 8000000 in
set_option maxRecDepth 100000 in
theorem whole_start {p : Program} {e : Env} {s : State} {m : MethodId} {below : List Frame} {meth : Method} {c : Code} (l : Launch) (hflags : l.flags = flags0) {b L : Nat} {xs : Nat → Int32} (hL : L ≤ 260) (C0 : lw_At p s m meth c b L xs) : W p l e room_1 s m #[Value.ref b] below meth c s.heap [] 0 0 (lw_Z below #[Value.ref b] s) (entryFrame m ([Value.ref b] : List Value).toArray 26) := by
  obtain ⟨hx, hb, hr, hml, hown, hts, hX, hbl, hlocks, hgv⟩ := id C0
  obtain ⟨D, cI, cZ, cL, hK⟩ := l_K hts
  have hT := l_Tx hts hgv
  have hst : l.stackTraces = false := by unfold Launch.stackTraces; rw [hflags]; decide
  have hc : Cx p s m #[Value.ref b] meth c cL_law 26 wsL_law RL ret D cI cZ cL (fun q => s.heap.size ≤ q) := ⟨hx, hb, hr, hml, hown, fun w h => hts w (wsL_law_in w h), hlocks, hK, fun q h => h⟩
  have hA : ∀ q, s.heap.size ≤ q → (fun q => s.heap.size ≤ q) q := fun q h => h
  have hbA : ¬ (fun q : Nat => s.heap.size ≤ q) b := Nat.not_le.mpr hbl
  have hl := lv_entry ([.ref b]) (n := 26) (Nat.le_of_ble_eq_true rfl)
  rw [lg_entry_eq]
  generalize (lg_sl ([.ref b]) ++ List.replicate (26 - (lg_sl ([.ref b])).length) Slot.unset).toArray = ls at hl ⊢
  have hl : lv_has ls 26 [(0, .ref b)] := hl
  have hw : Wo D (fun q => s.heap.size ≤ q) s.heap [] s.heap [] := ⟨fun k q h => by simp at h, ⟨fun i j p q h => by simp at h, fun k q h => by simp at h⟩, va_S.rf⟩
  refine g_new (ci := 1) (fs := gx_f1) hc hw inlX1 tyX1 tyX1_ok l_m1.1 l_m1.2.1 l_m1.2.2.1 rfl (fun j hj => by rcases (show j = 0 ∨ j = 1 by omega) with rfl | rfl <;> rfl) (Nat.le_of_ble_eq_true rfl) (Nat.le_of_ble_eq_true rfl) dL_law_0 (fun h H locs hw => ?_)
  refine lv_dup hx hb dL_law_3 rfl ?_
  refine n_callI (wc := [(h, .inr (1, gx_f1))]) (wr := []) hc hw (k_X1_init l D cI cZ cL h) gL_law_X1_init rfl l_m1.2.2.1 l_m1.2.2.2.1 l_m1.2.2.2.2 rfl (by decide +kernel) ⟨Nat.le_of_ble_eq_true rfl, Nat.le_of_ble_eq_true rfl⟩ [0] [] rfl rfl rfl (by decide) rfl hl.1 (Nat.le_of_ble_eq_true rfl) dL_law_4 (k2 := 23) (s2 := 380) rfl rfl ⟨Nat.le_of_ble_eq_true rfl, Nat.le_of_ble_eq_true rfl⟩ (fun w1 H locs hg hw => ?_)
  obtain ⟨a, a2, rfl⟩ := hg
  refine lv_astore_n (lv' := [(1, .ref h), (0, .ref b)]) hx hb dL_law_7 rfl hl (by decide) rfl (fun ls hl => ?_)
  refine lv_aload_n hx hb dL_law_8 rfl (lv_at hl 0 rfl) ?_
  refine lv_aload_n hx hb dL_law_9 rfl (lv_at hl 1 rfl) ?_
  replace hw : Wo D (fun q => s.heap.size ≤ q) s.heap (wb_c h a a2 cI cZ 0 0 0 ct_0 0 0 0 ct_0) H locs := hw
  refine G_callSS (n := 2) (As := [.ref h, .ref b]) (rest := []) hc hT hw.2.2 hX hbl hbA (Pt.all hw hA) (k_L_build hst D cI cZ cL b L xs (by omega)) gL_law_L_build rfl (by decide +kernel) ⟨Nat.le_of_ble_eq_true rfl, Nat.le_of_ble_eq_true rfl⟩ rfl rfl hl.1 (Nat.le_of_ble_eq_true rfl) dL_law_10 (k2 := 283) (s2 := 3180) (by decide) (by decide) ⟨Nat.le_of_ble_eq_true rfl, Nat.le_of_ble_eq_true rfl⟩ (fun res w1 H locs hG hw => ?_)
  obtain ⟨w1, b1, n, T, S, Z, hwp, hd5, hbp, hd4, hd30, hD, hF, rfl, rfl⟩ := hG
  replace hw : Wo D (fun q => s.heap.size ≤ q) s.heap (wb_c h a a2 cI cZ w1 b1 n T 0 0 0 ct_0 ++ ws_s Z cI cL w1 b1 n (sm_dy S) (nI 20) (sm_ea S) (sm_W S) (sm_B S) (sm_P S) []) H locs := hw
  show W p l e room_1 s m #[Value.ref b] below meth c H locs 283 3180 (lw_Z below #[Value.ref b] s) (F0 m 13 ls [.ref (zh Z)])
  refine lv_astore_n (lv' := [(2, .ref (zh Z)), (1, .ref h), (0, .ref b)]) hx hb dL_law_13 rfl hl (by decide) rfl (fun ls hl => ?_)
  refine lv_aload_n hx hb dL_law_14 rfl (lv_at hl 0 rfl) ?_
  refine lv_ifnonnull (tgt := 20) hx hb dL_law_15 (by decide) ?_
  refine lv_aload_n hx hb dL_law_20 rfl (lv_at hl 1 rfl) ?_
  refine p_callV (n := 0) (q0 := 0) (rest := []) hc hw.2.2 (Pt.front hw hA) (n_wards l D cI cZ cL h a a2 hd5 hd4 hd30 (by omega) (by omega) (by omega)) gL_law_X1_wards rfl (by decide +kernel) ⟨Nat.le_of_ble_eq_true rfl, Nat.le_of_ble_eq_true rfl⟩ rfl rfl rfl rfl rfl hl.1 (Nat.le_of_ble_eq_true rfl) (st1 := [.int (nI w1)]) rfl dL_law_21 (k2 := 283) (s2 := 3180) (by decide) (by decide) ⟨Nat.le_of_ble_eq_true rfl, Nat.le_of_ble_eq_true rfl⟩ (fun H locs hw => ?_)
  refine lv_istore_n (lv' := [(3, .int (nI w1)), (2, .ref (zh Z)), (1, .ref h), (0, .ref b)]) hx hb dL_law_24 rfl hl (by decide) rfl (fun ls hl => ?_)
  refine lv_aload_n hx hb dL_law_25 rfl (lv_at hl 2 rfl) ?_
  refine p_callV (n := 0) (q0 := 0) (rest := []) hc hw.2.2 (Pt.front hw hA) (n_barges l D cI cZ cL h a a2 hd5 hd4 hd30 (by omega) (by omega) (by omega)) gL_law_X1_barges rfl (by decide +kernel) ⟨Nat.le_of_ble_eq_true rfl, Nat.le_of_ble_eq_true rfl⟩ rfl rfl rfl rfl rfl hl.1 (Nat.le_of_ble_eq_true rfl) (st1 := [.int (nI b1)]) rfl dL_law_26 (k2 := 283) (s2 := 3180) (by decide) (by decide) ⟨Nat.le_of_ble_eq_true rfl, Nat.le_of_ble_eq_true rfl⟩ (fun H locs hw => ?_)
  refine lv_istore (lv' := [(4, .int (nI b1)), (3, .int (nI w1)), (2, .ref (zh Z)), (1, .ref h), (0, .ref b)]) hx hb dL_law_29 hl (by decide) rfl (fun ls hl => ?_)
  refine lv_iconst (v := 0) hx hb dL_law_31 (by decide) ?_
  refine lv_istore (lv' := [(5, .int (0 : Int32)), (4, .int (nI b1)), (3, .int (nI w1)), (2, .ref (zh Z)), (1, .ref h), (0, .ref b)]) hx hb dL_law_32 hl (by decide) rfl (fun ls hl => ?_)
  refine W.widen (show 283 ≤ 400 by decide) (show 3180 ≤ 4000 by decide) ?_
  exact law_loop hst hd5 hd4 hd30 (by omega) (by omega) (by omega) (by omega) hD hF hc hT hwp hbp (show L < 2 ^ 31 by omega) hX hbl hbA hw (lv_sub hl [5, 4, 3, 2, 1, 0] rfl) (fun H locs ls hf => l_exit hc hf (by decide) (by decide))
end LS
