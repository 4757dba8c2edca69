/-! 15.b: act: the same done to both towns, told alike -/
def ga (h : Nat) (a a2 : Nat → Nat) (cI cZ cL : ClassId) (w b w2 b2 n2 : Nat) (T2 : ct_T) (z0 : Nat) (res : Option Value) (w1 : va_W) : Prop := res = some (.int 1) ∧ ∃ (n k : Nat) (T : ct_T) (S : sm_T) (Z : sA), n ≤ 30 ∧ k ≤ 60 ∧ DI w b n k T S ∧ FH n T ∧ zh Z = z0 ∧ w1 = wb_c h a a2 cI cZ w b n T w2 b2 n2 T2 ++ ws_m Z cI cL w b n (nI k) S []
theorem nI_nge30 {n : Nat} (h : n < 30) : ¬ (30 : Int32) ≤ nI n := fun z => absurd ((nI_leI (a := 30) (b := n) (by decide) (by omega)).mp z) (by omega)
abbrev rm_L_act : Room := { frames := 8, cells := 130, slots := 3200, locals := 135 }
set_option maxHeartbeats 8000000 in
set_option maxRecDepth 100000 in
theorem act_76 {p : Program} {l : Launch} (hst : l.stackTraces = false) {e : Env} {s : State} {m : MethodId} {args : Array Value} {below : List Frame} {meth : Method} {c : Code} {H : Heap} {locs : List Loc} {D : va_G} {cI cZ cL : ClassId} {A : Nat → Prop} {ls : Array Slot} {h : Nat} {a a2 : Nat → Nat} {w b n k : Nat} {T : ct_T} {w2 b2 n2 : Nat} {T2 : ct_T} {Z : sA} {dy ea : Int32} {Wr Br Pr : Nat → Nat → Int32} (hd5 : w ≤ 5) (hd4 : b ≤ 4) (hd30 : n ≤ 30) (he5 : w2 ≤ 5) (he4 : b2 ≤ 4) (he30 : n2 ≤ 30) (hwp : 0 < w) (hbp : 0 < b) (hk : k ≤ 60) (hD : DI w b n k T (dy, ea, Wr, Br, Pr)) (hF : FH n T) (hn : n < 30) {x : Int32} {v3 v4 : Nat} (hv3 : v3 < w) (hv4 : v4 < b) (hc : Cx p s m args meth c cL_act 10 wsL_act RL (some .boolean) D cI cZ cL A) (hT : Tx A s) (htb : c.exceptionTable.toList = tableOf [(180, 208, 209, 36), (408, 430, 431, 36)]) (hw : Wo D A s.heap (wb_c h a a2 cI cZ w b n T w2 b2 n2 T2 ++ ws_s Z cI cL w b n dy (nI k) ea Wr Br Pr []) H locs) (hl : lv_has ls 10 [(4, .int (nI v4)), (3, .int (nI v3)), (0, .ref h), (1, .ref (zh Z)), (2, .int x)]) : W p l e rm_L_act s m args below meth c H locs 0 0 (GE below args s D A (ga h a a2 cI cZ cL w b w2 b2 n2 T2 (zh Z)) rm_L_act) (F0 m 76 ls []) := by
  obtain ⟨hx, hb, hr, hml, hown, hts, hlk, hK, hA⟩ := id hc
  have hi2 : ∀ w ∈ u_ws RX2 TX2 6, w ∈ wsL_act := fun _ h => List.mem_cons_of_mem _ (List.mem_append_left _ (List.mem_append_left _ (List.mem_append_left _ (List.mem_append_left _ (List.mem_append_left _ (List.mem_append_right _ h))))))
  have hX : RX w b n T Wr Br Pr := hD.1.1
  refine lv_iload_n hx hb dL_act_76 rfl (lv_at hl 4 rfl) ?_
  refine lv_bipush (v := 6) hx hb dL_act_77 (by decide) ?_
  refine lv_ishr hx hb dL_act_79 ?_
  refine lv_bipush (v := 10) hx hb dL_act_80 (by decide) ?_
  refine g_callS0 (n := 2) (As := [.int (x >>> ((6 : Int32) &&& 31)), .int (nI 10)]) (rest := []) hc hw (k_L_below l D cI cZ cL (x >>> ((6 : Int32) &&& 31)) 10 (by omega) (by omega)) gL_act_L_below rfl (by decide +kernel) ⟨Nat.le_of_ble_eq_true rfl, Nat.le_of_ble_eq_true rfl⟩ rfl rfl hl.1 (Nat.le_of_ble_eq_true rfl) (st1 := [.int (nI (bl (x >>> ((6 : Int32) &&& 31)) 10))]) rfl dL_act_82 (k2 := 0) (s2 := 0) (by show 0 + 0 = 0; omega) (by show 0 + 0 = 0; omega) ⟨(Nat.le_trans (show 0 ≤ 130 by omega) (Nat.le_of_ble_eq_true rfl)), (Nat.le_trans (show 0 ≤ 3200 by omega) (Nat.le_of_ble_eq_true rfl))⟩ (fun H locs hw => ?_)
  obtain ⟨y1, hy1, ey1⟩ : ∃ v, v < 10 ∧ bl (x >>> ((6 : Int32) &&& 31)) 10 = v := ⟨_, bl_lt _ (by omega), rfl⟩
  rw [ey1]
  refine lv_istore (lv' := [(5, .int (nI y1)), (4, .int (nI v4)), (3, .int (nI v3)), (0, .ref h), (1, .ref (zh Z)), (2, .int x)]) hx hb dL_act_85 hl (by decide) rfl (fun ls hl => ?_)
  refine lv_aload_n hx hb dL_act_87 rfl (lv_at hl 4 rfl) ?_
  refine g_get (v := .ref (zy Z 5)) hc hw hi2 (23 + (0)) 5 (two_get s_H) rfl (by decide) (List.mem_of_getElem? (i := 4) rfl) sv_5 dL_act_88 ?_
  refine va_alen (v := nI n) hx hb hK.1 hw.1 (23 + (3)) 2 (two_get s_Y5) rfl rfl dL_act_91 ?_
  refine lv_bipush (v := 30) hx hb dL_act_92 (by decide) ?_
  refine lv_icmp_ge (tgt := 101) hx hb dL_act_94 (by decide) (fun z => absurd z (nI_nge30 hn)) (fun _ => ?_)
  refine lv_iconst (v := 1) hx hb dL_act_97 (by decide) ?_
  refine lv_goto (tgt := 102) hx hb dL_act_98 (by decide) ?_
  refine lv_istore (lv' := [(6, .int (1 : Int32)), (5, .int (nI y1)), (4, .int (nI v4)), (3, .int (nI v3)), (0, .ref h), (1, .ref (zh Z)), (2, .int x)]) hx hb dL_act_102 hl (by decide) rfl (fun ls hl => ?_)
  refine lv_iload hx hb dL_act_104 (lv_at hl 0 rfl) ?_
  refine lv_if_eq (tgt := 180) hx hb dL_act_106 (by decide) (fun z => absurd z (by decide)) (fun _ => ?_)
  refine lv_aload_n hx hb dL_act_109 rfl (lv_at hl 5 rfl) ?_
  refine lv_aload_n hx hb dL_act_110 rfl (lv_at hl 5 rfl) ?_
  refine g_get (v := .ref (zy Z 5)) hc hw hi2 (23 + (0)) 5 (two_get s_H) rfl (by decide) (List.mem_of_getElem? (i := 4) rfl) sv_5 dL_act_111 ?_
  refine lv_bipush (v := 6) hx hb dL_act_114 (by decide) ?_
  refine g_newI hc hw (N := 6) (List.mem_of_getElem? (i := 5) rfl) (by decide) (by decide) (by show 6 * 4 ≤ 536870912; omega) (Nat.le_trans (show 0 + 1 ≤ 130 by omega) (Nat.le_of_ble_eq_true rfl)) (Nat.le_trans (show 0 + 6 ≤ 3200 by omega) (Nat.le_of_ble_eq_true rfl)) dL_act_116 (fun q1 H locs hw => ?_)
  replace hw : Wo D A s.heap (wb_c h a a2 cI cZ w b n T w2 b2 n2 T2 ++ ws_s Z cI cL w b n dy (nI k) ea Wr Br Pr [(q1, .inl (cI, 6, .inl (fun _ => (0 : Int32))))]) H locs := by have h9 := hw; rw [List.append_assoc, s_push] at h9; exact h9
  refine W.widen (show _ ≤ 1 by omega) (show 0 + 6 ≤ 6 by omega) ?_
  refine lv_dup hx hb dL_act_118 rfl ?_
  refine lv_iconst (v := 0) hx hb dL_act_119 (by decide) ?_
  refine lv_iload hx hb dL_act_120 (lv_at hl 1 rfl) ?_
  refine r_st (f := (fun _ => (0 : Int32))) (k := 0) hc hw (23 + (4 + (w + (b + (n + 0))))) (two_get (s_E.trans rfl)) (by unfold vp_in; decide) (by decide) (w' := (wb_c h a a2 cI cZ w b n T w2 b2 n2 T2 ++ ws_s Z cI cL w b n dy (nI k) ea Wr Br Pr [(q1, .inl (cI, 6, .inl (upd (fun _ => (0 : Int32)) 0 (nI y1))))])) (two_set (su_E rfl)) dL_act_122 (fun H locs hw => ?_)
  refine lv_dup hx hb dL_act_123 rfl ?_
  refine lv_iconst (v := 1) hx hb dL_act_124 (by decide) ?_
  refine lv_iconst (v := -1) hx hb dL_act_125 (by decide) ?_
  refine r_st (f := (upd (fun _ => (0 : Int32)) 0 (nI y1))) (k := 1) hc hw (23 + (4 + (w + (b + (n + 0))))) (two_get (s_E.trans rfl)) (by unfold vp_in; decide) (by decide) (w' := (wb_c h a a2 cI cZ w b n T w2 b2 n2 T2 ++ ws_s Z cI cL w b n dy (nI k) ea Wr Br Pr [(q1, .inl (cI, 6, .inl (upd (upd (fun _ => (0 : Int32)) 0 (nI y1)) 1 (-1 : Int32))))])) (two_set (su_E rfl)) dL_act_126 (fun H locs hw => ?_)
  refine lv_dup hx hb dL_act_127 rfl ?_
  refine lv_iconst (v := 2) hx hb dL_act_128 (by decide) ?_
  refine lv_iload hx hb dL_act_129 (lv_at hl 2 rfl) ?_
  refine r_st (f := (upd (upd (fun _ => (0 : Int32)) 0 (nI y1)) 1 (-1 : Int32))) (k := 2) hc hw (23 + (4 + (w + (b + (n + 0))))) (two_get (s_E.trans rfl)) (by unfold vp_in; decide) (by decide) (w' := (wb_c h a a2 cI cZ w b n T w2 b2 n2 T2 ++ ws_s Z cI cL w b n dy (nI k) ea Wr Br Pr [(q1, .inl (cI, 6, .inl (upd (upd (upd (fun _ => (0 : Int32)) 0 (nI y1)) 1 (-1 : Int32)) 2 (nI v4))))])) (two_set (su_E rfl)) dL_act_131 (fun H locs hw => ?_)
  refine lv_dup hx hb dL_act_132 rfl ?_
  refine lv_iconst (v := 3) hx hb dL_act_133 (by decide) ?_
  refine lv_iconst (v := 0) hx hb dL_act_134 (by decide) ?_
  refine r_st (f := (upd (upd (upd (fun _ => (0 : Int32)) 0 (nI y1)) 1 (-1 : Int32)) 2 (nI v4))) (k := 3) hc hw (23 + (4 + (w + (b + (n + 0))))) (two_get (s_E.trans rfl)) (by unfold vp_in; decide) (by decide) (w' := (wb_c h a a2 cI cZ w b n T w2 b2 n2 T2 ++ ws_s Z cI cL w b n dy (nI k) ea Wr Br Pr [(q1, .inl (cI, 6, .inl (upd (upd (upd (upd (fun _ => (0 : Int32)) 0 (nI y1)) 1 (-1 : Int32)) 2 (nI v4)) 3 (0 : Int32))))])) (two_set (su_E rfl)) dL_act_135 (fun H locs hw => ?_)
  refine lv_dup hx hb dL_act_136 rfl ?_
  refine lv_iconst (v := 4) hx hb dL_act_137 (by decide) ?_
  refine lv_iconst (v := 0) hx hb dL_act_138 (by decide) ?_
  refine r_st (f := (upd (upd (upd (upd (fun _ => (0 : Int32)) 0 (nI y1)) 1 (-1 : Int32)) 2 (nI v4)) 3 (0 : Int32))) (k := 4) hc hw (23 + (4 + (w + (b + (n + 0))))) (two_get (s_E.trans rfl)) (by unfold vp_in; decide) (by decide) (w' := (wb_c h a a2 cI cZ w b n T w2 b2 n2 T2 ++ ws_s Z cI cL w b n dy (nI k) ea Wr Br Pr [(q1, .inl (cI, 6, .inl (upd (upd (upd (upd (upd (fun _ => (0 : Int32)) 0 (nI y1)) 1 (-1 : Int32)) 2 (nI v4)) 3 (0 : Int32)) 4 (0 : Int32))))])) (two_set (su_E rfl)) dL_act_139 (fun H locs hw => ?_)
  refine lv_dup hx hb dL_act_140 rfl ?_
  refine lv_iconst (v := 5) hx hb dL_act_141 (by decide) ?_
  refine lv_iconst (v := 0) hx hb dL_act_142 (by decide) ?_
  refine r_st (f := (upd (upd (upd (upd (upd (fun _ => (0 : Int32)) 0 (nI y1)) 1 (-1 : Int32)) 2 (nI v4)) 3 (0 : Int32)) 4 (0 : Int32))) (k := 5) hc hw (23 + (4 + (w + (b + (n + 0))))) (two_get (s_E.trans rfl)) (by unfold vp_in; decide) (by decide) (w' := (wb_c h a a2 cI cZ w b n T w2 b2 n2 T2 ++ ws_s Z cI cL w b n dy (nI k) ea Wr Br Pr [(q1, .inl (cI, 6, .inl (upd (upd (upd (upd (upd (upd (fun _ => (0 : Int32)) 0 (nI y1)) 1 (-1 : Int32)) 2 (nI v4)) 3 (0 : Int32)) 4 (0 : Int32)) 5 (0 : Int32))))])) (two_set (su_E rfl)) dL_act_143 (fun H locs hw => ?_)
  refine G_callS (n := 2) (As := [.ref (zy Z 5), .ref q1]) (rest := [.ref (zh Z)]) hc hT hw.2.2 (Pt.all hw hA) (k_X2_with l D cI cZ cL (k := n) (w0 := (wb_c h a a2 cI cZ w b n T w2 b2 n2 T2 ++ ws_s Z cI cL w b n dy (nI k) ea Wr Br Pr [(q1, .inl (cI, 6, .inl (upd (upd (upd (upd (upd (upd (fun _ => (0 : Int32)) 0 (nI y1)) 1 (-1 : Int32)) 2 (nI v4)) 3 (0 : Int32)) 4 (0 : Int32)) 5 (0 : Int32))))])) (23 + (3)) (23 + (4 + (w + (b + (n + 0))))) (by omega) (two_get s_Y5) (fun i hi => ⟨_, _, _, two_get (s_P hi)⟩) (two_get (s_E.trans rfl))) gL_act_X2_with rfl (by decide +kernel) ⟨Nat.le_of_ble_eq_true rfl, Nat.le_of_ble_eq_true rfl⟩ rfl rfl hl.1 (Nat.le_of_ble_eq_true rfl) dL_act_144 (k2 := 2) (s2 := 37) (by show 1 + 1 = 2; omega) (by show 6 + 31 = 37; omega) ⟨(Nat.le_trans (show 2 ≤ 130 by omega) (Nat.le_of_ble_eq_true rfl)), (Nat.le_trans (show 37 ≤ 3200 by omega) (Nat.le_of_ble_eq_true rfl))⟩ (fun res w1 H locs hG hw => ?_)
  obtain ⟨q2, rfl, rfl⟩ := hG
  replace hw : Wo D A s.heap (wb_c h a a2 cI cZ w b n T w2 b2 n2 T2 ++ ws_s Z cI cL w b n dy (nI k) ea Wr Br Pr [(q1, .inl (cI, 6, .inl (upd (upd (upd (upd (upd (upd (fun _ => (0 : Int32)) 0 (nI y1)) 1 (-1 : Int32)) 2 (nI v4)) 3 (0 : Int32)) 4 (0 : Int32)) 5 (0 : Int32)))), (q2, .inl (cL, n + 1, rf_s (ax (zp Z) n q1)))]) H locs := by have h9 := hw; rw [List.append_assoc, s_push] at h9; exact h9
  show W p l e rm_L_act s m args below meth c H locs 2 37 (GE below args s D A (ga h a a2 cI cZ cL w b w2 b2 n2 T2 (zh Z)) rm_L_act) (F0 m 147 ls [.ref q2, .ref (zh Z)])
  refine g_put hc hw hi2 tyX2 tyX2_ok nmX2 (23 + (0)) 5 (two_get s_H) rfl (by decide) (List.mem_of_getElem? (i := 4) rfl) (by decide) rfl rfl (Nat.le_of_ble_eq_true rfl) (w' := (wb_c h a a2 cI cZ w b n T w2 b2 n2 T2 ++ (ws_s Z cI cL w b n dy (nI k) ea Wr Br Pr [(q1, .inl (cI, 6, .inl (upd (upd (upd (upd (upd (upd (fun _ => (0 : Int32)) 0 (nI y1)) 1 (-1 : Int32)) 2 (nI v4)) 3 (0 : Int32)) 4 (0 : Int32)) 5 (0 : Int32)))), (q2, .inl (cL, n + 1, rf_s (ax (zp Z) n q1)))]).set 0 (zh Z, .inr (2, (wf_s Z dy (nI k) ea).set 5 (.ref q2))))) (two_set rfl) dL_act_147 (fun H locs hw => ?_)
  replace hw := sh_P hw
  refine lv_aload_n hx hb dL_act_150 rfl (lv_at hl 5 rfl) ?_
  refine g_get (v := .ref (zy (zP Z n q1 q2) 4)) hc hw hi2 (23 + (0)) 4 (two_get s_H) rfl (by decide) (List.mem_of_getElem? (i := 3) rfl) sv_4 dL_act_151 ?_
  refine lv_iload hx hb dL_act_154 (lv_at hl 2 rfl) ?_
  refine g_aald (v := zb (zP Z n q1 q2) v4) hc hw (23 + (2)) (two_get s_Y4) (vp_in_nI (show v4 < b by omega) (by omega)) (congrArg (fun q => some (zb (zP Z n q1 q2) q)) (nI_clamp (show v4 < 2 ^ 31 by omega))) dL_act_156 ?_
  refine lv_iconst (v := 1) hx hb dL_act_157 (by decide) ?_
  refine r_ld (f := (Br v4)) (k := 1) hc hw (23 + (4 + (w + v4))) (two_get (s_B (show v4 < b by omega))) (by unfold vp_in; decide) (by decide) dL_act_158 ?_
  refine lv_if_ne (tgt := 180) hx hb dL_act_159 (by decide) (fun c1 => ?_) (fun c1 => ?_)
  · refine lv_aload_n hx hb dL_act_180 rfl (lv_at hl 4 rfl) ?_
    refine lv_iload hx hb dL_act_181 (lv_at hl 2 rfl) ?_
    refine lv_iload hx hb dL_act_183 (lv_at hl 1 rfl) ?_
    obtain ⟨e1, e2, hD2, hF2⟩ := op_board (r := (upd (upd (upd (upd (upd (upd (fun _ => (0 : Int32)) 0 (nI y1)) 1 (-1 : Int32)) 2 (nI v4)) 3 (0 : Int32)) 4 (0 : Int32)) 5 (0 : Int32))) (w2 := w2) (b2 := b2) (n2 := n2) (T2 := T2) hd4 hn hD hF (show v4 < b by omega) (show y1 ≤ 9 by omega) rfl rfl rfl rfl rfl rfl
    refine G_callT (n := 2) (q0 := 0) (rest := []) hc hT hw.2.2 (Pt.front hw hA) ((k_X1_board hst D cI cZ cL h a a2 w b n T w2 b2 n2 T2 hd5 hd4 hd30 he5 he4 he30 (nI v4) (nI y1)).to e1 (congrArg (fun v : Int32 => some (Value.int v)) e2)) gL_act_X1_board rfl (by decide +kernel) ⟨Nat.le_of_ble_eq_true rfl, Nat.le_of_ble_eq_true rfl⟩ rfl rfl rfl rfl rfl hl.1 (Nat.le_of_ble_eq_true rfl) (st1 := [.int (nI n)]) rfl dL_act_185 (k2 := 4) (s2 := 49) (by show 2 + 2 = 4; omega) (by show 37 + 12 = 49; omega) ⟨(Nat.le_trans (show 4 ≤ 130 by omega) (Nat.le_of_ble_eq_true rfl)), (Nat.le_trans (show 49 ≤ 3200 by omega) (Nat.le_of_ble_eq_true rfl))⟩ (fun H locs hw => ?_)
    rw [if_neg (show ¬ ( sm_B (dy, ea, Wr, Br, Pr) v4 1 = 0) from c1)] at hD2
    refine lv_aload_n hx hb dL_act_188 rfl (lv_at hl 5 rfl) ?_
    refine g_get (v := .ref (zy (zP Z n q1 q2) 5)) hc hw hi2 (23 + (0)) 5 (two_get s_H) rfl (by decide) (List.mem_of_getElem? (i := 4) rfl) sv_5 dL_act_189 ?_
    refine va_alen (v := nI (n + 1)) hx hb hK.1 hw.1 (23 + (3)) 2 (two_get s_Y5) rfl rfl dL_act_192 ?_
    refine lv_iconst (v := 1) hx hb dL_act_193 (by decide) ?_
    refine lv_isub hx hb dL_act_194 ?_
    refine lv_icmp_ne (tgt := 207) hx hb dL_act_195 (by decide) (fun z => absurd (nI_pred n).symm z) (fun _ => ?_)
    refine lv_iload hx hb dL_act_198 (lv_at hl 0 rfl) ?_
    refine lv_if_eq (tgt := 207) hx hb dL_act_200 (by decide) (fun z => absurd z (by decide)) (fun _ => ?_)
    refine lv_iconst (v := 1) hx hb dL_act_203 (by decide) ?_
    refine lv_goto (tgt := 208) hx hb dL_act_204 (by decide) ?_
    exact G_zret hc hw rfl ⟨rfl, (n + 1), k, (s_X1_board w b n T w2 b2 n2 T2 (nI v4) (nI y1)), (dy, ea, Wr, Br, (sr Pr n (upd (upd (upd (upd (upd (upd (fun _ => (0 : Int32)) 0 (nI y1)) 1 (-1 : Int32)) 2 (nI v4)) 3 (0 : Int32)) 4 (0 : Int32)) 5 (0 : Int32)))), (zP Z n q1 q2), by omega, by omega, hD2, hF2, rfl, rfl⟩ (Nat.le_trans (show 4 ≤ 130 by omega) (Nat.le_of_ble_eq_true rfl)) (Nat.le_trans (show 49 ≤ 3200 by omega) (Nat.le_of_ble_eq_true rfl)) dL_act_208
  · refine lv_aload_n hx hb dL_act_162 rfl (lv_at hl 5 rfl) ?_
    refine g_get (v := .ref (zy (zP Z n q1 q2) 4)) hc hw hi2 (23 + (0)) 4 (two_get s_H) rfl (by decide) (List.mem_of_getElem? (i := 3) rfl) sv_4 dL_act_163 ?_
    refine lv_iload hx hb dL_act_166 (lv_at hl 2 rfl) ?_
    refine g_aald (v := zb (zP Z n q1 q2) v4) hc hw (23 + (2)) (two_get s_Y4) (vp_in_nI (show v4 < b by omega) (by omega)) (congrArg (fun q => some (zb (zP Z n q1 q2) q)) (nI_clamp (show v4 < 2 ^ 31 by omega))) dL_act_168 ?_
    refine lv_iconst (v := 1) hx hb dL_act_169 (by decide) ?_
    refine lv_aload_n hx hb dL_act_170 rfl (lv_at hl 5 rfl) ?_
    refine g_get (v := .ref (zy (zP Z n q1 q2) 4)) hc hw hi2 (23 + (0)) 4 (two_get s_H) rfl (by decide) (List.mem_of_getElem? (i := 3) rfl) sv_4 dL_act_171 ?_
    refine lv_iload hx hb dL_act_174 (lv_at hl 2 rfl) ?_
    refine g_aald (v := zb (zP Z n q1 q2) v4) hc hw (23 + (2)) (two_get s_Y4) (vp_in_nI (show v4 < b by omega) (by omega)) (congrArg (fun q => some (zb (zP Z n q1 q2) q)) (nI_clamp (show v4 < 2 ^ 31 by omega))) dL_act_176 ?_
    refine lv_iconst (v := 0) hx hb dL_act_177 (by decide) ?_
    refine r_ld (f := (Br v4)) (k := 0) hc hw (23 + (4 + (w + v4))) (two_get (s_B (show v4 < b by omega))) (by unfold vp_in; decide) (by decide) dL_act_178 ?_
    refine r_st (f := (Br v4)) (k := 1) hc hw (23 + (4 + (w + v4))) (two_get (s_B (show v4 < b by omega))) (by unfold vp_in; decide) (by decide) (w' := (wb_c h a a2 cI cZ w b n T w2 b2 n2 T2 ++ ws_s (zP Z n q1 q2) cI cL w b (n + 1) dy (nI k) ea Wr (ur Br v4 1 (Br v4 0)) (sr Pr n (upd (upd (upd (upd (upd (upd (fun _ => (0 : Int32)) 0 (nI y1)) 1 (-1 : Int32)) 2 (nI v4)) 3 (0 : Int32)) 4 (0 : Int32)) 5 (0 : Int32))) [])) (two_set (su_B (show v4 < b by omega))) dL_act_179 (fun H locs hw => ?_)
    refine lv_aload_n hx hb dL_act_180 rfl (lv_at hl 4 rfl) ?_
    refine lv_iload hx hb dL_act_181 (lv_at hl 2 rfl) ?_
    refine lv_iload hx hb dL_act_183 (lv_at hl 1 rfl) ?_
    obtain ⟨e1, e2, hD2, hF2⟩ := op_board (r := (upd (upd (upd (upd (upd (upd (fun _ => (0 : Int32)) 0 (nI y1)) 1 (-1 : Int32)) 2 (nI v4)) 3 (0 : Int32)) 4 (0 : Int32)) 5 (0 : Int32))) (w2 := w2) (b2 := b2) (n2 := n2) (T2 := T2) hd4 hn hD hF (show v4 < b by omega) (show y1 ≤ 9 by omega) rfl rfl rfl rfl rfl rfl
    refine G_callT (n := 2) (q0 := 0) (rest := []) hc hT hw.2.2 (Pt.front hw hA) ((k_X1_board hst D cI cZ cL h a a2 w b n T w2 b2 n2 T2 hd5 hd4 hd30 he5 he4 he30 (nI v4) (nI y1)).to e1 (congrArg (fun v : Int32 => some (Value.int v)) e2)) gL_act_X1_board rfl (by decide +kernel) ⟨Nat.le_of_ble_eq_true rfl, Nat.le_of_ble_eq_true rfl⟩ rfl rfl rfl rfl rfl hl.1 (Nat.le_of_ble_eq_true rfl) (st1 := [.int (nI n)]) rfl dL_act_185 (k2 := 4) (s2 := 49) (by show 2 + 2 = 4; omega) (by show 37 + 12 = 49; omega) ⟨(Nat.le_trans (show 4 ≤ 130 by omega) (Nat.le_of_ble_eq_true rfl)), (Nat.le_trans (show 49 ≤ 3200 by omega) (Nat.le_of_ble_eq_true rfl))⟩ (fun H locs hw => ?_)
    rw [if_pos (show  sm_B (dy, ea, Wr, Br, Pr) v4 1 = 0 from c1)] at hD2
    refine lv_aload_n hx hb dL_act_188 rfl (lv_at hl 5 rfl) ?_
    refine g_get (v := .ref (zy (zP Z n q1 q2) 5)) hc hw hi2 (23 + (0)) 5 (two_get s_H) rfl (by decide) (List.mem_of_getElem? (i := 4) rfl) sv_5 dL_act_189 ?_
    refine va_alen (v := nI (n + 1)) hx hb hK.1 hw.1 (23 + (3)) 2 (two_get s_Y5) rfl rfl dL_act_192 ?_
    refine lv_iconst (v := 1) hx hb dL_act_193 (by decide) ?_
    refine lv_isub hx hb dL_act_194 ?_
    refine lv_icmp_ne (tgt := 207) hx hb dL_act_195 (by decide) (fun z => absurd (nI_pred n).symm z) (fun _ => ?_)
    refine lv_iload hx hb dL_act_198 (lv_at hl 0 rfl) ?_
    refine lv_if_eq (tgt := 207) hx hb dL_act_200 (by decide) (fun z => absurd z (by decide)) (fun _ => ?_)
    refine lv_iconst (v := 1) hx hb dL_act_203 (by decide) ?_
    refine lv_goto (tgt := 208) hx hb dL_act_204 (by decide) ?_
    exact G_zret hc hw rfl ⟨rfl, (n + 1), k, (s_X1_board w b n T w2 b2 n2 T2 (nI v4) (nI y1)), (dy, ea, Wr, (ur Br v4 1 (Br v4 0)), (sr Pr n (upd (upd (upd (upd (upd (upd (fun _ => (0 : Int32)) 0 (nI y1)) 1 (-1 : Int32)) 2 (nI v4)) 3 (0 : Int32)) 4 (0 : Int32)) 5 (0 : Int32)))), (zP Z n q1 q2), by omega, by omega, hD2, hF2, rfl, rfl⟩ (Nat.le_trans (show 4 ≤ 130 by omega) (Nat.le_of_ble_eq_true rfl)) (Nat.le_trans (show 49 ≤ 3200 by omega) (Nat.le_of_ble_eq_true rfl)) dL_act_208
set_option maxHeartbeats 8000000 in
set_option maxRecDepth 100000 in
theorem act_76f {p : Program} {l : Launch} (hst : l.stackTraces = false) {e : Env} {s : State} {m : MethodId} {args : Array Value} {below : List Frame} {meth : Method} {c : Code} {H : Heap} {locs : List Loc} {D : va_G} {cI cZ cL : ClassId} {A : Nat → Prop} {ls : Array Slot} {h : Nat} {a a2 : Nat → Nat} {w b k : Nat} {T : ct_T} {w2 b2 n2 : Nat} {T2 : ct_T} {Z : sA} {dy ea : Int32} {Wr Br Pr : Nat → Nat → Int32} (hd5 : w ≤ 5) (hd4 : b ≤ 4) (he5 : w2 ≤ 5) (he4 : b2 ≤ 4) (he30 : n2 ≤ 30) (hwp : 0 < w) (hbp : 0 < b) (hk : k ≤ 60) (hD : DI w b 30 k T (dy, ea, Wr, Br, Pr)) (hF : FH 30 T) {x : Int32} {v3 v4 : Nat} (hv3 : v3 < w) (hv4 : v4 < b) (hc : Cx p s m args meth c cL_act 10 wsL_act RL (some .boolean) D cI cZ cL A) (hT : Tx A s) (htb : c.exceptionTable.toList = tableOf [(180, 208, 209, 36), (408, 430, 431, 36)]) (hw : Wo D A s.heap (wb_c h a a2 cI cZ w b 30 T w2 b2 n2 T2 ++ ws_s Z cI cL w b 30 dy (nI k) ea Wr Br Pr []) H locs) (hl : lv_has ls 10 [(4, .int (nI v4)), (3, .int (nI v3)), (0, .ref h), (1, .ref (zh Z)), (2, .int x)]) : W p l e rm_L_act s m args below meth c H locs 0 0 (GE below args s D A (ga h a a2 cI cZ cL w b w2 b2 n2 T2 (zh Z)) rm_L_act) (F0 m 76 ls []) := by
  obtain ⟨hx, hb, hr, hml, hown, hts, hlk, hK, hA⟩ := id hc
  have hi2 : ∀ w ∈ u_ws RX2 TX2 6, w ∈ wsL_act := fun _ h => List.mem_cons_of_mem _ (List.mem_append_left _ (List.mem_append_left _ (List.mem_append_left _ (List.mem_append_left _ (List.mem_append_left _ (List.mem_append_right _ h))))))
  have hX : RX w b 30 T Wr Br Pr := hD.1.1
  have hd30 : (30 : Nat) ≤ 30 := Nat.le_refl 30
  refine lv_iload_n hx hb dL_act_76 rfl (lv_at hl 4 rfl) ?_
  refine lv_bipush (v := 6) hx hb dL_act_77 (by decide) ?_
  refine lv_ishr hx hb dL_act_79 ?_
  refine lv_bipush (v := 10) hx hb dL_act_80 (by decide) ?_
  refine g_callS0 (n := 2) (As := [.int (x >>> ((6 : Int32) &&& 31)), .int (nI 10)]) (rest := []) hc hw (k_L_below l D cI cZ cL (x >>> ((6 : Int32) &&& 31)) 10 (by omega) (by omega)) gL_act_L_below rfl (by decide +kernel) ⟨Nat.le_of_ble_eq_true rfl, Nat.le_of_ble_eq_true rfl⟩ rfl rfl hl.1 (Nat.le_of_ble_eq_true rfl) (st1 := [.int (nI (bl (x >>> ((6 : Int32) &&& 31)) 10))]) rfl dL_act_82 (k2 := 0) (s2 := 0) (by show 0 + 0 = 0; omega) (by show 0 + 0 = 0; omega) ⟨(Nat.le_trans (show 0 ≤ 130 by omega) (Nat.le_of_ble_eq_true rfl)), (Nat.le_trans (show 0 ≤ 3200 by omega) (Nat.le_of_ble_eq_true rfl))⟩ (fun H locs hw => ?_)
  obtain ⟨y1, hy1, ey1⟩ : ∃ v, v < 10 ∧ bl (x >>> ((6 : Int32) &&& 31)) 10 = v := ⟨_, bl_lt _ (by omega), rfl⟩
  rw [ey1]
  refine lv_istore (lv' := [(5, .int (nI y1)), (4, .int (nI v4)), (3, .int (nI v3)), (0, .ref h), (1, .ref (zh Z)), (2, .int x)]) hx hb dL_act_85 hl (by decide) rfl (fun ls hl => ?_)
  refine lv_aload_n hx hb dL_act_87 rfl (lv_at hl 4 rfl) ?_
  refine g_get (v := .ref (zy Z 5)) hc hw hi2 (23 + (0)) 5 (two_get s_H) rfl (by decide) (List.mem_of_getElem? (i := 4) rfl) sv_5 dL_act_88 ?_
  refine va_alen (v := nI 30) hx hb hK.1 hw.1 (23 + (3)) 2 (two_get s_Y5) rfl rfl dL_act_91 ?_
  refine lv_bipush (v := 30) hx hb dL_act_92 (by decide) ?_
  refine lv_icmp_ge (tgt := 101) hx hb dL_act_94 (by decide) (fun _ => ?_) (fun z => absurd (by decide) z)
  refine lv_iconst (v := 0) hx hb dL_act_101 (by decide) ?_
  refine lv_istore (lv' := [(6, .int (0 : Int32)), (5, .int (nI y1)), (4, .int (nI v4)), (3, .int (nI v3)), (0, .ref h), (1, .ref (zh Z)), (2, .int x)]) hx hb dL_act_102 hl (by decide) rfl (fun ls hl => ?_)
  refine lv_iload hx hb dL_act_104 (lv_at hl 0 rfl) ?_
  refine lv_if_eq (tgt := 180) hx hb dL_act_106 (by decide) (fun _ => ?_) (fun z => absurd (by decide) z)
  refine lv_aload_n hx hb dL_act_180 rfl (lv_at hl 4 rfl) ?_
  refine lv_iload hx hb dL_act_181 (lv_at hl 2 rfl) ?_
  refine lv_iload hx hb dL_act_183 (lv_at hl 1 rfl) ?_
  have hM := k_X1_board hst D cI cZ cL h a a2 w b 30 T w2 b2 n2 T2 hd5 hd4 hd30 he5 he4 he30 (nI v4) (nI y1)
  rw [op_full hd4 hv4 (show y1 ≤ 9 by omega)] at hM
  refine pt_callV (n := 2) (q0 := 0) (rest := []) hc hT hw.2.2 (Pt.front hw hA) hM gL_act_X1_board rfl (by decide +kernel) ⟨Nat.le_of_ble_eq_true rfl, Nat.le_of_ble_eq_true rfl⟩ rfl rfl rfl rfl rfl hl.1 (Nat.le_of_ble_eq_true rfl) (st1 := .int _ :: []) rfl dL_act_185 (k2 := 2) (s2 := 12) (by show 0 + 2 = 2; omega) (by show 0 + 12 = 12; omega) ⟨(Nat.le_trans (show 2 ≤ 130 by omega) (Nat.le_of_ble_eq_true rfl)), (Nat.le_trans (show 12 ≤ 3200 by omega) (Nat.le_of_ble_eq_true rfl))⟩ (fun hz H locs q9 ce hw h5 h6 h7 => ?_) (fun hz => absurd hz (by decide))
  refine vx_catch (name := "java/lang/IllegalStateException") hown [] ⟨180, 208, 209, 36⟩ [⟨408, 430, 431, 36⟩] htb (fun z hz => by simp at hz) rfl (by decide) (hts _ (List.mem_of_getElem? (i := 1) rfl)) (va_Nw.use rfl (hT.1.2.1 2)) h5 h6 h7 ?_
  refine lv_astore (lv' := [(7, .ref q9), (6, .int (0 : Int32)), (5, .int (nI y1)), (4, .int (nI v4)), (3, .int (nI v3)), (0, .ref h), (1, .ref (zh Z)), (2, .int x)]) hx hb dL_act_209 hl (by decide) rfl (fun ls hl => ?_)
  refine lv_iload hx hb dL_act_211 (lv_at hl 1 rfl) ?_
  refine lv_if_ne (tgt := 220) hx hb dL_act_213 (by decide) (fun z => absurd (by decide) z) (fun _ => ?_)
  refine lv_iconst (v := 1) hx hb dL_act_216 (by decide) ?_
  refine lv_goto (tgt := 221) hx hb dL_act_217 (by decide) ?_
  exact G_zret hc hw rfl ⟨rfl, 30, k, T, (dy, ea, Wr, Br, Pr), Z, by omega, by omega, hD, hF, rfl, rfl⟩ (Nat.le_trans (show 2 ≤ 130 by omega) (Nat.le_of_ble_eq_true rfl)) (Nat.le_trans (show 12 ≤ 3200 by omega) (Nat.le_of_ble_eq_true rfl)) dL_act_221
set_option maxHeartbeats 8000000 in
set_option maxRecDepth 100000 in
theorem act_222 {p : Program} {l : Launch} (hst : l.stackTraces = false) {e : Env} {s : State} {m : MethodId} {args : Array Value} {below : List Frame} {meth : Method} {c : Code} {H : Heap} {locs : List Loc} {D : va_G} {cI cZ cL : ClassId} {A : Nat → Prop} {ls : Array Slot} {h : Nat} {a a2 : Nat → Nat} {w b n k : Nat} {T : ct_T} {w2 b2 n2 : Nat} {T2 : ct_T} {Z : sA} {dy ea : Int32} {Wr Br Pr : Nat → Nat → Int32} (hd5 : w ≤ 5) (hd4 : b ≤ 4) (hd30 : n ≤ 30) (he5 : w2 ≤ 5) (he4 : b2 ≤ 4) (he30 : n2 ≤ 30) (hwp : 0 < w) (hbp : 0 < b) (hk : k ≤ 60) (hD : DI w b n k T (dy, ea, Wr, Br, Pr)) (hF : FH n T) {x : Int32} {v3 v4 : Nat} (hv3 : v3 < w) (hv4 : v4 < b) (hc : Cx p s m args meth c cL_act 10 wsL_act RL (some .boolean) D cI cZ cL A) (hT : Tx A s) (htb : c.exceptionTable.toList = tableOf [(180, 208, 209, 36), (408, 430, 431, 36)]) (hw : Wo D A s.heap (wb_c h a a2 cI cZ w b n T w2 b2 n2 T2 ++ ws_s Z cI cL w b n dy (nI k) ea Wr Br Pr []) H locs) (hl : lv_has ls 10 [(4, .int (nI v4)), (3, .int (nI v3)), (0, .ref h), (1, .ref (zh Z)), (2, .int x)]) : W p l e rm_L_act s m args below meth c H locs 0 0 (GE below args s D A (ga h a a2 cI cZ cL w b w2 b2 n2 T2 (zh Z)) rm_L_act) (F0 m 222 ls []) := by
  obtain ⟨hx, hb, hr, hml, hown, hts, hlk, hK, hA⟩ := id hc
  have hi2 : ∀ w ∈ u_ws RX2 TX2 6, w ∈ wsL_act := fun _ h => List.mem_cons_of_mem _ (List.mem_append_left _ (List.mem_append_left _ (List.mem_append_left _ (List.mem_append_left _ (List.mem_append_left _ (List.mem_append_right _ h))))))
  have hX : RX w b n T Wr Br Pr := hD.1.1
  refine lv_aload_n hx hb dL_act_222 rfl (lv_at hl 3 rfl) ?_
  refine g_get (v := .int (nI k)) hc hw hi2 (23 + (0)) 1 (two_get s_H) rfl (by decide) (List.mem_of_getElem? (i := 6) rfl) sv_1 dL_act_223 ?_
  refine lv_istore (lv' := [(5, .int (nI k)), (4, .int (nI v4)), (3, .int (nI v3)), (0, .ref h), (1, .ref (zh Z)), (2, .int x)]) hx hb dL_act_226 hl (by decide) rfl (fun ls hl => ?_)
  refine lv_aload_n hx hb dL_act_228 rfl (lv_at hl 4 rfl) ?_
  refine lv_iload_n hx hb dL_act_229 rfl (lv_at hl 5 rfl) ?_
  refine lv_bipush (v := 6) hx hb dL_act_230 (by decide) ?_
  refine lv_ishr hx hb dL_act_232 ?_
  refine lv_iload_n hx hb dL_act_233 rfl (lv_at hl 5 rfl) ?_
  refine lv_bipush (v := 9) hx hb dL_act_234 (by decide) ?_
  refine lv_ishr hx hb dL_act_236 ?_
  refine lv_iconst (v := 3) hx hb dL_act_237 (by decide) ?_
  refine g_callS0 (n := 2) (As := [.int (x >>> ((9 : Int32) &&& 31)), .int (nI 3)]) (rest := [.int (x >>> ((6 : Int32) &&& 31)), .ref (zh Z)]) hc hw (k_L_below l D cI cZ cL (x >>> ((9 : Int32) &&& 31)) 3 (by omega) (by omega)) gL_act_L_below rfl (by decide +kernel) ⟨Nat.le_of_ble_eq_true rfl, Nat.le_of_ble_eq_true rfl⟩ rfl rfl hl.1 (Nat.le_of_ble_eq_true rfl) (st1 := [.int (nI (bl (x >>> ((9 : Int32) &&& 31)) 3)), .int (x >>> ((6 : Int32) &&& 31)), .ref (zh Z)]) rfl dL_act_238 (k2 := 0) (s2 := 0) (by show 0 + 0 = 0; omega) (by show 0 + 0 = 0; omega) ⟨(Nat.le_trans (show 0 ≤ 130 by omega) (Nat.le_of_ble_eq_true rfl)), (Nat.le_trans (show 0 ≤ 3200 by omega) (Nat.le_of_ble_eq_true rfl))⟩ (fun H locs hw => ?_)
  obtain ⟨y1, hy1, ey1⟩ : ∃ v, v < 3 ∧ bl (x >>> ((9 : Int32) &&& 31)) 3 = v := ⟨_, bl_lt _ (by omega), rfl⟩
  rw [ey1]
  refine lv_if_ne (tgt := 249) hx hb dL_act_241 (by decide) (fun c1 => ?_) (fun c1 => ?_)
  · refine lv_bipush (v := 12) hx hb dL_act_249 (by decide) ?_
    refine g_callS0 (n := 2) (As := [.int (x >>> ((6 : Int32) &&& 31)), .int (nI 12)]) (rest := [.ref (zh Z)]) hc hw (k_L_below l D cI cZ cL (x >>> ((6 : Int32) &&& 31)) 12 (by omega) (by omega)) gL_act_L_below rfl (by decide +kernel) ⟨Nat.le_of_ble_eq_true rfl, Nat.le_of_ble_eq_true rfl⟩ rfl rfl hl.1 (Nat.le_of_ble_eq_true rfl) (st1 := [.int (nI (bl (x >>> ((6 : Int32) &&& 31)) 12)), .ref (zh Z)]) rfl dL_act_251 (k2 := 0) (s2 := 0) (by show 0 + 0 = 0; omega) (by show 0 + 0 = 0; omega) ⟨(Nat.le_trans (show 0 ≤ 130 by omega) (Nat.le_of_ble_eq_true rfl)), (Nat.le_trans (show 0 ≤ 3200 by omega) (Nat.le_of_ble_eq_true rfl))⟩ (fun H locs hw => ?_)
    obtain ⟨y2, hy2, ey2⟩ : ∃ v, v < 12 ∧ bl (x >>> ((6 : Int32) &&& 31)) 12 = v := ⟨_, bl_lt _ (by omega), rfl⟩
    rw [ey2]
    refine g_put hc hw hi2 tyX2 tyX2_ok nmX2 (23 + (0)) 1 (two_get s_H) rfl (by decide) (List.mem_of_getElem? (i := 6) rfl) (by decide) rfl rfl (Nat.le_of_ble_eq_true rfl) (w' := (wb_c h a a2 cI cZ w b n T w2 b2 n2 T2 ++ ws_s Z cI cL w b n dy (nI y2) ea Wr Br Pr [])) (two_set su_1) dL_act_254 (fun H locs hw => ?_)
    refine lv_aload_n hx hb dL_act_257 rfl (lv_at hl 3 rfl) ?_
    refine lv_aload_n hx hb dL_act_258 rfl (lv_at hl 4 rfl) ?_
    refine g_get (v := .int (nI y2)) hc hw hi2 (23 + (0)) 1 (two_get s_H) rfl (by decide) (List.mem_of_getElem? (i := 6) rfl) sv_1 dL_act_259 ?_
    obtain ⟨e1, e2, hD2, hF2⟩ := op_bowls (w2 := w2) (b2 := b2) (n2 := n2) (T2 := T2) hD hF (show y2 ≤ 60 by omega)
    refine G_callT (n := 1) (q0 := 0) (rest := []) hc hT hw.2.2 (Pt.front hw hA) ((k_X1_setBowls hst D cI cZ cL h a a2 w b n T w2 b2 n2 T2 hd5 hd4 hd30 he5 he4 he30 (nI y2)).to e1 (congrArg (fun v : Int32 => some (Value.int v)) e2)) gL_act_X1_setBowls rfl (by decide +kernel) ⟨Nat.le_of_ble_eq_true rfl, Nat.le_of_ble_eq_true rfl⟩ rfl rfl rfl rfl rfl hl.1 (Nat.le_of_ble_eq_true rfl) (st1 := [.int (nI k)]) rfl dL_act_262 (k2 := 1) (s2 := 6) (by show 0 + 1 = 1; omega) (by show 0 + 6 = 6; omega) ⟨(Nat.le_trans (show 1 ≤ 130 by omega) (Nat.le_of_ble_eq_true rfl)), (Nat.le_trans (show 6 ≤ 3200 by omega) (Nat.le_of_ble_eq_true rfl))⟩ (fun H locs hw => ?_)
    refine lv_iload hx hb dL_act_265 (lv_at hl 0 rfl) ?_
    refine lv_icmp_ne (tgt := 274) hx hb dL_act_267 (by decide) (fun z => absurd rfl z) (fun _ => ?_)
    refine lv_iconst (v := 1) hx hb dL_act_270 (by decide) ?_
    refine lv_goto (tgt := 275) hx hb dL_act_271 (by decide) ?_
    exact G_zret hc hw rfl ⟨rfl, n, y2, (s_X1_setBowls w b n T w2 b2 n2 T2 (nI y2)), (dy, ea, Wr, Br, Pr), Z, by omega, by omega, hD2, hF2, rfl, rfl⟩ (Nat.le_trans (show 1 ≤ 130 by omega) (Nat.le_of_ble_eq_true rfl)) (Nat.le_trans (show 6 ≤ 3200 by omega) (Nat.le_of_ble_eq_true rfl)) dL_act_275
  · refine lv_bipush (v := 61) hx hb dL_act_244 (by decide) ?_
    refine lv_goto (tgt := 251) hx hb dL_act_246 (by decide) ?_
    refine g_callS0 (n := 2) (As := [.int (x >>> ((6 : Int32) &&& 31)), .int (nI 61)]) (rest := [.ref (zh Z)]) hc hw (k_L_below l D cI cZ cL (x >>> ((6 : Int32) &&& 31)) 61 (by omega) (by omega)) gL_act_L_below rfl (by decide +kernel) ⟨Nat.le_of_ble_eq_true rfl, Nat.le_of_ble_eq_true rfl⟩ rfl rfl hl.1 (Nat.le_of_ble_eq_true rfl) (st1 := [.int (nI (bl (x >>> ((6 : Int32) &&& 31)) 61)), .ref (zh Z)]) rfl dL_act_251 (k2 := 0) (s2 := 0) (by show 0 + 0 = 0; omega) (by show 0 + 0 = 0; omega) ⟨(Nat.le_trans (show 0 ≤ 130 by omega) (Nat.le_of_ble_eq_true rfl)), (Nat.le_trans (show 0 ≤ 3200 by omega) (Nat.le_of_ble_eq_true rfl))⟩ (fun H locs hw => ?_)
    obtain ⟨y3, hy3, ey3⟩ : ∃ v, v < 61 ∧ bl (x >>> ((6 : Int32) &&& 31)) 61 = v := ⟨_, bl_lt _ (by omega), rfl⟩
    rw [ey3]
    refine g_put hc hw hi2 tyX2 tyX2_ok nmX2 (23 + (0)) 1 (two_get s_H) rfl (by decide) (List.mem_of_getElem? (i := 6) rfl) (by decide) rfl rfl (Nat.le_of_ble_eq_true rfl) (w' := (wb_c h a a2 cI cZ w b n T w2 b2 n2 T2 ++ ws_s Z cI cL w b n dy (nI y3) ea Wr Br Pr [])) (two_set su_1) dL_act_254 (fun H locs hw => ?_)
    refine lv_aload_n hx hb dL_act_257 rfl (lv_at hl 3 rfl) ?_
    refine lv_aload_n hx hb dL_act_258 rfl (lv_at hl 4 rfl) ?_
    refine g_get (v := .int (nI y3)) hc hw hi2 (23 + (0)) 1 (two_get s_H) rfl (by decide) (List.mem_of_getElem? (i := 6) rfl) sv_1 dL_act_259 ?_
    obtain ⟨e1, e2, hD2, hF2⟩ := op_bowls (w2 := w2) (b2 := b2) (n2 := n2) (T2 := T2) hD hF (show y3 ≤ 60 by omega)
    refine G_callT (n := 1) (q0 := 0) (rest := []) hc hT hw.2.2 (Pt.front hw hA) ((k_X1_setBowls hst D cI cZ cL h a a2 w b n T w2 b2 n2 T2 hd5 hd4 hd30 he5 he4 he30 (nI y3)).to e1 (congrArg (fun v : Int32 => some (Value.int v)) e2)) gL_act_X1_setBowls rfl (by decide +kernel) ⟨Nat.le_of_ble_eq_true rfl, Nat.le_of_ble_eq_true rfl⟩ rfl rfl rfl rfl rfl hl.1 (Nat.le_of_ble_eq_true rfl) (st1 := [.int (nI k)]) rfl dL_act_262 (k2 := 1) (s2 := 6) (by show 0 + 1 = 1; omega) (by show 0 + 6 = 6; omega) ⟨(Nat.le_trans (show 1 ≤ 130 by omega) (Nat.le_of_ble_eq_true rfl)), (Nat.le_trans (show 6 ≤ 3200 by omega) (Nat.le_of_ble_eq_true rfl))⟩ (fun H locs hw => ?_)
    refine lv_iload hx hb dL_act_265 (lv_at hl 0 rfl) ?_
    refine lv_icmp_ne (tgt := 274) hx hb dL_act_267 (by decide) (fun z => absurd rfl z) (fun _ => ?_)
    refine lv_iconst (v := 1) hx hb dL_act_270 (by decide) ?_
    refine lv_goto (tgt := 275) hx hb dL_act_271 (by decide) ?_
    exact G_zret hc hw rfl ⟨rfl, n, y3, (s_X1_setBowls w b n T w2 b2 n2 T2 (nI y3)), (dy, ea, Wr, Br, Pr), Z, by omega, by omega, hD2, hF2, rfl, rfl⟩ (Nat.le_trans (show 1 ≤ 130 by omega) (Nat.le_of_ble_eq_true rfl)) (Nat.le_trans (show 6 ≤ 3200 by omega) (Nat.le_of_ble_eq_true rfl)) dL_act_275
set_option maxHeartbeats 8000000 in
set_option maxRecDepth 100000 in
theorem act_276 {p : Program} {l : Launch} (hst : l.stackTraces = false) {e : Env} {s : State} {m : MethodId} {args : Array Value} {below : List Frame} {meth : Method} {c : Code} {H : Heap} {locs : List Loc} {D : va_G} {cI cZ cL : ClassId} {A : Nat → Prop} {ls : Array Slot} {h : Nat} {a a2 : Nat → Nat} {w b n k : Nat} {T : ct_T} {w2 b2 n2 : Nat} {T2 : ct_T} {Z : sA} {dy ea : Int32} {Wr Br Pr : Nat → Nat → Int32} (hd5 : w ≤ 5) (hd4 : b ≤ 4) (hd30 : n ≤ 30) (he5 : w2 ≤ 5) (he4 : b2 ≤ 4) (he30 : n2 ≤ 30) (hwp : 0 < w) (hbp : 0 < b) (hk : k ≤ 60) (hD : DI w b n k T (dy, ea, Wr, Br, Pr)) (hF : FH n T) {x : Int32} {v3 v4 : Nat} (hv3 : v3 < w) (hv4 : v4 < b) (hc : Cx p s m args meth c cL_act 10 wsL_act RL (some .boolean) D cI cZ cL A) (hT : Tx A s) (htb : c.exceptionTable.toList = tableOf [(180, 208, 209, 36), (408, 430, 431, 36)]) (hw : Wo D A s.heap (wb_c h a a2 cI cZ w b n T w2 b2 n2 T2 ++ ws_s Z cI cL w b n dy (nI k) ea Wr Br Pr []) H locs) (hl : lv_has ls 10 [(4, .int (nI v4)), (3, .int (nI v3)), (0, .ref h), (1, .ref (zh Z)), (2, .int x)]) : W p l e rm_L_act s m args below meth c H locs 0 0 (GE below args s D A (ga h a a2 cI cZ cL w b w2 b2 n2 T2 (zh Z)) rm_L_act) (F0 m 276 ls []) := by
  obtain ⟨hx, hb, hr, hml, hown, hts, hlk, hK, hA⟩ := id hc
  have hi2 : ∀ w ∈ u_ws RX2 TX2 6, w ∈ wsL_act := fun _ h => List.mem_cons_of_mem _ (List.mem_append_left _ (List.mem_append_left _ (List.mem_append_left _ (List.mem_append_left _ (List.mem_append_left _ (List.mem_append_right _ h))))))
  have hX : RX w b n T Wr Br Pr := hD.1.1
  refine lv_aload_n hx hb dL_act_276 rfl (lv_at hl 3 rfl) ?_
  refine g_get (v := .ref (zy Z 3)) hc hw hi2 (23 + (0)) 3 (two_get s_H) rfl (by decide) (List.mem_of_getElem? (i := 2) rfl) sv_3 dL_act_277 ?_
  refine lv_iload_n hx hb dL_act_280 rfl (lv_at hl 1 rfl) ?_
  refine g_aald (v := zw Z v3) hc hw (23 + (1)) (two_get s_Y3) (vp_in_nI (show v3 < w by omega) (by omega)) (congrArg (fun q => some (zw Z q)) (nI_clamp (show v3 < 2 ^ 31 by omega))) dL_act_281 ?_
  refine lv_iconst (v := 1) hx hb dL_act_282 (by decide) ?_
  refine r_ld (f := (Wr v3)) (k := 1) hc hw (23 + (4 + v3)) (two_get (s_W (show v3 < w by omega))) (by unfold vp_in; decide) (by decide) dL_act_283 ?_
  refine lv_istore (lv' := [(5, .int (Wr v3 1)), (4, .int (nI v4)), (3, .int (nI v3)), (0, .ref h), (1, .ref (zh Z)), (2, .int x)]) hx hb dL_act_284 hl (by decide) rfl (fun ls hl => ?_)
  refine lv_aload_n hx hb dL_act_286 rfl (lv_at hl 4 rfl) ?_
  refine g_get (v := .ref (zy Z 3)) hc hw hi2 (23 + (0)) 3 (two_get s_H) rfl (by decide) (List.mem_of_getElem? (i := 2) rfl) sv_3 dL_act_287 ?_
  refine lv_iload_n hx hb dL_act_290 rfl (lv_at hl 2 rfl) ?_
  refine g_aald (v := zw Z v3) hc hw (23 + (1)) (two_get s_Y3) (vp_in_nI (show v3 < w by omega) (by omega)) (congrArg (fun q => some (zw Z q)) (nI_clamp (show v3 < 2 ^ 31 by omega))) dL_act_291 ?_
  refine lv_iconst (v := 1) hx hb dL_act_292 (by decide) ?_
  refine lv_iconst (v := 0) hx hb dL_act_293 (by decide) ?_
  refine r_st (f := (Wr v3)) (k := 1) hc hw (23 + (4 + v3)) (two_get (s_W (show v3 < w by omega))) (by unfold vp_in; decide) (by decide) (w' := (wb_c h a a2 cI cZ w b n T w2 b2 n2 T2 ++ ws_s Z cI cL w b n dy (nI k) ea (ur Wr v3 1 (0 : Int32)) Br Pr [])) (two_set (su_W (show v3 < w by omega))) dL_act_294 (fun H locs hw => ?_)
  refine lv_aload_n hx hb dL_act_295 rfl (lv_at hl 3 rfl) ?_
  refine lv_iload_n hx hb dL_act_296 rfl (lv_at hl 2 rfl) ?_
  obtain ⟨e1, e2, hD2, hF2⟩ := op_straw (w2 := w2) (b2 := b2) (n2 := n2) (T2 := T2) hd5 hD hF (show v3 < w by omega)
  refine G_callT (n := 1) (q0 := 0) (rest := []) hc hT hw.2.2 (Pt.front hw hA) ((k_X1_layStraw hst D cI cZ cL h a a2 w b n T w2 b2 n2 T2 hd5 hd4 hd30 he5 he4 he30 (nI v3)).to e1 (congrArg (fun v : Int32 => some (Value.int v)) e2)) gL_act_X1_layStraw rfl (by decide +kernel) ⟨Nat.le_of_ble_eq_true rfl, Nat.le_of_ble_eq_true rfl⟩ rfl rfl rfl rfl rfl hl.1 (Nat.le_of_ble_eq_true rfl) (st1 := [.int (Wr v3 1)]) rfl dL_act_297 (k2 := 1) (s2 := 6) (by show 0 + 1 = 1; omega) (by show 0 + 6 = 6; omega) ⟨(Nat.le_trans (show 1 ≤ 130 by omega) (Nat.le_of_ble_eq_true rfl)), (Nat.le_trans (show 6 ≤ 3200 by omega) (Nat.le_of_ble_eq_true rfl))⟩ (fun H locs hw => ?_)
  refine lv_iload hx hb dL_act_300 (lv_at hl 0 rfl) ?_
  refine lv_icmp_ne (tgt := 309) hx hb dL_act_302 (by decide) (fun z => absurd rfl z) (fun _ => ?_)
  refine lv_iconst (v := 1) hx hb dL_act_305 (by decide) ?_
  refine lv_goto (tgt := 310) hx hb dL_act_306 (by decide) ?_
  exact G_zret hc hw rfl ⟨rfl, n, k, (s_X1_layStraw w b n T w2 b2 n2 T2 (nI v3)), (dy, ea, (ur Wr v3 1 (0 : Int32)), Br, Pr), Z, by omega, by omega, hD2, hF2, rfl, rfl⟩ (Nat.le_trans (show 1 ≤ 130 by omega) (Nat.le_of_ble_eq_true rfl)) (Nat.le_trans (show 6 ≤ 3200 by omega) (Nat.le_of_ble_eq_true rfl)) dL_act_310
set_option maxHeartbeats 8000000 in
set_option maxRecDepth 100000 in
theorem act_311 {p : Program} {l : Launch} (hst : l.stackTraces = false) {e : Env} {s : State} {m : MethodId} {args : Array Value} {below : List Frame} {meth : Method} {c : Code} {H : Heap} {locs : List Loc} {D : va_G} {cI cZ cL : ClassId} {A : Nat → Prop} {ls : Array Slot} {h : Nat} {a a2 : Nat → Nat} {w b n k : Nat} {T : ct_T} {w2 b2 n2 : Nat} {T2 : ct_T} {Z : sA} {dy ea : Int32} {Wr Br Pr : Nat → Nat → Int32} (hd5 : w ≤ 5) (hd4 : b ≤ 4) (hd30 : n ≤ 30) (he5 : w2 ≤ 5) (he4 : b2 ≤ 4) (he30 : n2 ≤ 30) (hwp : 0 < w) (hbp : 0 < b) (hk : k ≤ 60) (hD : DI w b n k T (dy, ea, Wr, Br, Pr)) (hF : FH n T) {x : Int32} {v3 v4 : Nat} (hv3 : v3 < w) (hv4 : v4 < b) (hc : Cx p s m args meth c cL_act 10 wsL_act RL (some .boolean) D cI cZ cL A) (hT : Tx A s) (htb : c.exceptionTable.toList = tableOf [(180, 208, 209, 36), (408, 430, 431, 36)]) (hw : Wo D A s.heap (wb_c h a a2 cI cZ w b n T w2 b2 n2 T2 ++ ws_s Z cI cL w b n dy (nI k) ea Wr Br Pr []) H locs) (hl : lv_has ls 10 [(4, .int (nI v4)), (3, .int (nI v3)), (0, .ref h), (1, .ref (zh Z)), (2, .int x)]) : W p l e rm_L_act s m args below meth c H locs 0 0 (GE below args s D A (ga h a a2 cI cZ cL w b w2 b2 n2 T2 (zh Z)) rm_L_act) (F0 m 311 ls []) := by
  obtain ⟨hx, hb, hr, hml, hown, hts, hlk, hK, hA⟩ := id hc
  have hi2 : ∀ w ∈ u_ws RX2 TX2 6, w ∈ wsL_act := fun _ h => List.mem_cons_of_mem _ (List.mem_append_left _ (List.mem_append_left _ (List.mem_append_left _ (List.mem_append_left _ (List.mem_append_left _ (List.mem_append_right _ h))))))
  have hX : RX w b n T Wr Br Pr := hD.1.1
  refine lv_aload_n hx hb dL_act_311 rfl (lv_at hl 3 rfl) ?_
  refine g_get (v := .ref (zy Z 5)) hc hw hi2 (23 + (0)) 5 (two_get s_H) rfl (by decide) (List.mem_of_getElem? (i := 4) rfl) sv_5 dL_act_312 ?_
  refine va_alen (v := nI n) hx hb hK.1 hw.1 (23 + (3)) 2 (two_get s_Y5) rfl rfl dL_act_315 ?_
  refine lv_if_ne (tgt := 321) hx hb dL_act_316 (by decide) (fun c1 => ?_) (fun c1 => ?_)
  · have hn0 : 0 < n := Nat.pos_of_ne_zero (fun z => c1 (by rw [z]; rfl))
    refine lv_aload_n hx hb dL_act_321 rfl (lv_at hl 3 rfl) ?_
    refine g_get (v := .ref (zy Z 5)) hc hw hi2 (23 + (0)) 5 (two_get s_H) rfl (by decide) (List.mem_of_getElem? (i := 4) rfl) sv_5 dL_act_322 ?_
    refine lv_iload_n hx hb dL_act_325 rfl (lv_at hl 4 rfl) ?_
    refine lv_bipush (v := 6) hx hb dL_act_326 (by decide) ?_
    refine lv_ishr hx hb dL_act_328 ?_
    refine lv_aload_n hx hb dL_act_329 rfl (lv_at hl 3 rfl) ?_
    refine g_get (v := .ref (zy Z 5)) hc hw hi2 (23 + (0)) 5 (two_get s_H) rfl (by decide) (List.mem_of_getElem? (i := 4) rfl) sv_5 dL_act_330 ?_
    refine va_alen (v := nI n) hx hb hK.1 hw.1 (23 + (3)) 2 (two_get s_Y5) rfl rfl dL_act_333 ?_
    refine g_callS0 (n := 2) (As := [.int (x >>> ((6 : Int32) &&& 31)), .int (nI n)]) (rest := [.ref (zy Z 5)]) hc hw (k_L_below l D cI cZ cL (x >>> ((6 : Int32) &&& 31)) n (by omega) (by omega)) gL_act_L_below rfl (by decide +kernel) ⟨Nat.le_of_ble_eq_true rfl, Nat.le_of_ble_eq_true rfl⟩ rfl rfl hl.1 (Nat.le_of_ble_eq_true rfl) (st1 := [.int (nI (bl (x >>> ((6 : Int32) &&& 31)) n)), .ref (zy Z 5)]) rfl dL_act_334 (k2 := 0) (s2 := 0) (by show 0 + 0 = 0; omega) (by show 0 + 0 = 0; omega) ⟨(Nat.le_trans (show 0 ≤ 130 by omega) (Nat.le_of_ble_eq_true rfl)), (Nat.le_trans (show 0 ≤ 3200 by omega) (Nat.le_of_ble_eq_true rfl))⟩ (fun H locs hw => ?_)
    obtain ⟨y1, hy1, ey1⟩ : ∃ v, v < n ∧ bl (x >>> ((6 : Int32) &&& 31)) n = v := ⟨_, bl_lt _ (by omega), rfl⟩
    rw [ey1]
    refine g_aald (v := zp Z y1) hc hw (23 + (3)) (two_get s_Y5) (vp_in_nI (show y1 < n by omega) (by omega)) (congrArg (fun q => some (zp Z q)) (nI_clamp (show y1 < 2 ^ 31 by omega))) dL_act_337 ?_
    refine lv_astore (lv' := [(5, .ref (zp Z y1)), (4, .int (nI v4)), (3, .int (nI v3)), (0, .ref h), (1, .ref (zh Z)), (2, .int x)]) hx hb dL_act_338 hl (by decide) rfl (fun ls hl => ?_)
    refine lv_iload_n hx hb dL_act_340 rfl (lv_at hl 5 rfl) ?_
    refine lv_bipush (v := 6) hx hb dL_act_341 (by decide) ?_
    refine lv_ishr hx hb dL_act_343 ?_
    refine lv_aload_n hx hb dL_act_344 rfl (lv_at hl 4 rfl) ?_
    refine g_get (v := .ref (zy Z 5)) hc hw hi2 (23 + (0)) 5 (two_get s_H) rfl (by decide) (List.mem_of_getElem? (i := 4) rfl) sv_5 dL_act_345 ?_
    refine va_alen (v := nI n) hx hb hK.1 hw.1 (23 + (3)) 2 (two_get s_Y5) rfl rfl dL_act_348 ?_
    refine g_callS0 (n := 2) (As := [.int (x >>> ((6 : Int32) &&& 31)), .int (nI n)]) (rest := []) hc hw (k_L_below l D cI cZ cL (x >>> ((6 : Int32) &&& 31)) n (by omega) (by omega)) gL_act_L_below rfl (by decide +kernel) ⟨Nat.le_of_ble_eq_true rfl, Nat.le_of_ble_eq_true rfl⟩ rfl rfl hl.1 (Nat.le_of_ble_eq_true rfl) (st1 := [.int (nI (bl (x >>> ((6 : Int32) &&& 31)) n))]) rfl dL_act_349 (k2 := 0) (s2 := 0) (by show 0 + 0 = 0; omega) (by show 0 + 0 = 0; omega) ⟨(Nat.le_trans (show 0 ≤ 130 by omega) (Nat.le_of_ble_eq_true rfl)), (Nat.le_trans (show 0 ≤ 3200 by omega) (Nat.le_of_ble_eq_true rfl))⟩ (fun H locs hw => ?_)
    rw [ey1]
    refine lv_istore (lv' := [(6, .int (nI y1)), (5, .ref (zp Z y1)), (4, .int (nI v4)), (3, .int (nI v3)), (0, .ref h), (1, .ref (zh Z)), (2, .int x)]) hx hb dL_act_352 hl (by decide) rfl (fun ls hl => ?_)
    refine lv_aload hx hb dL_act_354 (lv_at hl 1 rfl) ?_
    refine lv_iconst (v := 1) hx hb dL_act_356 (by decide) ?_
    refine r_ld (f := (Pr y1)) (k := 1) hc hw (23 + (4 + (w + (b + y1)))) (two_get (s_P (show y1 < n by omega))) (by unfold vp_in; decide) (by decide) dL_act_357 ?_
    refine lv_if_lt (tgt := 389) hx hb dL_act_358 (by decide) (fun c2 => ?_) (fun c2 => ?_)
    · refine lv_iconst (v := 0) hx hb dL_act_389 (by decide) ?_
      refine lv_istore (lv' := [(7, .int (0 : Int32)), (6, .int (nI y1)), (5, .ref (zp Z y1)), (4, .int (nI v4)), (3, .int (nI v3)), (0, .ref h), (1, .ref (zh Z)), (2, .int x)]) hx hb dL_act_390 hl (by decide) rfl (fun ls hl => ?_)
      refine lv_aload hx hb dL_act_392 (lv_at hl 2 rfl) ?_
      refine lv_iconst (v := 1) hx hb dL_act_394 (by decide) ?_
      refine r_ld (f := (Pr y1)) (k := 1) hc hw (23 + (4 + (w + (b + y1)))) (two_get (s_P (show y1 < n by omega))) (by unfold vp_in; decide) (by decide) dL_act_395 ?_
      refine lv_istore (lv' := [(8, .int (Pr y1 1)), (7, .int (0 : Int32)), (6, .int (nI y1)), (5, .ref (zp Z y1)), (4, .int (nI v4)), (3, .int (nI v3)), (0, .ref h), (1, .ref (zh Z)), (2, .int x)]) hx hb dL_act_396 hl (by decide) rfl (fun ls hl => ?_)
      refine lv_iload hx hb dL_act_398 (lv_at hl 1 rfl) ?_
      refine lv_if_eq (tgt := 408) hx hb dL_act_400 (by decide) (fun _ => ?_) (fun z => absurd (by decide) z)
      refine lv_aload_n hx hb dL_act_408 rfl (lv_at hl 6 rfl) ?_
      refine lv_iload hx hb dL_act_409 (lv_at hl 2 rfl) ?_
      refine lv_iload_n hx hb dL_act_411 rfl (lv_at hl 5 rfl) ?_
      have hM := k_X1_carry hst D cI cZ cL h a a2 w b n T w2 b2 n2 T2 hd5 hd4 hd30 he5 he4 he30 (nI y1) (nI v3)
      rw [op_carryn hd5 hd30 hD (show y1 < n by omega) (show v3 < w by omega) (Or.inl c2)] at hM
      refine pt_callV (n := 2) (q0 := 0) (rest := []) hc hT hw.2.2 (Pt.front hw hA) hM gL_act_X1_carry rfl (by decide +kernel) ⟨Nat.le_of_ble_eq_true rfl, Nat.le_of_ble_eq_true rfl⟩ rfl rfl rfl rfl rfl hl.1 (Nat.le_of_ble_eq_true rfl) (st1 := .int _ :: []) rfl dL_act_412 (k2 := 3) (s2 := 18) (by show 0 + 3 = 3; omega) (by show 0 + 18 = 18; omega) ⟨(Nat.le_trans (show 3 ≤ 130 by omega) (Nat.le_of_ble_eq_true rfl)), (Nat.le_trans (show 18 ≤ 3200 by omega) (Nat.le_of_ble_eq_true rfl))⟩ (fun hz H locs q9 ce hw h5 h6 h7 => ?_) (fun hz => absurd hz (by decide))
      refine vx_catch (name := "java/lang/IllegalStateException") hown [⟨180, 208, 209, 36⟩] ⟨408, 430, 431, 36⟩ [] htb (fun z hz => by rw [List.mem_singleton] at hz; subst hz; exact Or.inl (by decide)) rfl (by decide) (hts _ (List.mem_of_getElem? (i := 1) rfl)) (va_Nw.use rfl (hT.1.2.1 2)) h5 h6 h7 ?_
      refine lv_astore (lv' := [(9, .ref q9), (8, .int (Pr y1 1)), (7, .int (0 : Int32)), (6, .int (nI y1)), (5, .ref (zp Z y1)), (4, .int (nI v4)), (3, .int (nI v3)), (0, .ref h), (1, .ref (zh Z)), (2, .int x)]) hx hb dL_act_431 hl (by decide) rfl (fun ls hl => ?_)
      refine lv_iload hx hb dL_act_433 (lv_at hl 2 rfl) ?_
      refine lv_if_ne (tgt := 442) hx hb dL_act_435 (by decide) (fun z => absurd (by decide) z) (fun _ => ?_)
      refine lv_iconst (v := 1) hx hb dL_act_438 (by decide) ?_
      refine lv_goto (tgt := 443) hx hb dL_act_439 (by decide) ?_
      exact G_zret hc hw rfl ⟨rfl, n, k, T, (dy, ea, Wr, Br, Pr), Z, by omega, by omega, hD, hF, rfl, rfl⟩ (Nat.le_trans (show 3 ≤ 130 by omega) (Nat.le_of_ble_eq_true rfl)) (Nat.le_trans (show 18 ≤ 3200 by omega) (Nat.le_of_ble_eq_true rfl)) dL_act_443
    · refine lv_aload hx hb dL_act_361 (lv_at hl 1 rfl) ?_
      refine lv_iconst (v := 1) hx hb dL_act_363 (by decide) ?_
      refine r_ld (f := (Pr y1)) (k := 1) hc hw (23 + (4 + (w + (b + y1)))) (two_get (s_P (show y1 < n by omega))) (by unfold vp_in; decide) (by decide) dL_act_364 ?_
      refine lv_iload_n hx hb dL_act_365 rfl (lv_at hl 3 rfl) ?_
      refine lv_icmp_eq (tgt := 389) hx hb dL_act_366 (by decide) (fun c3 => ?_) (fun c3 => ?_)
      · refine lv_iconst (v := 0) hx hb dL_act_389 (by decide) ?_
        refine lv_istore (lv' := [(7, .int (0 : Int32)), (6, .int (nI y1)), (5, .ref (zp Z y1)), (4, .int (nI v4)), (3, .int (nI v3)), (0, .ref h), (1, .ref (zh Z)), (2, .int x)]) hx hb dL_act_390 hl (by decide) rfl (fun ls hl => ?_)
        refine lv_aload hx hb dL_act_392 (lv_at hl 2 rfl) ?_
        refine lv_iconst (v := 1) hx hb dL_act_394 (by decide) ?_
        refine r_ld (f := (Pr y1)) (k := 1) hc hw (23 + (4 + (w + (b + y1)))) (two_get (s_P (show y1 < n by omega))) (by unfold vp_in; decide) (by decide) dL_act_395 ?_
        refine lv_istore (lv' := [(8, .int (Pr y1 1)), (7, .int (0 : Int32)), (6, .int (nI y1)), (5, .ref (zp Z y1)), (4, .int (nI v4)), (3, .int (nI v3)), (0, .ref h), (1, .ref (zh Z)), (2, .int x)]) hx hb dL_act_396 hl (by decide) rfl (fun ls hl => ?_)
        refine lv_iload hx hb dL_act_398 (lv_at hl 1 rfl) ?_
        refine lv_if_eq (tgt := 408) hx hb dL_act_400 (by decide) (fun _ => ?_) (fun z => absurd (by decide) z)
        refine lv_aload_n hx hb dL_act_408 rfl (lv_at hl 6 rfl) ?_
        refine lv_iload hx hb dL_act_409 (lv_at hl 2 rfl) ?_
        refine lv_iload_n hx hb dL_act_411 rfl (lv_at hl 5 rfl) ?_
        have hM := k_X1_carry hst D cI cZ cL h a a2 w b n T w2 b2 n2 T2 hd5 hd4 hd30 he5 he4 he30 (nI y1) (nI v3)
        rw [op_carryn hd5 hd30 hD (show y1 < n by omega) (show v3 < w by omega) (Or.inr (Or.inl c3))] at hM
        refine pt_callV (n := 2) (q0 := 0) (rest := []) hc hT hw.2.2 (Pt.front hw hA) hM gL_act_X1_carry rfl (by decide +kernel) ⟨Nat.le_of_ble_eq_true rfl, Nat.le_of_ble_eq_true rfl⟩ rfl rfl rfl rfl rfl hl.1 (Nat.le_of_ble_eq_true rfl) (st1 := .int _ :: []) rfl dL_act_412 (k2 := 3) (s2 := 18) (by show 0 + 3 = 3; omega) (by show 0 + 18 = 18; omega) ⟨(Nat.le_trans (show 3 ≤ 130 by omega) (Nat.le_of_ble_eq_true rfl)), (Nat.le_trans (show 18 ≤ 3200 by omega) (Nat.le_of_ble_eq_true rfl))⟩ (fun hz H locs q9 ce hw h5 h6 h7 => ?_) (fun hz => absurd hz (by decide))
        refine vx_catch (name := "java/lang/IllegalStateException") hown [⟨180, 208, 209, 36⟩] ⟨408, 430, 431, 36⟩ [] htb (fun z hz => by rw [List.mem_singleton] at hz; subst hz; exact Or.inl (by decide)) rfl (by decide) (hts _ (List.mem_of_getElem? (i := 1) rfl)) (va_Nw.use rfl (hT.1.2.1 2)) h5 h6 h7 ?_
        refine lv_astore (lv' := [(9, .ref q9), (8, .int (Pr y1 1)), (7, .int (0 : Int32)), (6, .int (nI y1)), (5, .ref (zp Z y1)), (4, .int (nI v4)), (3, .int (nI v3)), (0, .ref h), (1, .ref (zh Z)), (2, .int x)]) hx hb dL_act_431 hl (by decide) rfl (fun ls hl => ?_)
        refine lv_iload hx hb dL_act_433 (lv_at hl 2 rfl) ?_
        refine lv_if_ne (tgt := 442) hx hb dL_act_435 (by decide) (fun z => absurd (by decide) z) (fun _ => ?_)
        refine lv_iconst (v := 1) hx hb dL_act_438 (by decide) ?_
        refine lv_goto (tgt := 443) hx hb dL_act_439 (by decide) ?_
        exact G_zret hc hw rfl ⟨rfl, n, k, T, (dy, ea, Wr, Br, Pr), Z, by omega, by omega, hD, hF, rfl, rfl⟩ (Nat.le_trans (show 3 ≤ 130 by omega) (Nat.le_of_ble_eq_true rfl)) (Nat.le_trans (show 18 ≤ 3200 by omega) (Nat.le_of_ble_eq_true rfl)) dL_act_443
      · refine lv_aload_n hx hb dL_act_369 rfl (lv_at hl 5 rfl) ?_
        refine lv_iload_n hx hb dL_act_370 rfl (lv_at hl 3 rfl) ?_
        refine p_callV (n := 1) (q0 := 0) (rest := []) hc hw.2.2 (Pt.back hw hA) ((k_X2_in l D cI cZ cL [] (nI v3) hd30).tx (congrArg (fun v : Int32 => some (Value.int v)) (q_in hd5 hX (show v3 < w by omega)))) gL_act_X2_in rfl (by decide +kernel) ⟨Nat.le_of_ble_eq_true rfl, Nat.le_of_ble_eq_true rfl⟩ rfl rfl rfl rfl rfl hl.1 (Nat.le_of_ble_eq_true rfl) (st1 := [.int (nI (cn (iw T v3) n))]) rfl dL_act_371 (k2 := 0) (s2 := 0) (by show 0 + 0 = 0; omega) (by show 0 + 0 = 0; omega) ⟨(Nat.le_trans (show 0 ≤ 130 by omega) (Nat.le_of_ble_eq_true rfl)), (Nat.le_trans (show 0 ≤ 3200 by omega) (Nat.le_of_ble_eq_true rfl))⟩ (fun H locs hw => ?_)
        refine lv_aload_n hx hb dL_act_374 rfl (lv_at hl 5 rfl) ?_
        refine g_get (v := .ref (zy Z 3)) hc hw hi2 (23 + (0)) 3 (two_get s_H) rfl (by decide) (List.mem_of_getElem? (i := 2) rfl) sv_3 dL_act_375 ?_
        refine lv_iload_n hx hb dL_act_378 rfl (lv_at hl 3 rfl) ?_
        refine g_aald (v := zw Z v3) hc hw (23 + (1)) (two_get s_Y3) (vp_in_nI (show v3 < w by omega) (by omega)) (congrArg (fun q => some (zw Z q)) (nI_clamp (show v3 < 2 ^ 31 by omega))) dL_act_379 ?_
        refine lv_iconst (v := 0) hx hb dL_act_380 (by decide) ?_
        refine r_ld (f := (Wr v3)) (k := 0) hc hw (23 + (4 + v3)) (two_get (s_W (show v3 < w by omega))) (by unfold vp_in; decide) (by decide) dL_act_381 ?_
        refine lv_icmp_ge (tgt := 389) hx hb dL_act_382 (by decide) (fun c4 => ?_) (fun c4 => ?_)
        · refine lv_iconst (v := 0) hx hb dL_act_389 (by decide) ?_
          refine lv_istore (lv' := [(7, .int (0 : Int32)), (6, .int (nI y1)), (5, .ref (zp Z y1)), (4, .int (nI v4)), (3, .int (nI v3)), (0, .ref h), (1, .ref (zh Z)), (2, .int x)]) hx hb dL_act_390 hl (by decide) rfl (fun ls hl => ?_)
          refine lv_aload hx hb dL_act_392 (lv_at hl 2 rfl) ?_
          refine lv_iconst (v := 1) hx hb dL_act_394 (by decide) ?_
          refine r_ld (f := (Pr y1)) (k := 1) hc hw (23 + (4 + (w + (b + y1)))) (two_get (s_P (show y1 < n by omega))) (by unfold vp_in; decide) (by decide) dL_act_395 ?_
          refine lv_istore (lv' := [(8, .int (Pr y1 1)), (7, .int (0 : Int32)), (6, .int (nI y1)), (5, .ref (zp Z y1)), (4, .int (nI v4)), (3, .int (nI v3)), (0, .ref h), (1, .ref (zh Z)), (2, .int x)]) hx hb dL_act_396 hl (by decide) rfl (fun ls hl => ?_)
          refine lv_iload hx hb dL_act_398 (lv_at hl 1 rfl) ?_
          refine lv_if_eq (tgt := 408) hx hb dL_act_400 (by decide) (fun _ => ?_) (fun z => absurd (by decide) z)
          refine lv_aload_n hx hb dL_act_408 rfl (lv_at hl 6 rfl) ?_
          refine lv_iload hx hb dL_act_409 (lv_at hl 2 rfl) ?_
          refine lv_iload_n hx hb dL_act_411 rfl (lv_at hl 5 rfl) ?_
          have hM := k_X1_carry hst D cI cZ cL h a a2 w b n T w2 b2 n2 T2 hd5 hd4 hd30 he5 he4 he30 (nI y1) (nI v3)
          rw [op_carryn hd5 hd30 hD (show y1 < n by omega) (show v3 < w by omega) (Or.inr (Or.inr (Int32.not_lt.mpr c4)))] at hM
          refine pt_callV (n := 2) (q0 := 0) (rest := []) hc hT hw.2.2 (Pt.front hw hA) hM gL_act_X1_carry rfl (by decide +kernel) ⟨Nat.le_of_ble_eq_true rfl, Nat.le_of_ble_eq_true rfl⟩ rfl rfl rfl rfl rfl hl.1 (Nat.le_of_ble_eq_true rfl) (st1 := .int _ :: []) rfl dL_act_412 (k2 := 3) (s2 := 18) (by show 0 + 3 = 3; omega) (by show 0 + 18 = 18; omega) ⟨(Nat.le_trans (show 3 ≤ 130 by omega) (Nat.le_of_ble_eq_true rfl)), (Nat.le_trans (show 18 ≤ 3200 by omega) (Nat.le_of_ble_eq_true rfl))⟩ (fun hz H locs q9 ce hw h5 h6 h7 => ?_) (fun hz => absurd hz (by decide))
          refine vx_catch (name := "java/lang/IllegalStateException") hown [⟨180, 208, 209, 36⟩] ⟨408, 430, 431, 36⟩ [] htb (fun z hz => by rw [List.mem_singleton] at hz; subst hz; exact Or.inl (by decide)) rfl (by decide) (hts _ (List.mem_of_getElem? (i := 1) rfl)) (va_Nw.use rfl (hT.1.2.1 2)) h5 h6 h7 ?_
          refine lv_astore (lv' := [(9, .ref q9), (8, .int (Pr y1 1)), (7, .int (0 : Int32)), (6, .int (nI y1)), (5, .ref (zp Z y1)), (4, .int (nI v4)), (3, .int (nI v3)), (0, .ref h), (1, .ref (zh Z)), (2, .int x)]) hx hb dL_act_431 hl (by decide) rfl (fun ls hl => ?_)
          refine lv_iload hx hb dL_act_433 (lv_at hl 2 rfl) ?_
          refine lv_if_ne (tgt := 442) hx hb dL_act_435 (by decide) (fun z => absurd (by decide) z) (fun _ => ?_)
          refine lv_iconst (v := 1) hx hb dL_act_438 (by decide) ?_
          refine lv_goto (tgt := 443) hx hb dL_act_439 (by decide) ?_
          exact G_zret hc hw rfl ⟨rfl, n, k, T, (dy, ea, Wr, Br, Pr), Z, by omega, by omega, hD, hF, rfl, rfl⟩ (Nat.le_trans (show 3 ≤ 130 by omega) (Nat.le_of_ble_eq_true rfl)) (Nat.le_trans (show 18 ≤ 3200 by omega) (Nat.le_of_ble_eq_true rfl)) dL_act_443
        · refine lv_iconst (v := 1) hx hb dL_act_385 (by decide) ?_
          refine lv_goto (tgt := 390) hx hb dL_act_386 (by decide) ?_
          refine lv_istore (lv' := [(7, .int (1 : Int32)), (6, .int (nI y1)), (5, .ref (zp Z y1)), (4, .int (nI v4)), (3, .int (nI v3)), (0, .ref h), (1, .ref (zh Z)), (2, .int x)]) hx hb dL_act_390 hl (by decide) rfl (fun ls hl => ?_)
          refine lv_aload hx hb dL_act_392 (lv_at hl 2 rfl) ?_
          refine lv_iconst (v := 1) hx hb dL_act_394 (by decide) ?_
          refine r_ld (f := (Pr y1)) (k := 1) hc hw (23 + (4 + (w + (b + y1)))) (two_get (s_P (show y1 < n by omega))) (by unfold vp_in; decide) (by decide) dL_act_395 ?_
          refine lv_istore (lv' := [(8, .int (Pr y1 1)), (7, .int (1 : Int32)), (6, .int (nI y1)), (5, .ref (zp Z y1)), (4, .int (nI v4)), (3, .int (nI v3)), (0, .ref h), (1, .ref (zh Z)), (2, .int x)]) hx hb dL_act_396 hl (by decide) rfl (fun ls hl => ?_)
          refine lv_iload hx hb dL_act_398 (lv_at hl 1 rfl) ?_
          refine lv_if_eq (tgt := 408) hx hb dL_act_400 (by decide) (fun z => absurd z (by decide)) (fun _ => ?_)
          refine lv_aload hx hb dL_act_403 (lv_at hl 3 rfl) ?_
          refine lv_iconst (v := 1) hx hb dL_act_405 (by decide) ?_
          refine lv_iload_n hx hb dL_act_406 rfl (lv_at hl 5 rfl) ?_
          refine r_st (f := (Pr y1)) (k := 1) hc hw (23 + (4 + (w + (b + y1)))) (two_get (s_P (show y1 < n by omega))) (by unfold vp_in; decide) (by decide) (w' := (wb_c h a a2 cI cZ w b n T w2 b2 n2 T2 ++ ws_s Z cI cL w b n dy (nI k) ea Wr Br (ur Pr y1 1 (nI v3)) [])) (two_set (su_P (show y1 < n by omega))) dL_act_407 (fun H locs hw => ?_)
          refine lv_aload_n hx hb dL_act_408 rfl (lv_at hl 6 rfl) ?_
          refine lv_iload hx hb dL_act_409 (lv_at hl 2 rfl) ?_
          refine lv_iload_n hx hb dL_act_411 rfl (lv_at hl 5 rfl) ?_
          obtain ⟨e1, e2, hD2, hF2⟩ := op_carry (w2 := w2) (b2 := b2) (n2 := n2) (T2 := T2) hd5 hd30 hD hF (show y1 < n by omega) (show v3 < w by omega) c2 c3 (Int32.not_le.mp c4)
          refine G_callT (n := 2) (q0 := 0) (rest := []) hc hT hw.2.2 (Pt.front hw hA) ((k_X1_carry hst D cI cZ cL h a a2 w b n T w2 b2 n2 T2 hd5 hd4 hd30 he5 he4 he30 (nI y1) (nI v3)).to e1 (congrArg (fun v : Int32 => some (Value.int v)) e2)) gL_act_X1_carry rfl (by decide +kernel) ⟨Nat.le_of_ble_eq_true rfl, Nat.le_of_ble_eq_true rfl⟩ rfl rfl rfl rfl rfl hl.1 (Nat.le_of_ble_eq_true rfl) (st1 := [.int (Pr y1 1)]) rfl dL_act_412 (k2 := 3) (s2 := 18) (by show 0 + 3 = 3; omega) (by show 0 + 18 = 18; omega) ⟨(Nat.le_trans (show 3 ≤ 130 by omega) (Nat.le_of_ble_eq_true rfl)), (Nat.le_trans (show 18 ≤ 3200 by omega) (Nat.le_of_ble_eq_true rfl))⟩ (fun H locs hw => ?_)
          refine lv_iload hx hb dL_act_415 (lv_at hl 0 rfl) ?_
          refine lv_icmp_ne (tgt := 429) hx hb dL_act_417 (by decide) (fun z => absurd rfl z) (fun _ => ?_)
          refine lv_iload hx hb dL_act_420 (lv_at hl 1 rfl) ?_
          refine lv_if_eq (tgt := 429) hx hb dL_act_422 (by decide) (fun z => absurd z (by decide)) (fun _ => ?_)
          refine lv_iconst (v := 1) hx hb dL_act_425 (by decide) ?_
          refine lv_goto (tgt := 430) hx hb dL_act_426 (by decide) ?_
          exact G_zret hc hw rfl ⟨rfl, n, k, (s_X1_carry w b n T w2 b2 n2 T2 (nI y1) (nI v3)), (dy, ea, Wr, Br, (ur Pr y1 1 (nI v3))), Z, by omega, by omega, hD2, hF2, rfl, rfl⟩ (Nat.le_trans (show 3 ≤ 130 by omega) (Nat.le_of_ble_eq_true rfl)) (Nat.le_trans (show 18 ≤ 3200 by omega) (Nat.le_of_ble_eq_true rfl)) dL_act_430
  · refine lv_iconst (v := 1) hx hb dL_act_319 (by decide) ?_
    exact G_zret hc hw rfl ⟨rfl, n, k, T, (dy, ea, Wr, Br, Pr), Z, by omega, by omega, hD, hF, rfl, rfl⟩ (Nat.le_trans (show 0 ≤ 130 by omega) (Nat.le_of_ble_eq_true rfl)) (Nat.le_trans (show 0 ≤ 3200 by omega) (Nat.le_of_ble_eq_true rfl)) dL_act_320
set_option maxHeartbeats 8000000 in
set_option maxRecDepth 100000 in
theorem act_444 {p : Program} {l : Launch} (hst : l.stackTraces = false) {e : Env} {s : State} {m : MethodId} {args : Array Value} {below : List Frame} {meth : Method} {c : Code} {H : Heap} {locs : List Loc} {D : va_G} {cI cZ cL : ClassId} {A : Nat → Prop} {ls : Array Slot} {h : Nat} {a a2 : Nat → Nat} {w b n k : Nat} {T : ct_T} {w2 b2 n2 : Nat} {T2 : ct_T} {Z : sA} {dy ea : Int32} {Wr Br Pr : Nat → Nat → Int32} (hd5 : w ≤ 5) (hd4 : b ≤ 4) (hd30 : n ≤ 30) (he5 : w2 ≤ 5) (he4 : b2 ≤ 4) (he30 : n2 ≤ 30) (hwp : 0 < w) (hbp : 0 < b) (hk : k ≤ 60) (hD : DI w b n k T (dy, ea, Wr, Br, Pr)) (hF : FH n T) {x : Int32} {v3 v4 : Nat} (hv3 : v3 < w) (hv4 : v4 < b) (hc : Cx p s m args meth c cL_act 10 wsL_act RL (some .boolean) D cI cZ cL A) (hT : Tx A s) (htb : c.exceptionTable.toList = tableOf [(180, 208, 209, 36), (408, 430, 431, 36)]) (hw : Wo D A s.heap (wb_c h a a2 cI cZ w b n T w2 b2 n2 T2 ++ ws_s Z cI cL w b n dy (nI k) ea Wr Br Pr []) H locs) (hl : lv_has ls 10 [(4, .int (nI v4)), (3, .int (nI v3)), (0, .ref h), (1, .ref (zh Z)), (2, .int x)]) : W p l e rm_L_act s m args below meth c H locs 0 0 (GE below args s D A (ga h a a2 cI cZ cL w b w2 b2 n2 T2 (zh Z)) rm_L_act) (F0 m 444 ls []) := by
  obtain ⟨hx, hb, hr, hml, hown, hts, hlk, hK, hA⟩ := id hc
  have hi2 : ∀ w ∈ u_ws RX2 TX2 6, w ∈ wsL_act := fun _ h => List.mem_cons_of_mem _ (List.mem_append_left _ (List.mem_append_left _ (List.mem_append_left _ (List.mem_append_left _ (List.mem_append_left _ (List.mem_append_right _ h))))))
  have hX : RX w b n T Wr Br Pr := hD.1.1
  refine lv_iconst (v := 1) hx hb dL_act_444 (by decide) ?_
  refine lv_iload_n hx hb dL_act_445 rfl (lv_at hl 4 rfl) ?_
  refine lv_bipush (v := 8) hx hb dL_act_446 (by decide) ?_
  refine lv_ishr hx hb dL_act_448 ?_
  refine lv_iload_n hx hb dL_act_449 rfl (lv_at hl 4 rfl) ?_
  refine lv_iconst (v := 5) hx hb dL_act_450 (by decide) ?_
  refine lv_ishr hx hb dL_act_451 ?_
  refine lv_bipush (v := 6) hx hb dL_act_452 (by decide) ?_
  refine g_callS0 (n := 2) (As := [.int (x >>> ((5 : Int32) &&& 31)), .int (nI 6)]) (rest := [.int (x >>> ((8 : Int32) &&& 31)), .int (1 : Int32)]) hc hw (k_L_below l D cI cZ cL (x >>> ((5 : Int32) &&& 31)) 6 (by omega) (by omega)) gL_act_L_below rfl (by decide +kernel) ⟨Nat.le_of_ble_eq_true rfl, Nat.le_of_ble_eq_true rfl⟩ rfl rfl hl.1 (Nat.le_of_ble_eq_true rfl) (st1 := [.int (nI (bl (x >>> ((5 : Int32) &&& 31)) 6)), .int (x >>> ((8 : Int32) &&& 31)), .int (1 : Int32)]) rfl dL_act_454 (k2 := 0) (s2 := 0) (by show 0 + 0 = 0; omega) (by show 0 + 0 = 0; omega) ⟨(Nat.le_trans (show 0 ≤ 130 by omega) (Nat.le_of_ble_eq_true rfl)), (Nat.le_trans (show 0 ≤ 3200 by omega) (Nat.le_of_ble_eq_true rfl))⟩ (fun H locs hw => ?_)
  obtain ⟨y1, hy1, ey1⟩ : ∃ v, v < 6 ∧ bl (x >>> ((5 : Int32) &&& 31)) 6 = v := ⟨_, bl_lt _ (by omega), rfl⟩
  rw [ey1]
  refine lv_if_ne (tgt := 465) hx hb dL_act_457 (by decide) (fun c1 => ?_) (fun c1 => ?_)
  · refine lv_iconst (v := 3) hx hb dL_act_465 (by decide) ?_
    refine g_callS0 (n := 2) (As := [.int (x >>> ((8 : Int32) &&& 31)), .int (nI 3)]) (rest := [.int (1 : Int32)]) hc hw (k_L_below l D cI cZ cL (x >>> ((8 : Int32) &&& 31)) 3 (by omega) (by omega)) gL_act_L_below rfl (by decide +kernel) ⟨Nat.le_of_ble_eq_true rfl, Nat.le_of_ble_eq_true rfl⟩ rfl rfl hl.1 (Nat.le_of_ble_eq_true rfl) (st1 := [.int (nI (bl (x >>> ((8 : Int32) &&& 31)) 3)), .int (1 : Int32)]) rfl dL_act_466 (k2 := 0) (s2 := 0) (by show 0 + 0 = 0; omega) (by show 0 + 0 = 0; omega) ⟨(Nat.le_trans (show 0 ≤ 130 by omega) (Nat.le_of_ble_eq_true rfl)), (Nat.le_trans (show 0 ≤ 3200 by omega) (Nat.le_of_ble_eq_true rfl))⟩ (fun H locs hw => ?_)
    obtain ⟨y2, hy2, ey2⟩ : ∃ v, v < 3 ∧ bl (x >>> ((8 : Int32) &&& 31)) 3 = v := ⟨_, bl_lt _ (by omega), rfl⟩
    rw [ey2]
    refine lv_iadd hx hb dL_act_469 ?_
    rw [show ((1 : Int32) + (nI y2)) = (nI (1 + y2)) from nI_add 1 y2]
    refine lv_istore (lv' := [(5, .int (nI (1 + y2))), (4, .int (nI v4)), (3, .int (nI v3)), (0, .ref h), (1, .ref (zh Z)), (2, .int x)]) hx hb dL_act_470 hl (by decide) rfl (fun ls hl => ?_)
    refine lv_aload_n hx hb dL_act_472 rfl (lv_at hl 4 rfl) ?_
    refine lv_iconst (v := 3) hx hb dL_act_473 (by decide) ?_
    refine p_callV (n := 1) (q0 := 0) (rest := []) hc hw.2.2 (Pt.back hw hA) ((k_X2_all l D cI cZ cL [] (3 : Int32) hd30 (by unfold vp_in; decide)).tx (congrArg (fun v : Int32 => some (Value.int v)) (all_ok hX).1)) gL_act_X2_all rfl (by decide +kernel) ⟨Nat.le_of_ble_eq_true rfl, Nat.le_of_ble_eq_true rfl⟩ rfl rfl rfl rfl rfl hl.1 (Nat.le_of_ble_eq_true rfl) (st1 := [.int (nI (hz (dy, ea, Wr, Br, Pr) 3 n))]) rfl dL_act_474 (k2 := 0) (s2 := 0) (by show 0 + 0 = 0; omega) (by show 0 + 0 = 0; omega) ⟨(Nat.le_trans (show 0 ≤ 130 by omega) (Nat.le_of_ble_eq_true rfl)), (Nat.le_trans (show 0 ≤ 3200 by omega) (Nat.le_of_ble_eq_true rfl))⟩ (fun H locs hw => ?_)
    refine lv_istore (lv' := [(6, .int (nI (hz (dy, ea, Wr, Br, Pr) 3 n))), (5, .int (nI (1 + y2))), (4, .int (nI v4)), (3, .int (nI v3)), (0, .ref h), (1, .ref (zh Z)), (2, .int x)]) hx hb dL_act_477 hl (by decide) rfl (fun ls hl => ?_)
    refine lv_aload_n hx hb dL_act_479 rfl (lv_at hl 5 rfl) ?_
    refine lv_iload hx hb dL_act_480 (lv_at hl 1 rfl) ?_
    refine p_callV (n := 1) (q0 := 0) (rest := []) hc hw.2.2 (Pt.back hw hA) (k_X2_pass_ l D cI cZ cL (bo := nI k) (S := (dy, ea, Wr, Br, Pr)) hd5 hd4 hd30 ((1 + y2)) (by omega) (fun i _ => DI_ins hd5 hd4 hd30 hk hD i)) gL_act_X2_pass_ rfl (by decide +kernel) ⟨Nat.le_of_ble_eq_true rfl, Nat.le_of_ble_eq_true rfl⟩ rfl rfl rfl rfl rfl hl.1 (Nat.le_of_ble_eq_true rfl) (st1 := []) rfl dL_act_482 (k2 := 100) (s2 := 3000) (by show 0 + 100 = 100; omega) (by show 0 + 3000 = 3000; omega) ⟨(Nat.le_trans (show 100 ≤ 130 by omega) (Nat.le_of_ble_eq_true rfl)), (Nat.le_trans (show 3000 ≤ 3200 by omega) (Nat.le_of_ble_eq_true rfl))⟩ (fun H locs hw => ?_)
    obtain ⟨S1, hS1⟩ : ∃ S1, S1 = sp_it w b n (nI k) (dy, ea, Wr, Br, Pr) ((1 + y2)) := ⟨_, rfl⟩
    rw [← hS1] at hw
    replace hw : Wo D A s.heap (wb_c h a a2 cI cZ w b n T w2 b2 n2 T2 ++ ws_s Z cI cL w b n (sm_dy S1) (nI k) (sm_ea S1) (sm_W S1) (sm_B S1) (sm_P S1) []) H locs := hw
    refine lv_aload_n hx hb dL_act_485 rfl (lv_at hl 4 rfl) ?_
    refine lv_iload hx hb dL_act_486 (lv_at hl 1 rfl) ?_
    have hop := op_pass (w2 := w2) (b2 := b2) (n2 := n2) (T2 := T2) hd5 hd4 hd30 hk hD hF (show 1 ≤ (1 + y2) by omega) (show (1 + y2) ≤ 40 by omega)
    rw [← hS1] at hop
    obtain ⟨e1, e2, hD2, hF2⟩ := hop
    refine G_callT (n := 1) (q0 := 0) (rest := []) hc hT hw.2.2 (Pt.front hw hA) ((k_X1_pass hst D cI cZ cL h a a2 w b n T w2 b2 n2 T2 hd5 hd4 hd30 he5 he4 he30 (nI ((1 + y2)))).to e1 (congrArg (fun v : Int32 => some (Value.int v)) e2)) gL_act_X1_pass rfl (by decide +kernel) ⟨Nat.le_of_ble_eq_true rfl, Nat.le_of_ble_eq_true rfl⟩ rfl rfl rfl rfl rfl hl.1 (Nat.le_of_ble_eq_true rfl) (st1 := [.int ((nI (hz S1 3 n)) - (nI (hz (dy, ea, Wr, Br, Pr) 3 n)))]) rfl dL_act_488 (k2 := 101) (s2 := 3006) (by show 100 + 1 = 101; omega) (by show 3000 + 6 = 3006; omega) ⟨(Nat.le_trans (show 101 ≤ 130 by omega) (Nat.le_of_ble_eq_true rfl)), (Nat.le_trans (show 3006 ≤ 3200 by omega) (Nat.le_of_ble_eq_true rfl))⟩ (fun H locs hw => ?_)
    refine lv_aload_n hx hb dL_act_491 rfl (lv_at hl 5 rfl) ?_
    refine lv_iconst (v := 3) hx hb dL_act_492 (by decide) ?_
    refine p_callV (n := 1) (q0 := 0) (rest := [.int ((nI (hz S1 3 n)) - (nI (hz (dy, ea, Wr, Br, Pr) 3 n)))]) hc hw.2.2 (Pt.back hw hA) ((k_X2_all l D cI cZ cL [] (3 : Int32) hd30 (by unfold vp_in; decide)).tx (congrArg (fun v : Int32 => some (Value.int v)) (all_ok (show RX w b n _ (sm_W S1) (sm_B S1) (sm_P S1) from hD2.1.1)).1)) gL_act_X2_all rfl (by decide +kernel) ⟨Nat.le_of_ble_eq_true rfl, Nat.le_of_ble_eq_true rfl⟩ rfl rfl rfl rfl rfl hl.1 (Nat.le_of_ble_eq_true rfl) (st1 := [.int (nI (hz S1 3 n)), .int ((nI (hz S1 3 n)) - (nI (hz (dy, ea, Wr, Br, Pr) 3 n)))]) rfl dL_act_493 (k2 := 101) (s2 := 3006) (by show 101 + 0 = 101; omega) (by show 3006 + 0 = 3006; omega) ⟨(Nat.le_trans (show 101 ≤ 130 by omega) (Nat.le_of_ble_eq_true rfl)), (Nat.le_trans (show 3006 ≤ 3200 by omega) (Nat.le_of_ble_eq_true rfl))⟩ (fun H locs hw => ?_)
    refine lv_iload hx hb dL_act_496 (lv_at hl 0 rfl) ?_
    refine lv_isub hx hb dL_act_498 ?_
    refine lv_icmp_ne (tgt := 506) hx hb dL_act_499 (by decide) (fun z => absurd rfl z) (fun _ => ?_)
    refine lv_iconst (v := 1) hx hb dL_act_502 (by decide) ?_
    refine lv_goto (tgt := 507) hx hb dL_act_503 (by decide) ?_
    exact G_zret hc hw rfl ⟨rfl, n, k, (s_X1_pass w b n T w2 b2 n2 T2 (nI ((1 + y2)))), ((sm_dy S1), (sm_ea S1), (sm_W S1), (sm_B S1), (sm_P S1)), Z, by omega, by omega, hD2, hF2, rfl, rfl⟩ (Nat.le_trans (show 101 ≤ 130 by omega) (Nat.le_of_ble_eq_true rfl)) (Nat.le_trans (show 3006 ≤ 3200 by omega) (Nat.le_of_ble_eq_true rfl)) dL_act_507
  · refine lv_bipush (v := 20) hx hb dL_act_460 (by decide) ?_
    refine lv_goto (tgt := 466) hx hb dL_act_462 (by decide) ?_
    refine g_callS0 (n := 2) (As := [.int (x >>> ((8 : Int32) &&& 31)), .int (nI 20)]) (rest := [.int (1 : Int32)]) hc hw (k_L_below l D cI cZ cL (x >>> ((8 : Int32) &&& 31)) 20 (by omega) (by omega)) gL_act_L_below rfl (by decide +kernel) ⟨Nat.le_of_ble_eq_true rfl, Nat.le_of_ble_eq_true rfl⟩ rfl rfl hl.1 (Nat.le_of_ble_eq_true rfl) (st1 := [.int (nI (bl (x >>> ((8 : Int32) &&& 31)) 20)), .int (1 : Int32)]) rfl dL_act_466 (k2 := 0) (s2 := 0) (by show 0 + 0 = 0; omega) (by show 0 + 0 = 0; omega) ⟨(Nat.le_trans (show 0 ≤ 130 by omega) (Nat.le_of_ble_eq_true rfl)), (Nat.le_trans (show 0 ≤ 3200 by omega) (Nat.le_of_ble_eq_true rfl))⟩ (fun H locs hw => ?_)
    obtain ⟨y3, hy3, ey3⟩ : ∃ v, v < 20 ∧ bl (x >>> ((8 : Int32) &&& 31)) 20 = v := ⟨_, bl_lt _ (by omega), rfl⟩
    rw [ey3]
    refine lv_iadd hx hb dL_act_469 ?_
    rw [show ((1 : Int32) + (nI y3)) = (nI (1 + y3)) from nI_add 1 y3]
    refine lv_istore (lv' := [(5, .int (nI (1 + y3))), (4, .int (nI v4)), (3, .int (nI v3)), (0, .ref h), (1, .ref (zh Z)), (2, .int x)]) hx hb dL_act_470 hl (by decide) rfl (fun ls hl => ?_)
    refine lv_aload_n hx hb dL_act_472 rfl (lv_at hl 4 rfl) ?_
    refine lv_iconst (v := 3) hx hb dL_act_473 (by decide) ?_
    refine p_callV (n := 1) (q0 := 0) (rest := []) hc hw.2.2 (Pt.back hw hA) ((k_X2_all l D cI cZ cL [] (3 : Int32) hd30 (by unfold vp_in; decide)).tx (congrArg (fun v : Int32 => some (Value.int v)) (all_ok hX).1)) gL_act_X2_all rfl (by decide +kernel) ⟨Nat.le_of_ble_eq_true rfl, Nat.le_of_ble_eq_true rfl⟩ rfl rfl rfl rfl rfl hl.1 (Nat.le_of_ble_eq_true rfl) (st1 := [.int (nI (hz (dy, ea, Wr, Br, Pr) 3 n))]) rfl dL_act_474 (k2 := 0) (s2 := 0) (by show 0 + 0 = 0; omega) (by show 0 + 0 = 0; omega) ⟨(Nat.le_trans (show 0 ≤ 130 by omega) (Nat.le_of_ble_eq_true rfl)), (Nat.le_trans (show 0 ≤ 3200 by omega) (Nat.le_of_ble_eq_true rfl))⟩ (fun H locs hw => ?_)
    refine lv_istore (lv' := [(6, .int (nI (hz (dy, ea, Wr, Br, Pr) 3 n))), (5, .int (nI (1 + y3))), (4, .int (nI v4)), (3, .int (nI v3)), (0, .ref h), (1, .ref (zh Z)), (2, .int x)]) hx hb dL_act_477 hl (by decide) rfl (fun ls hl => ?_)
    refine lv_aload_n hx hb dL_act_479 rfl (lv_at hl 5 rfl) ?_
    refine lv_iload hx hb dL_act_480 (lv_at hl 1 rfl) ?_
    refine p_callV (n := 1) (q0 := 0) (rest := []) hc hw.2.2 (Pt.back hw hA) (k_X2_pass_ l D cI cZ cL (bo := nI k) (S := (dy, ea, Wr, Br, Pr)) hd5 hd4 hd30 ((1 + y3)) (by omega) (fun i _ => DI_ins hd5 hd4 hd30 hk hD i)) gL_act_X2_pass_ rfl (by decide +kernel) ⟨Nat.le_of_ble_eq_true rfl, Nat.le_of_ble_eq_true rfl⟩ rfl rfl rfl rfl rfl hl.1 (Nat.le_of_ble_eq_true rfl) (st1 := []) rfl dL_act_482 (k2 := 100) (s2 := 3000) (by show 0 + 100 = 100; omega) (by show 0 + 3000 = 3000; omega) ⟨(Nat.le_trans (show 100 ≤ 130 by omega) (Nat.le_of_ble_eq_true rfl)), (Nat.le_trans (show 3000 ≤ 3200 by omega) (Nat.le_of_ble_eq_true rfl))⟩ (fun H locs hw => ?_)
    obtain ⟨S1, hS1⟩ : ∃ S1, S1 = sp_it w b n (nI k) (dy, ea, Wr, Br, Pr) ((1 + y3)) := ⟨_, rfl⟩
    rw [← hS1] at hw
    replace hw : Wo D A s.heap (wb_c h a a2 cI cZ w b n T w2 b2 n2 T2 ++ ws_s Z cI cL w b n (sm_dy S1) (nI k) (sm_ea S1) (sm_W S1) (sm_B S1) (sm_P S1) []) H locs := hw
    refine lv_aload_n hx hb dL_act_485 rfl (lv_at hl 4 rfl) ?_
    refine lv_iload hx hb dL_act_486 (lv_at hl 1 rfl) ?_
    have hop := op_pass (w2 := w2) (b2 := b2) (n2 := n2) (T2 := T2) hd5 hd4 hd30 hk hD hF (show 1 ≤ (1 + y3) by omega) (show (1 + y3) ≤ 40 by omega)
    rw [← hS1] at hop
    obtain ⟨e1, e2, hD2, hF2⟩ := hop
    refine G_callT (n := 1) (q0 := 0) (rest := []) hc hT hw.2.2 (Pt.front hw hA) ((k_X1_pass hst D cI cZ cL h a a2 w b n T w2 b2 n2 T2 hd5 hd4 hd30 he5 he4 he30 (nI ((1 + y3)))).to e1 (congrArg (fun v : Int32 => some (Value.int v)) e2)) gL_act_X1_pass rfl (by decide +kernel) ⟨Nat.le_of_ble_eq_true rfl, Nat.le_of_ble_eq_true rfl⟩ rfl rfl rfl rfl rfl hl.1 (Nat.le_of_ble_eq_true rfl) (st1 := [.int ((nI (hz S1 3 n)) - (nI (hz (dy, ea, Wr, Br, Pr) 3 n)))]) rfl dL_act_488 (k2 := 101) (s2 := 3006) (by show 100 + 1 = 101; omega) (by show 3000 + 6 = 3006; omega) ⟨(Nat.le_trans (show 101 ≤ 130 by omega) (Nat.le_of_ble_eq_true rfl)), (Nat.le_trans (show 3006 ≤ 3200 by omega) (Nat.le_of_ble_eq_true rfl))⟩ (fun H locs hw => ?_)
    refine lv_aload_n hx hb dL_act_491 rfl (lv_at hl 5 rfl) ?_
    refine lv_iconst (v := 3) hx hb dL_act_492 (by decide) ?_
    refine p_callV (n := 1) (q0 := 0) (rest := [.int ((nI (hz S1 3 n)) - (nI (hz (dy, ea, Wr, Br, Pr) 3 n)))]) hc hw.2.2 (Pt.back hw hA) ((k_X2_all l D cI cZ cL [] (3 : Int32) hd30 (by unfold vp_in; decide)).tx (congrArg (fun v : Int32 => some (Value.int v)) (all_ok (show RX w b n _ (sm_W S1) (sm_B S1) (sm_P S1) from hD2.1.1)).1)) gL_act_X2_all rfl (by decide +kernel) ⟨Nat.le_of_ble_eq_true rfl, Nat.le_of_ble_eq_true rfl⟩ rfl rfl rfl rfl rfl hl.1 (Nat.le_of_ble_eq_true rfl) (st1 := [.int (nI (hz S1 3 n)), .int ((nI (hz S1 3 n)) - (nI (hz (dy, ea, Wr, Br, Pr) 3 n)))]) rfl dL_act_493 (k2 := 101) (s2 := 3006) (by show 101 + 0 = 101; omega) (by show 3006 + 0 = 3006; omega) ⟨(Nat.le_trans (show 101 ≤ 130 by omega) (Nat.le_of_ble_eq_true rfl)), (Nat.le_trans (show 3006 ≤ 3200 by omega) (Nat.le_of_ble_eq_true rfl))⟩ (fun H locs hw => ?_)
    refine lv_iload hx hb dL_act_496 (lv_at hl 0 rfl) ?_
    refine lv_isub hx hb dL_act_498 ?_
    refine lv_icmp_ne (tgt := 506) hx hb dL_act_499 (by decide) (fun z => absurd rfl z) (fun _ => ?_)
    refine lv_iconst (v := 1) hx hb dL_act_502 (by decide) ?_
    refine lv_goto (tgt := 507) hx hb dL_act_503 (by decide) ?_
    exact G_zret hc hw rfl ⟨rfl, n, k, (s_X1_pass w b n T w2 b2 n2 T2 (nI ((1 + y3)))), ((sm_dy S1), (sm_ea S1), (sm_W S1), (sm_B S1), (sm_P S1)), Z, by omega, by omega, hD2, hF2, rfl, rfl⟩ (Nat.le_trans (show 101 ≤ 130 by omega) (Nat.le_of_ble_eq_true rfl)) (Nat.le_trans (show 3006 ≤ 3200 by omega) (Nat.le_of_ble_eq_true rfl)) dL_act_507
set_option maxHeartbeats 8000000 in
set_option maxRecDepth 100000 in
theorem k_L_act {l : Launch} (hst : l.stackTraces = false) (D : va_G) (cI cZ cL : ClassId) {h : Nat} {a a2 : Nat → Nat} {w b n k : Nat} {T : ct_T} {w2 b2 n2 : Nat} {T2 : ct_T} {Z : sA} {dy ea : Int32} {Wr Br Pr : Nat → Nat → Int32} (hd5 : w ≤ 5) (hd4 : b ≤ 4) (hd30 : n ≤ 30) (he5 : w2 ≤ 5) (he4 : b2 ≤ 4) (he30 : n2 ≤ 30) (hwp : 0 < w) (hbp : 0 < b) (hk : k ≤ 60) (hD : DI w b n k T (dy, ea, Wr, Br, Pr)) (hF : FH n T) (x : Int32) : MG l yL_act wsL_act rm_L_act D cI cZ cL [.ref h, .ref (zh Z), .int x] (wb_c h a a2 cI cZ w b n T w2 b2 n2 T2 ++ ws_s Z cI cL w b n dy (nI k) ea Wr Br Pr []) (ga h a a2 cI cZ cL w b w2 b2 n2 T2 (zh Z)) := by
  refine MG.ofX (own := RL) (cc := cL_act) (maxL := 10) (ret := (some .boolean)) (hh := [(180, 208, 209, 36), (408, 430, 431, 36)]) (lv0 := [(0, .ref h), (1, .ref (zh Z)), (2, .int x)]) (by decide) rfl rfl (Nat.le_of_ble_eq_true rfl) rfl ?_
  intro p e s m args below meth c A hc hT htb hw ls hl
  obtain ⟨hx, hb, hr, hml, hown, hts, hlk, hK, hA⟩ := id hc
  have hi2 : ∀ w ∈ u_ws RX2 TX2 6, w ∈ wsL_act := fun _ h => List.mem_cons_of_mem _ (List.mem_append_left _ (List.mem_append_left _ (List.mem_append_left _ (List.mem_append_left _ (List.mem_append_left _ (List.mem_append_right _ h))))))
  refine lv_iload_n hx hb dL_act_0 rfl (lv_at hl 2 rfl) ?_
  refine lv_iconst (v := 4) hx hb dL_act_1 (by decide) ?_
  refine lv_ishr hx hb dL_act_2 ?_
  refine lv_aload_n hx hb dL_act_3 rfl (lv_at hl 1 rfl) ?_
  refine g_get (v := .ref (zy Z 3)) hc hw hi2 (23 + (0)) 3 (two_get s_H) rfl (by decide) (List.mem_of_getElem? (i := 2) rfl) sv_3 dL_act_4 ?_
  refine va_alen (v := nI w) hx hb hK.1 hw.1 (23 + (1)) 2 (two_get s_Y3) rfl rfl dL_act_7 ?_
  refine g_callS0 (n := 2) (As := [.int (x >>> ((4 : Int32) &&& 31)), .int (nI w)]) (rest := []) hc hw (k_L_below l D cI cZ cL (x >>> ((4 : Int32) &&& 31)) w (by omega) (by omega)) gL_act_L_below rfl (by decide +kernel) ⟨Nat.le_of_ble_eq_true rfl, Nat.le_of_ble_eq_true rfl⟩ rfl rfl hl.1 (Nat.le_of_ble_eq_true rfl) (st1 := [.int (nI (bl (x >>> ((4 : Int32) &&& 31)) w))]) rfl dL_act_8 (k2 := 0) (s2 := 0) (by show 0 + 0 = 0; omega) (by show 0 + 0 = 0; omega) ⟨(Nat.le_trans (show 0 ≤ 130 by omega) (Nat.le_of_ble_eq_true rfl)), (Nat.le_trans (show 0 ≤ 3200 by omega) (Nat.le_of_ble_eq_true rfl))⟩ (fun H locs hw => ?_)
  obtain ⟨y1, hy1, ey1⟩ : ∃ v, v < w ∧ bl (x >>> ((4 : Int32) &&& 31)) w = v := ⟨_, bl_lt _ (by omega), rfl⟩
  rw [ey1]
  refine lv_istore_n (lv' := [(3, .int (nI y1)), (0, .ref h), (1, .ref (zh Z)), (2, .int x)]) hx hb dL_act_11 rfl hl (by decide) rfl (fun ls hl => ?_)
  refine lv_iload_n hx hb dL_act_12 rfl (lv_at hl 3 rfl) ?_
  refine lv_iconst (v := 5) hx hb dL_act_13 (by decide) ?_
  refine lv_ishr hx hb dL_act_14 ?_
  refine lv_aload_n hx hb dL_act_15 rfl (lv_at hl 2 rfl) ?_
  refine g_get (v := .ref (zy Z 4)) hc hw hi2 (23 + (0)) 4 (two_get s_H) rfl (by decide) (List.mem_of_getElem? (i := 3) rfl) sv_4 dL_act_16 ?_
  refine va_alen (v := nI b) hx hb hK.1 hw.1 (23 + (2)) 2 (two_get s_Y4) rfl rfl dL_act_19 ?_
  refine g_callS0 (n := 2) (As := [.int (x >>> ((5 : Int32) &&& 31)), .int (nI b)]) (rest := []) hc hw (k_L_below l D cI cZ cL (x >>> ((5 : Int32) &&& 31)) b (by omega) (by omega)) gL_act_L_below rfl (by decide +kernel) ⟨Nat.le_of_ble_eq_true rfl, Nat.le_of_ble_eq_true rfl⟩ rfl rfl hl.1 (Nat.le_of_ble_eq_true rfl) (st1 := [.int (nI (bl (x >>> ((5 : Int32) &&& 31)) b))]) rfl dL_act_20 (k2 := 0) (s2 := 0) (by show 0 + 0 = 0; omega) (by show 0 + 0 = 0; omega) ⟨(Nat.le_trans (show 0 ≤ 130 by omega) (Nat.le_of_ble_eq_true rfl)), (Nat.le_trans (show 0 ≤ 3200 by omega) (Nat.le_of_ble_eq_true rfl))⟩ (fun H locs hw => ?_)
  obtain ⟨y2, hy2, ey2⟩ : ∃ v, v < b ∧ bl (x >>> ((5 : Int32) &&& 31)) b = v := ⟨_, bl_lt _ (by omega), rfl⟩
  rw [ey2]
  refine lv_istore (lv' := [(4, .int (nI y2)), (3, .int (nI y1)), (0, .ref h), (1, .ref (zh Z)), (2, .int x)]) hx hb dL_act_23 hl (by decide) rfl (fun ls hl => ?_)
  refine lv_iload_n hx hb dL_act_25 rfl (lv_at hl 4 rfl) ?_
  refine lv_bipush (v := 12) hx hb dL_act_26 (by decide) ?_
  refine g_callS0 (n := 2) (As := [.int x, .int (nI 12)]) (rest := []) hc hw (k_L_below l D cI cZ cL x 12 (by omega) (by omega)) gL_act_L_below rfl (by decide +kernel) ⟨Nat.le_of_ble_eq_true rfl, Nat.le_of_ble_eq_true rfl⟩ rfl rfl hl.1 (Nat.le_of_ble_eq_true rfl) (st1 := [.int (nI (bl x 12))]) rfl dL_act_28 (k2 := 0) (s2 := 0) (by show 0 + 0 = 0; omega) (by show 0 + 0 = 0; omega) ⟨(Nat.le_trans (show 0 ≤ 130 by omega) (Nat.le_of_ble_eq_true rfl)), (Nat.le_trans (show 0 ≤ 3200 by omega) (Nat.le_of_ble_eq_true rfl))⟩ (fun H locs hw => ?_)
  obtain ⟨y3, hy3, ey3⟩ : ∃ v, v < 12 ∧ bl x 12 = v := ⟨_, bl_lt _ (by omega), rfl⟩
  rw [ey3]
  rcases (show y3 = 0 ∨ y3 = 1 ∨ y3 = 2 ∨ y3 = 3 ∨ y3 = 4 ∨ y3 = 5 ∨ y3 = 6 ∨ y3 = 7 ∨ 8 ≤ y3 by omega) with hq | hq | hq | hq | hq | hq | hq | hq | h8
  · subst hq
    refine lv_tableIn (off := 45) (tgt := 76) hx hb dL_act_31 (by decide) (by decide) (by decide +kernel) (by decide) ?_
    rcases Nat.lt_or_ge n 30 with h9 | h9
    · exact act_76 hst hd5 hd4 hd30 he5 he4 he30 hwp hbp hk hD hF h9 hy1 hy2 hc hT htb hw (lv_sub hl [0, 1, 2, 3, 4] rfl)
    · obtain rfl : n = 30 := by omega
      exact act_76f hst hd5 hd4 he5 he4 he30 hwp hbp hk hD hF hy1 hy2 hc hT htb hw (lv_sub hl [0, 1, 2, 3, 4] rfl)
  · subst hq
    refine lv_tableIn (off := 45) (tgt := 76) hx hb dL_act_31 (by decide) (by decide) (by decide +kernel) (by decide) ?_
    rcases Nat.lt_or_ge n 30 with h9 | h9
    · exact act_76 hst hd5 hd4 hd30 he5 he4 he30 hwp hbp hk hD hF h9 hy1 hy2 hc hT htb hw (lv_sub hl [0, 1, 2, 3, 4] rfl)
    · obtain rfl : n = 30 := by omega
      exact act_76f hst hd5 hd4 he5 he4 he30 hwp hbp hk hD hF hy1 hy2 hc hT htb hw (lv_sub hl [0, 1, 2, 3, 4] rfl)
  · subst hq
    refine lv_tableIn (off := 45) (tgt := 76) hx hb dL_act_31 (by decide) (by decide) (by decide +kernel) (by decide) ?_
    rcases Nat.lt_or_ge n 30 with h9 | h9
    · exact act_76 hst hd5 hd4 hd30 he5 he4 he30 hwp hbp hk hD hF h9 hy1 hy2 hc hT htb hw (lv_sub hl [0, 1, 2, 3, 4] rfl)
    · obtain rfl : n = 30 := by omega
      exact act_76f hst hd5 hd4 he5 he4 he30 hwp hbp hk hD hF hy1 hy2 hc hT htb hw (lv_sub hl [0, 1, 2, 3, 4] rfl)
  · subst hq
    refine lv_tableIn (off := 45) (tgt := 76) hx hb dL_act_31 (by decide) (by decide) (by decide +kernel) (by decide) ?_
    rcases Nat.lt_or_ge n 30 with h9 | h9
    · exact act_76 hst hd5 hd4 hd30 he5 he4 he30 hwp hbp hk hD hF h9 hy1 hy2 hc hT htb hw (lv_sub hl [0, 1, 2, 3, 4] rfl)
    · obtain rfl : n = 30 := by omega
      exact act_76f hst hd5 hd4 he5 he4 he30 hwp hbp hk hD hF hy1 hy2 hc hT htb hw (lv_sub hl [0, 1, 2, 3, 4] rfl)
  · subst hq
    refine lv_tableIn (off := 191) (tgt := 222) hx hb dL_act_31 (by decide) (by decide) (by decide +kernel) (by decide) ?_
    exact act_222 hst hd5 hd4 hd30 he5 he4 he30 hwp hbp hk hD hF hy1 hy2 hc hT htb hw (lv_sub hl [0, 1, 2, 3, 4] rfl)
  · subst hq
    refine lv_tableIn (off := 245) (tgt := 276) hx hb dL_act_31 (by decide) (by decide) (by decide +kernel) (by decide) ?_
    exact act_276 hst hd5 hd4 hd30 he5 he4 he30 hwp hbp hk hD hF hy1 hy2 hc hT htb hw (lv_sub hl [0, 1, 2, 3, 4] rfl)
  · subst hq
    refine lv_tableIn (off := 280) (tgt := 311) hx hb dL_act_31 (by decide) (by decide) (by decide +kernel) (by decide) ?_
    exact act_311 hst hd5 hd4 hd30 he5 he4 he30 hwp hbp hk hD hF hy1 hy2 hc hT htb hw (lv_sub hl [0, 1, 2, 3, 4] rfl)
  · subst hq
    refine lv_tableIn (off := 280) (tgt := 311) hx hb dL_act_31 (by decide) (by decide) (by decide +kernel) (by decide) ?_
    exact act_311 hst hd5 hd4 hd30 he5 he4 he30 hwp hbp hk hD hF hy1 hy2 hc hT htb hw (lv_sub hl [0, 1, 2, 3, 4] rfl)
  · refine lv_tableOut (tgt := 444) hx hb dL_act_31 (Or.inr (by rw [nI_toInt (by omega)]; omega)) (by decide) ?_
    exact act_444 hst hd5 hd4 hd30 he5 he4 he30 hwp hbp hk hD hF hy1 hy2 hc hT htb hw (lv_sub hl [0, 1, 2, 3, 4] rfl)
