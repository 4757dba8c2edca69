/-! 12.f: pass: barges, straw, leaving, landing -/
def f_X2_pass_3_259 (w : Nat) (b : Nat) (n : Nat) (dy : Int32) (bo : Int32) (ea : Int32) (Wr : Nat → Nat → Int32) (Br : Nat → Nat → Int32) (Pr : Nat → Nat → Int32) (i198 : Nat) (q198 : (Nat → Nat → Int32) × (Nat → Nat → Int32)) (i259 : Nat) (q259 : (Nat → Int32)) : (Nat → Int32) := ((upd q259 i259 (q198.2 i259 0)))
def f_X2_pass_3_324 (w : Nat) (b : Nat) (n : Nat) (dy : Int32) (bo : Int32) (ea : Int32) (Wr : Nat → Nat → Int32) (Br : Nat → Nat → Int32) (Pr : Nat → Nat → Int32) (i198 : Nat) (q198 : (Nat → Nat → Int32) × (Nat → Nat → Int32)) (i292 : Nat) (q292 : (Nat → Nat → Int32)) (i324 : Nat) (q324 : Int32) : Int32 := if (nI i324) = (nI i292) then (((q324 ||| (0 : Int32)))) else (if (q292 i324 2) = (nI i198) then (if ((lpf (f_X2_pass_3_259 w b n dy bo ea Wr Br Pr i198 q198) n 0 ((fun _ => (0 : Int32)))) i324) < (1 : Int32) then (((q324 ||| (0 : Int32)))) else (((q324 ||| (1 : Int32))))) else (((q324 ||| (0 : Int32)))))
def f_X2_pass_3_292 (w : Nat) (b : Nat) (n : Nat) (dy : Int32) (bo : Int32) (ea : Int32) (Wr : Nat → Nat → Int32) (Br : Nat → Nat → Int32) (Pr : Nat → Nat → Int32) (i198 : Nat) (q198 : (Nat → Nat → Int32) × (Nat → Nat → Int32)) (i292 : Nat) (q292 : (Nat → Nat → Int32)) : (Nat → Nat → Int32) := if (q292 i292 2) = (nI i198) then (if (lpf (f_X2_pass_3_324 w b n dy bo ea Wr Br Pr i198 q198 i292 q292) n 0 ((0 : Int32))) = (0 : Int32) then ((q292)) else (if (10 : Int32) ≤ ((lpf (f_X2_pass_3_259 w b n dy bo ea Wr Br Pr i198 q198) n 0 ((fun _ => (0 : Int32)))) i292) then ((q292)) else (((ur q292 i292 0 ((q292 i292 0) + (1 : Int32))))))) else ((q292))
def f_X2_pass_3_198 (w : Nat) (b : Nat) (n : Nat) (dy : Int32) (bo : Int32) (ea : Int32) (Wr : Nat → Nat → Int32) (Br : Nat → Nat → Int32) (Pr : Nat → Nat → Int32) (i198 : Nat) (q198 : (Nat → Nat → Int32) × (Nat → Nat → Int32)) : (Nat → Nat → Int32) × (Nat → Nat → Int32) := if (q198.1 i198 1) = (0 : Int32) then ((q198.1, q198.2)) else (if ((ur q198.1 i198 1 ((q198.1 i198 1) - (1 : Int32))) i198 1) = (0 : Int32) then (((ur q198.1 i198 1 ((q198.1 i198 1) - (1 : Int32))), q198.2)) else (((ur q198.1 i198 1 ((q198.1 i198 1) - (1 : Int32))), (lpf (f_X2_pass_3_292 w b n dy bo ea Wr Br Pr i198 q198) n 0 (q198.2)))))
def p3_B (w : Nat) (b : Nat) (n : Nat) (dy : Int32) (bo : Int32) (ea : Int32) (Wr : Nat → Nat → Int32) (Br : Nat → Nat → Int32) (Pr : Nat → Nat → Int32) : (Nat → Nat → Int32) := (lpf (f_X2_pass_3_198 w b n dy bo ea Wr Br Pr) b 0 (Br, Pr)).1
def p3_P (w : Nat) (b : Nat) (n : Nat) (dy : Int32) (bo : Int32) (ea : Int32) (Wr : Nat → Nat → Int32) (Br : Nat → Nat → Int32) (Pr : Nat → Nat → Int32) : (Nat → Nat → Int32) := (lpf (f_X2_pass_3_198 w b n dy bo ea Wr Br Pr) b 0 (Br, Pr)).2
set_option maxHeartbeats 4000000 in
set_option maxRecDepth 100000 in
theorem k_X2_pass_3 {p : Program} {l : Launch} {e : Env} {s : State} {m : MethodId} {args : Array Value} {below : List Frame} {meth : Method} {c : Code} {H : Heap} {locs : List Loc} {Q : State → Prop} {D : va_G} {cI cZ cL : ClassId} {A : Nat → Prop} {ls : Array Slot} {w : Nat} {b : Nat} {n : Nat} {dy : Int32} {bo : Int32} {ea : Int32} {Wr : Nat → Nat → Int32} {Br : Nat → Nat → Int32} {Pr : Nat → Nat → Int32} {Z : sA} {q1 : Nat} {et : Nat → Int32} (hd5 : w ≤ 5) (hd4 : b ≤ 4) (hd30 : n ≤ 30)  (hc : Cx p s m args meth c cX2_pass 11 wsX2_pass RX2 none D cI cZ cL A) (hw : Wo D A s.heap (ws_s Z cI cL w b n dy bo ea Wr Br Pr [(q1, .inl (cZ, n, .inl et))]) H locs) (hl : lv_has ls 11 [(0, .ref (zh Z))]) (k419 : ∀ (H : Heap) (locs : List Loc) (ls : Array Slot), Wo D A s.heap (ws_s Z cI cL w b n dy bo ea Wr (p3_B w b n dy bo ea Wr Br Pr) (p3_P w b n dy bo ea Wr Br Pr) [(q1, .inl (cZ, n, .inl et))]) H locs → lv_has ls 11 [(0, .ref (zh Z))] → W p l e rm_X2_pass s m args below meth c H locs 5 150 (Q) (F0 m 419 ls [])) : W p l e rm_X2_pass s m args below meth c H locs 1 30 (Q) (F0 m 196 ls []) := by
  obtain ⟨hx, hb, hr, hml, hown, hts, hlk, hK, hA⟩ := id hc
  have hi2 : ∀ w ∈ u_ws RX2 TX2 6, w ∈ wsX2_pass := fun _ h => List.mem_cons_of_mem _ (List.mem_append_right _ h)
  refine lv_iconst (v := 0) hx hb dX2_pass_196 (by decide) ?_
  refine lv_istore_n (lv' := [(3, .int (0 : Int32)), (0, .ref (zh Z))]) hx hb dX2_pass_197 rfl hl (by decide) rfl (fun ls hl => ?_)
  refine W.widen (show 1 ≤ 1 + 0 by omega) (show 30 ≤ 30 + 30 * 0 by omega) ?_
  refine lp_go (fun (i198 : Nat) (q198 : (Nat → Nat → Int32) × (Nat → Nat → Int32)) => ∀ (H : Heap) (locs : List Loc) (ls : Array Slot), Wo D A s.heap (ws_s Z cI cL w b n dy bo ea Wr q198.1 q198.2 [(q1, .inl (cZ, n, .inl et))]) H locs → lv_has ls 11 [(0, .ref (zh Z)), (3, .int (nI i198))] → W p l e rm_X2_pass s m args below meth c H locs (1 + i198) (30 + 30 * i198) (Q) (F0 m 198 ls [])) (f_X2_pass_3_198 w b n dy bo ea Wr Br Pr) b (Br, Pr) ?_ ?_ H locs ls hw (lv_sub hl [1, 0] rfl)
  · intro i198 q198 hi198 k198 H locs ls hw hl
    refine lv_iload_n hx hb dX2_pass_198 rfl (lv_at hl 1 rfl) ?_
    refine lv_aload_n hx hb dX2_pass_199 rfl (lv_at hl 0 rfl) ?_
    refine g_get (v := .ref (zy Z 4)) hc hw hi2 (0) 4 s_H rfl (by decide) (List.mem_of_getElem? (i := 6) rfl) sv_4 dX2_pass_200 ?_
    refine va_alen (v := nI b) hx hb hK.1 hw.1 (2) 2 s_Y4 rfl rfl dX2_pass_203 ?_
    refine lv_icmp_ge (tgt := 419) hx hb dX2_pass_204 (by decide) (fun z => absurd z (nI_ge hi198 (by omega))) (fun _ => ?_)
    refine lv_aload_n hx hb dX2_pass_207 rfl (lv_at hl 0 rfl) ?_
    refine g_get (v := .ref (zy Z 4)) hc hw hi2 (0) 4 s_H rfl (by decide) (List.mem_of_getElem? (i := 6) rfl) sv_4 dX2_pass_208 ?_
    refine lv_iload_n hx hb dX2_pass_211 rfl (lv_at hl 1 rfl) ?_
    refine g_aald (v := zb Z i198) hc hw (2) s_Y4 (vp_in_nI (show i198 < b by omega) (by omega)) (congrArg (fun q => some (zb Z q)) (nI_clamp (show i198 < 2 ^ 31 by omega))) dX2_pass_212 ?_
    refine lv_iconst (v := 1) hx hb dX2_pass_213 (by decide) ?_
    refine r_ld (f := (q198.1 i198)) (k := 1) hc hw (4 + (w + i198)) (s_B (show i198 < b by omega)) (by unfold vp_in; decide) (by decide) dX2_pass_214 ?_
    refine lv_if_ne (tgt := 221) hx hb dX2_pass_215 (by decide) (fun c1 => ?_) (fun c1 => ?_)
    · refine lv_aload_n hx hb dX2_pass_221 rfl (lv_at hl 0 rfl) ?_
      refine g_get (v := .ref (zy Z 4)) hc hw hi2 (0) 4 s_H rfl (by decide) (List.mem_of_getElem? (i := 6) rfl) sv_4 dX2_pass_222 ?_
      refine lv_iload_n hx hb dX2_pass_225 rfl (lv_at hl 1 rfl) ?_
      refine g_aald (v := zb Z i198) hc hw (2) s_Y4 (vp_in_nI (show i198 < b by omega) (by omega)) (congrArg (fun q => some (zb Z q)) (nI_clamp (show i198 < 2 ^ 31 by omega))) dX2_pass_226 ?_
      refine lv_iconst (v := 1) hx hb dX2_pass_227 (by decide) ?_
      refine lv_dup2_11 hx hb dX2_pass_228 rfl rfl ?_
      refine r_ld (f := (q198.1 i198)) (k := 1) hc hw (4 + (w + i198)) (s_B (show i198 < b by omega)) (by unfold vp_in; decide) (by decide) dX2_pass_229 ?_
      refine lv_iconst (v := 1) hx hb dX2_pass_230 (by decide) ?_
      refine lv_isub hx hb dX2_pass_231 ?_
      refine r_st (f := (q198.1 i198)) (k := 1) hc hw (4 + (w + i198)) (s_B (show i198 < b by omega)) (by unfold vp_in; decide) (by decide) (w' := (ws_s Z cI cL w b n dy bo ea Wr (ur q198.1 i198 1 ((q198.1 i198 1) - (1 : Int32))) q198.2 [(q1, .inl (cZ, n, .inl et))])) (su_B (show i198 < b by omega)) dX2_pass_232 (fun H locs hw => ?_)
      refine lv_aload_n hx hb dX2_pass_233 rfl (lv_at hl 0 rfl) ?_
      refine g_get (v := .ref (zy Z 4)) hc hw hi2 (0) 4 s_H rfl (by decide) (List.mem_of_getElem? (i := 6) rfl) sv_4 dX2_pass_234 ?_
      refine lv_iload_n hx hb dX2_pass_237 rfl (lv_at hl 1 rfl) ?_
      refine g_aald (v := zb Z i198) hc hw (2) s_Y4 (vp_in_nI (show i198 < b by omega) (by omega)) (congrArg (fun q => some (zb Z q)) (nI_clamp (show i198 < 2 ^ 31 by omega))) dX2_pass_238 ?_
      refine lv_iconst (v := 1) hx hb dX2_pass_239 (by decide) ?_
      refine r_ld (f := ((ur q198.1 i198 1 ((q198.1 i198 1) - (1 : Int32))) i198)) (k := 1) hc hw (4 + (w + i198)) (s_B (show i198 < b by omega)) (by unfold vp_in; decide) (by decide) dX2_pass_240 ?_
      refine lv_if_ne (tgt := 247) hx hb dX2_pass_241 (by decide) (fun c2 => ?_) (fun c2 => ?_)
      · refine lv_aload_n hx hb dX2_pass_247 rfl (lv_at hl 0 rfl) ?_
        refine g_get (v := .ref (zy Z 5)) hc hw hi2 (0) 5 s_H rfl (by decide) (List.mem_of_getElem? (i := 2) rfl) sv_5 dX2_pass_248 ?_
        refine va_alen (v := nI n) hx hb hK.1 hw.1 (3) 2 s_Y5 rfl rfl dX2_pass_251 ?_
        refine g_newI hc hw (N := n) (List.mem_of_getElem? (i := 7) rfl) (nI_pos (by omega)) (nI_clamp (by omega)) (by show n * 4 ≤ 536870912; omega) (Nat.le_trans (show 1 + i198 + 1 ≤ 5 by omega) (Nat.le_of_ble_eq_true rfl)) (Nat.le_trans (show 30 + 30 * i198 + n ≤ 150 by omega) (Nat.le_of_ble_eq_true rfl)) dX2_pass_252 (fun q3 H locs hw => ?_)
        replace hw : Wo D A s.heap (ws_s Z cI cL w b n dy bo ea Wr (ur q198.1 i198 1 ((q198.1 i198 1) - (1 : Int32))) q198.2 [(q1, .inl (cZ, n, .inl et)), (q3, .inl (cI, n, .inl (fun _ => (0 : Int32))))]) H locs := by have h9 := hw; rw [s_push] at h9; exact h9
        refine lv_astore (lv' := [(4, .ref q3), (0, .ref (zh Z)), (3, .int (nI i198))]) hx hb dX2_pass_254 hl (by decide) rfl (fun ls hl => ?_)
        refine lv_iconst (v := 0) hx hb dX2_pass_256 (by decide) ?_
        refine lv_istore (lv' := [(5, .int (0 : Int32)), (4, .ref q3), (0, .ref (zh Z)), (3, .int (nI i198))]) hx hb dX2_pass_257 hl (by decide) rfl (fun ls hl => ?_)
        refine lp_go (fun (i259 : Nat) (q259 : (Nat → Int32)) => ∀ (H : Heap) (locs : List Loc) (ls : Array Slot), Wo D A s.heap (ws_s Z cI cL w b n dy bo ea Wr (ur q198.1 i198 1 ((q198.1 i198 1) - (1 : Int32))) q198.2 [(q1, .inl (cZ, n, .inl et)), (q3, .inl (cI, n, .inl q259))]) H locs → lv_has ls 11 [(0, .ref (zh Z)), (3, .int (nI i198)), (4, .ref q3), (5, .int (nI i259))] → W p l e rm_X2_pass s m args below meth c H locs (1 + i198 + 1) (30 + 30 * i198 + n) (Q) (F0 m 259 ls [])) (f_X2_pass_3_259 w b n dy bo ea Wr Br Pr i198 q198) n ((fun _ => (0 : Int32))) ?_ ?_ H locs ls hw (lv_sub hl [2, 3, 1, 0] rfl)
        · intro i259 q259 hi259 k259 H locs ls hw hl
          refine lv_iload hx hb dX2_pass_259 (lv_at hl 3 rfl) ?_
          refine lv_aload_n hx hb dX2_pass_261 rfl (lv_at hl 0 rfl) ?_
          refine g_get (v := .ref (zy Z 5)) hc hw hi2 (0) 5 s_H rfl (by decide) (List.mem_of_getElem? (i := 2) rfl) sv_5 dX2_pass_262 ?_
          refine va_alen (v := nI n) hx hb hK.1 hw.1 (3) 2 s_Y5 rfl rfl dX2_pass_265 ?_
          refine lv_icmp_ge (tgt := 289) hx hb dX2_pass_266 (by decide) (fun z => absurd z (nI_ge hi259 (by omega))) (fun _ => ?_)
          refine lv_aload hx hb dX2_pass_269 (lv_at hl 2 rfl) ?_
          refine lv_iload hx hb dX2_pass_271 (lv_at hl 3 rfl) ?_
          refine lv_aload_n hx hb dX2_pass_273 rfl (lv_at hl 0 rfl) ?_
          refine g_get (v := .ref (zy Z 5)) hc hw hi2 (0) 5 s_H rfl (by decide) (List.mem_of_getElem? (i := 2) rfl) sv_5 dX2_pass_274 ?_
          refine lv_iload hx hb dX2_pass_277 (lv_at hl 3 rfl) ?_
          refine g_aald (v := zp Z i259) hc hw (3) s_Y5 (vp_in_nI (show i259 < n by omega) (by omega)) (congrArg (fun q => some (zp Z q)) (nI_clamp (show i259 < 2 ^ 31 by omega))) dX2_pass_279 ?_
          refine lv_iconst (v := 0) hx hb dX2_pass_280 (by decide) ?_
          refine r_ld (f := (q198.2 i259)) (k := 0) hc hw (4 + (w + (b + i259))) (s_P (show i259 < n by omega)) (by unfold vp_in; decide) (by decide) dX2_pass_281 ?_
          refine r_st (f := q259) (k := i259) hc hw (4 + (w + (b + (n + 1)))) (s_E.trans rfl) (vp_in_nI (show i259 < n by omega) (by omega)) (nI_clamp (show i259 < 2 ^ 31 by omega)) (w' := (ws_s Z cI cL w b n dy bo ea Wr (ur q198.1 i198 1 ((q198.1 i198 1) - (1 : Int32))) q198.2 [(q1, .inl (cZ, n, .inl et)), (q3, .inl (cI, n, .inl (upd q259 i259 (q198.2 i259 0))))])) (su_E rfl) dX2_pass_282 (fun H locs hw => ?_)
          refine lv_iinc (v := (nI (i259 + 1))) (lv' := [(5, .int (nI (i259 + 1))), (0, .ref (zh Z)), (3, .int (nI i198)), (4, .ref q3)]) hx hb dX2_pass_283 hl (k := 3) rfl (inc_n i259) (by decide) rfl (fun ls hl => ?_)
          refine lv_goto (tgt := 259) hx hb dX2_pass_286 (by decide) ?_
          rw [show (f_X2_pass_3_259 w b n dy bo ea Wr Br Pr i198 q198) i259 q259 = ((upd q259 i259 (q198.2 i259 0))) from by rw [f_X2_pass_3_259]] at k259
          exact k259 H locs ls hw (lv_sub hl [1, 2, 3, 0] rfl)
        · intro H locs ls hw hl
          refine lv_iload hx hb dX2_pass_259 (lv_at hl 3 rfl) ?_
          refine lv_aload_n hx hb dX2_pass_261 rfl (lv_at hl 0 rfl) ?_
          refine g_get (v := .ref (zy Z 5)) hc hw hi2 (0) 5 s_H rfl (by decide) (List.mem_of_getElem? (i := 2) rfl) sv_5 dX2_pass_262 ?_
          refine va_alen (v := nI n) hx hb hK.1 hw.1 (3) 2 s_Y5 rfl rfl dX2_pass_265 ?_
          refine lv_icmp_ge (tgt := 289) hx hb dX2_pass_266 (by decide) (fun _ => ?_) (fun z => absurd (nI_le (Nat.le_refl _) (by omega)) z)
          refine lv_iconst (v := 0) hx hb dX2_pass_289 (by decide) ?_
          refine lv_istore (lv' := [(5, .int (0 : Int32)), (0, .ref (zh Z)), (3, .int (nI i198)), (4, .ref q3)]) hx hb dX2_pass_290 hl (by decide) rfl (fun ls hl => ?_)
          refine lp_go (fun (i292 : Nat) (q292 : (Nat → Nat → Int32)) => ∀ (H : Heap) (locs : List Loc) (ls : Array Slot), Wo D A s.heap (ws_s Z cI cL w b n dy bo ea Wr (ur q198.1 i198 1 ((q198.1 i198 1) - (1 : Int32))) q292 [(q1, .inl (cZ, n, .inl et)), (q3, .inl (cI, n, .inl (lpf (f_X2_pass_3_259 w b n dy bo ea Wr Br Pr i198 q198) n 0 ((fun _ => (0 : Int32))))))]) H locs → lv_has ls 11 [(0, .ref (zh Z)), (3, .int (nI i198)), (4, .ref q3), (5, .int (nI i292))] → W p l e rm_X2_pass s m args below meth c H locs (1 + i198 + 1) (30 + 30 * i198 + n) (Q) (F0 m 292 ls [])) (f_X2_pass_3_292 w b n dy bo ea Wr Br Pr i198 q198) n (q198.2) ?_ ?_ H locs ls hw (lv_sub hl [1, 2, 3, 0] rfl)
          · intro i292 q292 hi292 k292 H locs ls hw hl
            refine lv_iload hx hb dX2_pass_292 (lv_at hl 3 rfl) ?_
            refine lv_aload_n hx hb dX2_pass_294 rfl (lv_at hl 0 rfl) ?_
            refine g_get (v := .ref (zy Z 5)) hc hw hi2 (0) 5 s_H rfl (by decide) (List.mem_of_getElem? (i := 2) rfl) sv_5 dX2_pass_295 ?_
            refine va_alen (v := nI n) hx hb hK.1 hw.1 (3) 2 s_Y5 rfl rfl dX2_pass_298 ?_
            refine lv_icmp_ge (tgt := 413) hx hb dX2_pass_299 (by decide) (fun z => absurd z (nI_ge hi292 (by omega))) (fun _ => ?_)
            refine lv_aload_n hx hb dX2_pass_302 rfl (lv_at hl 0 rfl) ?_
            refine g_get (v := .ref (zy Z 5)) hc hw hi2 (0) 5 s_H rfl (by decide) (List.mem_of_getElem? (i := 2) rfl) sv_5 dX2_pass_303 ?_
            refine lv_iload hx hb dX2_pass_306 (lv_at hl 3 rfl) ?_
            refine g_aald (v := zp Z i292) hc hw (3) s_Y5 (vp_in_nI (show i292 < n by omega) (by omega)) (congrArg (fun q => some (zp Z q)) (nI_clamp (show i292 < 2 ^ 31 by omega))) dX2_pass_308 ?_
            refine lv_iconst (v := 2) hx hb dX2_pass_309 (by decide) ?_
            refine r_ld (f := (q292 i292)) (k := 2) hc hw (4 + (w + (b + i292))) (s_P (show i292 < n by omega)) (by unfold vp_in; decide) (by decide) dX2_pass_310 ?_
            refine lv_iload_n hx hb dX2_pass_311 rfl (lv_at hl 1 rfl) ?_
            refine lv_icmp_eq (tgt := 318) hx hb dX2_pass_312 (by decide) (fun c4 => ?_) (fun c4 => ?_)
            · refine lv_iconst (v := 0) hx hb dX2_pass_318 (by decide) ?_
              refine lv_istore (lv' := [(6, .int (0 : Int32)), (0, .ref (zh Z)), (3, .int (nI i198)), (4, .ref q3), (5, .int (nI i292))]) hx hb dX2_pass_319 hl (by decide) rfl (fun ls hl => ?_)
              refine lv_iconst (v := 0) hx hb dX2_pass_321 (by decide) ?_
              refine lv_istore (lv' := [(7, .int (0 : Int32)), (6, .int (0 : Int32)), (0, .ref (zh Z)), (3, .int (nI i198)), (4, .ref q3), (5, .int (nI i292))]) hx hb dX2_pass_322 hl (by decide) rfl (fun ls hl => ?_)
              refine lp_go (fun (i324 : Nat) (q324 : Int32) => ∀ (H : Heap) (locs : List Loc) (ls : Array Slot), Wo D A s.heap (ws_s Z cI cL w b n dy bo ea Wr (ur q198.1 i198 1 ((q198.1 i198 1) - (1 : Int32))) q292 [(q1, .inl (cZ, n, .inl et)), (q3, .inl (cI, n, .inl (lpf (f_X2_pass_3_259 w b n dy bo ea Wr Br Pr i198 q198) n 0 ((fun _ => (0 : Int32))))))]) H locs → lv_has ls 11 [(0, .ref (zh Z)), (3, .int (nI i198)), (4, .ref q3), (5, .int (nI i292)), (6, .int q324), (7, .int (nI i324))] → W p l e rm_X2_pass s m args below meth c H locs (1 + i198 + 1) (30 + 30 * i198 + n) (Q) (F0 m 324 ls [])) (f_X2_pass_3_324 w b n dy bo ea Wr Br Pr i198 q198 i292 q292) n ((0 : Int32)) ?_ ?_ H locs ls hw (lv_sub hl [2, 3, 4, 5, 1, 0] rfl)
              · intro i324 q324 hi324 k324 H locs ls hw hl
                refine lv_iload hx hb dX2_pass_324 (lv_at hl 5 rfl) ?_
                refine lv_aload_n hx hb dX2_pass_326 rfl (lv_at hl 0 rfl) ?_
                refine g_get (v := .ref (zy Z 5)) hc hw hi2 (0) 5 s_H rfl (by decide) (List.mem_of_getElem? (i := 2) rfl) sv_5 dX2_pass_327 ?_
                refine va_alen (v := nI n) hx hb hK.1 hw.1 (3) 2 s_Y5 rfl rfl dX2_pass_330 ?_
                refine lv_icmp_ge (tgt := 379) hx hb dX2_pass_331 (by decide) (fun z => absurd z (nI_ge hi324 (by omega))) (fun _ => ?_)
                refine lv_iload hx hb dX2_pass_334 (lv_at hl 4 rfl) ?_
                refine lv_iload hx hb dX2_pass_336 (lv_at hl 5 rfl) ?_
                refine lv_iload hx hb dX2_pass_338 (lv_at hl 3 rfl) ?_
                refine lv_icmp_eq (tgt := 369) hx hb dX2_pass_340 (by decide) (fun c5 => ?_) (fun c5 => ?_)
                · refine lv_iconst (v := 0) hx hb dX2_pass_369 (by decide) ?_
                  refine lv_ior hx hb dX2_pass_370 ?_
                  refine lv_istore (lv' := [(6, .int (q324 ||| (0 : Int32))), (0, .ref (zh Z)), (3, .int (nI i198)), (4, .ref q3), (5, .int (nI i292)), (7, .int (nI i324))]) hx hb dX2_pass_371 hl (by decide) rfl (fun ls hl => ?_)
                  refine lv_iinc (v := (nI (i324 + 1))) (lv' := [(7, .int (nI (i324 + 1))), (6, .int (q324 ||| (0 : Int32))), (0, .ref (zh Z)), (3, .int (nI i198)), (4, .ref q3), (5, .int (nI i292))]) hx hb dX2_pass_373 hl (k := 5) rfl (inc_n i324) (by decide) rfl (fun ls hl => ?_)
                  refine lv_goto (tgt := 324) hx hb dX2_pass_376 (by decide) ?_
                  rw [show (f_X2_pass_3_324 w b n dy bo ea Wr Br Pr i198 q198 i292 q292) i324 q324 = ((q324 ||| (0 : Int32))) from by rw [f_X2_pass_3_324, if_pos c5]] at k324
                  exact k324 H locs ls hw (lv_sub hl [2, 3, 4, 5, 1, 0] rfl)
                · refine lv_aload_n hx hb dX2_pass_343 rfl (lv_at hl 0 rfl) ?_
                  refine g_get (v := .ref (zy Z 5)) hc hw hi2 (0) 5 s_H rfl (by decide) (List.mem_of_getElem? (i := 2) rfl) sv_5 dX2_pass_344 ?_
                  refine lv_iload hx hb dX2_pass_347 (lv_at hl 5 rfl) ?_
                  refine g_aald (v := zp Z i324) hc hw (3) s_Y5 (vp_in_nI (show i324 < n by omega) (by omega)) (congrArg (fun q => some (zp Z q)) (nI_clamp (show i324 < 2 ^ 31 by omega))) dX2_pass_349 ?_
                  refine lv_iconst (v := 2) hx hb dX2_pass_350 (by decide) ?_
                  refine r_ld (f := (q292 i324)) (k := 2) hc hw (4 + (w + (b + i324))) (s_P (show i324 < n by omega)) (by unfold vp_in; decide) (by decide) dX2_pass_351 ?_
                  refine lv_iload_n hx hb dX2_pass_352 rfl (lv_at hl 1 rfl) ?_
                  refine lv_icmp_ne (tgt := 369) hx hb dX2_pass_353 (by decide) (fun c6 => ?_) (fun c6 => ?_)
                  · refine lv_iconst (v := 0) hx hb dX2_pass_369 (by decide) ?_
                    refine lv_ior hx hb dX2_pass_370 ?_
                    refine lv_istore (lv' := [(6, .int (q324 ||| (0 : Int32))), (0, .ref (zh Z)), (3, .int (nI i198)), (4, .ref q3), (5, .int (nI i292)), (7, .int (nI i324))]) hx hb dX2_pass_371 hl (by decide) rfl (fun ls hl => ?_)
                    refine lv_iinc (v := (nI (i324 + 1))) (lv' := [(7, .int (nI (i324 + 1))), (6, .int (q324 ||| (0 : Int32))), (0, .ref (zh Z)), (3, .int (nI i198)), (4, .ref q3), (5, .int (nI i292))]) hx hb dX2_pass_373 hl (k := 5) rfl (inc_n i324) (by decide) rfl (fun ls hl => ?_)
                    refine lv_goto (tgt := 324) hx hb dX2_pass_376 (by decide) ?_
                    rw [show (f_X2_pass_3_324 w b n dy bo ea Wr Br Pr i198 q198 i292 q292) i324 q324 = ((q324 ||| (0 : Int32))) from by rw [f_X2_pass_3_324, if_neg c5, if_neg c6]] at k324
                    exact k324 H locs ls hw (lv_sub hl [2, 3, 4, 5, 1, 0] rfl)
                  · refine lv_aload hx hb dX2_pass_356 (lv_at hl 2 rfl) ?_
                    refine lv_iload hx hb dX2_pass_358 (lv_at hl 5 rfl) ?_
                    refine r_ld (f := (lpf (f_X2_pass_3_259 w b n dy bo ea Wr Br Pr i198 q198) n 0 ((fun _ => (0 : Int32))))) (k := i324) hc hw (4 + (w + (b + (n + 1)))) (s_E.trans rfl) (vp_in_nI (show i324 < n by omega) (by omega)) (nI_clamp (show i324 < 2 ^ 31 by omega)) dX2_pass_360 ?_
                    refine lv_iconst (v := 1) hx hb dX2_pass_361 (by decide) ?_
                    refine lv_icmp_lt (tgt := 369) hx hb dX2_pass_362 (by decide) (fun c7 => ?_) (fun c7 => ?_)
                    · refine lv_iconst (v := 0) hx hb dX2_pass_369 (by decide) ?_
                      refine lv_ior hx hb dX2_pass_370 ?_
                      refine lv_istore (lv' := [(6, .int (q324 ||| (0 : Int32))), (0, .ref (zh Z)), (3, .int (nI i198)), (4, .ref q3), (5, .int (nI i292)), (7, .int (nI i324))]) hx hb dX2_pass_371 hl (by decide) rfl (fun ls hl => ?_)
                      refine lv_iinc (v := (nI (i324 + 1))) (lv' := [(7, .int (nI (i324 + 1))), (6, .int (q324 ||| (0 : Int32))), (0, .ref (zh Z)), (3, .int (nI i198)), (4, .ref q3), (5, .int (nI i292))]) hx hb dX2_pass_373 hl (k := 5) rfl (inc_n i324) (by decide) rfl (fun ls hl => ?_)
                      refine lv_goto (tgt := 324) hx hb dX2_pass_376 (by decide) ?_
                      rw [show (f_X2_pass_3_324 w b n dy bo ea Wr Br Pr i198 q198 i292 q292) i324 q324 = ((q324 ||| (0 : Int32))) from by rw [f_X2_pass_3_324, if_neg c5, if_pos c6, if_pos c7]] at k324
                      exact k324 H locs ls hw (lv_sub hl [2, 3, 4, 5, 1, 0] rfl)
                    · refine lv_iconst (v := 1) hx hb dX2_pass_365 (by decide) ?_
                      refine lv_goto (tgt := 370) hx hb dX2_pass_366 (by decide) ?_
                      refine lv_ior hx hb dX2_pass_370 ?_
                      refine lv_istore (lv' := [(6, .int (q324 ||| (1 : Int32))), (0, .ref (zh Z)), (3, .int (nI i198)), (4, .ref q3), (5, .int (nI i292)), (7, .int (nI i324))]) hx hb dX2_pass_371 hl (by decide) rfl (fun ls hl => ?_)
                      refine lv_iinc (v := (nI (i324 + 1))) (lv' := [(7, .int (nI (i324 + 1))), (6, .int (q324 ||| (1 : Int32))), (0, .ref (zh Z)), (3, .int (nI i198)), (4, .ref q3), (5, .int (nI i292))]) hx hb dX2_pass_373 hl (k := 5) rfl (inc_n i324) (by decide) rfl (fun ls hl => ?_)
                      refine lv_goto (tgt := 324) hx hb dX2_pass_376 (by decide) ?_
                      rw [show (f_X2_pass_3_324 w b n dy bo ea Wr Br Pr i198 q198 i292 q292) i324 q324 = ((q324 ||| (1 : Int32))) from by rw [f_X2_pass_3_324, if_neg c5, if_pos c6, if_neg c7]] at k324
                      exact k324 H locs ls hw (lv_sub hl [2, 3, 4, 5, 1, 0] rfl)
              · intro H locs ls hw hl
                refine lv_iload hx hb dX2_pass_324 (lv_at hl 5 rfl) ?_
                refine lv_aload_n hx hb dX2_pass_326 rfl (lv_at hl 0 rfl) ?_
                refine g_get (v := .ref (zy Z 5)) hc hw hi2 (0) 5 s_H rfl (by decide) (List.mem_of_getElem? (i := 2) rfl) sv_5 dX2_pass_327 ?_
                refine va_alen (v := nI n) hx hb hK.1 hw.1 (3) 2 s_Y5 rfl rfl dX2_pass_330 ?_
                refine lv_icmp_ge (tgt := 379) hx hb dX2_pass_331 (by decide) (fun _ => ?_) (fun z => absurd (nI_le (Nat.le_refl _) (by omega)) z)
                refine lv_iload hx hb dX2_pass_379 (lv_at hl 4 rfl) ?_
                refine lv_if_eq (tgt := 407) hx hb dX2_pass_381 (by decide) (fun c8 => ?_) (fun c8 => ?_)
                · refine lv_iinc (v := (nI (i292 + 1))) (lv' := [(5, .int (nI (i292 + 1))), (0, .ref (zh Z)), (3, .int (nI i198)), (4, .ref q3), (6, .int (lpf (f_X2_pass_3_324 w b n dy bo ea Wr Br Pr i198 q198 i292 q292) n 0 ((0 : Int32)))), (7, .int (nI n))]) hx hb dX2_pass_407 hl (k := 3) rfl (inc_n i292) (by decide) rfl (fun ls hl => ?_)
                  refine lv_goto (tgt := 292) hx hb dX2_pass_410 (by decide) ?_
                  rw [show (f_X2_pass_3_292 w b n dy bo ea Wr Br Pr i198 q198) i292 q292 = (q292) from by rw [f_X2_pass_3_292, if_pos c4, if_pos c8]] at k292
                  exact k292 H locs ls hw (lv_sub hl [1, 2, 3, 0] rfl)
                · refine lv_aload hx hb dX2_pass_384 (lv_at hl 2 rfl) ?_
                  refine lv_iload hx hb dX2_pass_386 (lv_at hl 3 rfl) ?_
                  refine r_ld (f := (lpf (f_X2_pass_3_259 w b n dy bo ea Wr Br Pr i198 q198) n 0 ((fun _ => (0 : Int32))))) (k := i292) hc hw (4 + (w + (b + (n + 1)))) (s_E.trans rfl) (vp_in_nI (show i292 < n by omega) (by omega)) (nI_clamp (show i292 < 2 ^ 31 by omega)) dX2_pass_388 ?_
                  refine lv_bipush (v := 10) hx hb dX2_pass_389 (by decide) ?_
                  refine lv_icmp_ge (tgt := 407) hx hb dX2_pass_391 (by decide) (fun c9 => ?_) (fun c9 => ?_)
                  · refine lv_iinc (v := (nI (i292 + 1))) (lv' := [(5, .int (nI (i292 + 1))), (0, .ref (zh Z)), (3, .int (nI i198)), (4, .ref q3), (6, .int (lpf (f_X2_pass_3_324 w b n dy bo ea Wr Br Pr i198 q198 i292 q292) n 0 ((0 : Int32)))), (7, .int (nI n))]) hx hb dX2_pass_407 hl (k := 3) rfl (inc_n i292) (by decide) rfl (fun ls hl => ?_)
                    refine lv_goto (tgt := 292) hx hb dX2_pass_410 (by decide) ?_
                    rw [show (f_X2_pass_3_292 w b n dy bo ea Wr Br Pr i198 q198) i292 q292 = (q292) from by rw [f_X2_pass_3_292, if_pos c4, if_neg c8, if_pos c9]] at k292
                    exact k292 H locs ls hw (lv_sub hl [1, 2, 3, 0] rfl)
                  · refine lv_aload_n hx hb dX2_pass_394 rfl (lv_at hl 0 rfl) ?_
                    refine g_get (v := .ref (zy Z 5)) hc hw hi2 (0) 5 s_H rfl (by decide) (List.mem_of_getElem? (i := 2) rfl) sv_5 dX2_pass_395 ?_
                    refine lv_iload hx hb dX2_pass_398 (lv_at hl 3 rfl) ?_
                    refine g_aald (v := zp Z i292) hc hw (3) s_Y5 (vp_in_nI (show i292 < n by omega) (by omega)) (congrArg (fun q => some (zp Z q)) (nI_clamp (show i292 < 2 ^ 31 by omega))) dX2_pass_400 ?_
                    refine lv_iconst (v := 0) hx hb dX2_pass_401 (by decide) ?_
                    refine lv_dup2_11 hx hb dX2_pass_402 rfl rfl ?_
                    refine r_ld (f := (q292 i292)) (k := 0) hc hw (4 + (w + (b + i292))) (s_P (show i292 < n by omega)) (by unfold vp_in; decide) (by decide) dX2_pass_403 ?_
                    refine lv_iconst (v := 1) hx hb dX2_pass_404 (by decide) ?_
                    refine lv_iadd hx hb dX2_pass_405 ?_
                    refine r_st (f := (q292 i292)) (k := 0) hc hw (4 + (w + (b + i292))) (s_P (show i292 < n by omega)) (by unfold vp_in; decide) (by decide) (w' := (ws_s Z cI cL w b n dy bo ea Wr (ur q198.1 i198 1 ((q198.1 i198 1) - (1 : Int32))) (ur q292 i292 0 ((q292 i292 0) + (1 : Int32))) [(q1, .inl (cZ, n, .inl et)), (q3, .inl (cI, n, .inl (lpf (f_X2_pass_3_259 w b n dy bo ea Wr Br Pr i198 q198) n 0 ((fun _ => (0 : Int32))))))])) (su_P (show i292 < n by omega)) dX2_pass_406 (fun H locs hw => ?_)
                    refine lv_iinc (v := (nI (i292 + 1))) (lv' := [(5, .int (nI (i292 + 1))), (0, .ref (zh Z)), (3, .int (nI i198)), (4, .ref q3), (6, .int (lpf (f_X2_pass_3_324 w b n dy bo ea Wr Br Pr i198 q198 i292 q292) n 0 ((0 : Int32)))), (7, .int (nI n))]) hx hb dX2_pass_407 hl (k := 3) rfl (inc_n i292) (by decide) rfl (fun ls hl => ?_)
                    refine lv_goto (tgt := 292) hx hb dX2_pass_410 (by decide) ?_
                    rw [show (f_X2_pass_3_292 w b n dy bo ea Wr Br Pr i198 q198) i292 q292 = ((ur q292 i292 0 ((q292 i292 0) + (1 : Int32)))) from by rw [f_X2_pass_3_292, if_pos c4, if_neg c8, if_neg c9]] at k292
                    exact k292 H locs ls hw (lv_sub hl [1, 2, 3, 0] rfl)
            · refine lv_goto (tgt := 407) hx hb dX2_pass_315 (by decide) ?_
              refine lv_iinc (v := (nI (i292 + 1))) (lv' := [(5, .int (nI (i292 + 1))), (0, .ref (zh Z)), (3, .int (nI i198)), (4, .ref q3)]) hx hb dX2_pass_407 hl (k := 3) rfl (inc_n i292) (by decide) rfl (fun ls hl => ?_)
              refine lv_goto (tgt := 292) hx hb dX2_pass_410 (by decide) ?_
              rw [show (f_X2_pass_3_292 w b n dy bo ea Wr Br Pr i198 q198) i292 q292 = (q292) from by rw [f_X2_pass_3_292, if_neg c4]] at k292
              exact k292 H locs ls hw (lv_sub hl [1, 2, 3, 0] rfl)
          · intro H locs ls hw hl
            refine lv_iload hx hb dX2_pass_292 (lv_at hl 3 rfl) ?_
            refine lv_aload_n hx hb dX2_pass_294 rfl (lv_at hl 0 rfl) ?_
            refine g_get (v := .ref (zy Z 5)) hc hw hi2 (0) 5 s_H rfl (by decide) (List.mem_of_getElem? (i := 2) rfl) sv_5 dX2_pass_295 ?_
            refine va_alen (v := nI n) hx hb hK.1 hw.1 (3) 2 s_Y5 rfl rfl dX2_pass_298 ?_
            refine lv_icmp_ge (tgt := 413) hx hb dX2_pass_299 (by decide) (fun _ => ?_) (fun z => absurd (nI_le (Nat.le_refl _) (by omega)) z)
            refine lv_iinc (v := (nI (i198 + 1))) (lv' := [(3, .int (nI (i198 + 1))), (0, .ref (zh Z)), (4, .ref q3), (5, .int (nI n))]) hx hb dX2_pass_413 hl (k := 1) rfl (inc_n i198) (by decide) rfl (fun ls hl => ?_)
            refine lv_goto (tgt := 198) hx hb dX2_pass_416 (by decide) ?_
            replace hw : Wo D A s.heap (ws_s Z cI cL w b n dy bo ea Wr (ur q198.1 i198 1 ((q198.1 i198 1) - (1 : Int32))) (lpf (f_X2_pass_3_292 w b n dy bo ea Wr Br Pr i198 q198) n 0 (q198.2)) [(q1, .inl (cZ, n, .inl et))]) H locs := Wo.drop2 (X := [(q3, .inl (cI, n, .inl (lpf (f_X2_pass_3_259 w b n dy bo ea Wr Br Pr i198 q198) n 0 ((fun _ => (0 : Int32))))))]) (by rw [s_push]; exact hw)
            rw [show (f_X2_pass_3_198 w b n dy bo ea Wr Br Pr) i198 q198 = ((ur q198.1 i198 1 ((q198.1 i198 1) - (1 : Int32))), (lpf (f_X2_pass_3_292 w b n dy bo ea Wr Br Pr i198 q198) n 0 (q198.2))) from by rw [f_X2_pass_3_198, if_neg c1, if_neg c2]] at k198
            refine W.widen (show 1 + i198 + 1 ≤ 1 + (i198 + 1) by omega) (show 30 + 30 * i198 + n ≤ 30 + 30 * (i198 + 1) by omega) ?_
            exact k198 H locs ls hw (lv_sub hl [1, 0] rfl)
      · refine lv_goto (tgt := 413) hx hb dX2_pass_244 (by decide) ?_
        refine lv_iinc (v := (nI (i198 + 1))) (lv' := [(3, .int (nI (i198 + 1))), (0, .ref (zh Z))]) hx hb dX2_pass_413 hl (k := 1) rfl (inc_n i198) (by decide) rfl (fun ls hl => ?_)
        refine lv_goto (tgt := 198) hx hb dX2_pass_416 (by decide) ?_
        rw [show (f_X2_pass_3_198 w b n dy bo ea Wr Br Pr) i198 q198 = ((ur q198.1 i198 1 ((q198.1 i198 1) - (1 : Int32))), q198.2) from by rw [f_X2_pass_3_198, if_neg c1, if_pos c2]] at k198
        refine W.widen (show 1 + i198 ≤ 1 + (i198 + 1) by omega) (show 30 + 30 * i198 ≤ 30 + 30 * (i198 + 1) by omega) ?_
        exact k198 H locs ls hw (lv_sub hl [1, 0] rfl)
    · refine lv_goto (tgt := 413) hx hb dX2_pass_218 (by decide) ?_
      refine lv_iinc (v := (nI (i198 + 1))) (lv' := [(3, .int (nI (i198 + 1))), (0, .ref (zh Z))]) hx hb dX2_pass_413 hl (k := 1) rfl (inc_n i198) (by decide) rfl (fun ls hl => ?_)
      refine lv_goto (tgt := 198) hx hb dX2_pass_416 (by decide) ?_
      rw [show (f_X2_pass_3_198 w b n dy bo ea Wr Br Pr) i198 q198 = (q198.1, q198.2) from by rw [f_X2_pass_3_198, if_pos c1]] at k198
      refine W.widen (show 1 + i198 ≤ 1 + (i198 + 1) by omega) (show 30 + 30 * i198 ≤ 30 + 30 * (i198 + 1) by omega) ?_
      exact k198 H locs ls hw (lv_sub hl [1, 0] rfl)
  · intro H locs ls hw hl
    refine lv_iload_n hx hb dX2_pass_198 rfl (lv_at hl 1 rfl) ?_
    refine lv_aload_n hx hb dX2_pass_199 rfl (lv_at hl 0 rfl) ?_
    refine g_get (v := .ref (zy Z 4)) hc hw hi2 (0) 4 s_H rfl (by decide) (List.mem_of_getElem? (i := 6) rfl) sv_4 dX2_pass_200 ?_
    refine va_alen (v := nI b) hx hb hK.1 hw.1 (2) 2 s_Y4 rfl rfl dX2_pass_203 ?_
    refine lv_icmp_ge (tgt := 419) hx hb dX2_pass_204 (by decide) (fun _ => ?_) (fun z => absurd (nI_le (Nat.le_refl _) (by omega)) z)
    refine W.widen (show 1 + b ≤ 5 by omega) (show 30 + 30 * b ≤ 150 by omega) ?_
    exact k419 H locs ls hw (lv_sub hl [0] rfl)

def f_X2_pass_4_431 (w : Nat) (b : Nat) (n : Nat) (dy : Int32) (bo : Int32) (ea : Int32) (Wr : Nat → Nat → Int32) (Br : Nat → Nat → Int32) (Pr : Nat → Nat → Int32) (i431 : Nat) (q431 : (Nat → Nat → Int32)) : (Nat → Nat → Int32) := ((ur q431 i431 1 ((q431 i431 1) + (1 : Int32))))
def p4_W (w : Nat) (b : Nat) (n : Nat) (dy : Int32) (bo : Int32) (ea : Int32) (Wr : Nat → Nat → Int32) (Br : Nat → Nat → Int32) (Pr : Nat → Nat → Int32) : (Nat → Nat → Int32) := (lpf (f_X2_pass_4_431 w b n dy bo ea Wr Br Pr) w 0 (Wr))
set_option maxHeartbeats 4000000 in
set_option maxRecDepth 100000 in
theorem k_X2_pass_4 {p : Program} {l : Launch} {e : Env} {s : State} {m : MethodId} {args : Array Value} {below : List Frame} {meth : Method} {c : Code} {H : Heap} {locs : List Loc} {Q : State → Prop} {D : va_G} {cI cZ cL : ClassId} {A : Nat → Prop} {ls : Array Slot} {w : Nat} {b : Nat} {n : Nat} {dy : Int32} {bo : Int32} {ea : Int32} {Wr : Nat → Nat → Int32} {Br : Nat → Nat → Int32} {Pr : Nat → Nat → Int32} {Z : sA} {q1 : Nat} {et : Nat → Int32} (hd5 : w ≤ 5) (hd4 : b ≤ 4) (hd30 : n ≤ 30)  (hc : Cx p s m args meth c cX2_pass 11 wsX2_pass RX2 none D cI cZ cL A) (hw : Wo D A s.heap (ws_s Z cI cL w b n dy bo ea Wr Br Pr [(q1, .inl (cZ, n, .inl et))]) H locs) (hl : lv_has ls 11 [(0, .ref (zh Z))]) (k458 : ∀ (H : Heap) (locs : List Loc) (ls : Array Slot), Wo D A s.heap (ws_s Z cI cL w b n dy bo ea (p4_W w b n dy bo ea Wr Br Pr) Br Pr [(q1, .inl (cZ, n, .inl et))]) H locs → lv_has ls 11 [(0, .ref (zh Z))] → W p l e rm_X2_pass s m args below meth c H locs 5 150 (Q) (F0 m 458 ls [])) : W p l e rm_X2_pass s m args below meth c H locs 5 150 (Q) (F0 m 419 ls []) := by
  obtain ⟨hx, hb, hr, hml, hown, hts, hlk, hK, hA⟩ := id hc
  have hi2 : ∀ w ∈ u_ws RX2 TX2 6, w ∈ wsX2_pass := fun _ h => List.mem_cons_of_mem _ (List.mem_append_right _ h)
  refine lv_aload_n hx hb dX2_pass_419 rfl (lv_at hl 0 rfl) ?_
  refine g_get (v := .ref (zy Z 3)) hc hw hi2 (0) 3 s_H rfl (by decide) (List.mem_of_getElem? (i := 4) rfl) sv_3 dX2_pass_420 ?_
  refine lv_astore_n (lv' := [(3, .ref (zy Z 3)), (0, .ref (zh Z))]) hx hb dX2_pass_423 rfl hl (by decide) rfl (fun ls hl => ?_)
  refine lv_aload_n hx hb dX2_pass_424 rfl (lv_at hl 0 rfl) ?_
  refine va_alen (v := nI w) hx hb hK.1 hw.1 (1) 2 s_Y3 rfl rfl dX2_pass_425 ?_
  refine lv_istore (lv' := [(4, .int (nI w)), (3, .ref (zy Z 3)), (0, .ref (zh Z))]) hx hb dX2_pass_426 hl (by decide) rfl (fun ls hl => ?_)
  refine lv_iconst (v := 0) hx hb dX2_pass_428 (by decide) ?_
  refine lv_istore (lv' := [(5, .int (0 : Int32)), (4, .int (nI w)), (3, .ref (zy Z 3)), (0, .ref (zh Z))]) hx hb dX2_pass_429 hl (by decide) rfl (fun ls hl => ?_)
  refine lp_go (fun (i431 : Nat) (q431 : (Nat → Nat → Int32)) => ∀ (H : Heap) (locs : List Loc) (ls : Array Slot), Wo D A s.heap (ws_s Z cI cL w b n dy bo ea q431 Br Pr [(q1, .inl (cZ, n, .inl et))]) H locs → lv_has ls 11 [(0, .ref (zh Z)), (3, .ref (zy Z 3)), (4, .int (nI w)), (5, .int (nI i431))] → W p l e rm_X2_pass s m args below meth c H locs 5 150 (Q) (F0 m 431 ls [])) (f_X2_pass_4_431 w b n dy bo ea Wr Br Pr) w (Wr) ?_ ?_ H locs ls hw (lv_sub hl [3, 2, 1, 0] rfl)
  · intro i431 q431 hi431 k431 H locs ls hw hl
    refine lv_iload hx hb dX2_pass_431 (lv_at hl 3 rfl) ?_
    refine lv_iload hx hb dX2_pass_433 (lv_at hl 2 rfl) ?_
    refine lv_icmp_ge (tgt := 458) hx hb dX2_pass_435 (by decide) (fun z => absurd z (nI_ge hi431 (by omega))) (fun _ => ?_)
    refine lv_aload_n hx hb dX2_pass_438 rfl (lv_at hl 1 rfl) ?_
    refine lv_iload hx hb dX2_pass_439 (lv_at hl 3 rfl) ?_
    refine g_aald (v := zw Z i431) hc hw (1) s_Y3 (vp_in_nI (show i431 < w by omega) (by omega)) (congrArg (fun q => some (zw Z q)) (nI_clamp (show i431 < 2 ^ 31 by omega))) dX2_pass_441 ?_
    refine lv_astore (lv' := [(6, .ref (zw Z i431)), (0, .ref (zh Z)), (3, .ref (zy Z 3)), (4, .int (nI w)), (5, .int (nI i431))]) hx hb dX2_pass_442 hl (by decide) rfl (fun ls hl => ?_)
    refine lv_aload hx hb dX2_pass_444 (lv_at hl 0 rfl) ?_
    refine lv_iconst (v := 1) hx hb dX2_pass_446 (by decide) ?_
    refine lv_dup2_11 hx hb dX2_pass_447 rfl rfl ?_
    refine r_ld (f := (q431 i431)) (k := 1) hc hw (4 + i431) (s_W (show i431 < w by omega)) (by unfold vp_in; decide) (by decide) dX2_pass_448 ?_
    refine lv_iconst (v := 1) hx hb dX2_pass_449 (by decide) ?_
    refine lv_iadd hx hb dX2_pass_450 ?_
    refine r_st (f := (q431 i431)) (k := 1) hc hw (4 + i431) (s_W (show i431 < w by omega)) (by unfold vp_in; decide) (by decide) (w' := (ws_s Z cI cL w b n dy bo ea (ur q431 i431 1 ((q431 i431 1) + (1 : Int32))) Br Pr [(q1, .inl (cZ, n, .inl et))])) (su_W (show i431 < w by omega)) dX2_pass_451 (fun H locs hw => ?_)
    refine lv_iinc (v := (nI (i431 + 1))) (lv' := [(5, .int (nI (i431 + 1))), (6, .ref (zw Z i431)), (0, .ref (zh Z)), (3, .ref (zy Z 3)), (4, .int (nI w))]) hx hb dX2_pass_452 hl (k := 4) rfl (inc_n i431) (by decide) rfl (fun ls hl => ?_)
    refine lv_goto (tgt := 431) hx hb dX2_pass_455 (by decide) ?_
    rw [show (f_X2_pass_4_431 w b n dy bo ea Wr Br Pr) i431 q431 = ((ur q431 i431 1 ((q431 i431 1) + (1 : Int32)))) from by rw [f_X2_pass_4_431]] at k431
    exact k431 H locs ls hw (lv_sub hl [2, 3, 4, 0] rfl)
  · intro H locs ls hw hl
    refine lv_iload hx hb dX2_pass_431 (lv_at hl 3 rfl) ?_
    refine lv_iload hx hb dX2_pass_433 (lv_at hl 2 rfl) ?_
    refine lv_icmp_ge (tgt := 458) hx hb dX2_pass_435 (by decide) (fun _ => ?_) (fun z => absurd (nI_le (Nat.le_refl _) (by omega)) z)
    exact k458 H locs ls hw (lv_sub hl [0] rfl)

def f_X2_pass_5_470 (w : Nat) (b : Nat) (n : Nat) (dy : Int32) (bo : Int32) (ea : Int32) (Wr : Nat → Nat → Int32) (Br : Nat → Nat → Int32) (Pr : Nat → Nat → Int32) (i470 : Nat) (q470 : (Nat → Nat → Int32)) : (Nat → Nat → Int32) := if (q470 i470 1) < (0 : Int32) then ((q470)) else (if (q470 i470 0) ≤ (0 : Int32) then (if ((ur q470 i470 1 (-1 : Int32)) i470 0) = (0 : Int32) then (((ur (ur q470 i470 1 (-1 : Int32)) i470 3 (1 : Int32)))) else (((ur (ur q470 i470 1 (-1 : Int32)) i470 4 (1 : Int32))))) else (if (10 : Int32) ≤ (q470 i470 0) then (if ((ur q470 i470 1 (-1 : Int32)) i470 0) = (0 : Int32) then (((ur (ur q470 i470 1 (-1 : Int32)) i470 3 (1 : Int32)))) else (((ur (ur q470 i470 1 (-1 : Int32)) i470 4 (1 : Int32))))) else ((q470))))
def p5_P (w : Nat) (b : Nat) (n : Nat) (dy : Int32) (bo : Int32) (ea : Int32) (Wr : Nat → Nat → Int32) (Br : Nat → Nat → Int32) (Pr : Nat → Nat → Int32) : (Nat → Nat → Int32) := (lpf (f_X2_pass_5_470 w b n dy bo ea Wr Br Pr) n 0 (Pr))
set_option maxHeartbeats 4000000 in
set_option maxRecDepth 100000 in
theorem k_X2_pass_5 {p : Program} {l : Launch} {e : Env} {s : State} {m : MethodId} {args : Array Value} {below : List Frame} {meth : Method} {c : Code} {H : Heap} {locs : List Loc} {Q : State → Prop} {D : va_G} {cI cZ cL : ClassId} {A : Nat → Prop} {ls : Array Slot} {w : Nat} {b : Nat} {n : Nat} {dy : Int32} {bo : Int32} {ea : Int32} {Wr : Nat → Nat → Int32} {Br : Nat → Nat → Int32} {Pr : Nat → Nat → Int32} {Z : sA} {q1 : Nat} {et : Nat → Int32} (hd5 : w ≤ 5) (hd4 : b ≤ 4) (hd30 : n ≤ 30)  (hc : Cx p s m args meth c cX2_pass 11 wsX2_pass RX2 none D cI cZ cL A) (hw : Wo D A s.heap (ws_s Z cI cL w b n dy bo ea Wr Br Pr [(q1, .inl (cZ, n, .inl et))]) H locs) (hl : lv_has ls 11 [(0, .ref (zh Z))]) (k536 : ∀ (H : Heap) (locs : List Loc) (ls : Array Slot), Wo D A s.heap (ws_s Z cI cL w b n dy bo ea Wr Br (p5_P w b n dy bo ea Wr Br Pr) [(q1, .inl (cZ, n, .inl et))]) H locs → lv_has ls 11 [(0, .ref (zh Z))] → W p l e rm_X2_pass s m args below meth c H locs 5 150 (Q) (F0 m 536 ls [])) : W p l e rm_X2_pass s m args below meth c H locs 5 150 (Q) (F0 m 458 ls []) := by
  obtain ⟨hx, hb, hr, hml, hown, hts, hlk, hK, hA⟩ := id hc
  have hi2 : ∀ w ∈ u_ws RX2 TX2 6, w ∈ wsX2_pass := fun _ h => List.mem_cons_of_mem _ (List.mem_append_right _ h)
  refine lv_aload_n hx hb dX2_pass_458 rfl (lv_at hl 0 rfl) ?_
  refine g_get (v := .ref (zy Z 5)) hc hw hi2 (0) 5 s_H rfl (by decide) (List.mem_of_getElem? (i := 2) rfl) sv_5 dX2_pass_459 ?_
  refine lv_astore_n (lv' := [(3, .ref (zy Z 5)), (0, .ref (zh Z))]) hx hb dX2_pass_462 rfl hl (by decide) rfl (fun ls hl => ?_)
  refine lv_aload_n hx hb dX2_pass_463 rfl (lv_at hl 0 rfl) ?_
  refine va_alen (v := nI n) hx hb hK.1 hw.1 (3) 2 s_Y5 rfl rfl dX2_pass_464 ?_
  refine lv_istore (lv' := [(4, .int (nI n)), (3, .ref (zy Z 5)), (0, .ref (zh Z))]) hx hb dX2_pass_465 hl (by decide) rfl (fun ls hl => ?_)
  refine lv_iconst (v := 0) hx hb dX2_pass_467 (by decide) ?_
  refine lv_istore (lv' := [(5, .int (0 : Int32)), (4, .int (nI n)), (3, .ref (zy Z 5)), (0, .ref (zh Z))]) hx hb dX2_pass_468 hl (by decide) rfl (fun ls hl => ?_)
  refine lp_go (fun (i470 : Nat) (q470 : (Nat → Nat → Int32)) => ∀ (H : Heap) (locs : List Loc) (ls : Array Slot), Wo D A s.heap (ws_s Z cI cL w b n dy bo ea Wr Br q470 [(q1, .inl (cZ, n, .inl et))]) H locs → lv_has ls 11 [(0, .ref (zh Z)), (3, .ref (zy Z 5)), (4, .int (nI n)), (5, .int (nI i470))] → W p l e rm_X2_pass s m args below meth c H locs 5 150 (Q) (F0 m 470 ls [])) (f_X2_pass_5_470 w b n dy bo ea Wr Br Pr) n (Pr) ?_ ?_ H locs ls hw (lv_sub hl [3, 2, 1, 0] rfl)
  · intro i470 q470 hi470 k470 H locs ls hw hl
    refine lv_iload hx hb dX2_pass_470 (lv_at hl 3 rfl) ?_
    refine lv_iload hx hb dX2_pass_472 (lv_at hl 2 rfl) ?_
    refine lv_icmp_ge (tgt := 536) hx hb dX2_pass_474 (by decide) (fun z => absurd z (nI_ge hi470 (by omega))) (fun _ => ?_)
    refine lv_aload_n hx hb dX2_pass_477 rfl (lv_at hl 1 rfl) ?_
    refine lv_iload hx hb dX2_pass_478 (lv_at hl 3 rfl) ?_
    refine g_aald (v := zp Z i470) hc hw (3) s_Y5 (vp_in_nI (show i470 < n by omega) (by omega)) (congrArg (fun q => some (zp Z q)) (nI_clamp (show i470 < 2 ^ 31 by omega))) dX2_pass_480 ?_
    refine lv_astore (lv' := [(6, .ref (zp Z i470)), (0, .ref (zh Z)), (3, .ref (zy Z 5)), (4, .int (nI n)), (5, .int (nI i470))]) hx hb dX2_pass_481 hl (by decide) rfl (fun ls hl => ?_)
    refine lv_aload hx hb dX2_pass_483 (lv_at hl 0 rfl) ?_
    refine lv_iconst (v := 1) hx hb dX2_pass_485 (by decide) ?_
    refine r_ld (f := (q470 i470)) (k := 1) hc hw (4 + (w + (b + i470))) (s_P (show i470 < n by omega)) (by unfold vp_in; decide) (by decide) dX2_pass_486 ?_
    refine lv_if_lt (tgt := 530) hx hb dX2_pass_487 (by decide) (fun c1 => ?_) (fun c1 => ?_)
    · refine lv_iinc (v := (nI (i470 + 1))) (lv' := [(5, .int (nI (i470 + 1))), (6, .ref (zp Z i470)), (0, .ref (zh Z)), (3, .ref (zy Z 5)), (4, .int (nI n))]) hx hb dX2_pass_530 hl (k := 4) rfl (inc_n i470) (by decide) rfl (fun ls hl => ?_)
      refine lv_goto (tgt := 470) hx hb dX2_pass_533 (by decide) ?_
      rw [show (f_X2_pass_5_470 w b n dy bo ea Wr Br Pr) i470 q470 = (q470) from by rw [f_X2_pass_5_470, if_pos c1]] at k470
      exact k470 H locs ls hw (lv_sub hl [2, 3, 4, 0] rfl)
    · refine lv_aload hx hb dX2_pass_490 (lv_at hl 0 rfl) ?_
      refine lv_iconst (v := 0) hx hb dX2_pass_492 (by decide) ?_
      refine r_ld (f := (q470 i470)) (k := 0) hc hw (4 + (w + (b + i470))) (s_P (show i470 < n by omega)) (by unfold vp_in; decide) (by decide) dX2_pass_493 ?_
      refine lv_if_le (tgt := 509) hx hb dX2_pass_494 (by decide) (fun c2 => ?_) (fun c2 => ?_)
      · refine lv_aload hx hb dX2_pass_509 (lv_at hl 0 rfl) ?_
        refine lv_iconst (v := 1) hx hb dX2_pass_511 (by decide) ?_
        refine lv_iconst (v := (-1)) hx hb dX2_pass_512 (by decide) ?_
        refine r_st (f := (q470 i470)) (k := 1) hc hw (4 + (w + (b + i470))) (s_P (show i470 < n by omega)) (by unfold vp_in; decide) (by decide) (w' := (ws_s Z cI cL w b n dy bo ea Wr Br (ur q470 i470 1 (-1 : Int32)) [(q1, .inl (cZ, n, .inl et))])) (su_P (show i470 < n by omega)) dX2_pass_513 (fun H locs hw => ?_)
        refine lv_aload hx hb dX2_pass_514 (lv_at hl 0 rfl) ?_
        refine lv_aload hx hb dX2_pass_516 (lv_at hl 0 rfl) ?_
        refine lv_iconst (v := 0) hx hb dX2_pass_518 (by decide) ?_
        refine r_ld (f := ((ur q470 i470 1 (-1 : Int32)) i470)) (k := 0) hc hw (4 + (w + (b + i470))) (s_P (show i470 < n by omega)) (by unfold vp_in; decide) (by decide) dX2_pass_519 ?_
        refine lv_if_ne (tgt := 527) hx hb dX2_pass_520 (by decide) (fun c3 => ?_) (fun c3 => ?_)
        · refine lv_iconst (v := 4) hx hb dX2_pass_527 (by decide) ?_
          refine lv_iconst (v := 1) hx hb dX2_pass_528 (by decide) ?_
          refine r_st (f := ((ur q470 i470 1 (-1 : Int32)) i470)) (k := 4) hc hw (4 + (w + (b + i470))) (s_P (show i470 < n by omega)) (by unfold vp_in; decide) (by decide) (w' := (ws_s Z cI cL w b n dy bo ea Wr Br (ur (ur q470 i470 1 (-1 : Int32)) i470 4 (1 : Int32)) [(q1, .inl (cZ, n, .inl et))])) (su_P (show i470 < n by omega)) dX2_pass_529 (fun H locs hw => ?_)
          refine lv_iinc (v := (nI (i470 + 1))) (lv' := [(5, .int (nI (i470 + 1))), (6, .ref (zp Z i470)), (0, .ref (zh Z)), (3, .ref (zy Z 5)), (4, .int (nI n))]) hx hb dX2_pass_530 hl (k := 4) rfl (inc_n i470) (by decide) rfl (fun ls hl => ?_)
          refine lv_goto (tgt := 470) hx hb dX2_pass_533 (by decide) ?_
          rw [show (f_X2_pass_5_470 w b n dy bo ea Wr Br Pr) i470 q470 = ((ur (ur q470 i470 1 (-1 : Int32)) i470 4 (1 : Int32))) from by rw [f_X2_pass_5_470, if_neg c1, if_pos c2, if_neg c3]] at k470
          exact k470 H locs ls hw (lv_sub hl [2, 3, 4, 0] rfl)
        · refine lv_iconst (v := 3) hx hb dX2_pass_523 (by decide) ?_
          refine lv_goto (tgt := 528) hx hb dX2_pass_524 (by decide) ?_
          refine lv_iconst (v := 1) hx hb dX2_pass_528 (by decide) ?_
          refine r_st (f := ((ur q470 i470 1 (-1 : Int32)) i470)) (k := 3) hc hw (4 + (w + (b + i470))) (s_P (show i470 < n by omega)) (by unfold vp_in; decide) (by decide) (w' := (ws_s Z cI cL w b n dy bo ea Wr Br (ur (ur q470 i470 1 (-1 : Int32)) i470 3 (1 : Int32)) [(q1, .inl (cZ, n, .inl et))])) (su_P (show i470 < n by omega)) dX2_pass_529 (fun H locs hw => ?_)
          refine lv_iinc (v := (nI (i470 + 1))) (lv' := [(5, .int (nI (i470 + 1))), (6, .ref (zp Z i470)), (0, .ref (zh Z)), (3, .ref (zy Z 5)), (4, .int (nI n))]) hx hb dX2_pass_530 hl (k := 4) rfl (inc_n i470) (by decide) rfl (fun ls hl => ?_)
          refine lv_goto (tgt := 470) hx hb dX2_pass_533 (by decide) ?_
          rw [show (f_X2_pass_5_470 w b n dy bo ea Wr Br Pr) i470 q470 = ((ur (ur q470 i470 1 (-1 : Int32)) i470 3 (1 : Int32))) from by rw [f_X2_pass_5_470, if_neg c1, if_pos c2, if_pos c3]] at k470
          exact k470 H locs ls hw (lv_sub hl [2, 3, 4, 0] rfl)
      · refine lv_aload hx hb dX2_pass_497 (lv_at hl 0 rfl) ?_
        refine lv_iconst (v := 0) hx hb dX2_pass_499 (by decide) ?_
        refine r_ld (f := (q470 i470)) (k := 0) hc hw (4 + (w + (b + i470))) (s_P (show i470 < n by omega)) (by unfold vp_in; decide) (by decide) dX2_pass_500 ?_
        refine lv_bipush (v := 10) hx hb dX2_pass_501 (by decide) ?_
        refine lv_icmp_ge (tgt := 509) hx hb dX2_pass_503 (by decide) (fun c4 => ?_) (fun c4 => ?_)
        · refine lv_aload hx hb dX2_pass_509 (lv_at hl 0 rfl) ?_
          refine lv_iconst (v := 1) hx hb dX2_pass_511 (by decide) ?_
          refine lv_iconst (v := (-1)) hx hb dX2_pass_512 (by decide) ?_
          refine r_st (f := (q470 i470)) (k := 1) hc hw (4 + (w + (b + i470))) (s_P (show i470 < n by omega)) (by unfold vp_in; decide) (by decide) (w' := (ws_s Z cI cL w b n dy bo ea Wr Br (ur q470 i470 1 (-1 : Int32)) [(q1, .inl (cZ, n, .inl et))])) (su_P (show i470 < n by omega)) dX2_pass_513 (fun H locs hw => ?_)
          refine lv_aload hx hb dX2_pass_514 (lv_at hl 0 rfl) ?_
          refine lv_aload hx hb dX2_pass_516 (lv_at hl 0 rfl) ?_
          refine lv_iconst (v := 0) hx hb dX2_pass_518 (by decide) ?_
          refine r_ld (f := ((ur q470 i470 1 (-1 : Int32)) i470)) (k := 0) hc hw (4 + (w + (b + i470))) (s_P (show i470 < n by omega)) (by unfold vp_in; decide) (by decide) dX2_pass_519 ?_
          refine lv_if_ne (tgt := 527) hx hb dX2_pass_520 (by decide) (fun c5 => ?_) (fun c5 => ?_)
          · refine lv_iconst (v := 4) hx hb dX2_pass_527 (by decide) ?_
            refine lv_iconst (v := 1) hx hb dX2_pass_528 (by decide) ?_
            refine r_st (f := ((ur q470 i470 1 (-1 : Int32)) i470)) (k := 4) hc hw (4 + (w + (b + i470))) (s_P (show i470 < n by omega)) (by unfold vp_in; decide) (by decide) (w' := (ws_s Z cI cL w b n dy bo ea Wr Br (ur (ur q470 i470 1 (-1 : Int32)) i470 4 (1 : Int32)) [(q1, .inl (cZ, n, .inl et))])) (su_P (show i470 < n by omega)) dX2_pass_529 (fun H locs hw => ?_)
            refine lv_iinc (v := (nI (i470 + 1))) (lv' := [(5, .int (nI (i470 + 1))), (6, .ref (zp Z i470)), (0, .ref (zh Z)), (3, .ref (zy Z 5)), (4, .int (nI n))]) hx hb dX2_pass_530 hl (k := 4) rfl (inc_n i470) (by decide) rfl (fun ls hl => ?_)
            refine lv_goto (tgt := 470) hx hb dX2_pass_533 (by decide) ?_
            rw [show (f_X2_pass_5_470 w b n dy bo ea Wr Br Pr) i470 q470 = ((ur (ur q470 i470 1 (-1 : Int32)) i470 4 (1 : Int32))) from by rw [f_X2_pass_5_470, if_neg c1, if_neg c2, if_pos c4, if_neg c5]] at k470
            exact k470 H locs ls hw (lv_sub hl [2, 3, 4, 0] rfl)
          · refine lv_iconst (v := 3) hx hb dX2_pass_523 (by decide) ?_
            refine lv_goto (tgt := 528) hx hb dX2_pass_524 (by decide) ?_
            refine lv_iconst (v := 1) hx hb dX2_pass_528 (by decide) ?_
            refine r_st (f := ((ur q470 i470 1 (-1 : Int32)) i470)) (k := 3) hc hw (4 + (w + (b + i470))) (s_P (show i470 < n by omega)) (by unfold vp_in; decide) (by decide) (w' := (ws_s Z cI cL w b n dy bo ea Wr Br (ur (ur q470 i470 1 (-1 : Int32)) i470 3 (1 : Int32)) [(q1, .inl (cZ, n, .inl et))])) (su_P (show i470 < n by omega)) dX2_pass_529 (fun H locs hw => ?_)
            refine lv_iinc (v := (nI (i470 + 1))) (lv' := [(5, .int (nI (i470 + 1))), (6, .ref (zp Z i470)), (0, .ref (zh Z)), (3, .ref (zy Z 5)), (4, .int (nI n))]) hx hb dX2_pass_530 hl (k := 4) rfl (inc_n i470) (by decide) rfl (fun ls hl => ?_)
            refine lv_goto (tgt := 470) hx hb dX2_pass_533 (by decide) ?_
            rw [show (f_X2_pass_5_470 w b n dy bo ea Wr Br Pr) i470 q470 = ((ur (ur q470 i470 1 (-1 : Int32)) i470 3 (1 : Int32))) from by rw [f_X2_pass_5_470, if_neg c1, if_neg c2, if_pos c4, if_pos c5]] at k470
            exact k470 H locs ls hw (lv_sub hl [2, 3, 4, 0] rfl)
        · refine lv_goto (tgt := 530) hx hb dX2_pass_506 (by decide) ?_
          refine lv_iinc (v := (nI (i470 + 1))) (lv' := [(5, .int (nI (i470 + 1))), (6, .ref (zp Z i470)), (0, .ref (zh Z)), (3, .ref (zy Z 5)), (4, .int (nI n))]) hx hb dX2_pass_530 hl (k := 4) rfl (inc_n i470) (by decide) rfl (fun ls hl => ?_)
          refine lv_goto (tgt := 470) hx hb dX2_pass_533 (by decide) ?_
          rw [show (f_X2_pass_5_470 w b n dy bo ea Wr Br Pr) i470 q470 = (q470) from by rw [f_X2_pass_5_470, if_neg c1, if_neg c2, if_neg c4]] at k470
          exact k470 H locs ls hw (lv_sub hl [2, 3, 4, 0] rfl)
  · intro H locs ls hw hl
    refine lv_iload hx hb dX2_pass_470 (lv_at hl 3 rfl) ?_
    refine lv_iload hx hb dX2_pass_472 (lv_at hl 2 rfl) ?_
    refine lv_icmp_ge (tgt := 536) hx hb dX2_pass_474 (by decide) (fun _ => ?_) (fun z => absurd (nI_le (Nat.le_refl _) (by omega)) z)
    exact k536 H locs ls hw (lv_sub hl [0] rfl)

def f_X2_pass_6_615 (w : Nat) (b : Nat) (n : Nat) (dy : Int32) (bo : Int32) (ea : Int32) (Wr : Nat → Nat → Int32) (Br : Nat → Nat → Int32) (Pr : Nat → Nat → Int32) (i538 : Nat) (q538 : (Nat → Nat → Int32) × (Nat → Nat → Int32)) (i578 : Nat) (q578 : (Nat → Nat → Int32) × Int32) (i615 : Nat) (q615 : Int32) : Int32 := if (Wr (w - 1 - i615) 0) ≤ (r_X2_in w b n dy bo ea Wr q538.1 q578.1 (nI (w - 1 - i615))) then ((q615)) else (((nI (w - 1 - i615))))
def f_X2_pass_6_578 (w : Nat) (b : Nat) (n : Nat) (dy : Int32) (bo : Int32) (ea : Int32) (Wr : Nat → Nat → Int32) (Br : Nat → Nat → Int32) (Pr : Nat → Nat → Int32) (i538 : Nat) (q538 : (Nat → Nat → Int32) × (Nat → Nat → Int32)) (i578 : Nat) (q578 : (Nat → Nat → Int32) × Int32) : (Nat → Nat → Int32) × Int32 := if (q578.1 i578 2) = (nI i538) then (if (q578.1 i578 0) ≤ (0 : Int32) then (if ((ur q578.1 i578 2 (-1 : Int32)) i578 0) = (0 : Int32) then (((ur (ur q578.1 i578 2 (-1 : Int32)) i578 3 (1 : Int32)), q578.2)) else (((ur (ur q578.1 i578 2 (-1 : Int32)) i578 1 (lpf (f_X2_pass_6_615 w b n dy bo ea Wr Br Pr i538 q538 i578 q578) w 0 ((-1 : Int32)))), q578.2))) else (if (0 : Int32) ≤ (lpf (f_X2_pass_6_615 w b n dy bo ea Wr Br Pr i538 q538 i578 q578) w 0 ((-1 : Int32))) then (if ((ur q578.1 i578 2 (-1 : Int32)) i578 0) = (0 : Int32) then (((ur (ur q578.1 i578 2 (-1 : Int32)) i578 3 (1 : Int32)), q578.2)) else (((ur (ur q578.1 i578 2 (-1 : Int32)) i578 1 (lpf (f_X2_pass_6_615 w b n dy bo ea Wr Br Pr i538 q538 i578 q578) w 0 ((-1 : Int32)))), q578.2))) else ((q578.1, (1 : Int32))))) else ((q578.1, q578.2))
def f_X2_pass_6_538 (w : Nat) (b : Nat) (n : Nat) (dy : Int32) (bo : Int32) (ea : Int32) (Wr : Nat → Nat → Int32) (Br : Nat → Nat → Int32) (Pr : Nat → Nat → Int32) (i538 : Nat) (q538 : (Nat → Nat → Int32) × (Nat → Nat → Int32)) : (Nat → Nat → Int32) × (Nat → Nat → Int32) := if (q538.1 i538 1) ≤ (0 : Int32) then (if (lpf (f_X2_pass_6_578 w b n dy bo ea Wr Br Pr i538 q538) n 0 (q538.2, (0 : Int32))).2 = (0 : Int32) then ((q538.1, (lpf (f_X2_pass_6_578 w b n dy bo ea Wr Br Pr i538 q538) n 0 (q538.2, (0 : Int32))).1)) else (((ur q538.1 i538 1 (q538.1 i538 0)), (lpf (f_X2_pass_6_578 w b n dy bo ea Wr Br Pr i538 q538) n 0 (q538.2, (0 : Int32))).1))) else ((q538.1, q538.2))
def p6_B (w : Nat) (b : Nat) (n : Nat) (dy : Int32) (bo : Int32) (ea : Int32) (Wr : Nat → Nat → Int32) (Br : Nat → Nat → Int32) (Pr : Nat → Nat → Int32) : (Nat → Nat → Int32) := (lpf (f_X2_pass_6_538 w b n dy bo ea Wr Br Pr) b 0 (Br, Pr)).1
def p6_P (w : Nat) (b : Nat) (n : Nat) (dy : Int32) (bo : Int32) (ea : Int32) (Wr : Nat → Nat → Int32) (Br : Nat → Nat → Int32) (Pr : Nat → Nat → Int32) : (Nat → Nat → Int32) := (lpf (f_X2_pass_6_538 w b n dy bo ea Wr Br Pr) b 0 (Br, Pr)).2
set_option maxHeartbeats 4000000 in
set_option maxRecDepth 100000 in
theorem k_X2_pass_6 {p : Program} {l : Launch} {e : Env} {s : State} {m : MethodId} {args : Array Value} {below : List Frame} {meth : Method} {c : Code} {H : Heap} {locs : List Loc} {Q : State → Prop} {D : va_G} {cI cZ cL : ClassId} {A : Nat → Prop} {ls : Array Slot} {w : Nat} {b : Nat} {n : Nat} {dy : Int32} {bo : Int32} {ea : Int32} {Wr : Nat → Nat → Int32} {Br : Nat → Nat → Int32} {Pr : Nat → Nat → Int32} {Z : sA} {q1 : Nat} {et : Nat → Int32} (hd5 : w ≤ 5) (hd4 : b ≤ 4) (hd30 : n ≤ 30)  (hc : Cx p s m args meth c cX2_pass 11 wsX2_pass RX2 none D cI cZ cL A) (hw : Wo D A s.heap (ws_s Z cI cL w b n dy bo ea Wr Br Pr [(q1, .inl (cZ, n, .inl et))]) H locs) (hl : lv_has ls 11 [(0, .ref (zh Z))]) (k725 : ∀ (H : Heap) (locs : List Loc) (ls : Array Slot), Wo D A s.heap (ws_s Z cI cL w b n dy bo ea Wr (p6_B w b n dy bo ea Wr Br Pr) (p6_P w b n dy bo ea Wr Br Pr) [(q1, .inl (cZ, n, .inl et))]) H locs → lv_has ls 11 [(0, .ref (zh Z))] → W p l e rm_X2_pass s m args below meth c H locs 5 150 (Q) (F0 m 725 ls [])) : W p l e rm_X2_pass s m args below meth c H locs 5 150 (Q) (F0 m 536 ls []) := by
  obtain ⟨hx, hb, hr, hml, hown, hts, hlk, hK, hA⟩ := id hc
  have hi2 : ∀ w ∈ u_ws RX2 TX2 6, w ∈ wsX2_pass := fun _ h => List.mem_cons_of_mem _ (List.mem_append_right _ h)
  refine lv_iconst (v := 0) hx hb dX2_pass_536 (by decide) ?_
  refine lv_istore_n (lv' := [(3, .int (0 : Int32)), (0, .ref (zh Z))]) hx hb dX2_pass_537 rfl hl (by decide) rfl (fun ls hl => ?_)
  refine lp_go (fun (i538 : Nat) (q538 : (Nat → Nat → Int32) × (Nat → Nat → Int32)) => ∀ (H : Heap) (locs : List Loc) (ls : Array Slot), Wo D A s.heap (ws_s Z cI cL w b n dy bo ea Wr q538.1 q538.2 [(q1, .inl (cZ, n, .inl et))]) H locs → lv_has ls 11 [(0, .ref (zh Z)), (3, .int (nI i538))] → W p l e rm_X2_pass s m args below meth c H locs 5 150 (Q) (F0 m 538 ls [])) (f_X2_pass_6_538 w b n dy bo ea Wr Br Pr) b (Br, Pr) ?_ ?_ H locs ls hw (lv_sub hl [1, 0] rfl)
  · intro i538 q538 hi538 k538 H locs ls hw hl
    refine lv_iload_n hx hb dX2_pass_538 rfl (lv_at hl 1 rfl) ?_
    refine lv_aload_n hx hb dX2_pass_539 rfl (lv_at hl 0 rfl) ?_
    refine g_get (v := .ref (zy Z 4)) hc hw hi2 (0) 4 s_H rfl (by decide) (List.mem_of_getElem? (i := 6) rfl) sv_4 dX2_pass_540 ?_
    refine va_alen (v := nI b) hx hb hK.1 hw.1 (2) 2 s_Y4 rfl rfl dX2_pass_543 ?_
    refine lv_icmp_ge (tgt := 725) hx hb dX2_pass_544 (by decide) (fun z => absurd z (nI_ge hi538 (by omega))) (fun _ => ?_)
    refine lv_aload_n hx hb dX2_pass_547 rfl (lv_at hl 0 rfl) ?_
    refine g_get (v := .ref (zy Z 4)) hc hw hi2 (0) 4 s_H rfl (by decide) (List.mem_of_getElem? (i := 6) rfl) sv_4 dX2_pass_548 ?_
    refine lv_iload_n hx hb dX2_pass_551 rfl (lv_at hl 1 rfl) ?_
    refine g_aald (v := zb Z i538) hc hw (2) s_Y4 (vp_in_nI (show i538 < b by omega) (by omega)) (congrArg (fun q => some (zb Z q)) (nI_clamp (show i538 < 2 ^ 31 by omega))) dX2_pass_552 ?_
    refine lv_iconst (v := 1) hx hb dX2_pass_553 (by decide) ?_
    refine r_ld (f := (q538.1 i538)) (k := 1) hc hw (4 + (w + i538)) (s_B (show i538 < b by omega)) (by unfold vp_in; decide) (by decide) dX2_pass_554 ?_
    refine lv_if_le (tgt := 561) hx hb dX2_pass_555 (by decide) (fun c1 => ?_) (fun c1 => ?_)
    · refine lv_iconst (v := 0) hx hb dX2_pass_561 (by decide) ?_
      refine lv_istore (lv' := [(4, .int (0 : Int32)), (0, .ref (zh Z)), (3, .int (nI i538))]) hx hb dX2_pass_562 hl (by decide) rfl (fun ls hl => ?_)
      refine lv_aload_n hx hb dX2_pass_564 rfl (lv_at hl 1 rfl) ?_
      refine g_get (v := .ref (zy Z 5)) hc hw hi2 (0) 5 s_H rfl (by decide) (List.mem_of_getElem? (i := 2) rfl) sv_5 dX2_pass_565 ?_
      refine lv_astore (lv' := [(5, .ref (zy Z 5)), (4, .int (0 : Int32)), (0, .ref (zh Z)), (3, .int (nI i538))]) hx hb dX2_pass_568 hl (by decide) rfl (fun ls hl => ?_)
      refine lv_aload hx hb dX2_pass_570 (lv_at hl 0 rfl) ?_
      refine va_alen (v := nI n) hx hb hK.1 hw.1 (3) 2 s_Y5 rfl rfl dX2_pass_572 ?_
      refine lv_istore (lv' := [(6, .int (nI n)), (5, .ref (zy Z 5)), (4, .int (0 : Int32)), (0, .ref (zh Z)), (3, .int (nI i538))]) hx hb dX2_pass_573 hl (by decide) rfl (fun ls hl => ?_)
      refine lv_iconst (v := 0) hx hb dX2_pass_575 (by decide) ?_
      refine lv_istore (lv' := [(7, .int (0 : Int32)), (6, .int (nI n)), (5, .ref (zy Z 5)), (4, .int (0 : Int32)), (0, .ref (zh Z)), (3, .int (nI i538))]) hx hb dX2_pass_576 hl (by decide) rfl (fun ls hl => ?_)
      refine lp_go (fun (i578 : Nat) (q578 : (Nat → Nat → Int32) × Int32) => ∀ (H : Heap) (locs : List Loc) (ls : Array Slot), Wo D A s.heap (ws_s Z cI cL w b n dy bo ea Wr q538.1 q578.1 [(q1, .inl (cZ, n, .inl et))]) H locs → lv_has ls 11 [(0, .ref (zh Z)), (3, .int (nI i538)), (4, .int q578.2), (5, .ref (zy Z 5)), (6, .int (nI n)), (7, .int (nI i578))] → W p l e rm_X2_pass s m args below meth c H locs 5 150 (Q) (F0 m 578 ls [])) (f_X2_pass_6_578 w b n dy bo ea Wr Br Pr i538 q538) n (q538.2, (0 : Int32)) ?_ ?_ H locs ls hw (lv_sub hl [4, 5, 3, 2, 1, 0] rfl)
      · intro i578 q578 hi578 k578 H locs ls hw hl
        refine lv_iload hx hb dX2_pass_578 (lv_at hl 5 rfl) ?_
        refine lv_iload hx hb dX2_pass_580 (lv_at hl 4 rfl) ?_
        refine lv_icmp_ge (tgt := 698) hx hb dX2_pass_582 (by decide) (fun z => absurd z (nI_ge hi578 (by omega))) (fun _ => ?_)
        refine lv_aload hx hb dX2_pass_585 (lv_at hl 3 rfl) ?_
        refine lv_iload hx hb dX2_pass_587 (lv_at hl 5 rfl) ?_
        refine g_aald (v := zp Z i578) hc hw (3) s_Y5 (vp_in_nI (show i578 < n by omega) (by omega)) (congrArg (fun q => some (zp Z q)) (nI_clamp (show i578 < 2 ^ 31 by omega))) dX2_pass_589 ?_
        refine lv_astore (lv' := [(8, .ref (zp Z i578)), (0, .ref (zh Z)), (3, .int (nI i538)), (4, .int q578.2), (5, .ref (zy Z 5)), (6, .int (nI n)), (7, .int (nI i578))]) hx hb dX2_pass_590 hl (by decide) rfl (fun ls hl => ?_)
        refine lv_aload hx hb dX2_pass_592 (lv_at hl 0 rfl) ?_
        refine lv_iconst (v := 2) hx hb dX2_pass_594 (by decide) ?_
        refine r_ld (f := (q578.1 i578)) (k := 2) hc hw (4 + (w + (b + i578))) (s_P (show i578 < n by omega)) (by unfold vp_in; decide) (by decide) dX2_pass_595 ?_
        refine lv_iload_n hx hb dX2_pass_596 rfl (lv_at hl 2 rfl) ?_
        refine lv_icmp_eq (tgt := 603) hx hb dX2_pass_597 (by decide) (fun c2 => ?_) (fun c2 => ?_)
        · refine lv_iconst (v := (-1)) hx hb dX2_pass_603 (by decide) ?_
          refine lv_istore (lv' := [(9, .int (-1 : Int32)), (8, .ref (zp Z i578)), (0, .ref (zh Z)), (3, .int (nI i538)), (4, .int q578.2), (5, .ref (zy Z 5)), (6, .int (nI n)), (7, .int (nI i578))]) hx hb dX2_pass_604 hl (by decide) rfl (fun ls hl => ?_)
          refine lv_aload_n hx hb dX2_pass_606 rfl (lv_at hl 2 rfl) ?_
          refine g_get (v := .ref (zy Z 3)) hc hw hi2 (0) 3 s_H rfl (by decide) (List.mem_of_getElem? (i := 4) rfl) sv_3 dX2_pass_607 ?_
          refine va_alen (v := nI w) hx hb hK.1 hw.1 (1) 2 s_Y3 rfl rfl dX2_pass_610 ?_
          refine lv_iconst (v := 1) hx hb dX2_pass_611 (by decide) ?_
          refine lv_isub hx hb dX2_pass_612 ?_
          refine lv_istore (lv' := [(10, .int ((nI w) - (1 : Int32))), (9, .int (-1 : Int32)), (8, .ref (zp Z i578)), (0, .ref (zh Z)), (3, .int (nI i538)), (4, .int q578.2), (5, .ref (zy Z 5)), (6, .int (nI n)), (7, .int (nI i578))]) hx hb dX2_pass_613 hl (by decide) rfl (fun ls hl => ?_)
          refine lp_go (fun (i615 : Nat) (q615 : Int32) => ∀ (H : Heap) (locs : List Loc) (ls : Array Slot), Wo D A s.heap (ws_s Z cI cL w b n dy bo ea Wr q538.1 q578.1 [(q1, .inl (cZ, n, .inl et))]) H locs → lv_has ls 11 [(0, .ref (zh Z)), (3, .int (nI i538)), (4, .int q578.2), (5, .ref (zy Z 5)), (6, .int (nI n)), (7, .int (nI i578)), (8, .ref (zp Z i578)), (9, .int q615), (10, .int (nI (w - i615) - (1 : Int32)))] → W p l e rm_X2_pass s m args below meth c H locs 5 150 (Q) (F0 m 615 ls [])) (f_X2_pass_6_615 w b n dy bo ea Wr Br Pr i538 q538 i578 q578) w ((-1 : Int32)) ?_ ?_ H locs ls hw (lv_sub hl [3, 4, 5, 6, 7, 8, 2, 1, 0] rfl)
          · intro i615 q615 hi615 k615 H locs ls hw hl
            rw [show (nI (w - i615) - (1 : Int32)) = nI (w - 1 - i615) from by rw [show w - i615 = (w - 1 - i615) + 1 from by omega]; exact nI_pred _] at hl
            refine lv_iload hx hb dX2_pass_615 (lv_at hl 8 rfl) ?_
            refine lv_if_lt (tgt := 648) hx hb dX2_pass_617 (by decide) (fun z => absurd z (nI_pos (by omega))) (fun _ => ?_)
            refine lv_aload_n hx hb dX2_pass_620 rfl (lv_at hl 0 rfl) ?_
            refine lv_iload hx hb dX2_pass_621 (lv_at hl 8 rfl) ?_
            refine g_callV0 (n := 1) hc hw (k_X2_in l D cI cZ cL [(q1, .inl (cZ, n, .inl et))] (nI (w - 1 - i615)) hd30) gX2_pass_X2_in rfl (by decide +kernel) ⟨Nat.le_of_ble_eq_true rfl, Nat.le_of_ble_eq_true rfl⟩ 0 s_H rfl rfl rfl (rest := []) rfl hl.1 (Nat.le_of_ble_eq_true rfl) (st1 := [.int (r_X2_in w b n dy bo ea Wr q538.1 q578.1 (nI (w - 1 - i615)))]) rfl dX2_pass_623 (k2 := 5) (s2 := 150) rfl rfl ⟨(Nat.le_trans (show 5 ≤ 5 by omega) (Nat.le_of_ble_eq_true rfl)), (Nat.le_trans (show 150 ≤ 150 by omega) (Nat.le_of_ble_eq_true rfl))⟩ (fun H locs hw => ?_)
            refine lv_aload_n hx hb dX2_pass_626 rfl (lv_at hl 0 rfl) ?_
            refine g_get (v := .ref (zy Z 3)) hc hw hi2 (0) 3 s_H rfl (by decide) (List.mem_of_getElem? (i := 4) rfl) sv_3 dX2_pass_627 ?_
            refine lv_iload hx hb dX2_pass_630 (lv_at hl 8 rfl) ?_
            refine g_aald (v := zw Z (w - 1 - i615)) hc hw (1) s_Y3 (vp_in_nI (show (w - 1 - i615) < w by omega) (by omega)) (congrArg (fun q => some (zw Z q)) (nI_clamp (show (w - 1 - i615) < 2 ^ 31 by omega))) dX2_pass_632 ?_
            refine lv_iconst (v := 0) hx hb dX2_pass_633 (by decide) ?_
            refine r_ld (f := (Wr (w - 1 - i615))) (k := 0) hc hw (4 + (w - 1 - i615)) (s_W (show (w - 1 - i615) < w by omega)) (by unfold vp_in; decide) (by decide) dX2_pass_634 ?_
            refine lv_icmp_ge (tgt := 642) hx hb dX2_pass_635 (by decide) (fun c3 => ?_) (fun c3 => ?_)
            · refine lv_iinc (v := (nI (w - (i615 + 1)) - (1 : Int32))) (lv' := [(10, .int (nI (w - (i615 + 1)) - (1 : Int32))), (0, .ref (zh Z)), (3, .int (nI i538)), (4, .int q578.2), (5, .ref (zy Z 5)), (6, .int (nI n)), (7, .int (nI i578)), (8, .ref (zp Z i578)), (9, .int q615)]) hx hb dX2_pass_642 hl (k := 8) rfl (by rw [show w - (i615 + 1) = w - 1 - i615 from by omega]; exact dec_2 _) (by decide) rfl (fun ls hl => ?_)
              refine lv_goto (tgt := 615) hx hb dX2_pass_645 (by decide) ?_
              rw [show (f_X2_pass_6_615 w b n dy bo ea Wr Br Pr i538 q538 i578 q578) i615 q615 = (q615) from by rw [f_X2_pass_6_615, if_pos c3]] at k615
              exact k615 H locs ls hw (lv_sub hl [1, 2, 3, 4, 5, 6, 7, 8, 0] rfl)
            · refine lv_iload hx hb dX2_pass_638 (lv_at hl 8 rfl) ?_
              refine lv_istore (lv' := [(9, .int (nI (w - 1 - i615))), (0, .ref (zh Z)), (3, .int (nI i538)), (4, .int q578.2), (5, .ref (zy Z 5)), (6, .int (nI n)), (7, .int (nI i578)), (8, .ref (zp Z i578)), (10, .int (nI (w - 1 - i615)))]) hx hb dX2_pass_640 hl (by decide) rfl (fun ls hl => ?_)
              refine lv_iinc (v := (nI (w - (i615 + 1)) - (1 : Int32))) (lv' := [(10, .int (nI (w - (i615 + 1)) - (1 : Int32))), (9, .int (nI (w - 1 - i615))), (0, .ref (zh Z)), (3, .int (nI i538)), (4, .int q578.2), (5, .ref (zy Z 5)), (6, .int (nI n)), (7, .int (nI i578)), (8, .ref (zp Z i578))]) hx hb dX2_pass_642 hl (k := 8) rfl (by rw [show w - (i615 + 1) = w - 1 - i615 from by omega]; exact dec_2 _) (by decide) rfl (fun ls hl => ?_)
              refine lv_goto (tgt := 615) hx hb dX2_pass_645 (by decide) ?_
              rw [show (f_X2_pass_6_615 w b n dy bo ea Wr Br Pr i538 q538 i578 q578) i615 q615 = ((nI (w - 1 - i615))) from by rw [f_X2_pass_6_615, if_neg c3]] at k615
              exact k615 H locs ls hw (lv_sub hl [2, 3, 4, 5, 6, 7, 8, 1, 0] rfl)
          · intro H locs ls hw hl
            refine lv_iload hx hb dX2_pass_615 (lv_at hl 8 rfl) ?_
            refine lv_if_lt (tgt := 648) hx hb dX2_pass_617 (by decide) (fun _ => ?_) (fun z => absurd (by rw [Nat.sub_self]; decide) z)
            refine lv_aload hx hb dX2_pass_648 (lv_at hl 6 rfl) ?_
            refine lv_iconst (v := 0) hx hb dX2_pass_650 (by decide) ?_
            refine r_ld (f := (q578.1 i578)) (k := 0) hc hw (4 + (w + (b + i578))) (s_P (show i578 < n by omega)) (by unfold vp_in; decide) (by decide) dX2_pass_651 ?_
            refine lv_if_le (tgt := 666) hx hb dX2_pass_652 (by decide) (fun c4 => ?_) (fun c4 => ?_)
            · refine lv_aload hx hb dX2_pass_666 (lv_at hl 6 rfl) ?_
              refine lv_iconst (v := 2) hx hb dX2_pass_668 (by decide) ?_
              refine lv_iconst (v := (-1)) hx hb dX2_pass_669 (by decide) ?_
              refine r_st (f := (q578.1 i578)) (k := 2) hc hw (4 + (w + (b + i578))) (s_P (show i578 < n by omega)) (by unfold vp_in; decide) (by decide) (w' := (ws_s Z cI cL w b n dy bo ea Wr q538.1 (ur q578.1 i578 2 (-1 : Int32)) [(q1, .inl (cZ, n, .inl et))])) (su_P (show i578 < n by omega)) dX2_pass_670 (fun H locs hw => ?_)
              refine lv_aload hx hb dX2_pass_671 (lv_at hl 6 rfl) ?_
              refine lv_iconst (v := 0) hx hb dX2_pass_673 (by decide) ?_
              refine r_ld (f := ((ur q578.1 i578 2 (-1 : Int32)) i578)) (k := 0) hc hw (4 + (w + (b + i578))) (s_P (show i578 < n by omega)) (by unfold vp_in; decide) (by decide) dX2_pass_674 ?_
              refine lv_if_ne (tgt := 686) hx hb dX2_pass_675 (by decide) (fun c5 => ?_) (fun c5 => ?_)
              · refine lv_aload hx hb dX2_pass_686 (lv_at hl 6 rfl) ?_
                refine lv_iconst (v := 1) hx hb dX2_pass_688 (by decide) ?_
                refine lv_iload hx hb dX2_pass_689 (lv_at hl 7 rfl) ?_
                refine r_st (f := ((ur q578.1 i578 2 (-1 : Int32)) i578)) (k := 1) hc hw (4 + (w + (b + i578))) (s_P (show i578 < n by omega)) (by unfold vp_in; decide) (by decide) (w' := (ws_s Z cI cL w b n dy bo ea Wr q538.1 (ur (ur q578.1 i578 2 (-1 : Int32)) i578 1 (lpf (f_X2_pass_6_615 w b n dy bo ea Wr Br Pr i538 q538 i578 q578) w 0 ((-1 : Int32)))) [(q1, .inl (cZ, n, .inl et))])) (su_P (show i578 < n by omega)) dX2_pass_691 (fun H locs hw => ?_)
                refine lv_iinc (v := (nI (i578 + 1))) (lv' := [(7, .int (nI (i578 + 1))), (0, .ref (zh Z)), (3, .int (nI i538)), (4, .int q578.2), (5, .ref (zy Z 5)), (6, .int (nI n)), (8, .ref (zp Z i578)), (9, .int (lpf (f_X2_pass_6_615 w b n dy bo ea Wr Br Pr i538 q538 i578 q578) w 0 ((-1 : Int32)))), (10, .int (nI (w - w) - (1 : Int32)))]) hx hb dX2_pass_692 hl (k := 5) rfl (inc_n i578) (by decide) rfl (fun ls hl => ?_)
                refine lv_goto (tgt := 578) hx hb dX2_pass_695 (by decide) ?_
                rw [show (f_X2_pass_6_578 w b n dy bo ea Wr Br Pr i538 q538) i578 q578 = ((ur (ur q578.1 i578 2 (-1 : Int32)) i578 1 (lpf (f_X2_pass_6_615 w b n dy bo ea Wr Br Pr i538 q538 i578 q578) w 0 ((-1 : Int32)))), q578.2) from by rw [f_X2_pass_6_578, if_pos c2, if_pos c4, if_neg c5]] at k578
                exact k578 H locs ls hw (lv_sub hl [1, 2, 3, 4, 5, 0] rfl)
              · refine lv_aload hx hb dX2_pass_678 (lv_at hl 6 rfl) ?_
                refine lv_iconst (v := 3) hx hb dX2_pass_680 (by decide) ?_
                refine lv_iconst (v := 1) hx hb dX2_pass_681 (by decide) ?_
                refine r_st (f := ((ur q578.1 i578 2 (-1 : Int32)) i578)) (k := 3) hc hw (4 + (w + (b + i578))) (s_P (show i578 < n by omega)) (by unfold vp_in; decide) (by decide) (w' := (ws_s Z cI cL w b n dy bo ea Wr q538.1 (ur (ur q578.1 i578 2 (-1 : Int32)) i578 3 (1 : Int32)) [(q1, .inl (cZ, n, .inl et))])) (su_P (show i578 < n by omega)) dX2_pass_682 (fun H locs hw => ?_)
                refine lv_goto (tgt := 692) hx hb dX2_pass_683 (by decide) ?_
                refine lv_iinc (v := (nI (i578 + 1))) (lv' := [(7, .int (nI (i578 + 1))), (0, .ref (zh Z)), (3, .int (nI i538)), (4, .int q578.2), (5, .ref (zy Z 5)), (6, .int (nI n)), (8, .ref (zp Z i578)), (9, .int (lpf (f_X2_pass_6_615 w b n dy bo ea Wr Br Pr i538 q538 i578 q578) w 0 ((-1 : Int32)))), (10, .int (nI (w - w) - (1 : Int32)))]) hx hb dX2_pass_692 hl (k := 5) rfl (inc_n i578) (by decide) rfl (fun ls hl => ?_)
                refine lv_goto (tgt := 578) hx hb dX2_pass_695 (by decide) ?_
                rw [show (f_X2_pass_6_578 w b n dy bo ea Wr Br Pr i538 q538) i578 q578 = ((ur (ur q578.1 i578 2 (-1 : Int32)) i578 3 (1 : Int32)), q578.2) from by rw [f_X2_pass_6_578, if_pos c2, if_pos c4, if_pos c5]] at k578
                exact k578 H locs ls hw (lv_sub hl [1, 2, 3, 4, 5, 0] rfl)
            · refine lv_iload hx hb dX2_pass_655 (lv_at hl 7 rfl) ?_
              refine lv_if_ge (tgt := 666) hx hb dX2_pass_657 (by decide) (fun c6 => ?_) (fun c6 => ?_)
              · refine lv_aload hx hb dX2_pass_666 (lv_at hl 6 rfl) ?_
                refine lv_iconst (v := 2) hx hb dX2_pass_668 (by decide) ?_
                refine lv_iconst (v := (-1)) hx hb dX2_pass_669 (by decide) ?_
                refine r_st (f := (q578.1 i578)) (k := 2) hc hw (4 + (w + (b + i578))) (s_P (show i578 < n by omega)) (by unfold vp_in; decide) (by decide) (w' := (ws_s Z cI cL w b n dy bo ea Wr q538.1 (ur q578.1 i578 2 (-1 : Int32)) [(q1, .inl (cZ, n, .inl et))])) (su_P (show i578 < n by omega)) dX2_pass_670 (fun H locs hw => ?_)
                refine lv_aload hx hb dX2_pass_671 (lv_at hl 6 rfl) ?_
                refine lv_iconst (v := 0) hx hb dX2_pass_673 (by decide) ?_
                refine r_ld (f := ((ur q578.1 i578 2 (-1 : Int32)) i578)) (k := 0) hc hw (4 + (w + (b + i578))) (s_P (show i578 < n by omega)) (by unfold vp_in; decide) (by decide) dX2_pass_674 ?_
                refine lv_if_ne (tgt := 686) hx hb dX2_pass_675 (by decide) (fun c7 => ?_) (fun c7 => ?_)
                · refine lv_aload hx hb dX2_pass_686 (lv_at hl 6 rfl) ?_
                  refine lv_iconst (v := 1) hx hb dX2_pass_688 (by decide) ?_
                  refine lv_iload hx hb dX2_pass_689 (lv_at hl 7 rfl) ?_
                  refine r_st (f := ((ur q578.1 i578 2 (-1 : Int32)) i578)) (k := 1) hc hw (4 + (w + (b + i578))) (s_P (show i578 < n by omega)) (by unfold vp_in; decide) (by decide) (w' := (ws_s Z cI cL w b n dy bo ea Wr q538.1 (ur (ur q578.1 i578 2 (-1 : Int32)) i578 1 (lpf (f_X2_pass_6_615 w b n dy bo ea Wr Br Pr i538 q538 i578 q578) w 0 ((-1 : Int32)))) [(q1, .inl (cZ, n, .inl et))])) (su_P (show i578 < n by omega)) dX2_pass_691 (fun H locs hw => ?_)
                  refine lv_iinc (v := (nI (i578 + 1))) (lv' := [(7, .int (nI (i578 + 1))), (0, .ref (zh Z)), (3, .int (nI i538)), (4, .int q578.2), (5, .ref (zy Z 5)), (6, .int (nI n)), (8, .ref (zp Z i578)), (9, .int (lpf (f_X2_pass_6_615 w b n dy bo ea Wr Br Pr i538 q538 i578 q578) w 0 ((-1 : Int32)))), (10, .int (nI (w - w) - (1 : Int32)))]) hx hb dX2_pass_692 hl (k := 5) rfl (inc_n i578) (by decide) rfl (fun ls hl => ?_)
                  refine lv_goto (tgt := 578) hx hb dX2_pass_695 (by decide) ?_
                  rw [show (f_X2_pass_6_578 w b n dy bo ea Wr Br Pr i538 q538) i578 q578 = ((ur (ur q578.1 i578 2 (-1 : Int32)) i578 1 (lpf (f_X2_pass_6_615 w b n dy bo ea Wr Br Pr i538 q538 i578 q578) w 0 ((-1 : Int32)))), q578.2) from by rw [f_X2_pass_6_578, if_pos c2, if_neg c4, if_pos c6, if_neg c7]] at k578
                  exact k578 H locs ls hw (lv_sub hl [1, 2, 3, 4, 5, 0] rfl)
                · refine lv_aload hx hb dX2_pass_678 (lv_at hl 6 rfl) ?_
                  refine lv_iconst (v := 3) hx hb dX2_pass_680 (by decide) ?_
                  refine lv_iconst (v := 1) hx hb dX2_pass_681 (by decide) ?_
                  refine r_st (f := ((ur q578.1 i578 2 (-1 : Int32)) i578)) (k := 3) hc hw (4 + (w + (b + i578))) (s_P (show i578 < n by omega)) (by unfold vp_in; decide) (by decide) (w' := (ws_s Z cI cL w b n dy bo ea Wr q538.1 (ur (ur q578.1 i578 2 (-1 : Int32)) i578 3 (1 : Int32)) [(q1, .inl (cZ, n, .inl et))])) (su_P (show i578 < n by omega)) dX2_pass_682 (fun H locs hw => ?_)
                  refine lv_goto (tgt := 692) hx hb dX2_pass_683 (by decide) ?_
                  refine lv_iinc (v := (nI (i578 + 1))) (lv' := [(7, .int (nI (i578 + 1))), (0, .ref (zh Z)), (3, .int (nI i538)), (4, .int q578.2), (5, .ref (zy Z 5)), (6, .int (nI n)), (8, .ref (zp Z i578)), (9, .int (lpf (f_X2_pass_6_615 w b n dy bo ea Wr Br Pr i538 q538 i578 q578) w 0 ((-1 : Int32)))), (10, .int (nI (w - w) - (1 : Int32)))]) hx hb dX2_pass_692 hl (k := 5) rfl (inc_n i578) (by decide) rfl (fun ls hl => ?_)
                  refine lv_goto (tgt := 578) hx hb dX2_pass_695 (by decide) ?_
                  rw [show (f_X2_pass_6_578 w b n dy bo ea Wr Br Pr i538 q538) i578 q578 = ((ur (ur q578.1 i578 2 (-1 : Int32)) i578 3 (1 : Int32)), q578.2) from by rw [f_X2_pass_6_578, if_pos c2, if_neg c4, if_pos c6, if_pos c7]] at k578
                  exact k578 H locs ls hw (lv_sub hl [1, 2, 3, 4, 5, 0] rfl)
              · refine lv_iconst (v := 1) hx hb dX2_pass_660 (by decide) ?_
                refine lv_istore (lv' := [(4, .int (1 : Int32)), (0, .ref (zh Z)), (3, .int (nI i538)), (5, .ref (zy Z 5)), (6, .int (nI n)), (7, .int (nI i578)), (8, .ref (zp Z i578)), (9, .int (lpf (f_X2_pass_6_615 w b n dy bo ea Wr Br Pr i538 q538 i578 q578) w 0 ((-1 : Int32)))), (10, .int (nI (w - w) - (1 : Int32)))]) hx hb dX2_pass_661 hl (by decide) rfl (fun ls hl => ?_)
                refine lv_goto (tgt := 692) hx hb dX2_pass_663 (by decide) ?_
                refine lv_iinc (v := (nI (i578 + 1))) (lv' := [(7, .int (nI (i578 + 1))), (4, .int (1 : Int32)), (0, .ref (zh Z)), (3, .int (nI i538)), (5, .ref (zy Z 5)), (6, .int (nI n)), (8, .ref (zp Z i578)), (9, .int (lpf (f_X2_pass_6_615 w b n dy bo ea Wr Br Pr i538 q538 i578 q578) w 0 ((-1 : Int32)))), (10, .int (nI (w - w) - (1 : Int32)))]) hx hb dX2_pass_692 hl (k := 5) rfl (inc_n i578) (by decide) rfl (fun ls hl => ?_)
                refine lv_goto (tgt := 578) hx hb dX2_pass_695 (by decide) ?_
                rw [show (f_X2_pass_6_578 w b n dy bo ea Wr Br Pr i538 q538) i578 q578 = (q578.1, (1 : Int32)) from by rw [f_X2_pass_6_578, if_pos c2, if_neg c4, if_neg c6]] at k578
                exact k578 H locs ls hw (lv_sub hl [2, 3, 1, 4, 5, 0] rfl)
        · refine lv_goto (tgt := 692) hx hb dX2_pass_600 (by decide) ?_
          refine lv_iinc (v := (nI (i578 + 1))) (lv' := [(7, .int (nI (i578 + 1))), (8, .ref (zp Z i578)), (0, .ref (zh Z)), (3, .int (nI i538)), (4, .int q578.2), (5, .ref (zy Z 5)), (6, .int (nI n))]) hx hb dX2_pass_692 hl (k := 6) rfl (inc_n i578) (by decide) rfl (fun ls hl => ?_)
          refine lv_goto (tgt := 578) hx hb dX2_pass_695 (by decide) ?_
          rw [show (f_X2_pass_6_578 w b n dy bo ea Wr Br Pr i538 q538) i578 q578 = (q578.1, q578.2) from by rw [f_X2_pass_6_578, if_neg c2]] at k578
          exact k578 H locs ls hw (lv_sub hl [2, 3, 4, 5, 6, 0] rfl)
      · intro H locs ls hw hl
        refine lv_iload hx hb dX2_pass_578 (lv_at hl 5 rfl) ?_
        refine lv_iload hx hb dX2_pass_580 (lv_at hl 4 rfl) ?_
        refine lv_icmp_ge (tgt := 698) hx hb dX2_pass_582 (by decide) (fun _ => ?_) (fun z => absurd (nI_le (Nat.le_refl _) (by omega)) z)
        refine lv_iload hx hb dX2_pass_698 (lv_at hl 2 rfl) ?_
        refine lv_if_eq (tgt := 719) hx hb dX2_pass_700 (by decide) (fun c8 => ?_) (fun c8 => ?_)
        · refine lv_iinc (v := (nI (i538 + 1))) (lv' := [(3, .int (nI (i538 + 1))), (0, .ref (zh Z)), (4, .int ((lpf (f_X2_pass_6_578 w b n dy bo ea Wr Br Pr i538 q538) n 0 (q538.2, (0 : Int32))).2)), (5, .ref (zy Z 5)), (6, .int (nI n)), (7, .int (nI n))]) hx hb dX2_pass_719 hl (k := 1) rfl (inc_n i538) (by decide) rfl (fun ls hl => ?_)
          refine lv_goto (tgt := 538) hx hb dX2_pass_722 (by decide) ?_
          rw [show (f_X2_pass_6_538 w b n dy bo ea Wr Br Pr) i538 q538 = (q538.1, (lpf (f_X2_pass_6_578 w b n dy bo ea Wr Br Pr i538 q538) n 0 (q538.2, (0 : Int32))).1) from by rw [f_X2_pass_6_538, if_pos c1, if_pos c8]] at k538
          exact k538 H locs ls hw (lv_sub hl [1, 0] rfl)
        · refine lv_aload_n hx hb dX2_pass_703 rfl (lv_at hl 0 rfl) ?_
          refine g_get (v := .ref (zy Z 4)) hc hw hi2 (0) 4 s_H rfl (by decide) (List.mem_of_getElem? (i := 6) rfl) sv_4 dX2_pass_704 ?_
          refine lv_iload_n hx hb dX2_pass_707 rfl (lv_at hl 1 rfl) ?_
          refine g_aald (v := zb Z i538) hc hw (2) s_Y4 (vp_in_nI (show i538 < b by omega) (by omega)) (congrArg (fun q => some (zb Z q)) (nI_clamp (show i538 < 2 ^ 31 by omega))) dX2_pass_708 ?_
          refine lv_iconst (v := 1) hx hb dX2_pass_709 (by decide) ?_
          refine lv_aload_n hx hb dX2_pass_710 rfl (lv_at hl 0 rfl) ?_
          refine g_get (v := .ref (zy Z 4)) hc hw hi2 (0) 4 s_H rfl (by decide) (List.mem_of_getElem? (i := 6) rfl) sv_4 dX2_pass_711 ?_
          refine lv_iload_n hx hb dX2_pass_714 rfl (lv_at hl 1 rfl) ?_
          refine g_aald (v := zb Z i538) hc hw (2) s_Y4 (vp_in_nI (show i538 < b by omega) (by omega)) (congrArg (fun q => some (zb Z q)) (nI_clamp (show i538 < 2 ^ 31 by omega))) dX2_pass_715 ?_
          refine lv_iconst (v := 0) hx hb dX2_pass_716 (by decide) ?_
          refine r_ld (f := (q538.1 i538)) (k := 0) hc hw (4 + (w + i538)) (s_B (show i538 < b by omega)) (by unfold vp_in; decide) (by decide) dX2_pass_717 ?_
          refine r_st (f := (q538.1 i538)) (k := 1) hc hw (4 + (w + i538)) (s_B (show i538 < b by omega)) (by unfold vp_in; decide) (by decide) (w' := (ws_s Z cI cL w b n dy bo ea Wr (ur q538.1 i538 1 (q538.1 i538 0)) ((lpf (f_X2_pass_6_578 w b n dy bo ea Wr Br Pr i538 q538) n 0 (q538.2, (0 : Int32))).1) [(q1, .inl (cZ, n, .inl et))])) (su_B (show i538 < b by omega)) dX2_pass_718 (fun H locs hw => ?_)
          refine lv_iinc (v := (nI (i538 + 1))) (lv' := [(3, .int (nI (i538 + 1))), (0, .ref (zh Z)), (4, .int ((lpf (f_X2_pass_6_578 w b n dy bo ea Wr Br Pr i538 q538) n 0 (q538.2, (0 : Int32))).2)), (5, .ref (zy Z 5)), (6, .int (nI n)), (7, .int (nI n))]) hx hb dX2_pass_719 hl (k := 1) rfl (inc_n i538) (by decide) rfl (fun ls hl => ?_)
          refine lv_goto (tgt := 538) hx hb dX2_pass_722 (by decide) ?_
          rw [show (f_X2_pass_6_538 w b n dy bo ea Wr Br Pr) i538 q538 = ((ur q538.1 i538 1 (q538.1 i538 0)), (lpf (f_X2_pass_6_578 w b n dy bo ea Wr Br Pr i538 q538) n 0 (q538.2, (0 : Int32))).1) from by rw [f_X2_pass_6_538, if_pos c1, if_neg c8]] at k538
          exact k538 H locs ls hw (lv_sub hl [1, 0] rfl)
    · refine lv_goto (tgt := 719) hx hb dX2_pass_558 (by decide) ?_
      refine lv_iinc (v := (nI (i538 + 1))) (lv' := [(3, .int (nI (i538 + 1))), (0, .ref (zh Z))]) hx hb dX2_pass_719 hl (k := 1) rfl (inc_n i538) (by decide) rfl (fun ls hl => ?_)
      refine lv_goto (tgt := 538) hx hb dX2_pass_722 (by decide) ?_
      rw [show (f_X2_pass_6_538 w b n dy bo ea Wr Br Pr) i538 q538 = (q538.1, q538.2) from by rw [f_X2_pass_6_538, if_neg c1]] at k538
      exact k538 H locs ls hw (lv_sub hl [1, 0] rfl)
  · intro H locs ls hw hl
    refine lv_iload_n hx hb dX2_pass_538 rfl (lv_at hl 1 rfl) ?_
    refine lv_aload_n hx hb dX2_pass_539 rfl (lv_at hl 0 rfl) ?_
    refine g_get (v := .ref (zy Z 4)) hc hw hi2 (0) 4 s_H rfl (by decide) (List.mem_of_getElem? (i := 6) rfl) sv_4 dX2_pass_540 ?_
    refine va_alen (v := nI b) hx hb hK.1 hw.1 (2) 2 s_Y4 rfl rfl dX2_pass_543 ?_
    refine lv_icmp_ge (tgt := 725) hx hb dX2_pass_544 (by decide) (fun _ => ?_) (fun z => absurd (nI_le (Nat.le_refl _) (by omega)) z)
    exact k725 H locs ls hw (lv_sub hl [0] rfl)
