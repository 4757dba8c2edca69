/-! 12.e: in, all, pass (first half) of the law's town -/
abbrev rm_X2_pass : Room := { frames := 1, cells := 5, slots := 150, locals := 26 }
def f_X2_in_14 (w : Nat) (b : Nat) (n : Nat) (dy : Int32) (bo : Int32) (ea : Int32) (Wr : Nat → Nat → Int32) (Br : Nat → Nat → Int32) (Pr : Nat → Nat → Int32) (x1 : Int32) (i14 : Nat) (q14 : Int32) : Int32 := if (Pr i14 1) = x1 then (((q14 + (1 : Int32)))) else (((q14 + (0 : Int32))))
def r_X2_in (w : Nat) (b : Nat) (n : Nat) (dy : Int32) (bo : Int32) (ea : Int32) (Wr : Nat → Nat → Int32) (Br : Nat → Nat → Int32) (Pr : Nat → Nat → Int32) (x1 : Int32) : Int32 := (lpf (f_X2_in_14 w b n dy bo ea Wr Br Pr x1) n 0 ((0 : Int32)))
abbrev rm_X2_in : Room := { frames := 0, cells := 0, slots := 0, locals := 0 }
set_option maxHeartbeats 4000000 in
set_option maxRecDepth 100000 in
theorem k_X2_in (l : Launch) (D : va_G) (cI cZ cL : ClassId) {Z : sA} {w : Nat} {b : Nat} {n : Nat} {dy : Int32} {bo : Int32} {ea : Int32} {Wr : Nat → Nat → Int32} {Br : Nat → Nat → Int32} {Pr : Nat → Nat → Int32} (E : va_W) (x1 : Int32) (hd30 : n ≤ 30) : MX l yX2_in wsX2_in rm_X2_in D cI cZ cL [.ref (zh Z), .int x1] (ws_s Z cI cL w b n dy bo ea Wr Br Pr E) (some (.int (r_X2_in w b n dy bo ea Wr Br Pr x1))) (ws_s Z cI cL w b n dy bo ea Wr Br Pr E) := by
  refine MX.of (own := RX2) (cc := cX2_in) (maxL := 7) (ret := (some .int)) (lv0 := [(0, .ref (zh Z)), (1, .int x1)]) (by decide) rfl rfl (Nat.le_of_ble_eq_true rfl) rfl ?_
  intro p e s m args below meth c A hc hnm hw ls hl
  obtain ⟨hx, hb, hr, hml, hown, hts, hlk, hK, hA⟩ := id hc
  have hi2 : ∀ w ∈ u_ws RX2 TX2 6, w ∈ wsX2_in := fun _ h => List.mem_cons_of_mem _ (List.mem_append_right _ h)
  refine lv_iconst (v := 0) hx hb dX2_in_0 (by decide) ?_
  refine lv_istore_n (lv' := [(2, .int (0 : Int32)), (0, .ref (zh Z)), (1, .int x1)]) hx hb dX2_in_1 rfl hl (by decide) rfl (fun ls hl => ?_)
  refine lv_aload_n hx hb dX2_in_2 rfl (lv_at hl 1 rfl) ?_
  refine g_get (v := .ref (zy Z 5)) hc hw hi2 (0) 5 s_H rfl (by decide) (List.mem_of_getElem? (i := 1) rfl) sv_5 dX2_in_3 ?_
  refine lv_astore_n (lv' := [(3, .ref (zy Z 5)), (2, .int (0 : Int32)), (0, .ref (zh Z)), (1, .int x1)]) hx hb dX2_in_6 rfl hl (by decide) rfl (fun ls hl => ?_)
  refine lv_aload_n hx hb dX2_in_7 rfl (lv_at hl 0 rfl) ?_
  refine va_alen (v := nI n) hx hb hK.1 hw.1 (3) 2 s_Y5 rfl rfl dX2_in_8 ?_
  refine lv_istore (lv' := [(4, .int (nI n)), (3, .ref (zy Z 5)), (2, .int (0 : Int32)), (0, .ref (zh Z)), (1, .int x1)]) hx hb dX2_in_9 hl (by decide) rfl (fun ls hl => ?_)
  refine lv_iconst (v := 0) hx hb dX2_in_11 (by decide) ?_
  refine lv_istore (lv' := [(5, .int (0 : Int32)), (4, .int (nI n)), (3, .ref (zy Z 5)), (2, .int (0 : Int32)), (0, .ref (zh Z)), (1, .int x1)]) hx hb dX2_in_12 hl (by decide) rfl (fun ls hl => ?_)
  refine lp_go (fun (i14 : Nat) (q14 : Int32) => ∀ (H : Heap) (locs : List Loc) (ls : Array Slot), Wo D A s.heap (ws_s Z cI cL w b n dy bo ea Wr Br Pr E) H locs → lv_has ls 7 [(1, .int x1), (2, .int q14), (3, .ref (zy Z 5)), (4, .int (nI n)), (5, .int (nI i14))] → W p l e rm_X2_in s m args below meth c H locs 0 0 (QE below args s D A (some (.int (r_X2_in w b n dy bo ea Wr Br Pr x1))) (ws_s Z cI cL w b n dy bo ea Wr Br Pr E) rm_X2_in) (F0 m 14 ls [])) (f_X2_in_14 w b n dy bo ea Wr Br Pr x1) n ((0 : Int32)) ?_ ?_ s.heap [] ls hw (lv_sub hl [5, 3, 2, 1, 0] rfl)
  · intro i14 q14 hi14 k14 H locs ls hw hl
    refine lv_iload hx hb dX2_in_14 (lv_at hl 4 rfl) ?_
    refine lv_iload hx hb dX2_in_16 (lv_at hl 3 rfl) ?_
    refine lv_icmp_ge (tgt := 49) hx hb dX2_in_18 (by decide) (fun z => absurd z (nI_ge hi14 (by omega))) (fun _ => ?_)
    refine lv_aload_n hx hb dX2_in_21 rfl (lv_at hl 2 rfl) ?_
    refine lv_iload hx hb dX2_in_22 (lv_at hl 4 rfl) ?_
    refine g_aald (v := zp Z i14) hc hw (3) s_Y5 (vp_in_nI (show i14 < n by omega) (by omega)) (congrArg (fun q => some (zp Z q)) (nI_clamp (show i14 < 2 ^ 31 by omega))) dX2_in_24 ?_
    refine lv_astore (lv' := [(6, .ref (zp Z i14)), (1, .int x1), (2, .int q14), (3, .ref (zy Z 5)), (4, .int (nI n)), (5, .int (nI i14))]) hx hb dX2_in_25 hl (by decide) rfl (fun ls hl => ?_)
    refine lv_iload_n hx hb dX2_in_27 rfl (lv_at hl 2 rfl) ?_
    refine lv_aload hx hb dX2_in_28 (lv_at hl 0 rfl) ?_
    refine lv_iconst (v := 1) hx hb dX2_in_30 (by decide) ?_
    refine r_ld (f := (Pr i14)) (k := 1) hc hw (4 + (w + (b + i14))) (s_P (show i14 < n by omega)) (by unfold vp_in; decide) (by decide) dX2_in_31 ?_
    refine lv_iload_n hx hb dX2_in_32 rfl (lv_at hl 1 rfl) ?_
    refine lv_icmp_ne (tgt := 40) hx hb dX2_in_33 (by decide) (fun c1 => ?_) (fun c1 => ?_)
    · refine lv_iconst (v := 0) hx hb dX2_in_40 (by decide) ?_
      refine lv_iadd hx hb dX2_in_41 ?_
      refine lv_istore_n (lv' := [(2, .int (q14 + (0 : Int32))), (6, .ref (zp Z i14)), (1, .int x1), (3, .ref (zy Z 5)), (4, .int (nI n)), (5, .int (nI i14))]) hx hb dX2_in_42 rfl hl (by decide) rfl (fun ls hl => ?_)
      refine lv_iinc (v := (nI (i14 + 1))) (lv' := [(5, .int (nI (i14 + 1))), (2, .int (q14 + (0 : Int32))), (6, .ref (zp Z i14)), (1, .int x1), (3, .ref (zy Z 5)), (4, .int (nI n))]) hx hb dX2_in_43 hl (k := 5) rfl (inc_n i14) (by decide) rfl (fun ls hl => ?_)
      refine lv_goto (tgt := 14) hx hb dX2_in_46 (by decide) ?_
      rw [show (f_X2_in_14 w b n dy bo ea Wr Br Pr x1) i14 q14 = ((q14 + (0 : Int32))) from by rw [f_X2_in_14, if_neg c1]] at k14
      exact k14 H locs ls hw (lv_sub hl [3, 1, 4, 5, 0] rfl)
    · refine lv_iconst (v := 1) hx hb dX2_in_36 (by decide) ?_
      refine lv_goto (tgt := 41) hx hb dX2_in_37 (by decide) ?_
      refine lv_iadd hx hb dX2_in_41 ?_
      refine lv_istore_n (lv' := [(2, .int (q14 + (1 : Int32))), (6, .ref (zp Z i14)), (1, .int x1), (3, .ref (zy Z 5)), (4, .int (nI n)), (5, .int (nI i14))]) hx hb dX2_in_42 rfl hl (by decide) rfl (fun ls hl => ?_)
      refine lv_iinc (v := (nI (i14 + 1))) (lv' := [(5, .int (nI (i14 + 1))), (2, .int (q14 + (1 : Int32))), (6, .ref (zp Z i14)), (1, .int x1), (3, .ref (zy Z 5)), (4, .int (nI n))]) hx hb dX2_in_43 hl (k := 5) rfl (inc_n i14) (by decide) rfl (fun ls hl => ?_)
      refine lv_goto (tgt := 14) hx hb dX2_in_46 (by decide) ?_
      rw [show (f_X2_in_14 w b n dy bo ea Wr Br Pr x1) i14 q14 = ((q14 + (1 : Int32))) from by rw [f_X2_in_14, if_pos c1]] at k14
      exact k14 H locs ls hw (lv_sub hl [3, 1, 4, 5, 0] rfl)
  · intro H locs ls hw hl
    refine lv_iload hx hb dX2_in_14 (lv_at hl 4 rfl) ?_
    refine lv_iload hx hb dX2_in_16 (lv_at hl 3 rfl) ?_
    refine lv_icmp_ge (tgt := 49) hx hb dX2_in_18 (by decide) (fun _ => ?_) (fun z => absurd (nI_le (Nat.le_refl _) (by omega)) z)
    refine lv_iload_n hx hb dX2_in_49 rfl (lv_at hl 1 rfl) ?_
    rw [show r_X2_in w b n dy bo ea Wr Br Pr x1 = (lpf (f_X2_in_14 w b n dy bo ea Wr Br Pr x1) n 0 ((0 : Int32))) from by rw [r_X2_in]]
    exact g_ret hc hw rfl (Nat.le_of_ble_eq_true rfl) (Nat.le_of_ble_eq_true rfl) dX2_in_50

def f_X2_all_14 (w : Nat) (b : Nat) (n : Nat) (dy : Int32) (bo : Int32) (ea : Int32) (Wr : Nat → Nat → Int32) (Br : Nat → Nat → Int32) (Pr : Nat → Nat → Int32) (x1 : Int32) (i14 : Nat) (q14 : Int32) : Int32 := ((q14 + (Pr i14 x1.toNatClampNeg)))
def r_X2_all (w : Nat) (b : Nat) (n : Nat) (dy : Int32) (bo : Int32) (ea : Int32) (Wr : Nat → Nat → Int32) (Br : Nat → Nat → Int32) (Pr : Nat → Nat → Int32) (x1 : Int32) : Int32 := (lpf (f_X2_all_14 w b n dy bo ea Wr Br Pr x1) n 0 ((0 : Int32)))
abbrev rm_X2_all : Room := { frames := 0, cells := 0, slots := 0, locals := 0 }
set_option maxHeartbeats 4000000 in
set_option maxRecDepth 100000 in
theorem k_X2_all (l : Launch) (D : va_G) (cI cZ cL : ClassId) {Z : sA} {w : Nat} {b : Nat} {n : Nat} {dy : Int32} {bo : Int32} {ea : Int32} {Wr : Nat → Nat → Int32} {Br : Nat → Nat → Int32} {Pr : Nat → Nat → Int32} (E : va_W) (x1 : Int32) (hd30 : n ≤ 30) (hx1 : vp_in x1 6) : MX l yX2_all wsX2_all rm_X2_all D cI cZ cL [.ref (zh Z), .int x1] (ws_s Z cI cL w b n dy bo ea Wr Br Pr E) (some (.int (r_X2_all w b n dy bo ea Wr Br Pr x1))) (ws_s Z cI cL w b n dy bo ea Wr Br Pr E) := by
  refine MX.of (own := RX2) (cc := cX2_all) (maxL := 7) (ret := (some .int)) (lv0 := [(0, .ref (zh Z)), (1, .int x1)]) (by decide) rfl rfl (Nat.le_of_ble_eq_true rfl) rfl ?_
  intro p e s m args below meth c A hc hnm hw ls hl
  obtain ⟨hx, hb, hr, hml, hown, hts, hlk, hK, hA⟩ := id hc
  have hi2 : ∀ w ∈ u_ws RX2 TX2 6, w ∈ wsX2_all := fun _ h => List.mem_cons_of_mem _ (List.mem_append_right _ h)
  refine lv_iconst (v := 0) hx hb dX2_all_0 (by decide) ?_
  refine lv_istore_n (lv' := [(2, .int (0 : Int32)), (0, .ref (zh Z)), (1, .int x1)]) hx hb dX2_all_1 rfl hl (by decide) rfl (fun ls hl => ?_)
  refine lv_aload_n hx hb dX2_all_2 rfl (lv_at hl 1 rfl) ?_
  refine g_get (v := .ref (zy Z 5)) hc hw hi2 (0) 5 s_H rfl (by decide) (List.mem_of_getElem? (i := 1) rfl) sv_5 dX2_all_3 ?_
  refine lv_astore_n (lv' := [(3, .ref (zy Z 5)), (2, .int (0 : Int32)), (0, .ref (zh Z)), (1, .int x1)]) hx hb dX2_all_6 rfl hl (by decide) rfl (fun ls hl => ?_)
  refine lv_aload_n hx hb dX2_all_7 rfl (lv_at hl 0 rfl) ?_
  refine va_alen (v := nI n) hx hb hK.1 hw.1 (3) 2 s_Y5 rfl rfl dX2_all_8 ?_
  refine lv_istore (lv' := [(4, .int (nI n)), (3, .ref (zy Z 5)), (2, .int (0 : Int32)), (0, .ref (zh Z)), (1, .int x1)]) hx hb dX2_all_9 hl (by decide) rfl (fun ls hl => ?_)
  refine lv_iconst (v := 0) hx hb dX2_all_11 (by decide) ?_
  refine lv_istore (lv' := [(5, .int (0 : Int32)), (4, .int (nI n)), (3, .ref (zy Z 5)), (2, .int (0 : Int32)), (0, .ref (zh Z)), (1, .int x1)]) hx hb dX2_all_12 hl (by decide) rfl (fun ls hl => ?_)
  refine lp_go (fun (i14 : Nat) (q14 : Int32) => ∀ (H : Heap) (locs : List Loc) (ls : Array Slot), Wo D A s.heap (ws_s Z cI cL w b n dy bo ea Wr Br Pr E) H locs → lv_has ls 7 [(1, .int x1), (2, .int q14), (3, .ref (zy Z 5)), (4, .int (nI n)), (5, .int (nI i14))] → W p l e rm_X2_all s m args below meth c H locs 0 0 (QE below args s D A (some (.int (r_X2_all w b n dy bo ea Wr Br Pr x1))) (ws_s Z cI cL w b n dy bo ea Wr Br Pr E) rm_X2_all) (F0 m 14 ls [])) (f_X2_all_14 w b n dy bo ea Wr Br Pr x1) n ((0 : Int32)) ?_ ?_ s.heap [] ls hw (lv_sub hl [5, 3, 2, 1, 0] rfl)
  · intro i14 q14 hi14 k14 H locs ls hw hl
    refine lv_iload hx hb dX2_all_14 (lv_at hl 4 rfl) ?_
    refine lv_iload hx hb dX2_all_16 (lv_at hl 3 rfl) ?_
    refine lv_icmp_ge (tgt := 40) hx hb dX2_all_18 (by decide) (fun z => absurd z (nI_ge hi14 (by omega))) (fun _ => ?_)
    refine lv_aload_n hx hb dX2_all_21 rfl (lv_at hl 2 rfl) ?_
    refine lv_iload hx hb dX2_all_22 (lv_at hl 4 rfl) ?_
    refine g_aald (v := zp Z i14) hc hw (3) s_Y5 (vp_in_nI (show i14 < n by omega) (by omega)) (congrArg (fun q => some (zp Z q)) (nI_clamp (show i14 < 2 ^ 31 by omega))) dX2_all_24 ?_
    refine lv_astore (lv' := [(6, .ref (zp Z i14)), (1, .int x1), (2, .int q14), (3, .ref (zy Z 5)), (4, .int (nI n)), (5, .int (nI i14))]) hx hb dX2_all_25 hl (by decide) rfl (fun ls hl => ?_)
    refine lv_iload_n hx hb dX2_all_27 rfl (lv_at hl 2 rfl) ?_
    refine lv_aload hx hb dX2_all_28 (lv_at hl 0 rfl) ?_
    refine lv_iload_n hx hb dX2_all_30 rfl (lv_at hl 1 rfl) ?_
    refine r_ld (f := (Pr i14)) (k := x1.toNatClampNeg) hc hw (4 + (w + (b + i14))) (s_P (show i14 < n by omega)) hx1 rfl dX2_all_31 ?_
    refine lv_iadd hx hb dX2_all_32 ?_
    refine lv_istore_n (lv' := [(2, .int (q14 + (Pr i14 x1.toNatClampNeg))), (6, .ref (zp Z i14)), (1, .int x1), (3, .ref (zy Z 5)), (4, .int (nI n)), (5, .int (nI i14))]) hx hb dX2_all_33 rfl hl (by decide) rfl (fun ls hl => ?_)
    refine lv_iinc (v := (nI (i14 + 1))) (lv' := [(5, .int (nI (i14 + 1))), (2, .int (q14 + (Pr i14 x1.toNatClampNeg))), (6, .ref (zp Z i14)), (1, .int x1), (3, .ref (zy Z 5)), (4, .int (nI n))]) hx hb dX2_all_34 hl (k := 5) rfl (inc_n i14) (by decide) rfl (fun ls hl => ?_)
    refine lv_goto (tgt := 14) hx hb dX2_all_37 (by decide) ?_
    rw [show (f_X2_all_14 w b n dy bo ea Wr Br Pr x1) i14 q14 = ((q14 + (Pr i14 x1.toNatClampNeg))) from by rw [f_X2_all_14]] at k14
    exact k14 H locs ls hw (lv_sub hl [3, 1, 4, 5, 0] rfl)
  · intro H locs ls hw hl
    refine lv_iload hx hb dX2_all_14 (lv_at hl 4 rfl) ?_
    refine lv_iload hx hb dX2_all_16 (lv_at hl 3 rfl) ?_
    refine lv_icmp_ge (tgt := 40) hx hb dX2_all_18 (by decide) (fun _ => ?_) (fun z => absurd (nI_le (Nat.le_refl _) (by omega)) z)
    refine lv_iload_n hx hb dX2_all_40 rfl (lv_at hl 1 rfl) ?_
    rw [show r_X2_all w b n dy bo ea Wr Br Pr x1 = (lpf (f_X2_all_14 w b n dy bo ea Wr Br Pr x1) n 0 ((0 : Int32))) from by rw [r_X2_all]]
    exact g_ret hc hw rfl (Nat.le_of_ble_eq_true rfl) (Nat.le_of_ble_eq_true rfl) dX2_all_41

def f_X2_pass_1_27 (w : Nat) (b : Nat) (n : Nat) (dy : Int32) (bo : Int32) (ea : Int32) (Wr : Nat → Nat → Int32) (Br : Nat → Nat → Int32) (Pr : Nat → Nat → Int32) (i15 : Nat) (q15 : (Int32) × (Nat → Int32) × Int32) (i27 : Nat) (q27 : (Int32) × (Nat → Int32) × Int32) : (Int32) × (Nat → Int32) × Int32 := if (Pr i27 1) = (nI i15) then (if q27.2.2 = (0 : Int32) then ((q27.1, q27.2.1, q27.2.2)) else (((q27.1 + (1 : Int32)), (upd q27.2.1 i27 (1 : Int32)), (q27.2.2 + (-1))))) else ((q27.1, q27.2.1, q27.2.2))
def f_X2_pass_1_15 (w : Nat) (b : Nat) (n : Nat) (dy : Int32) (bo : Int32) (ea : Int32) (Wr : Nat → Nat → Int32) (Br : Nat → Nat → Int32) (Pr : Nat → Nat → Int32) (i15 : Nat) (q15 : (Int32) × (Nat → Int32) × Int32) : (Int32) × (Nat → Int32) × Int32 := ((lpf (f_X2_pass_1_27 w b n dy bo ea Wr Br Pr i15 q15) n 0 (q15.1, q15.2.1, q15.2.2)).1, (lpf (f_X2_pass_1_27 w b n dy bo ea Wr Br Pr i15 q15) n 0 (q15.1, q15.2.1, q15.2.2)).2.1, (lpf (f_X2_pass_1_27 w b n dy bo ea Wr Br Pr i15 q15) n 0 (q15.1, q15.2.1, q15.2.2)).2.2)
def p1_ea (w : Nat) (b : Nat) (n : Nat) (dy : Int32) (bo : Int32) (ea : Int32) (Wr : Nat → Nat → Int32) (Br : Nat → Nat → Int32) (Pr : Nat → Nat → Int32) : (Int32) := (lpf (f_X2_pass_1_15 w b n dy bo ea Wr Br Pr) w 0 (ea, (fun _ => (0 : Int32)), bo)).1
def p1_et (w : Nat) (b : Nat) (n : Nat) (dy : Int32) (bo : Int32) (ea : Int32) (Wr : Nat → Nat → Int32) (Br : Nat → Nat → Int32) (Pr : Nat → Nat → Int32) : Nat → Int32 := (lpf (f_X2_pass_1_15 w b n dy bo ea Wr Br Pr) w 0 (ea, (fun _ => (0 : Int32)), bo)).2.1
set_option maxHeartbeats 4000000 in
set_option maxRecDepth 100000 in
theorem k_X2_pass_1 {p : Program} {l : Launch} {e : Env} {s : State} {m : MethodId} {args : Array Value} {below : List Frame} {meth : Method} {c : Code} {H : Heap} {locs : List Loc} {Q : State → Prop} {D : va_G} {cI cZ cL : ClassId} {A : Nat → Prop} {ls : Array Slot} {w : Nat} {b : Nat} {n : Nat} {dy : Int32} {bo : Int32} {ea : Int32} {Wr : Nat → Nat → Int32} {Br : Nat → Nat → Int32} {Pr : Nat → Nat → Int32} {Z : sA}  (hd5 : w ≤ 5) (hd4 : b ≤ 4) (hd30 : n ≤ 30)  (hc : Cx p s m args meth c cX2_pass 11 wsX2_pass RX2 none D cI cZ cL A) (hw : Wo D A s.heap (ws_s Z cI cL w b n dy bo ea Wr Br Pr []) H locs) (hl : lv_has ls 11 [(0, .ref (zh Z))]) (k87 : ∀ (q1 : Nat) (H : Heap) (locs : List Loc) (ls : Array Slot), Wo D A s.heap (ws_s Z cI cL w b n dy bo (p1_ea w b n dy bo ea Wr Br Pr) Wr Br Pr [(q1, .inl (cZ, n, .inl (p1_et w b n dy bo ea Wr Br Pr)))]) H locs → lv_has ls 11 [(0, .ref (zh Z)), (2, .ref q1)] → W p l e rm_X2_pass s m args below meth c H locs 1 30 (Q) (F0 m 87 ls [])) : W p l e rm_X2_pass s m args below meth c H locs 0 0 (Q) (F0 m 0 ls []) := by
  obtain ⟨hx, hb, hr, hml, hown, hts, hlk, hK, hA⟩ := id hc
  have hi2 : ∀ w ∈ u_ws RX2 TX2 6, w ∈ wsX2_pass := fun _ h => List.mem_cons_of_mem _ (List.mem_append_right _ h)
  refine lv_aload_n hx hb dX2_pass_0 rfl (lv_at hl 0 rfl) ?_
  refine g_get (v := .int bo) hc hw hi2 (0) 1 s_H rfl (by decide) (List.mem_of_getElem? (i := 1) rfl) sv_1 dX2_pass_1 ?_
  refine lv_istore_n (lv' := [(1, .int bo), (0, .ref (zh Z))]) hx hb dX2_pass_4 rfl hl (by decide) rfl (fun ls hl => ?_)
  refine lv_aload_n hx hb dX2_pass_5 rfl (lv_at hl 1 rfl) ?_
  refine g_get (v := .ref (zy Z 5)) hc hw hi2 (0) 5 s_H rfl (by decide) (List.mem_of_getElem? (i := 2) rfl) sv_5 dX2_pass_6 ?_
  refine va_alen (v := nI n) hx hb hK.1 hw.1 (3) 2 s_Y5 rfl rfl dX2_pass_9 ?_
  refine g_newZ hc hw (N := n) (List.mem_of_getElem? (i := 3) rfl) (nI_pos (by omega)) (nI_clamp (by omega)) (by show n * 1 ≤ 536870912; omega) (Nat.le_trans (show 0 + 1 ≤ 5 by omega) (Nat.le_of_ble_eq_true rfl)) (Nat.le_trans (show 0 + n ≤ 150 by omega) (Nat.le_of_ble_eq_true rfl)) dX2_pass_10 (fun q1 H locs hw => ?_)
  replace hw : Wo D A s.heap (ws_s Z cI cL w b n dy bo ea Wr Br Pr [(q1, .inl (cZ, n, .inl (fun _ => (0 : Int32))))]) H locs := by have h9 := hw; rw [s_push] at h9; exact h9
  refine lv_astore_n (lv' := [(2, .ref q1), (1, .int bo), (0, .ref (zh Z))]) hx hb dX2_pass_12 rfl hl (by decide) rfl (fun ls hl => ?_)
  refine lv_iconst (v := 0) hx hb dX2_pass_13 (by decide) ?_
  refine lv_istore_n (lv' := [(3, .int (0 : Int32)), (2, .ref q1), (1, .int bo), (0, .ref (zh Z))]) hx hb dX2_pass_14 rfl hl (by decide) rfl (fun ls hl => ?_)
  refine lp_go (fun (i15 : Nat) (q15 : (Int32) × (Nat → Int32) × Int32) => ∀ (H : Heap) (locs : List Loc) (ls : Array Slot), Wo D A s.heap (ws_s Z cI cL w b n dy bo q15.1 Wr Br Pr [(q1, .inl (cZ, n, .inl q15.2.1))]) H locs → lv_has ls 11 [(0, .ref (zh Z)), (1, .int q15.2.2), (2, .ref q1), (3, .int (nI i15))] → W p l e rm_X2_pass s m args below meth c H locs (0 + 1) (0 + n) (Q) (F0 m 15 ls [])) (f_X2_pass_1_15 w b n dy bo ea Wr Br Pr) w (ea, (fun _ => (0 : Int32)), bo) ?_ ?_ H locs ls hw (lv_sub hl [3, 2, 1, 0] rfl)
  · intro i15 q15 hi15 k15 H locs ls hw hl
    refine lv_iload_n hx hb dX2_pass_15 rfl (lv_at hl 3 rfl) ?_
    refine lv_aload_n hx hb dX2_pass_16 rfl (lv_at hl 0 rfl) ?_
    refine g_get (v := .ref (zy Z 3)) hc hw hi2 (0) 3 s_H rfl (by decide) (List.mem_of_getElem? (i := 4) rfl) sv_3 dX2_pass_17 ?_
    refine va_alen (v := nI w) hx hb hK.1 hw.1 (1) 2 s_Y3 rfl rfl dX2_pass_20 ?_
    refine lv_icmp_ge (tgt := 87) hx hb dX2_pass_21 (by decide) (fun z => absurd z (nI_ge hi15 (by omega))) (fun _ => ?_)
    refine lv_iconst (v := 0) hx hb dX2_pass_24 (by decide) ?_
    refine lv_istore (lv' := [(4, .int (0 : Int32)), (0, .ref (zh Z)), (1, .int q15.2.2), (2, .ref q1), (3, .int (nI i15))]) hx hb dX2_pass_25 hl (by decide) rfl (fun ls hl => ?_)
    refine lp_go (fun (i27 : Nat) (q27 : (Int32) × (Nat → Int32) × Int32) => ∀ (H : Heap) (locs : List Loc) (ls : Array Slot), Wo D A s.heap (ws_s Z cI cL w b n dy bo q27.1 Wr Br Pr [(q1, .inl (cZ, n, .inl q27.2.1))]) H locs → lv_has ls 11 [(0, .ref (zh Z)), (1, .int q27.2.2), (2, .ref q1), (3, .int (nI i15)), (4, .int (nI i27))] → W p l e rm_X2_pass s m args below meth c H locs (0 + 1) (0 + n) (Q) (F0 m 27 ls [])) (f_X2_pass_1_27 w b n dy bo ea Wr Br Pr i15 q15) n (q15.1, q15.2.1, q15.2.2) ?_ ?_ H locs ls hw (lv_sub hl [1, 2, 3, 4, 0] rfl)
    · intro i27 q27 hi27 k27 H locs ls hw hl
      refine lv_iload hx hb dX2_pass_27 (lv_at hl 4 rfl) ?_
      refine lv_aload_n hx hb dX2_pass_29 rfl (lv_at hl 0 rfl) ?_
      refine g_get (v := .ref (zy Z 5)) hc hw hi2 (0) 5 s_H rfl (by decide) (List.mem_of_getElem? (i := 2) rfl) sv_5 dX2_pass_30 ?_
      refine va_alen (v := nI n) hx hb hK.1 hw.1 (3) 2 s_Y5 rfl rfl dX2_pass_33 ?_
      refine lv_icmp_ge (tgt := 81) hx hb dX2_pass_34 (by decide) (fun z => absurd z (nI_ge hi27 (by omega))) (fun _ => ?_)
      refine lv_aload_n hx hb dX2_pass_37 rfl (lv_at hl 0 rfl) ?_
      refine g_get (v := .ref (zy Z 5)) hc hw hi2 (0) 5 s_H rfl (by decide) (List.mem_of_getElem? (i := 2) rfl) sv_5 dX2_pass_38 ?_
      refine lv_iload hx hb dX2_pass_41 (lv_at hl 4 rfl) ?_
      refine g_aald (v := zp Z i27) hc hw (3) s_Y5 (vp_in_nI (show i27 < n by omega) (by omega)) (congrArg (fun q => some (zp Z q)) (nI_clamp (show i27 < 2 ^ 31 by omega))) dX2_pass_43 ?_
      refine lv_iconst (v := 1) hx hb dX2_pass_44 (by decide) ?_
      refine r_ld (f := (Pr i27)) (k := 1) hc hw (4 + (w + (b + i27))) (s_P (show i27 < n by omega)) (by unfold vp_in; decide) (by decide) dX2_pass_45 ?_
      refine lv_iload_n hx hb dX2_pass_46 rfl (lv_at hl 3 rfl) ?_
      refine lv_icmp_ne (tgt := 75) hx hb dX2_pass_47 (by decide) (fun c2 => ?_) (fun c2 => ?_)
      · refine lv_iinc (v := (nI (i27 + 1))) (lv' := [(4, .int (nI (i27 + 1))), (0, .ref (zh Z)), (1, .int q27.2.2), (2, .ref q1), (3, .int (nI i15))]) hx hb dX2_pass_75 hl (k := 4) rfl (inc_n i27) (by decide) rfl (fun ls hl => ?_)
        refine lv_goto (tgt := 27) hx hb dX2_pass_78 (by decide) ?_
        rw [show (f_X2_pass_1_27 w b n dy bo ea Wr Br Pr i15 q15) i27 q27 = (q27.1, q27.2.1, q27.2.2) from by rw [f_X2_pass_1_27, if_neg c2]] at k27
        exact k27 H locs ls hw (lv_sub hl [1, 2, 3, 4, 0] rfl)
      · refine lv_iload_n hx hb dX2_pass_50 rfl (lv_at hl 1 rfl) ?_
        refine lv_if_ne (tgt := 57) hx hb dX2_pass_51 (by decide) (fun c3 => ?_) (fun c3 => ?_)
        · refine lv_iinc (v := (q27.2.2 + (-1))) (lv' := [(1, .int (q27.2.2 + (-1))), (0, .ref (zh Z)), (2, .ref q1), (3, .int (nI i15)), (4, .int (nI i27))]) hx hb dX2_pass_57 hl (k := 1) rfl (dec_1 _) (by decide) rfl (fun ls hl => ?_)
          refine lv_aload_n hx hb dX2_pass_60 rfl (lv_at hl 2 rfl) ?_
          refine lv_iload hx hb dX2_pass_61 (lv_at hl 4 rfl) ?_
          refine lv_iconst (v := 1) hx hb dX2_pass_63 (by decide) ?_
          refine z_st (f := q27.2.1) (k := i27) hc hw (4 + (w + (b + (n + 0)))) (s_E.trans rfl) (vp_in_nI (show i27 < n by omega) (by omega)) (nI_clamp (show i27 < 2 ^ 31 by omega)) rfl (w' := (ws_s Z cI cL w b n dy bo q27.1 Wr Br Pr [(q1, .inl (cZ, n, .inl (upd q27.2.1 i27 (1 : Int32))))])) (su_E rfl) dX2_pass_64 (fun H locs hw => ?_)
          refine lv_aload_n hx hb dX2_pass_65 rfl (lv_at hl 1 rfl) ?_
          refine lv_dup hx hb dX2_pass_66 rfl ?_
          refine g_get (v := .int q27.1) hc hw hi2 (0) 2 s_H rfl (by decide) (List.mem_of_getElem? (i := 5) rfl) sv_2 dX2_pass_67 ?_
          refine lv_iconst (v := 1) hx hb dX2_pass_70 (by decide) ?_
          refine lv_iadd hx hb dX2_pass_71 ?_
          refine g_put hc hw hi2 tyX2 tyX2_ok nmX2 (0) 2 s_H rfl (by decide) (List.mem_of_getElem? (i := 5) rfl) (by decide) rfl rfl (Nat.le_of_ble_eq_true rfl) (w' := (ws_s Z cI cL w b n dy bo (q27.1 + (1 : Int32)) Wr Br Pr [(q1, .inl (cZ, n, .inl (upd q27.2.1 i27 (1 : Int32))))])) su_2 dX2_pass_72 (fun H locs hw => ?_)
          refine lv_iinc (v := (nI (i27 + 1))) (lv' := [(4, .int (nI (i27 + 1))), (1, .int (q27.2.2 + (-1))), (0, .ref (zh Z)), (2, .ref q1), (3, .int (nI i15))]) hx hb dX2_pass_75 hl (k := 4) rfl (inc_n i27) (by decide) rfl (fun ls hl => ?_)
          refine lv_goto (tgt := 27) hx hb dX2_pass_78 (by decide) ?_
          rw [show (f_X2_pass_1_27 w b n dy bo ea Wr Br Pr i15 q15) i27 q27 = ((q27.1 + (1 : Int32)), (upd q27.2.1 i27 (1 : Int32)), (q27.2.2 + (-1))) from by rw [f_X2_pass_1_27, if_pos c2, if_neg c3]] at k27
          exact k27 H locs ls hw (lv_sub hl [2, 1, 3, 4, 0] rfl)
        · refine lv_goto (tgt := 75) hx hb dX2_pass_54 (by decide) ?_
          refine lv_iinc (v := (nI (i27 + 1))) (lv' := [(4, .int (nI (i27 + 1))), (0, .ref (zh Z)), (1, .int q27.2.2), (2, .ref q1), (3, .int (nI i15))]) hx hb dX2_pass_75 hl (k := 4) rfl (inc_n i27) (by decide) rfl (fun ls hl => ?_)
          refine lv_goto (tgt := 27) hx hb dX2_pass_78 (by decide) ?_
          rw [show (f_X2_pass_1_27 w b n dy bo ea Wr Br Pr i15 q15) i27 q27 = (q27.1, q27.2.1, q27.2.2) from by rw [f_X2_pass_1_27, if_pos c2, if_pos c3]] at k27
          exact k27 H locs ls hw (lv_sub hl [1, 2, 3, 4, 0] rfl)
    · intro H locs ls hw hl
      refine lv_iload hx hb dX2_pass_27 (lv_at hl 4 rfl) ?_
      refine lv_aload_n hx hb dX2_pass_29 rfl (lv_at hl 0 rfl) ?_
      refine g_get (v := .ref (zy Z 5)) hc hw hi2 (0) 5 s_H rfl (by decide) (List.mem_of_getElem? (i := 2) rfl) sv_5 dX2_pass_30 ?_
      refine va_alen (v := nI n) hx hb hK.1 hw.1 (3) 2 s_Y5 rfl rfl dX2_pass_33 ?_
      refine lv_icmp_ge (tgt := 81) hx hb dX2_pass_34 (by decide) (fun _ => ?_) (fun z => absurd (nI_le (Nat.le_refl _) (by omega)) z)
      refine lv_iinc (v := (nI (i15 + 1))) (lv' := [(3, .int (nI (i15 + 1))), (0, .ref (zh Z)), (1, .int ((lpf (f_X2_pass_1_27 w b n dy bo ea Wr Br Pr i15 q15) n 0 (q15.1, q15.2.1, q15.2.2)).2.2)), (2, .ref q1), (4, .int (nI n))]) hx hb dX2_pass_81 hl (k := 3) rfl (inc_n i15) (by decide) rfl (fun ls hl => ?_)
      refine lv_goto (tgt := 15) hx hb dX2_pass_84 (by decide) ?_
      rw [show (f_X2_pass_1_15 w b n dy bo ea Wr Br Pr) i15 q15 = ((lpf (f_X2_pass_1_27 w b n dy bo ea Wr Br Pr i15 q15) n 0 (q15.1, q15.2.1, q15.2.2)).1, (lpf (f_X2_pass_1_27 w b n dy bo ea Wr Br Pr i15 q15) n 0 (q15.1, q15.2.1, q15.2.2)).2.1, (lpf (f_X2_pass_1_27 w b n dy bo ea Wr Br Pr i15 q15) n 0 (q15.1, q15.2.1, q15.2.2)).2.2) from by rw [f_X2_pass_1_15]] at k15
      exact k15 H locs ls hw (lv_sub hl [1, 2, 3, 0] rfl)
  · intro H locs ls hw hl
    refine lv_iload_n hx hb dX2_pass_15 rfl (lv_at hl 3 rfl) ?_
    refine lv_aload_n hx hb dX2_pass_16 rfl (lv_at hl 0 rfl) ?_
    refine g_get (v := .ref (zy Z 3)) hc hw hi2 (0) 3 s_H rfl (by decide) (List.mem_of_getElem? (i := 4) rfl) sv_3 dX2_pass_17 ?_
    refine va_alen (v := nI w) hx hb hK.1 hw.1 (1) 2 s_Y3 rfl rfl dX2_pass_20 ?_
    refine lv_icmp_ge (tgt := 87) hx hb dX2_pass_21 (by decide) (fun _ => ?_) (fun z => absurd (nI_le (Nat.le_refl _) (by omega)) z)
    refine W.widen (show 0 + 1 ≤ 1 by omega) (show 0 + n ≤ 30 by omega) ?_
    exact k87 q1 H locs ls hw (lv_sub hl [0, 2] rfl)

def f_X2_pass_2_89 (w : Nat) (b : Nat) (n : Nat) (dy : Int32) (bo : Int32) (ea : Int32) (Wr : Nat → Nat → Int32) (Br : Nat → Nat → Int32) (Pr : Nat → Nat → Int32) (et : Nat → Int32) (i89 : Nat) (q89 : (Nat → Nat → Int32)) : (Nat → Nat → Int32) := if (0 : Int32) ≤ (q89 i89 1) then (if (et i89) = (0 : Int32) then (if ((ur (ur q89 i89 5 ((q89 i89 5) + (1 : Int32))) i89 0 (((ur q89 i89 5 ((q89 i89 5) + (1 : Int32))) i89 0) + (1 : Int32))) i89 0) ≤ (10 : Int32) then (if (0 : Int32) ≤ ((ur (ur q89 i89 5 ((q89 i89 5) + (1 : Int32))) i89 0 (((ur q89 i89 5 ((q89 i89 5) + (1 : Int32))) i89 0) + (1 : Int32))) i89 0) then (((ur (ur q89 i89 5 ((q89 i89 5) + (1 : Int32))) i89 0 (((ur q89 i89 5 ((q89 i89 5) + (1 : Int32))) i89 0) + (1 : Int32))))) else (((ur (ur (ur q89 i89 5 ((q89 i89 5) + (1 : Int32))) i89 0 (((ur q89 i89 5 ((q89 i89 5) + (1 : Int32))) i89 0) + (1 : Int32))) i89 0 (0 : Int32))))) else (if (0 : Int32) ≤ ((ur (ur (ur q89 i89 5 ((q89 i89 5) + (1 : Int32))) i89 0 (((ur q89 i89 5 ((q89 i89 5) + (1 : Int32))) i89 0) + (1 : Int32))) i89 0 (10 : Int32)) i89 0) then (((ur (ur (ur q89 i89 5 ((q89 i89 5) + (1 : Int32))) i89 0 (((ur q89 i89 5 ((q89 i89 5) + (1 : Int32))) i89 0) + (1 : Int32))) i89 0 (10 : Int32)))) else (((ur (ur (ur (ur q89 i89 5 ((q89 i89 5) + (1 : Int32))) i89 0 (((ur q89 i89 5 ((q89 i89 5) + (1 : Int32))) i89 0) + (1 : Int32))) i89 0 (10 : Int32)) i89 0 (0 : Int32)))))) else (if (5 : Int32) ≤ (Wr (((q89 i89 1)).toNatClampNeg) 1) then (if ((ur q89 i89 0 ((q89 i89 0) + (1 : Int32))) i89 0) ≤ (10 : Int32) then (if (0 : Int32) ≤ ((ur q89 i89 0 ((q89 i89 0) + (1 : Int32))) i89 0) then (((ur q89 i89 0 ((q89 i89 0) + (1 : Int32))))) else (((ur (ur q89 i89 0 ((q89 i89 0) + (1 : Int32))) i89 0 (0 : Int32))))) else (if (0 : Int32) ≤ ((ur (ur q89 i89 0 ((q89 i89 0) + (1 : Int32))) i89 0 (10 : Int32)) i89 0) then (((ur (ur q89 i89 0 ((q89 i89 0) + (1 : Int32))) i89 0 (10 : Int32)))) else (((ur (ur (ur q89 i89 0 ((q89 i89 0) + (1 : Int32))) i89 0 (10 : Int32)) i89 0 (0 : Int32)))))) else (if ((ur q89 i89 0 ((q89 i89 0) + (-1 : Int32))) i89 0) ≤ (10 : Int32) then (if (0 : Int32) ≤ ((ur q89 i89 0 ((q89 i89 0) + (-1 : Int32))) i89 0) then (((ur q89 i89 0 ((q89 i89 0) + (-1 : Int32))))) else (((ur (ur q89 i89 0 ((q89 i89 0) + (-1 : Int32))) i89 0 (0 : Int32))))) else (if (0 : Int32) ≤ ((ur (ur q89 i89 0 ((q89 i89 0) + (-1 : Int32))) i89 0 (10 : Int32)) i89 0) then (((ur (ur q89 i89 0 ((q89 i89 0) + (-1 : Int32))) i89 0 (10 : Int32)))) else (((ur (ur (ur q89 i89 0 ((q89 i89 0) + (-1 : Int32))) i89 0 (10 : Int32)) i89 0 (0 : Int32)))))))) else ((q89))
def p2_P (w : Nat) (b : Nat) (n : Nat) (dy : Int32) (bo : Int32) (ea : Int32) (Wr : Nat → Nat → Int32) (Br : Nat → Nat → Int32) (Pr : Nat → Nat → Int32) (et : Nat → Int32) : (Nat → Nat → Int32) := (lpf (f_X2_pass_2_89 w b n dy bo ea Wr Br Pr et) n 0 (Pr))
theorem p2_keep {w : Nat} {b : Nat} {n : Nat} {dy : Int32} {bo : Int32} {ea : Int32} {Wr : Nat → Nat → Int32} {Br : Nat → Nat → Int32} {Pr : Nat → Nat → Int32} {et : Nat → Int32} {i : Nat} {q : Nat → Nat → Int32} (h : ∀ p, p < n → ¬ q p 1 < 0 → vp_in (q p 1) w) : ∀ p, p < n → ¬ (f_X2_pass_2_89 w b n dy bo ea Wr Br Pr et i q) p 1 < 0 → vp_in ((f_X2_pass_2_89 w b n dy bo ea Wr Br Pr et i q) p 1) w := by
  have e : ∀ p, (f_X2_pass_2_89 w b n dy bo ea Wr Br Pr et i q) p 1 = q p 1 := by
    intro p
    unfold f_X2_pass_2_89
    have h0 : ∀ (f : Nat → Nat → Int32) (j k : Nat) (v : Int32), k ≠ 1 → ur f j k v p 1 = f p 1 := by
      intro f j k v hk
      by_cases hj : p = j
      · subst hj; rw [ur_eq]; exact if_neg (fun z => hk z.symm)
      · rw [ur_ne _ _ _ hj]
    (repeat' split) <;> simp only [h0 _ _ _ _ (show (5 : Nat) ≠ 1 by decide), h0 _ _ _ _ (show (0 : Nat) ≠ 1 by decide)]
  intro p hp
  rw [e]
  exact h p hp
set_option maxHeartbeats 4000000 in
set_option maxRecDepth 100000 in
theorem k_X2_pass_2 {p : Program} {l : Launch} {e : Env} {s : State} {m : MethodId} {args : Array Value} {below : List Frame} {meth : Method} {c : Code} {H : Heap} {locs : List Loc} {Q : State → Prop} {D : va_G} {cI cZ cL : ClassId} {A : Nat → Prop} {ls : Array Slot} {w : Nat} {b : Nat} {n : Nat} {dy : Int32} {bo : Int32} {ea : Int32} {Wr : Nat → Nat → Int32} {Br : Nat → Nat → Int32} {Pr : Nat → Nat → Int32} {Z : sA} {q1 : Nat} {et : Nat → Int32} (hd5 : w ≤ 5) (hd4 : b ≤ 4) (hd30 : n ≤ 30) (hin : ∀ p, p < n → ¬ Pr p 1 < 0 → vp_in (Pr p 1) w) (hc : Cx p s m args meth c cX2_pass 11 wsX2_pass RX2 none D cI cZ cL A) (hw : Wo D A s.heap (ws_s Z cI cL w b n dy bo ea Wr Br Pr [(q1, .inl (cZ, n, .inl et))]) H locs) (hl : lv_has ls 11 [(0, .ref (zh Z)), (2, .ref q1)]) (k196 : ∀ (H : Heap) (locs : List Loc) (ls : Array Slot), Wo D A s.heap (ws_s Z cI cL w b n dy bo ea Wr Br (p2_P w b n dy bo ea Wr Br Pr et) [(q1, .inl (cZ, n, .inl et))]) H locs → lv_has ls 11 [(0, .ref (zh Z))] → W p l e rm_X2_pass s m args below meth c H locs 1 30 (Q) (F0 m 196 ls [])) : W p l e rm_X2_pass s m args below meth c H locs 1 30 (Q) (F0 m 87 ls []) := by
  obtain ⟨hx, hb, hr, hml, hown, hts, hlk, hK, hA⟩ := id hc
  have hi2 : ∀ w ∈ u_ws RX2 TX2 6, w ∈ wsX2_pass := fun _ h => List.mem_cons_of_mem _ (List.mem_append_right _ h)
  refine lv_iconst (v := 0) hx hb dX2_pass_87 (by decide) ?_
  refine lv_istore_n (lv' := [(3, .int (0 : Int32)), (0, .ref (zh Z)), (2, .ref q1)]) hx hb dX2_pass_88 rfl hl (by decide) rfl (fun ls hl => ?_)
  refine lp_goI (fun (i89 : Nat) (q89 : (Nat → Nat → Int32)) => ∀ (H : Heap) (locs : List Loc) (ls : Array Slot), Wo D A s.heap (ws_s Z cI cL w b n dy bo ea Wr Br q89 [(q1, .inl (cZ, n, .inl et))]) H locs → lv_has ls 11 [(0, .ref (zh Z)), (2, .ref q1), (3, .int (nI i89))] → W p l e rm_X2_pass s m args below meth c H locs 1 30 (Q) (F0 m 89 ls [])) (fun (_ : Nat) (q : Nat → Nat → Int32) => ∀ p, p < n → ¬ q p 1 < 0 → vp_in (q p 1) w) (f_X2_pass_2_89 w b n dy bo ea Wr Br Pr et) n (Pr) hin ?_ ?_ H locs ls hw (lv_sub hl [1, 2, 0] rfl)
  · intro i89 q89 hi89 hI
    refine ⟨(p2_keep hI), ?_⟩
    intro k89 H locs ls hw hl
    refine lv_iload_n hx hb dX2_pass_89 rfl (lv_at hl 2 rfl) ?_
    refine lv_aload_n hx hb dX2_pass_90 rfl (lv_at hl 0 rfl) ?_
    refine g_get (v := .ref (zy Z 5)) hc hw hi2 (0) 5 s_H rfl (by decide) (List.mem_of_getElem? (i := 2) rfl) sv_5 dX2_pass_91 ?_
    refine va_alen (v := nI n) hx hb hK.1 hw.1 (3) 2 s_Y5 rfl rfl dX2_pass_94 ?_
    refine lv_icmp_ge (tgt := 196) hx hb dX2_pass_95 (by decide) (fun z => absurd z (nI_ge hi89 (by omega))) (fun _ => ?_)
    refine lv_aload_n hx hb dX2_pass_98 rfl (lv_at hl 0 rfl) ?_
    refine g_get (v := .ref (zy Z 5)) hc hw hi2 (0) 5 s_H rfl (by decide) (List.mem_of_getElem? (i := 2) rfl) sv_5 dX2_pass_99 ?_
    refine lv_iload_n hx hb dX2_pass_102 rfl (lv_at hl 2 rfl) ?_
    refine g_aald (v := zp Z i89) hc hw (3) s_Y5 (vp_in_nI (show i89 < n by omega) (by omega)) (congrArg (fun q => some (zp Z q)) (nI_clamp (show i89 < 2 ^ 31 by omega))) dX2_pass_103 ?_
    refine lv_astore (lv' := [(4, .ref (zp Z i89)), (0, .ref (zh Z)), (2, .ref q1), (3, .int (nI i89))]) hx hb dX2_pass_104 hl (by decide) rfl (fun ls hl => ?_)
    refine lv_aload hx hb dX2_pass_106 (lv_at hl 0 rfl) ?_
    refine lv_iconst (v := 1) hx hb dX2_pass_108 (by decide) ?_
    refine r_ld (f := (q89 i89)) (k := 1) hc hw (4 + (w + (b + i89))) (s_P (show i89 < n by omega)) (by unfold vp_in; decide) (by decide) dX2_pass_109 ?_
    refine lv_if_ge (tgt := 116) hx hb dX2_pass_110 (by decide) (fun c1 => ?_) (fun c1 => ?_)
    · refine lv_aload_n hx hb dX2_pass_116 rfl (lv_at hl 2 rfl) ?_
      refine lv_iload_n hx hb dX2_pass_117 rfl (lv_at hl 3 rfl) ?_
      refine z_ld (f := et) (k := i89) hc hw (4 + (w + (b + (n + 0)))) (s_E.trans rfl) (vp_in_nI (show i89 < n by omega) (by omega)) (nI_clamp (show i89 < 2 ^ 31 by omega)) dX2_pass_118 ?_
      refine lv_if_ne (tgt := 130) hx hb dX2_pass_119 (by decide) (fun c2 => ?_) (fun c2 => ?_)
      · refine lv_aload hx hb dX2_pass_130 (lv_at hl 0 rfl) ?_
        refine lv_iconst (v := 0) hx hb dX2_pass_132 (by decide) ?_
        refine lv_dup2_11 hx hb dX2_pass_133 rfl rfl ?_
        refine r_ld (f := (q89 i89)) (k := 0) hc hw (4 + (w + (b + i89))) (s_P (show i89 < n by omega)) (by unfold vp_in; decide) (by decide) dX2_pass_134 ?_
        refine lv_aload_n hx hb dX2_pass_135 rfl (lv_at hl 2 rfl) ?_
        refine lv_iload_n hx hb dX2_pass_136 rfl (lv_at hl 3 rfl) ?_
        refine z_ld (f := et) (k := i89) hc hw (4 + (w + (b + (n + 0)))) (s_E.trans rfl) (vp_in_nI (show i89 < n by omega) (by omega)) (nI_clamp (show i89 < 2 ^ 31 by omega)) dX2_pass_137 ?_
        refine lv_if_eq (tgt := 160) hx hb dX2_pass_138 (by decide) (fun z => absurd z c2) (fun _ => ?_)
        refine lv_aload_n hx hb dX2_pass_141 rfl (lv_at hl 1 rfl) ?_
        refine g_get (v := .ref (zy Z 3)) hc hw hi2 (0) 3 s_H rfl (by decide) (List.mem_of_getElem? (i := 4) rfl) sv_3 dX2_pass_142 ?_
        refine lv_aload hx hb dX2_pass_145 (lv_at hl 0 rfl) ?_
        refine lv_iconst (v := 1) hx hb dX2_pass_147 (by decide) ?_
        refine r_ld (f := (q89 i89)) (k := 1) hc hw (4 + (w + (b + i89))) (s_P (show i89 < n by omega)) (by unfold vp_in; decide) (by decide) dX2_pass_148 ?_
        refine g_aald (v := zw Z (((q89 i89 1)).toNatClampNeg)) hc hw (1) s_Y3 (hI i89 (by omega) (Int32.not_lt.mpr c1)) (congrArg (fun q => some (zw Z q)) rfl) dX2_pass_149 ?_
        refine lv_iconst (v := 1) hx hb dX2_pass_150 (by decide) ?_
        refine r_ld (f := (Wr (((q89 i89 1)).toNatClampNeg))) (k := 1) hc hw (4 + (((q89 i89 1)).toNatClampNeg)) (s_W (vp_lt (hI i89 (by omega) (Int32.not_lt.mpr c1)))) (by unfold vp_in; decide) (by decide) dX2_pass_151 ?_
        refine lv_iconst (v := 5) hx hb dX2_pass_152 (by decide) ?_
        refine lv_icmp_ge (tgt := 160) hx hb dX2_pass_153 (by decide) (fun c3 => ?_) (fun c3 => ?_)
        · refine lv_iconst (v := 1) hx hb dX2_pass_160 (by decide) ?_
          refine lv_iadd hx hb dX2_pass_161 ?_
          refine r_st (f := (q89 i89)) (k := 0) hc hw (4 + (w + (b + i89))) (s_P (show i89 < n by omega)) (by unfold vp_in; decide) (by decide) (w' := (ws_s Z cI cL w b n dy bo ea Wr Br (ur q89 i89 0 ((q89 i89 0) + (1 : Int32))) [(q1, .inl (cZ, n, .inl et))])) (su_P (show i89 < n by omega)) dX2_pass_162 (fun H locs hw => ?_)
          refine lv_aload hx hb dX2_pass_163 (lv_at hl 0 rfl) ?_
          refine lv_iconst (v := 0) hx hb dX2_pass_165 (by decide) ?_
          refine r_ld (f := ((ur q89 i89 0 ((q89 i89 0) + (1 : Int32))) i89)) (k := 0) hc hw (4 + (w + (b + i89))) (s_P (show i89 < n by omega)) (by unfold vp_in; decide) (by decide) dX2_pass_166 ?_
          refine lv_bipush (v := 10) hx hb dX2_pass_167 (by decide) ?_
          refine lv_icmp_le (tgt := 178) hx hb dX2_pass_169 (by decide) (fun c4 => ?_) (fun c4 => ?_)
          · refine lv_aload hx hb dX2_pass_178 (lv_at hl 0 rfl) ?_
            refine lv_iconst (v := 0) hx hb dX2_pass_180 (by decide) ?_
            refine r_ld (f := ((ur q89 i89 0 ((q89 i89 0) + (1 : Int32))) i89)) (k := 0) hc hw (4 + (w + (b + i89))) (s_P (show i89 < n by omega)) (by unfold vp_in; decide) (by decide) dX2_pass_181 ?_
            refine lv_if_ge (tgt := 190) hx hb dX2_pass_182 (by decide) (fun c5 => ?_) (fun c5 => ?_)
            · refine lv_iinc (v := (nI (i89 + 1))) (lv' := [(3, .int (nI (i89 + 1))), (4, .ref (zp Z i89)), (0, .ref (zh Z)), (2, .ref q1)]) hx hb dX2_pass_190 hl (k := 3) rfl (inc_n i89) (by decide) rfl (fun ls hl => ?_)
              refine lv_goto (tgt := 89) hx hb dX2_pass_193 (by decide) ?_
              rw [show (f_X2_pass_2_89 w b n dy bo ea Wr Br Pr et) i89 q89 = ((ur q89 i89 0 ((q89 i89 0) + (1 : Int32)))) from by rw [f_X2_pass_2_89, if_pos c1, if_neg c2, if_pos c3, if_pos c4, if_pos c5]] at k89
              exact k89 H locs ls hw (lv_sub hl [2, 3, 0] rfl)
            · refine lv_aload hx hb dX2_pass_185 (lv_at hl 0 rfl) ?_
              refine lv_iconst (v := 0) hx hb dX2_pass_187 (by decide) ?_
              refine lv_iconst (v := 0) hx hb dX2_pass_188 (by decide) ?_
              refine r_st (f := ((ur q89 i89 0 ((q89 i89 0) + (1 : Int32))) i89)) (k := 0) hc hw (4 + (w + (b + i89))) (s_P (show i89 < n by omega)) (by unfold vp_in; decide) (by decide) (w' := (ws_s Z cI cL w b n dy bo ea Wr Br (ur (ur q89 i89 0 ((q89 i89 0) + (1 : Int32))) i89 0 (0 : Int32)) [(q1, .inl (cZ, n, .inl et))])) (su_P (show i89 < n by omega)) dX2_pass_189 (fun H locs hw => ?_)
              refine lv_iinc (v := (nI (i89 + 1))) (lv' := [(3, .int (nI (i89 + 1))), (4, .ref (zp Z i89)), (0, .ref (zh Z)), (2, .ref q1)]) hx hb dX2_pass_190 hl (k := 3) rfl (inc_n i89) (by decide) rfl (fun ls hl => ?_)
              refine lv_goto (tgt := 89) hx hb dX2_pass_193 (by decide) ?_
              rw [show (f_X2_pass_2_89 w b n dy bo ea Wr Br Pr et) i89 q89 = ((ur (ur q89 i89 0 ((q89 i89 0) + (1 : Int32))) i89 0 (0 : Int32))) from by rw [f_X2_pass_2_89, if_pos c1, if_neg c2, if_pos c3, if_pos c4, if_neg c5]] at k89
              exact k89 H locs ls hw (lv_sub hl [2, 3, 0] rfl)
          · refine lv_aload hx hb dX2_pass_172 (lv_at hl 0 rfl) ?_
            refine lv_iconst (v := 0) hx hb dX2_pass_174 (by decide) ?_
            refine lv_bipush (v := 10) hx hb dX2_pass_175 (by decide) ?_
            refine r_st (f := ((ur q89 i89 0 ((q89 i89 0) + (1 : Int32))) i89)) (k := 0) hc hw (4 + (w + (b + i89))) (s_P (show i89 < n by omega)) (by unfold vp_in; decide) (by decide) (w' := (ws_s Z cI cL w b n dy bo ea Wr Br (ur (ur q89 i89 0 ((q89 i89 0) + (1 : Int32))) i89 0 (10 : Int32)) [(q1, .inl (cZ, n, .inl et))])) (su_P (show i89 < n by omega)) dX2_pass_177 (fun H locs hw => ?_)
            refine lv_aload hx hb dX2_pass_178 (lv_at hl 0 rfl) ?_
            refine lv_iconst (v := 0) hx hb dX2_pass_180 (by decide) ?_
            refine r_ld (f := ((ur (ur q89 i89 0 ((q89 i89 0) + (1 : Int32))) i89 0 (10 : Int32)) i89)) (k := 0) hc hw (4 + (w + (b + i89))) (s_P (show i89 < n by omega)) (by unfold vp_in; decide) (by decide) dX2_pass_181 ?_
            refine lv_if_ge (tgt := 190) hx hb dX2_pass_182 (by decide) (fun c6 => ?_) (fun c6 => ?_)
            · refine lv_iinc (v := (nI (i89 + 1))) (lv' := [(3, .int (nI (i89 + 1))), (4, .ref (zp Z i89)), (0, .ref (zh Z)), (2, .ref q1)]) hx hb dX2_pass_190 hl (k := 3) rfl (inc_n i89) (by decide) rfl (fun ls hl => ?_)
              refine lv_goto (tgt := 89) hx hb dX2_pass_193 (by decide) ?_
              rw [show (f_X2_pass_2_89 w b n dy bo ea Wr Br Pr et) i89 q89 = ((ur (ur q89 i89 0 ((q89 i89 0) + (1 : Int32))) i89 0 (10 : Int32))) from by rw [f_X2_pass_2_89, if_pos c1, if_neg c2, if_pos c3, if_neg c4, if_pos c6]] at k89
              exact k89 H locs ls hw (lv_sub hl [2, 3, 0] rfl)
            · refine lv_aload hx hb dX2_pass_185 (lv_at hl 0 rfl) ?_
              refine lv_iconst (v := 0) hx hb dX2_pass_187 (by decide) ?_
              refine lv_iconst (v := 0) hx hb dX2_pass_188 (by decide) ?_
              refine r_st (f := ((ur (ur q89 i89 0 ((q89 i89 0) + (1 : Int32))) i89 0 (10 : Int32)) i89)) (k := 0) hc hw (4 + (w + (b + i89))) (s_P (show i89 < n by omega)) (by unfold vp_in; decide) (by decide) (w' := (ws_s Z cI cL w b n dy bo ea Wr Br (ur (ur (ur q89 i89 0 ((q89 i89 0) + (1 : Int32))) i89 0 (10 : Int32)) i89 0 (0 : Int32)) [(q1, .inl (cZ, n, .inl et))])) (su_P (show i89 < n by omega)) dX2_pass_189 (fun H locs hw => ?_)
              refine lv_iinc (v := (nI (i89 + 1))) (lv' := [(3, .int (nI (i89 + 1))), (4, .ref (zp Z i89)), (0, .ref (zh Z)), (2, .ref q1)]) hx hb dX2_pass_190 hl (k := 3) rfl (inc_n i89) (by decide) rfl (fun ls hl => ?_)
              refine lv_goto (tgt := 89) hx hb dX2_pass_193 (by decide) ?_
              rw [show (f_X2_pass_2_89 w b n dy bo ea Wr Br Pr et) i89 q89 = ((ur (ur (ur q89 i89 0 ((q89 i89 0) + (1 : Int32))) i89 0 (10 : Int32)) i89 0 (0 : Int32))) from by rw [f_X2_pass_2_89, if_pos c1, if_neg c2, if_pos c3, if_neg c4, if_neg c6]] at k89
              exact k89 H locs ls hw (lv_sub hl [2, 3, 0] rfl)
        · refine lv_iconst (v := (-1)) hx hb dX2_pass_156 (by decide) ?_
          refine lv_goto (tgt := 161) hx hb dX2_pass_157 (by decide) ?_
          refine lv_iadd hx hb dX2_pass_161 ?_
          refine r_st (f := (q89 i89)) (k := 0) hc hw (4 + (w + (b + i89))) (s_P (show i89 < n by omega)) (by unfold vp_in; decide) (by decide) (w' := (ws_s Z cI cL w b n dy bo ea Wr Br (ur q89 i89 0 ((q89 i89 0) + (-1 : Int32))) [(q1, .inl (cZ, n, .inl et))])) (su_P (show i89 < n by omega)) dX2_pass_162 (fun H locs hw => ?_)
          refine lv_aload hx hb dX2_pass_163 (lv_at hl 0 rfl) ?_
          refine lv_iconst (v := 0) hx hb dX2_pass_165 (by decide) ?_
          refine r_ld (f := ((ur q89 i89 0 ((q89 i89 0) + (-1 : Int32))) i89)) (k := 0) hc hw (4 + (w + (b + i89))) (s_P (show i89 < n by omega)) (by unfold vp_in; decide) (by decide) dX2_pass_166 ?_
          refine lv_bipush (v := 10) hx hb dX2_pass_167 (by decide) ?_
          refine lv_icmp_le (tgt := 178) hx hb dX2_pass_169 (by decide) (fun c7 => ?_) (fun c7 => ?_)
          · refine lv_aload hx hb dX2_pass_178 (lv_at hl 0 rfl) ?_
            refine lv_iconst (v := 0) hx hb dX2_pass_180 (by decide) ?_
            refine r_ld (f := ((ur q89 i89 0 ((q89 i89 0) + (-1 : Int32))) i89)) (k := 0) hc hw (4 + (w + (b + i89))) (s_P (show i89 < n by omega)) (by unfold vp_in; decide) (by decide) dX2_pass_181 ?_
            refine lv_if_ge (tgt := 190) hx hb dX2_pass_182 (by decide) (fun c8 => ?_) (fun c8 => ?_)
            · refine lv_iinc (v := (nI (i89 + 1))) (lv' := [(3, .int (nI (i89 + 1))), (4, .ref (zp Z i89)), (0, .ref (zh Z)), (2, .ref q1)]) hx hb dX2_pass_190 hl (k := 3) rfl (inc_n i89) (by decide) rfl (fun ls hl => ?_)
              refine lv_goto (tgt := 89) hx hb dX2_pass_193 (by decide) ?_
              rw [show (f_X2_pass_2_89 w b n dy bo ea Wr Br Pr et) i89 q89 = ((ur q89 i89 0 ((q89 i89 0) + (-1 : Int32)))) from by rw [f_X2_pass_2_89, if_pos c1, if_neg c2, if_neg c3, if_pos c7, if_pos c8]] at k89
              exact k89 H locs ls hw (lv_sub hl [2, 3, 0] rfl)
            · refine lv_aload hx hb dX2_pass_185 (lv_at hl 0 rfl) ?_
              refine lv_iconst (v := 0) hx hb dX2_pass_187 (by decide) ?_
              refine lv_iconst (v := 0) hx hb dX2_pass_188 (by decide) ?_
              refine r_st (f := ((ur q89 i89 0 ((q89 i89 0) + (-1 : Int32))) i89)) (k := 0) hc hw (4 + (w + (b + i89))) (s_P (show i89 < n by omega)) (by unfold vp_in; decide) (by decide) (w' := (ws_s Z cI cL w b n dy bo ea Wr Br (ur (ur q89 i89 0 ((q89 i89 0) + (-1 : Int32))) i89 0 (0 : Int32)) [(q1, .inl (cZ, n, .inl et))])) (su_P (show i89 < n by omega)) dX2_pass_189 (fun H locs hw => ?_)
              refine lv_iinc (v := (nI (i89 + 1))) (lv' := [(3, .int (nI (i89 + 1))), (4, .ref (zp Z i89)), (0, .ref (zh Z)), (2, .ref q1)]) hx hb dX2_pass_190 hl (k := 3) rfl (inc_n i89) (by decide) rfl (fun ls hl => ?_)
              refine lv_goto (tgt := 89) hx hb dX2_pass_193 (by decide) ?_
              rw [show (f_X2_pass_2_89 w b n dy bo ea Wr Br Pr et) i89 q89 = ((ur (ur q89 i89 0 ((q89 i89 0) + (-1 : Int32))) i89 0 (0 : Int32))) from by rw [f_X2_pass_2_89, if_pos c1, if_neg c2, if_neg c3, if_pos c7, if_neg c8]] at k89
              exact k89 H locs ls hw (lv_sub hl [2, 3, 0] rfl)
          · refine lv_aload hx hb dX2_pass_172 (lv_at hl 0 rfl) ?_
            refine lv_iconst (v := 0) hx hb dX2_pass_174 (by decide) ?_
            refine lv_bipush (v := 10) hx hb dX2_pass_175 (by decide) ?_
            refine r_st (f := ((ur q89 i89 0 ((q89 i89 0) + (-1 : Int32))) i89)) (k := 0) hc hw (4 + (w + (b + i89))) (s_P (show i89 < n by omega)) (by unfold vp_in; decide) (by decide) (w' := (ws_s Z cI cL w b n dy bo ea Wr Br (ur (ur q89 i89 0 ((q89 i89 0) + (-1 : Int32))) i89 0 (10 : Int32)) [(q1, .inl (cZ, n, .inl et))])) (su_P (show i89 < n by omega)) dX2_pass_177 (fun H locs hw => ?_)
            refine lv_aload hx hb dX2_pass_178 (lv_at hl 0 rfl) ?_
            refine lv_iconst (v := 0) hx hb dX2_pass_180 (by decide) ?_
            refine r_ld (f := ((ur (ur q89 i89 0 ((q89 i89 0) + (-1 : Int32))) i89 0 (10 : Int32)) i89)) (k := 0) hc hw (4 + (w + (b + i89))) (s_P (show i89 < n by omega)) (by unfold vp_in; decide) (by decide) dX2_pass_181 ?_
            refine lv_if_ge (tgt := 190) hx hb dX2_pass_182 (by decide) (fun c9 => ?_) (fun c9 => ?_)
            · refine lv_iinc (v := (nI (i89 + 1))) (lv' := [(3, .int (nI (i89 + 1))), (4, .ref (zp Z i89)), (0, .ref (zh Z)), (2, .ref q1)]) hx hb dX2_pass_190 hl (k := 3) rfl (inc_n i89) (by decide) rfl (fun ls hl => ?_)
              refine lv_goto (tgt := 89) hx hb dX2_pass_193 (by decide) ?_
              rw [show (f_X2_pass_2_89 w b n dy bo ea Wr Br Pr et) i89 q89 = ((ur (ur q89 i89 0 ((q89 i89 0) + (-1 : Int32))) i89 0 (10 : Int32))) from by rw [f_X2_pass_2_89, if_pos c1, if_neg c2, if_neg c3, if_neg c7, if_pos c9]] at k89
              exact k89 H locs ls hw (lv_sub hl [2, 3, 0] rfl)
            · refine lv_aload hx hb dX2_pass_185 (lv_at hl 0 rfl) ?_
              refine lv_iconst (v := 0) hx hb dX2_pass_187 (by decide) ?_
              refine lv_iconst (v := 0) hx hb dX2_pass_188 (by decide) ?_
              refine r_st (f := ((ur (ur q89 i89 0 ((q89 i89 0) + (-1 : Int32))) i89 0 (10 : Int32)) i89)) (k := 0) hc hw (4 + (w + (b + i89))) (s_P (show i89 < n by omega)) (by unfold vp_in; decide) (by decide) (w' := (ws_s Z cI cL w b n dy bo ea Wr Br (ur (ur (ur q89 i89 0 ((q89 i89 0) + (-1 : Int32))) i89 0 (10 : Int32)) i89 0 (0 : Int32)) [(q1, .inl (cZ, n, .inl et))])) (su_P (show i89 < n by omega)) dX2_pass_189 (fun H locs hw => ?_)
              refine lv_iinc (v := (nI (i89 + 1))) (lv' := [(3, .int (nI (i89 + 1))), (4, .ref (zp Z i89)), (0, .ref (zh Z)), (2, .ref q1)]) hx hb dX2_pass_190 hl (k := 3) rfl (inc_n i89) (by decide) rfl (fun ls hl => ?_)
              refine lv_goto (tgt := 89) hx hb dX2_pass_193 (by decide) ?_
              rw [show (f_X2_pass_2_89 w b n dy bo ea Wr Br Pr et) i89 q89 = ((ur (ur (ur q89 i89 0 ((q89 i89 0) + (-1 : Int32))) i89 0 (10 : Int32)) i89 0 (0 : Int32))) from by rw [f_X2_pass_2_89, if_pos c1, if_neg c2, if_neg c3, if_neg c7, if_neg c9]] at k89
              exact k89 H locs ls hw (lv_sub hl [2, 3, 0] rfl)
      · refine lv_aload hx hb dX2_pass_122 (lv_at hl 0 rfl) ?_
        refine lv_iconst (v := 5) hx hb dX2_pass_124 (by decide) ?_
        refine lv_dup2_11 hx hb dX2_pass_125 rfl rfl ?_
        refine r_ld (f := (q89 i89)) (k := 5) hc hw (4 + (w + (b + i89))) (s_P (show i89 < n by omega)) (by unfold vp_in; decide) (by decide) dX2_pass_126 ?_
        refine lv_iconst (v := 1) hx hb dX2_pass_127 (by decide) ?_
        refine lv_iadd hx hb dX2_pass_128 ?_
        refine r_st (f := (q89 i89)) (k := 5) hc hw (4 + (w + (b + i89))) (s_P (show i89 < n by omega)) (by unfold vp_in; decide) (by decide) (w' := (ws_s Z cI cL w b n dy bo ea Wr Br (ur q89 i89 5 ((q89 i89 5) + (1 : Int32))) [(q1, .inl (cZ, n, .inl et))])) (su_P (show i89 < n by omega)) dX2_pass_129 (fun H locs hw => ?_)
        refine lv_aload hx hb dX2_pass_130 (lv_at hl 0 rfl) ?_
        refine lv_iconst (v := 0) hx hb dX2_pass_132 (by decide) ?_
        refine lv_dup2_11 hx hb dX2_pass_133 rfl rfl ?_
        refine r_ld (f := ((ur q89 i89 5 ((q89 i89 5) + (1 : Int32))) i89)) (k := 0) hc hw (4 + (w + (b + i89))) (s_P (show i89 < n by omega)) (by unfold vp_in; decide) (by decide) dX2_pass_134 ?_
        refine lv_aload_n hx hb dX2_pass_135 rfl (lv_at hl 2 rfl) ?_
        refine lv_iload_n hx hb dX2_pass_136 rfl (lv_at hl 3 rfl) ?_
        refine z_ld (f := et) (k := i89) hc hw (4 + (w + (b + (n + 0)))) (s_E.trans rfl) (vp_in_nI (show i89 < n by omega) (by omega)) (nI_clamp (show i89 < 2 ^ 31 by omega)) dX2_pass_137 ?_
        refine lv_if_eq (tgt := 160) hx hb dX2_pass_138 (by decide) (fun _ => ?_) (fun z => absurd c2 z)
        refine lv_iconst (v := 1) hx hb dX2_pass_160 (by decide) ?_
        refine lv_iadd hx hb dX2_pass_161 ?_
        refine r_st (f := ((ur q89 i89 5 ((q89 i89 5) + (1 : Int32))) i89)) (k := 0) hc hw (4 + (w + (b + i89))) (s_P (show i89 < n by omega)) (by unfold vp_in; decide) (by decide) (w' := (ws_s Z cI cL w b n dy bo ea Wr Br (ur (ur q89 i89 5 ((q89 i89 5) + (1 : Int32))) i89 0 (((ur q89 i89 5 ((q89 i89 5) + (1 : Int32))) i89 0) + (1 : Int32))) [(q1, .inl (cZ, n, .inl et))])) (su_P (show i89 < n by omega)) dX2_pass_162 (fun H locs hw => ?_)
        refine lv_aload hx hb dX2_pass_163 (lv_at hl 0 rfl) ?_
        refine lv_iconst (v := 0) hx hb dX2_pass_165 (by decide) ?_
        refine r_ld (f := ((ur (ur q89 i89 5 ((q89 i89 5) + (1 : Int32))) i89 0 (((ur q89 i89 5 ((q89 i89 5) + (1 : Int32))) i89 0) + (1 : Int32))) i89)) (k := 0) hc hw (4 + (w + (b + i89))) (s_P (show i89 < n by omega)) (by unfold vp_in; decide) (by decide) dX2_pass_166 ?_
        refine lv_bipush (v := 10) hx hb dX2_pass_167 (by decide) ?_
        refine lv_icmp_le (tgt := 178) hx hb dX2_pass_169 (by decide) (fun c10 => ?_) (fun c10 => ?_)
        · refine lv_aload hx hb dX2_pass_178 (lv_at hl 0 rfl) ?_
          refine lv_iconst (v := 0) hx hb dX2_pass_180 (by decide) ?_
          refine r_ld (f := ((ur (ur q89 i89 5 ((q89 i89 5) + (1 : Int32))) i89 0 (((ur q89 i89 5 ((q89 i89 5) + (1 : Int32))) i89 0) + (1 : Int32))) i89)) (k := 0) hc hw (4 + (w + (b + i89))) (s_P (show i89 < n by omega)) (by unfold vp_in; decide) (by decide) dX2_pass_181 ?_
          refine lv_if_ge (tgt := 190) hx hb dX2_pass_182 (by decide) (fun c11 => ?_) (fun c11 => ?_)
          · refine lv_iinc (v := (nI (i89 + 1))) (lv' := [(3, .int (nI (i89 + 1))), (4, .ref (zp Z i89)), (0, .ref (zh Z)), (2, .ref q1)]) hx hb dX2_pass_190 hl (k := 3) rfl (inc_n i89) (by decide) rfl (fun ls hl => ?_)
            refine lv_goto (tgt := 89) hx hb dX2_pass_193 (by decide) ?_
            rw [show (f_X2_pass_2_89 w b n dy bo ea Wr Br Pr et) i89 q89 = ((ur (ur q89 i89 5 ((q89 i89 5) + (1 : Int32))) i89 0 (((ur q89 i89 5 ((q89 i89 5) + (1 : Int32))) i89 0) + (1 : Int32)))) from by rw [f_X2_pass_2_89, if_pos c1, if_pos c2, if_pos c10, if_pos c11]] at k89
            exact k89 H locs ls hw (lv_sub hl [2, 3, 0] rfl)
          · refine lv_aload hx hb dX2_pass_185 (lv_at hl 0 rfl) ?_
            refine lv_iconst (v := 0) hx hb dX2_pass_187 (by decide) ?_
            refine lv_iconst (v := 0) hx hb dX2_pass_188 (by decide) ?_
            refine r_st (f := ((ur (ur q89 i89 5 ((q89 i89 5) + (1 : Int32))) i89 0 (((ur q89 i89 5 ((q89 i89 5) + (1 : Int32))) i89 0) + (1 : Int32))) i89)) (k := 0) hc hw (4 + (w + (b + i89))) (s_P (show i89 < n by omega)) (by unfold vp_in; decide) (by decide) (w' := (ws_s Z cI cL w b n dy bo ea Wr Br (ur (ur (ur q89 i89 5 ((q89 i89 5) + (1 : Int32))) i89 0 (((ur q89 i89 5 ((q89 i89 5) + (1 : Int32))) i89 0) + (1 : Int32))) i89 0 (0 : Int32)) [(q1, .inl (cZ, n, .inl et))])) (su_P (show i89 < n by omega)) dX2_pass_189 (fun H locs hw => ?_)
            refine lv_iinc (v := (nI (i89 + 1))) (lv' := [(3, .int (nI (i89 + 1))), (4, .ref (zp Z i89)), (0, .ref (zh Z)), (2, .ref q1)]) hx hb dX2_pass_190 hl (k := 3) rfl (inc_n i89) (by decide) rfl (fun ls hl => ?_)
            refine lv_goto (tgt := 89) hx hb dX2_pass_193 (by decide) ?_
            rw [show (f_X2_pass_2_89 w b n dy bo ea Wr Br Pr et) i89 q89 = ((ur (ur (ur q89 i89 5 ((q89 i89 5) + (1 : Int32))) i89 0 (((ur q89 i89 5 ((q89 i89 5) + (1 : Int32))) i89 0) + (1 : Int32))) i89 0 (0 : Int32))) from by rw [f_X2_pass_2_89, if_pos c1, if_pos c2, if_pos c10, if_neg c11]] at k89
            exact k89 H locs ls hw (lv_sub hl [2, 3, 0] rfl)
        · refine lv_aload hx hb dX2_pass_172 (lv_at hl 0 rfl) ?_
          refine lv_iconst (v := 0) hx hb dX2_pass_174 (by decide) ?_
          refine lv_bipush (v := 10) hx hb dX2_pass_175 (by decide) ?_
          refine r_st (f := ((ur (ur q89 i89 5 ((q89 i89 5) + (1 : Int32))) i89 0 (((ur q89 i89 5 ((q89 i89 5) + (1 : Int32))) i89 0) + (1 : Int32))) i89)) (k := 0) hc hw (4 + (w + (b + i89))) (s_P (show i89 < n by omega)) (by unfold vp_in; decide) (by decide) (w' := (ws_s Z cI cL w b n dy bo ea Wr Br (ur (ur (ur q89 i89 5 ((q89 i89 5) + (1 : Int32))) i89 0 (((ur q89 i89 5 ((q89 i89 5) + (1 : Int32))) i89 0) + (1 : Int32))) i89 0 (10 : Int32)) [(q1, .inl (cZ, n, .inl et))])) (su_P (show i89 < n by omega)) dX2_pass_177 (fun H locs hw => ?_)
          refine lv_aload hx hb dX2_pass_178 (lv_at hl 0 rfl) ?_
          refine lv_iconst (v := 0) hx hb dX2_pass_180 (by decide) ?_
          refine r_ld (f := ((ur (ur (ur q89 i89 5 ((q89 i89 5) + (1 : Int32))) i89 0 (((ur q89 i89 5 ((q89 i89 5) + (1 : Int32))) i89 0) + (1 : Int32))) i89 0 (10 : Int32)) i89)) (k := 0) hc hw (4 + (w + (b + i89))) (s_P (show i89 < n by omega)) (by unfold vp_in; decide) (by decide) dX2_pass_181 ?_
          refine lv_if_ge (tgt := 190) hx hb dX2_pass_182 (by decide) (fun c12 => ?_) (fun c12 => ?_)
          · refine lv_iinc (v := (nI (i89 + 1))) (lv' := [(3, .int (nI (i89 + 1))), (4, .ref (zp Z i89)), (0, .ref (zh Z)), (2, .ref q1)]) hx hb dX2_pass_190 hl (k := 3) rfl (inc_n i89) (by decide) rfl (fun ls hl => ?_)
            refine lv_goto (tgt := 89) hx hb dX2_pass_193 (by decide) ?_
            rw [show (f_X2_pass_2_89 w b n dy bo ea Wr Br Pr et) i89 q89 = ((ur (ur (ur q89 i89 5 ((q89 i89 5) + (1 : Int32))) i89 0 (((ur q89 i89 5 ((q89 i89 5) + (1 : Int32))) i89 0) + (1 : Int32))) i89 0 (10 : Int32))) from by rw [f_X2_pass_2_89, if_pos c1, if_pos c2, if_neg c10, if_pos c12]] at k89
            exact k89 H locs ls hw (lv_sub hl [2, 3, 0] rfl)
          · refine lv_aload hx hb dX2_pass_185 (lv_at hl 0 rfl) ?_
            refine lv_iconst (v := 0) hx hb dX2_pass_187 (by decide) ?_
            refine lv_iconst (v := 0) hx hb dX2_pass_188 (by decide) ?_
            refine r_st (f := ((ur (ur (ur q89 i89 5 ((q89 i89 5) + (1 : Int32))) i89 0 (((ur q89 i89 5 ((q89 i89 5) + (1 : Int32))) i89 0) + (1 : Int32))) i89 0 (10 : Int32)) i89)) (k := 0) hc hw (4 + (w + (b + i89))) (s_P (show i89 < n by omega)) (by unfold vp_in; decide) (by decide) (w' := (ws_s Z cI cL w b n dy bo ea Wr Br (ur (ur (ur (ur q89 i89 5 ((q89 i89 5) + (1 : Int32))) i89 0 (((ur q89 i89 5 ((q89 i89 5) + (1 : Int32))) i89 0) + (1 : Int32))) i89 0 (10 : Int32)) i89 0 (0 : Int32)) [(q1, .inl (cZ, n, .inl et))])) (su_P (show i89 < n by omega)) dX2_pass_189 (fun H locs hw => ?_)
            refine lv_iinc (v := (nI (i89 + 1))) (lv' := [(3, .int (nI (i89 + 1))), (4, .ref (zp Z i89)), (0, .ref (zh Z)), (2, .ref q1)]) hx hb dX2_pass_190 hl (k := 3) rfl (inc_n i89) (by decide) rfl (fun ls hl => ?_)
            refine lv_goto (tgt := 89) hx hb dX2_pass_193 (by decide) ?_
            rw [show (f_X2_pass_2_89 w b n dy bo ea Wr Br Pr et) i89 q89 = ((ur (ur (ur (ur q89 i89 5 ((q89 i89 5) + (1 : Int32))) i89 0 (((ur q89 i89 5 ((q89 i89 5) + (1 : Int32))) i89 0) + (1 : Int32))) i89 0 (10 : Int32)) i89 0 (0 : Int32))) from by rw [f_X2_pass_2_89, if_pos c1, if_pos c2, if_neg c10, if_neg c12]] at k89
            exact k89 H locs ls hw (lv_sub hl [2, 3, 0] rfl)
    · refine lv_goto (tgt := 190) hx hb dX2_pass_113 (by decide) ?_
      refine lv_iinc (v := (nI (i89 + 1))) (lv' := [(3, .int (nI (i89 + 1))), (4, .ref (zp Z i89)), (0, .ref (zh Z)), (2, .ref q1)]) hx hb dX2_pass_190 hl (k := 3) rfl (inc_n i89) (by decide) rfl (fun ls hl => ?_)
      refine lv_goto (tgt := 89) hx hb dX2_pass_193 (by decide) ?_
      rw [show (f_X2_pass_2_89 w b n dy bo ea Wr Br Pr et) i89 q89 = (q89) from by rw [f_X2_pass_2_89, if_neg c1]] at k89
      exact k89 H locs ls hw (lv_sub hl [2, 3, 0] rfl)
  · intro hI H locs ls hw hl
    refine lv_iload_n hx hb dX2_pass_89 rfl (lv_at hl 2 rfl) ?_
    refine lv_aload_n hx hb dX2_pass_90 rfl (lv_at hl 0 rfl) ?_
    refine g_get (v := .ref (zy Z 5)) hc hw hi2 (0) 5 s_H rfl (by decide) (List.mem_of_getElem? (i := 2) rfl) sv_5 dX2_pass_91 ?_
    refine va_alen (v := nI n) hx hb hK.1 hw.1 (3) 2 s_Y5 rfl rfl dX2_pass_94 ?_
    refine lv_icmp_ge (tgt := 196) hx hb dX2_pass_95 (by decide) (fun _ => ?_) (fun z => absurd (nI_le (Nat.le_refl _) (by omega)) z)
    exact k196 H locs ls hw (lv_sub hl [0] rfl)
