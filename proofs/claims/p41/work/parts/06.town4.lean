def f_X0_countFeverish_4 (w : Nat) (b : Nat) (n : Nat) (T : ct_T) (x1 : Int32) (i4 : Nat) (q4 : Int32) : Int32 := if (r_X0_isAt w b n T (nI i4) (0 : Int32) x1) = (0 : Int32) then (q4) else (if ((ct_fe T) (nI i4).toNatClampNeg) ≤ (0 : Int32) then (q4) else ((q4 + 1)))
def r_X0_countFeverish (w : Nat) (b : Nat) (n : Nat) (T : ct_T) (x1 : Int32) : Int32 := (lpf (f_X0_countFeverish_4 w b n T x1) n 0 ((0 : Int32)))
abbrev rm_X0_countFeverish : Room := { frames := 1, cells := 0, slots := 0, locals := 23 }
set_option maxHeartbeats 4000000 in
set_option maxRecDepth 100000 in
theorem k_X0_countFeverish (l : Launch) (D : va_G) (cI cZ cL : ClassId) (a : Nat → Nat) (w : Nat) (b : Nat) (n : Nat) (T : ct_T) (hd5 : w ≤ 5) (hd4 : b ≤ 4) (hd30 : n ≤ 30) (x1 : Int32)  : MX l yX0_countFeverish wsX0_countFeverish rm_X0_countFeverish D cI cZ cL [.ref (a 0), .int x1] (wt_c a cI cZ w b n T) (some (.int (r_X0_countFeverish w b n T x1))) (wt_c a cI cZ w b n T) := by
  refine MX.of (own := RX0) (cc := cX0_countFeverish) (maxL := 4) (ret := (some .int)) (lv0 := [(0, .ref (a 0)), (1, .int x1)]) (by decide) rfl rfl (Nat.le_of_ble_eq_true rfl) rfl ?_
  intro p e s m args below meth c A hc hnm hw ls hl
  obtain ⟨hx, hb, hr, hml, hown, hts, hlk, hK, hA⟩ := id hc
  have hiX0 : ∀ w ∈ u_ws RX0 TX0 16, w ∈ wsX0_countFeverish := fun _ h => List.mem_cons_of_mem _ (List.mem_append_right _ h)
  refine lv_iconst (v := 0) hx hb dX0_countFeverish_0 (by decide) ?_
  refine lv_istore_n (lv' := [(2, .int (0 : Int32)), (0, .ref (a 0)), (1, .int x1)]) hx hb dX0_countFeverish_1 rfl hl (by decide) rfl (fun ls hl => ?_)
  refine lv_iconst (v := 0) hx hb dX0_countFeverish_2 (by decide) ?_
  refine lv_istore_n (lv' := [(3, .int (0 : Int32)), (2, .int (0 : Int32)), (0, .ref (a 0)), (1, .int x1)]) hx hb dX0_countFeverish_3 rfl hl (by decide) rfl (fun ls hl => ?_)
  refine lp_go (fun (i4 : Nat) (q4 : Int32) => ∀ (H : Heap) (locs : List Loc) (ls : Array Slot), Wo D A s.heap (wt_c a cI cZ w b n T) H locs → lv_has ls 4 [(0, .ref (a 0)), (1, .int x1), (2, .int q4), (3, .int (nI i4))] → W p l e rm_X0_countFeverish s m args below meth c H locs 0 0 (QE below args s D A (some (.int (r_X0_countFeverish w b n T x1))) (wt_c a cI cZ w b n T) rm_X0_countFeverish) (F0 m 4 ls [])) (f_X0_countFeverish_4 w b n T x1) n ((0 : Int32)) ?_ ?_ s.heap [] ls hw (lv_sub hl [2, 3, 1, 0] rfl)
  · intro i4 q4 hi4 k4 H locs ls hw hl
    refine lv_iload_n hx hb dX0_countFeverish_4 rfl (lv_at hl 3 rfl) ?_
    refine lv_aload_n hx hb dX0_countFeverish_5 rfl (lv_at hl 0 rfl) ?_
    refine g_get (v := .int (nI n)) hc hw hiX0 0 9 (wo_X0_T ..) rfl (by decide) (List.mem_of_getElem? (i := 1) rfl) (wv_X0_T_9 ..) dX0_countFeverish_6 ?_
    refine lv_icmp_ge (tgt := 40) hx hb dX0_countFeverish_9 (by decide) (fun z => absurd z (nI_ge hi4 (by omega))) (fun _ => ?_)
    refine lv_aload_n hx hb dX0_countFeverish_12 rfl (lv_at hl 0 rfl) ?_
    refine lv_iload_n hx hb dX0_countFeverish_13 rfl (lv_at hl 3 rfl) ?_
    refine lv_iconst (v := 0) hx hb dX0_countFeverish_14 (by decide) ?_
    refine lv_iload_n hx hb dX0_countFeverish_15 rfl (lv_at hl 1 rfl) ?_
    refine g_callV0 (n := 3) hc hw (k_X0_isAt l D cI cZ cL a w b n T hd5 hd4 hd30 (nI i4) (0 : Int32) x1 (vp_in_nI (show i4 < 30 by omega) (by omega))) gX0_countFeverish_X0_isAt rfl (by decide +kernel) ⟨Nat.le_of_ble_eq_true rfl, Nat.le_of_ble_eq_true rfl⟩ 0 (wo_X0_T ..) rfl rfl rfl (rest := []) rfl hl.1 (Nat.le_of_ble_eq_true rfl) (st1 := [.int (r_X0_isAt w b n T (nI i4) (0 : Int32) x1)]) rfl dX0_countFeverish_16 (k2 := 0) (s2 := 0) rfl rfl ⟨Nat.le_of_ble_eq_true rfl, Nat.le_of_ble_eq_true rfl⟩ (fun H locs hw => ?_)
    refine lv_if_eq (tgt := 34) hx hb dX0_countFeverish_19 (by decide) (fun c1 => ?_) (fun c1 => ?_)
    · refine lv_iinc (v := (nI (i4 + 1))) (lv' := [(3, .int (nI (i4 + 1))), (0, .ref (a 0)), (1, .int x1), (2, .int q4)]) hx hb dX0_countFeverish_34 hl (k := 3) rfl (inc_n i4) (by decide) rfl (fun ls hl => ?_)
      refine lv_goto (tgt := 4) hx hb dX0_countFeverish_37 (by decide) ?_
      rw [show (f_X0_countFeverish_4 w b n T x1) i4 q4 = (q4) from by rw [f_X0_countFeverish_4, if_pos c1]] at k4
      exact k4 H locs ls hw (lv_sub hl [1, 2, 3, 0] rfl)
    · refine lv_aload_n hx hb dX0_countFeverish_22 rfl (lv_at hl 0 rfl) ?_
      refine g_get (v := .ref (a 10)) hc hw hiX0 0 10 (wo_X0_T ..) rfl (by decide) (List.mem_of_getElem? (i := 2) rfl) (wv_X0_T_10 ..) dX0_countFeverish_23 ?_
      refine lv_iload_n hx hb dX0_countFeverish_26 rfl (lv_at hl 3 rfl) ?_
      refine g_iald (f := (ct_fe T)) hc hw 5 (wr_X0_T_10 ..) (vp_in_nI (show i4 < 30 by omega) (by omega)) dX0_countFeverish_27 ?_
      refine lv_if_le (tgt := 34) hx hb dX0_countFeverish_28 (by decide) (fun c2 => ?_) (fun c2 => ?_)
      · refine lv_iinc (v := (nI (i4 + 1))) (lv' := [(3, .int (nI (i4 + 1))), (0, .ref (a 0)), (1, .int x1), (2, .int q4)]) hx hb dX0_countFeverish_34 hl (k := 3) rfl (inc_n i4) (by decide) rfl (fun ls hl => ?_)
        refine lv_goto (tgt := 4) hx hb dX0_countFeverish_37 (by decide) ?_
        rw [show (f_X0_countFeverish_4 w b n T x1) i4 q4 = (q4) from by rw [f_X0_countFeverish_4, if_neg c1, if_pos c2]] at k4
        exact k4 H locs ls hw (lv_sub hl [1, 2, 3, 0] rfl)
      · refine lv_iinc (v := (q4 + 1)) (lv' := [(2, .int (q4 + 1)), (0, .ref (a 0)), (1, .int x1), (3, .int (nI i4))]) hx hb dX0_countFeverish_31 hl (k := 2) rfl (inc_1 _) (by decide) rfl (fun ls hl => ?_)
        refine lv_iinc (v := (nI (i4 + 1))) (lv' := [(3, .int (nI (i4 + 1))), (2, .int (q4 + 1)), (0, .ref (a 0)), (1, .int x1)]) hx hb dX0_countFeverish_34 hl (k := 3) rfl (inc_n i4) (by decide) rfl (fun ls hl => ?_)
        refine lv_goto (tgt := 4) hx hb dX0_countFeverish_37 (by decide) ?_
        rw [show (f_X0_countFeverish_4 w b n T x1) i4 q4 = ((q4 + 1)) from by rw [f_X0_countFeverish_4, if_neg c1, if_neg c2]] at k4
        exact k4 H locs ls hw (lv_sub hl [2, 3, 1, 0] rfl)
  · intro H locs ls hw hl
    refine lv_iload_n hx hb dX0_countFeverish_4 rfl (lv_at hl 3 rfl) ?_
    refine lv_aload_n hx hb dX0_countFeverish_5 rfl (lv_at hl 0 rfl) ?_
    refine g_get (v := .int (nI n)) hc hw hiX0 0 9 (wo_X0_T ..) rfl (by decide) (List.mem_of_getElem? (i := 1) rfl) (wv_X0_T_9 ..) dX0_countFeverish_6 ?_
    refine lv_icmp_ge (tgt := 40) hx hb dX0_countFeverish_9 (by decide) (fun _ => ?_) (fun z => absurd (nI_le (Nat.le_refl _) (by omega)) z)
    refine lv_iload_n hx hb dX0_countFeverish_40 rfl (lv_at hl 2 rfl) ?_
    rw [show r_X0_countFeverish w b n T x1 = (lpf (f_X0_countFeverish_4 w b n T x1) n 0 ((0 : Int32))) from by rw [r_X0_countFeverish]]
    exact g_ret hc hw rfl (Nat.le_of_ble_eq_true rfl) (Nat.le_of_ble_eq_true rfl) dX0_countFeverish_41

def f_X0_spreadFever_8 (w : Nat) (b : Nat) (n : Nat) (T : ct_T) (x1 : Int32) (i8 : Nat) (q8 : ct_T) : ct_T := if (r_X0_isAt w b n q8 (nI i8) (0 : Int32) x1) = (0 : Int32) then (q8) else (if (if ((ct_fe q8) (nI i8).toNatClampNeg) ≤ (0 : Int32) then (r_X0_countFeverish w b n T x1) else ((r_X0_countFeverish w b n T x1) - (1 : Int32))) ≤ (0 : Int32) then (q8) else ((s_X0_raiseFever w b n q8 (nI i8))))
def s_X0_spreadFever (w : Nat) (b : Nat) (n : Nat) (T : ct_T) (x1 : Int32) : ct_T := (lpf (f_X0_spreadFever_8 w b n T x1) n 0 (T))
abbrev rm_X0_spreadFever : Room := { frames := 2, cells := 0, slots := 0, locals := 46 }
set_option maxHeartbeats 4000000 in
set_option maxRecDepth 100000 in
theorem k_X0_spreadFever (l : Launch) (D : va_G) (cI cZ cL : ClassId) (a : Nat → Nat) (w : Nat) (b : Nat) (n : Nat) (T : ct_T) (hd5 : w ≤ 5) (hd4 : b ≤ 4) (hd30 : n ≤ 30) (x1 : Int32)  : MX l yX0_spreadFever wsX0_spreadFever rm_X0_spreadFever D cI cZ cL [.ref (a 0), .int x1] (wt_c a cI cZ w b n T) none (wt_c a cI cZ w b n (s_X0_spreadFever w b n T x1)) := by
  refine MX.of (own := RX0) (cc := cX0_spreadFever) (maxL := 5) (ret := none) (lv0 := [(0, .ref (a 0)), (1, .int x1)]) (by decide) rfl rfl (Nat.le_of_ble_eq_true rfl) rfl ?_
  intro p e s m args below meth c A hc hnm hw ls hl
  obtain ⟨hx, hb, hr, hml, hown, hts, hlk, hK, hA⟩ := id hc
  have hiX0 : ∀ w ∈ u_ws RX0 TX0 16, w ∈ wsX0_spreadFever := fun _ h => List.mem_cons_of_mem _ (List.mem_append_right _ h)
  refine lv_aload_n hx hb dX0_spreadFever_0 rfl (lv_at hl 0 rfl) ?_
  refine lv_iload_n hx hb dX0_spreadFever_1 rfl (lv_at hl 1 rfl) ?_
  refine g_callV0 (n := 1) hc hw (k_X0_countFeverish l D cI cZ cL a w b n T hd5 hd4 hd30 x1) gX0_spreadFever_X0_countFeverish rfl (by decide +kernel) ⟨Nat.le_of_ble_eq_true rfl, Nat.le_of_ble_eq_true rfl⟩ 0 (wo_X0_T ..) rfl rfl rfl (rest := []) rfl hl.1 (Nat.le_of_ble_eq_true rfl) (st1 := [.int (r_X0_countFeverish w b n T x1)]) rfl dX0_spreadFever_2 (k2 := 0) (s2 := 0) rfl rfl ⟨Nat.le_of_ble_eq_true rfl, Nat.le_of_ble_eq_true rfl⟩ (fun H locs hw => ?_)
  refine lv_istore_n (lv' := [(2, .int (r_X0_countFeverish w b n T x1)), (0, .ref (a 0)), (1, .int x1)]) hx hb dX0_spreadFever_5 rfl hl (by decide) rfl (fun ls hl => ?_)
  refine lv_iconst (v := 0) hx hb dX0_spreadFever_6 (by decide) ?_
  refine lv_istore_n (lv' := [(3, .int (0 : Int32)), (2, .int (r_X0_countFeverish w b n T x1)), (0, .ref (a 0)), (1, .int x1)]) hx hb dX0_spreadFever_7 rfl hl (by decide) rfl (fun ls hl => ?_)
  refine lp_go (fun (i8 : Nat) (q8 : ct_T) => ∀ (H : Heap) (locs : List Loc) (ls : Array Slot), Wo D A s.heap (wt_c a cI cZ w b n q8) H locs → lv_has ls 5 [(0, .ref (a 0)), (1, .int x1), (2, .int (r_X0_countFeverish w b n T x1)), (3, .int (nI i8))] → W p l e rm_X0_spreadFever s m args below meth c H locs 0 0 (QE below args s D A none (wt_c a cI cZ w b n (s_X0_spreadFever w b n T x1)) rm_X0_spreadFever) (F0 m 8 ls [])) (f_X0_spreadFever_8 w b n T x1) n (T) ?_ ?_ H locs ls hw (lv_sub hl [2, 3, 1, 0] rfl)
  · intro i8 q8 hi8 k8 H locs ls hw hl
    refine lv_iload_n hx hb dX0_spreadFever_8 rfl (lv_at hl 3 rfl) ?_
    refine lv_aload_n hx hb dX0_spreadFever_9 rfl (lv_at hl 0 rfl) ?_
    refine g_get (v := .int (nI n)) hc hw hiX0 0 9 (wo_X0_T ..) rfl (by decide) (List.mem_of_getElem? (i := 1) rfl) (wv_X0_T_9 ..) dX0_spreadFever_10 ?_
    refine lv_icmp_ge (tgt := 63) hx hb dX0_spreadFever_13 (by decide) (fun z => absurd z (nI_ge hi8 (by omega))) (fun _ => ?_)
    refine lv_aload_n hx hb dX0_spreadFever_16 rfl (lv_at hl 0 rfl) ?_
    refine lv_iload_n hx hb dX0_spreadFever_17 rfl (lv_at hl 3 rfl) ?_
    refine lv_iconst (v := 0) hx hb dX0_spreadFever_18 (by decide) ?_
    refine lv_iload_n hx hb dX0_spreadFever_19 rfl (lv_at hl 1 rfl) ?_
    refine g_callV0 (n := 3) hc hw (k_X0_isAt l D cI cZ cL a w b n q8 hd5 hd4 hd30 (nI i8) (0 : Int32) x1 (vp_in_nI (show i8 < 30 by omega) (by omega))) gX0_spreadFever_X0_isAt rfl (by decide +kernel) ⟨Nat.le_of_ble_eq_true rfl, Nat.le_of_ble_eq_true rfl⟩ 0 (wo_X0_T ..) rfl rfl rfl (rest := []) rfl hl.1 (Nat.le_of_ble_eq_true rfl) (st1 := [.int (r_X0_isAt w b n q8 (nI i8) (0 : Int32) x1)]) rfl dX0_spreadFever_20 (k2 := 0) (s2 := 0) rfl rfl ⟨Nat.le_of_ble_eq_true rfl, Nat.le_of_ble_eq_true rfl⟩ (fun H locs hw => ?_)
    refine lv_if_ne (tgt := 29) hx hb dX0_spreadFever_23 (by decide) (fun c1 => ?_) (fun c1 => ?_)
    · refine lv_aload_n hx hb dX0_spreadFever_29 rfl (lv_at hl 0 rfl) ?_
      refine g_get (v := .ref (a 10)) hc hw hiX0 0 10 (wo_X0_T ..) rfl (by decide) (List.mem_of_getElem? (i := 2) rfl) (wv_X0_T_10 ..) dX0_spreadFever_30 ?_
      refine lv_iload_n hx hb dX0_spreadFever_33 rfl (lv_at hl 3 rfl) ?_
      refine g_iald (f := (ct_fe q8)) hc hw 5 (wr_X0_T_10 ..) (vp_in_nI (show i8 < 30 by omega) (by omega)) dX0_spreadFever_34 ?_
      have J3 : ∀ vJ3 : Int32, vJ3 = (if ((ct_fe q8) (nI i8).toNatClampNeg) ≤ (0 : Int32) then (r_X0_countFeverish w b n T x1) else ((r_X0_countFeverish w b n T x1) - (1 : Int32))) → W p l e rm_X0_spreadFever s m args below meth c H locs 0 0 (QE below args s D A none (wt_c a cI cZ w b n (s_X0_spreadFever w b n T x1)) rm_X0_spreadFever) (F0 m 45 ls [.int vJ3]) := by
        intro vJ3 hvJ3
        subst hvJ3
        refine lv_istore (lv' := [(4, .int (if ((ct_fe q8) (nI i8).toNatClampNeg) ≤ (0 : Int32) then (r_X0_countFeverish w b n T x1) else ((r_X0_countFeverish w b n T x1) - (1 : Int32)))), (0, .ref (a 0)), (1, .int x1), (2, .int (r_X0_countFeverish w b n T x1)), (3, .int (nI i8))]) hx hb dX0_spreadFever_45 hl (by decide) rfl (fun ls hl => ?_)
        refine lv_iload hx hb dX0_spreadFever_47 (lv_at hl 0 rfl) ?_
        refine lv_if_le (tgt := 57) hx hb dX0_spreadFever_49 (by decide) (fun c4 => ?_) (fun c4 => ?_)
        · refine lv_iinc (v := (nI (i8 + 1))) (lv' := [(3, .int (nI (i8 + 1))), (4, .int (if ((ct_fe q8) (nI i8).toNatClampNeg) ≤ (0 : Int32) then (r_X0_countFeverish w b n T x1) else ((r_X0_countFeverish w b n T x1) - (1 : Int32)))), (0, .ref (a 0)), (1, .int x1), (2, .int (r_X0_countFeverish w b n T x1))]) hx hb dX0_spreadFever_57 hl (k := 4) rfl (inc_n i8) (by decide) rfl (fun ls hl => ?_)
          refine lv_goto (tgt := 8) hx hb dX0_spreadFever_60 (by decide) ?_
          rw [show (f_X0_spreadFever_8 w b n T x1) i8 q8 = (q8) from by rw [f_X0_spreadFever_8, if_neg c1, if_pos c4]] at k8
          exact k8 H locs ls hw (lv_sub hl [2, 3, 4, 0] rfl)
        · refine lv_aload_n hx hb dX0_spreadFever_52 rfl (lv_at hl 1 rfl) ?_
          refine lv_iload_n hx hb dX0_spreadFever_53 rfl (lv_at hl 4 rfl) ?_
          refine g_callV0 (n := 1) hc hw (k_X0_raiseFever l D cI cZ cL a w b n q8 hd5 hd4 hd30 (nI i8) (vp_in_nI (show i8 < 30 by omega) (by omega))) gX0_spreadFever_X0_raiseFever rfl (by decide +kernel) ⟨Nat.le_of_ble_eq_true rfl, Nat.le_of_ble_eq_true rfl⟩ 0 (wo_X0_T ..) rfl rfl rfl (rest := []) rfl hl.1 (Nat.le_of_ble_eq_true rfl) (st1 := []) rfl dX0_spreadFever_54 (k2 := 0) (s2 := 0) rfl rfl ⟨Nat.le_of_ble_eq_true rfl, Nat.le_of_ble_eq_true rfl⟩ (fun H locs hw => ?_)
          refine lv_iinc (v := (nI (i8 + 1))) (lv' := [(3, .int (nI (i8 + 1))), (4, .int (if ((ct_fe q8) (nI i8).toNatClampNeg) ≤ (0 : Int32) then (r_X0_countFeverish w b n T x1) else ((r_X0_countFeverish w b n T x1) - (1 : Int32)))), (0, .ref (a 0)), (1, .int x1), (2, .int (r_X0_countFeverish w b n T x1))]) hx hb dX0_spreadFever_57 hl (k := 4) rfl (inc_n i8) (by decide) rfl (fun ls hl => ?_)
          refine lv_goto (tgt := 8) hx hb dX0_spreadFever_60 (by decide) ?_
          rw [show (f_X0_spreadFever_8 w b n T x1) i8 q8 = ((s_X0_raiseFever w b n q8 (nI i8))) from by rw [f_X0_spreadFever_8, if_neg c1, if_neg c4]] at k8
          exact k8 H locs ls hw (lv_sub hl [2, 3, 4, 0] rfl)
      refine lv_if_le (tgt := 44) hx hb dX0_spreadFever_35 (by decide) (fun c2 => ?_) (fun c2 => ?_)
      · refine lv_iload_n hx hb dX0_spreadFever_44 rfl (lv_at hl 2 rfl) ?_
        exact J3 _ (by rw [if_pos c2])
      · refine lv_iload_n hx hb dX0_spreadFever_38 rfl (lv_at hl 2 rfl) ?_
        refine lv_iconst (v := 1) hx hb dX0_spreadFever_39 (by decide) ?_
        refine lv_isub hx hb dX0_spreadFever_40 ?_
        refine lv_goto (tgt := 45) hx hb dX0_spreadFever_41 (by decide) ?_
        exact J3 _ (by rw [if_neg c2])
    · refine lv_goto (tgt := 57) hx hb dX0_spreadFever_26 (by decide) ?_
      refine lv_iinc (v := (nI (i8 + 1))) (lv' := [(3, .int (nI (i8 + 1))), (0, .ref (a 0)), (1, .int x1), (2, .int (r_X0_countFeverish w b n T x1))]) hx hb dX0_spreadFever_57 hl (k := 3) rfl (inc_n i8) (by decide) rfl (fun ls hl => ?_)
      refine lv_goto (tgt := 8) hx hb dX0_spreadFever_60 (by decide) ?_
      rw [show (f_X0_spreadFever_8 w b n T x1) i8 q8 = (q8) from by rw [f_X0_spreadFever_8, if_pos c1]] at k8
      exact k8 H locs ls hw (lv_sub hl [1, 2, 3, 0] rfl)
  · intro H locs ls hw hl
    refine lv_iload_n hx hb dX0_spreadFever_8 rfl (lv_at hl 3 rfl) ?_
    refine lv_aload_n hx hb dX0_spreadFever_9 rfl (lv_at hl 0 rfl) ?_
    refine g_get (v := .int (nI n)) hc hw hiX0 0 9 (wo_X0_T ..) rfl (by decide) (List.mem_of_getElem? (i := 1) rfl) (wv_X0_T_9 ..) dX0_spreadFever_10 ?_
    refine lv_icmp_ge (tgt := 63) hx hb dX0_spreadFever_13 (by decide) (fun _ => ?_) (fun z => absurd (nI_le (Nat.le_refl _) (by omega)) z)
    rw [show s_X0_spreadFever w b n T x1 = (lpf (f_X0_spreadFever_8 w b n T x1) n 0 (T)) from by rw [s_X0_spreadFever]]
    exact g_vret hc hw rfl (Nat.le_of_ble_eq_true rfl) (Nat.le_of_ble_eq_true rfl) dX0_spreadFever_63

def f_X0_bringBargesNearer_2 (w : Nat) (b : Nat) (n : Nat) (T : ct_T) (i2 : Nat) (q2 : ct_T) : ct_T := if ((ct_to q2) (nI i2).toNatClampNeg) ≤ (0 : Int32) then (q2) else (if ((ct_to (cs_to q2 (upd (ct_to q2) (nI i2).toNatClampNeg (((ct_to q2) (nI i2).toNatClampNeg) - (1 : Int32))))) (nI i2).toNatClampNeg) ≤ (0 : Int32) then ((cs_to q2 (upd (ct_to q2) (nI i2).toNatClampNeg (((ct_to q2) (nI i2).toNatClampNeg) - (1 : Int32))))) else ((s_X0_spreadFever w b n (cs_to q2 (upd (ct_to q2) (nI i2).toNatClampNeg (((ct_to q2) (nI i2).toNatClampNeg) - (1 : Int32)))) (nI i2))))
def s_X0_bringBargesNearer (w : Nat) (b : Nat) (n : Nat) (T : ct_T) : ct_T := (lpf (f_X0_bringBargesNearer_2 w b n T) b 0 (T))
abbrev rm_X0_bringBargesNearer : Room := { frames := 3, cells := 0, slots := 0, locals := 70 }
set_option maxHeartbeats 4000000 in
set_option maxRecDepth 100000 in
theorem k_X0_bringBargesNearer (l : Launch) (D : va_G) (cI cZ cL : ClassId) (a : Nat → Nat) (w : Nat) (b : Nat) (n : Nat) (T : ct_T) (hd5 : w ≤ 5) (hd4 : b ≤ 4) (hd30 : n ≤ 30)   : MX l yX0_bringBargesNearer wsX0_bringBargesNearer rm_X0_bringBargesNearer D cI cZ cL [.ref (a 0)] (wt_c a cI cZ w b n T) none (wt_c a cI cZ w b n (s_X0_bringBargesNearer w b n T)) := by
  refine MX.of (own := RX0) (cc := cX0_bringBargesNearer) (maxL := 2) (ret := none) (lv0 := [(0, .ref (a 0))]) (by decide) rfl rfl (Nat.le_of_ble_eq_true rfl) rfl ?_
  intro p e s m args below meth c A hc hnm hw ls hl
  obtain ⟨hx, hb, hr, hml, hown, hts, hlk, hK, hA⟩ := id hc
  have hiX0 : ∀ w ∈ u_ws RX0 TX0 16, w ∈ wsX0_bringBargesNearer := fun _ h => List.mem_cons_of_mem _ (List.mem_append_right _ h)
  refine lv_iconst (v := 0) hx hb dX0_bringBargesNearer_0 (by decide) ?_
  refine lv_istore_n (lv' := [(1, .int (0 : Int32)), (0, .ref (a 0))]) hx hb dX0_bringBargesNearer_1 rfl hl (by decide) rfl (fun ls hl => ?_)
  refine lp_go (fun (i2 : Nat) (q2 : ct_T) => ∀ (H : Heap) (locs : List Loc) (ls : Array Slot), Wo D A s.heap (wt_c a cI cZ w b n q2) H locs → lv_has ls 2 [(0, .ref (a 0)), (1, .int (nI i2))] → W p l e rm_X0_bringBargesNearer s m args below meth c H locs 0 0 (QE below args s D A none (wt_c a cI cZ w b n (s_X0_bringBargesNearer w b n T)) rm_X0_bringBargesNearer) (F0 m 2 ls [])) (f_X0_bringBargesNearer_2 w b n T) b (T) ?_ ?_ s.heap [] ls hw (lv_sub hl [1, 0] rfl)
  · intro i2 q2 hi2 k2 H locs ls hw hl
    refine lv_iload_n hx hb dX0_bringBargesNearer_2 rfl (lv_at hl 1 rfl) ?_
    refine lv_aload_n hx hb dX0_bringBargesNearer_3 rfl (lv_at hl 0 rfl) ?_
    refine g_get (v := .int (nI b)) hc hw hiX0 0 6 (wo_X0_T ..) rfl (by decide) (List.mem_of_getElem? (i := 1) rfl) (wv_X0_T_6 ..) dX0_bringBargesNearer_4 ?_
    refine lv_icmp_ge (tgt := 49) hx hb dX0_bringBargesNearer_7 (by decide) (fun z => absurd z (nI_ge hi2 (by omega))) (fun _ => ?_)
    refine lv_aload_n hx hb dX0_bringBargesNearer_10 rfl (lv_at hl 0 rfl) ?_
    refine g_get (v := .ref (a 8)) hc hw hiX0 0 8 (wo_X0_T ..) rfl (by decide) (List.mem_of_getElem? (i := 2) rfl) (wv_X0_T_8 ..) dX0_bringBargesNearer_11 ?_
    refine lv_iload_n hx hb dX0_bringBargesNearer_14 rfl (lv_at hl 1 rfl) ?_
    refine g_iald (f := (ct_to q2)) hc hw 4 (wr_X0_T_8 ..) (vp_in_nI (show i2 < 4 by omega) (by omega)) dX0_bringBargesNearer_15 ?_
    refine lv_if_le (tgt := 43) hx hb dX0_bringBargesNearer_16 (by decide) (fun c1 => ?_) (fun c1 => ?_)
    · refine lv_iinc (v := (nI (i2 + 1))) (lv' := [(1, .int (nI (i2 + 1))), (0, .ref (a 0))]) hx hb dX0_bringBargesNearer_43 hl (k := 1) rfl (inc_n i2) (by decide) rfl (fun ls hl => ?_)
      refine lv_goto (tgt := 2) hx hb dX0_bringBargesNearer_46 (by decide) ?_
      rw [show (f_X0_bringBargesNearer_2 w b n T) i2 q2 = (q2) from by rw [f_X0_bringBargesNearer_2, if_pos c1]] at k2
      exact k2 H locs ls hw (lv_sub hl [1, 0] rfl)
    · refine lv_aload_n hx hb dX0_bringBargesNearer_19 rfl (lv_at hl 0 rfl) ?_
      refine g_get (v := .ref (a 8)) hc hw hiX0 0 8 (wo_X0_T ..) rfl (by decide) (List.mem_of_getElem? (i := 2) rfl) (wv_X0_T_8 ..) dX0_bringBargesNearer_20 ?_
      refine lv_iload_n hx hb dX0_bringBargesNearer_23 rfl (lv_at hl 1 rfl) ?_
      refine lv_dup2_11 hx hb dX0_bringBargesNearer_24 rfl rfl ?_
      refine g_iald (f := (ct_to q2)) hc hw 4 (wr_X0_T_8 ..) (vp_in_nI (show i2 < 4 by omega) (by omega)) dX0_bringBargesNearer_25 ?_
      refine lv_iconst (v := 1) hx hb dX0_bringBargesNearer_26 (by decide) ?_
      refine lv_isub hx hb dX0_bringBargesNearer_27 ?_
      refine g_iast (f := (ct_to q2)) hc hw 4 (wr_X0_T_8 ..) (vp_in_nI (show i2 < 4 by omega) (by omega)) (w' := (wt_c a cI cZ w b n (cs_to q2 (upd (ct_to q2) (nI i2).toNatClampNeg (((ct_to q2) (nI i2).toNatClampNeg) - (1 : Int32)))))) (wu_X0_T_8 ..) dX0_bringBargesNearer_28 (fun H locs hw => ?_)
      refine lv_aload_n hx hb dX0_bringBargesNearer_29 rfl (lv_at hl 0 rfl) ?_
      refine g_get (v := .ref (a 8)) hc hw hiX0 0 8 (wo_X0_T ..) rfl (by decide) (List.mem_of_getElem? (i := 2) rfl) (wv_X0_T_8 ..) dX0_bringBargesNearer_30 ?_
      refine lv_iload_n hx hb dX0_bringBargesNearer_33 rfl (lv_at hl 1 rfl) ?_
      refine g_iald (f := (ct_to (cs_to q2 (upd (ct_to q2) (nI i2).toNatClampNeg (((ct_to q2) (nI i2).toNatClampNeg) - (1 : Int32)))))) hc hw 4 (wr_X0_T_8 ..) (vp_in_nI (show i2 < 4 by omega) (by omega)) dX0_bringBargesNearer_34 ?_
      refine lv_if_le (tgt := 43) hx hb dX0_bringBargesNearer_35 (by decide) (fun c2 => ?_) (fun c2 => ?_)
      · refine lv_iinc (v := (nI (i2 + 1))) (lv' := [(1, .int (nI (i2 + 1))), (0, .ref (a 0))]) hx hb dX0_bringBargesNearer_43 hl (k := 1) rfl (inc_n i2) (by decide) rfl (fun ls hl => ?_)
        refine lv_goto (tgt := 2) hx hb dX0_bringBargesNearer_46 (by decide) ?_
        rw [show (f_X0_bringBargesNearer_2 w b n T) i2 q2 = ((cs_to q2 (upd (ct_to q2) (nI i2).toNatClampNeg (((ct_to q2) (nI i2).toNatClampNeg) - (1 : Int32))))) from by rw [f_X0_bringBargesNearer_2, if_neg c1, if_pos c2]] at k2
        exact k2 H locs ls hw (lv_sub hl [1, 0] rfl)
      · refine lv_aload_n hx hb dX0_bringBargesNearer_38 rfl (lv_at hl 0 rfl) ?_
        refine lv_iload_n hx hb dX0_bringBargesNearer_39 rfl (lv_at hl 1 rfl) ?_
        refine g_callV0 (n := 1) hc hw (k_X0_spreadFever l D cI cZ cL a w b n (cs_to q2 (upd (ct_to q2) (nI i2).toNatClampNeg (((ct_to q2) (nI i2).toNatClampNeg) - (1 : Int32)))) hd5 hd4 hd30 (nI i2)) gX0_bringBargesNearer_X0_spreadFever rfl (by decide +kernel) ⟨Nat.le_of_ble_eq_true rfl, Nat.le_of_ble_eq_true rfl⟩ 0 (wo_X0_T ..) rfl rfl rfl (rest := []) rfl hl.1 (Nat.le_of_ble_eq_true rfl) (st1 := []) rfl dX0_bringBargesNearer_40 (k2 := 0) (s2 := 0) rfl rfl ⟨Nat.le_of_ble_eq_true rfl, Nat.le_of_ble_eq_true rfl⟩ (fun H locs hw => ?_)
        refine lv_iinc (v := (nI (i2 + 1))) (lv' := [(1, .int (nI (i2 + 1))), (0, .ref (a 0))]) hx hb dX0_bringBargesNearer_43 hl (k := 1) rfl (inc_n i2) (by decide) rfl (fun ls hl => ?_)
        refine lv_goto (tgt := 2) hx hb dX0_bringBargesNearer_46 (by decide) ?_
        rw [show (f_X0_bringBargesNearer_2 w b n T) i2 q2 = ((s_X0_spreadFever w b n (cs_to q2 (upd (ct_to q2) (nI i2).toNatClampNeg (((ct_to q2) (nI i2).toNatClampNeg) - (1 : Int32)))) (nI i2))) from by rw [f_X0_bringBargesNearer_2, if_neg c1, if_neg c2]] at k2
        exact k2 H locs ls hw (lv_sub hl [1, 0] rfl)
  · intro H locs ls hw hl
    refine lv_iload_n hx hb dX0_bringBargesNearer_2 rfl (lv_at hl 1 rfl) ?_
    refine lv_aload_n hx hb dX0_bringBargesNearer_3 rfl (lv_at hl 0 rfl) ?_
    refine g_get (v := .int (nI b)) hc hw hiX0 0 6 (wo_X0_T ..) rfl (by decide) (List.mem_of_getElem? (i := 1) rfl) (wv_X0_T_6 ..) dX0_bringBargesNearer_4 ?_
    refine lv_icmp_ge (tgt := 49) hx hb dX0_bringBargesNearer_7 (by decide) (fun _ => ?_) (fun z => absurd (nI_le (Nat.le_refl _) (by omega)) z)
    rw [show s_X0_bringBargesNearer w b n T = (lpf (f_X0_bringBargesNearer_2 w b n T) b 0 (T)) from by rw [s_X0_bringBargesNearer]]
    exact g_vret hc hw rfl (Nat.le_of_ble_eq_true rfl) (Nat.le_of_ble_eq_true rfl) dX0_bringBargesNearer_49

def f_X0_ageStraw_2 (w : Nat) (b : Nat) (n : Nat) (T : ct_T) (i2 : Nat) (q2 : ct_T) : ct_T := ((cs_st q2 (upd (ct_st q2) (nI i2).toNatClampNeg (((ct_st q2) (nI i2).toNatClampNeg) + (1 : Int32)))))
def s_X0_ageStraw (w : Nat) (b : Nat) (n : Nat) (T : ct_T) : ct_T := (lpf (f_X0_ageStraw_2 w b n T) w 0 (T))
abbrev rm_X0_ageStraw : Room := { frames := 0, cells := 0, slots := 0, locals := 0 }
set_option maxHeartbeats 4000000 in
set_option maxRecDepth 100000 in
theorem k_X0_ageStraw (l : Launch) (D : va_G) (cI cZ cL : ClassId) (a : Nat → Nat) (w : Nat) (b : Nat) (n : Nat) (T : ct_T) (hd5 : w ≤ 5) (hd4 : b ≤ 4) (hd30 : n ≤ 30)   : MX l yX0_ageStraw wsX0_ageStraw rm_X0_ageStraw D cI cZ cL [.ref (a 0)] (wt_c a cI cZ w b n T) none (wt_c a cI cZ w b n (s_X0_ageStraw w b n T)) := by
  refine MX.of (own := RX0) (cc := cX0_ageStraw) (maxL := 2) (ret := none) (lv0 := [(0, .ref (a 0))]) (by decide) rfl rfl (Nat.le_of_ble_eq_true rfl) rfl ?_
  intro p e s m args below meth c A hc hnm hw ls hl
  obtain ⟨hx, hb, hr, hml, hown, hts, hlk, hK, hA⟩ := id hc
  have hiX0 : ∀ w ∈ u_ws RX0 TX0 16, w ∈ wsX0_ageStraw := fun _ h => List.mem_cons_of_mem _ (List.mem_append_right _ h)
  refine lv_iconst (v := 0) hx hb dX0_ageStraw_0 (by decide) ?_
  refine lv_istore_n (lv' := [(1, .int (0 : Int32)), (0, .ref (a 0))]) hx hb dX0_ageStraw_1 rfl hl (by decide) rfl (fun ls hl => ?_)
  refine lp_go (fun (i2 : Nat) (q2 : ct_T) => ∀ (H : Heap) (locs : List Loc) (ls : Array Slot), Wo D A s.heap (wt_c a cI cZ w b n q2) H locs → lv_has ls 2 [(0, .ref (a 0)), (1, .int (nI i2))] → W p l e rm_X0_ageStraw s m args below meth c H locs 0 0 (QE below args s D A none (wt_c a cI cZ w b n (s_X0_ageStraw w b n T)) rm_X0_ageStraw) (F0 m 2 ls [])) (f_X0_ageStraw_2 w b n T) w (T) ?_ ?_ s.heap [] ls hw (lv_sub hl [1, 0] rfl)
  · intro i2 q2 hi2 k2 H locs ls hw hl
    refine lv_iload_n hx hb dX0_ageStraw_2 rfl (lv_at hl 1 rfl) ?_
    refine lv_aload_n hx hb dX0_ageStraw_3 rfl (lv_at hl 0 rfl) ?_
    refine g_get (v := .int (nI w)) hc hw hiX0 0 3 (wo_X0_T ..) rfl (by decide) (List.mem_of_getElem? (i := 1) rfl) (wv_X0_T_3 ..) dX0_ageStraw_4 ?_
    refine lv_icmp_ge (tgt := 26) hx hb dX0_ageStraw_7 (by decide) (fun z => absurd z (nI_ge hi2 (by omega))) (fun _ => ?_)
    refine lv_aload_n hx hb dX0_ageStraw_10 rfl (lv_at hl 0 rfl) ?_
    refine g_get (v := .ref (a 5)) hc hw hiX0 0 5 (wo_X0_T ..) rfl (by decide) (List.mem_of_getElem? (i := 2) rfl) (wv_X0_T_5 ..) dX0_ageStraw_11 ?_
    refine lv_iload_n hx hb dX0_ageStraw_14 rfl (lv_at hl 1 rfl) ?_
    refine lv_dup2_11 hx hb dX0_ageStraw_15 rfl rfl ?_
    refine g_iald (f := (ct_st q2)) hc hw 2 (wr_X0_T_5 ..) (vp_in_nI (show i2 < 5 by omega) (by omega)) dX0_ageStraw_16 ?_
    refine lv_iconst (v := 1) hx hb dX0_ageStraw_17 (by decide) ?_
    refine lv_iadd hx hb dX0_ageStraw_18 ?_
    refine g_iast (f := (ct_st q2)) hc hw 2 (wr_X0_T_5 ..) (vp_in_nI (show i2 < 5 by omega) (by omega)) (w' := (wt_c a cI cZ w b n (cs_st q2 (upd (ct_st q2) (nI i2).toNatClampNeg (((ct_st q2) (nI i2).toNatClampNeg) + (1 : Int32)))))) (wu_X0_T_5 ..) dX0_ageStraw_19 (fun H locs hw => ?_)
    refine lv_iinc (v := (nI (i2 + 1))) (lv' := [(1, .int (nI (i2 + 1))), (0, .ref (a 0))]) hx hb dX0_ageStraw_20 hl (k := 1) rfl (inc_n i2) (by decide) rfl (fun ls hl => ?_)
    refine lv_goto (tgt := 2) hx hb dX0_ageStraw_23 (by decide) ?_
    rw [show (f_X0_ageStraw_2 w b n T) i2 q2 = ((cs_st q2 (upd (ct_st q2) (nI i2).toNatClampNeg (((ct_st q2) (nI i2).toNatClampNeg) + (1 : Int32))))) from by rw [f_X0_ageStraw_2]] at k2
    exact k2 H locs ls hw (lv_sub hl [1, 0] rfl)
  · intro H locs ls hw hl
    refine lv_iload_n hx hb dX0_ageStraw_2 rfl (lv_at hl 1 rfl) ?_
    refine lv_aload_n hx hb dX0_ageStraw_3 rfl (lv_at hl 0 rfl) ?_
    refine g_get (v := .int (nI w)) hc hw hiX0 0 3 (wo_X0_T ..) rfl (by decide) (List.mem_of_getElem? (i := 1) rfl) (wv_X0_T_3 ..) dX0_ageStraw_4 ?_
    refine lv_icmp_ge (tgt := 26) hx hb dX0_ageStraw_7 (by decide) (fun _ => ?_) (fun z => absurd (nI_le (Nat.le_refl _) (by omega)) z)
    rw [show s_X0_ageStraw w b n T = (lpf (f_X0_ageStraw_2 w b n T) w 0 (T)) from by rw [s_X0_ageStraw]]
    exact g_vret hc hw rfl (Nat.le_of_ble_eq_true rfl) (Nat.le_of_ble_eq_true rfl) dX0_ageStraw_26

def f_X0_leaveWards_2 (w : Nat) (b : Nat) (n : Nat) (T : ct_T) (i2 : Nat) (q2 : ct_T) : ct_T := if ((ct_wh q2) (nI i2).toNatClampNeg) = (1 : Int32) then (if ((ct_fe q2) (nI i2).toNatClampNeg) = (0 : Int32) then ((s_X0_move w b n q2 (nI i2) (2 : Int32) (-1 : Int32))) else (if ((ct_fe q2) (nI i2).toNatClampNeg) = (10 : Int32) then ((s_X0_move w b n q2 (nI i2) (3 : Int32) (-1 : Int32))) else (q2))) else (q2)
def s_X0_leaveWards (w : Nat) (b : Nat) (n : Nat) (T : ct_T) : ct_T := (lpf (f_X0_leaveWards_2 w b n T) n 0 (T))
abbrev rm_X0_leaveWards : Room := { frames := 1, cells := 0, slots := 0, locals := 23 }
set_option maxHeartbeats 4000000 in
set_option maxRecDepth 100000 in
theorem k_X0_leaveWards (l : Launch) (D : va_G) (cI cZ cL : ClassId) (a : Nat → Nat) (w : Nat) (b : Nat) (n : Nat) (T : ct_T) (hd5 : w ≤ 5) (hd4 : b ≤ 4) (hd30 : n ≤ 30)   : MX l yX0_leaveWards wsX0_leaveWards rm_X0_leaveWards D cI cZ cL [.ref (a 0)] (wt_c a cI cZ w b n T) none (wt_c a cI cZ w b n (s_X0_leaveWards w b n T)) := by
  refine MX.of (own := RX0) (cc := cX0_leaveWards) (maxL := 2) (ret := none) (lv0 := [(0, .ref (a 0))]) (by decide) rfl rfl (Nat.le_of_ble_eq_true rfl) rfl ?_
  intro p e s m args below meth c A hc hnm hw ls hl
  obtain ⟨hx, hb, hr, hml, hown, hts, hlk, hK, hA⟩ := id hc
  have hiX0 : ∀ w ∈ u_ws RX0 TX0 16, w ∈ wsX0_leaveWards := fun _ h => List.mem_cons_of_mem _ (List.mem_append_right _ h)
  refine lv_iconst (v := 0) hx hb dX0_leaveWards_0 (by decide) ?_
  refine lv_istore_n (lv' := [(1, .int (0 : Int32)), (0, .ref (a 0))]) hx hb dX0_leaveWards_1 rfl hl (by decide) rfl (fun ls hl => ?_)
  refine lp_go (fun (i2 : Nat) (q2 : ct_T) => ∀ (H : Heap) (locs : List Loc) (ls : Array Slot), Wo D A s.heap (wt_c a cI cZ w b n q2) H locs → lv_has ls 2 [(0, .ref (a 0)), (1, .int (nI i2))] → W p l e rm_X0_leaveWards s m args below meth c H locs 0 0 (QE below args s D A none (wt_c a cI cZ w b n (s_X0_leaveWards w b n T)) rm_X0_leaveWards) (F0 m 2 ls [])) (f_X0_leaveWards_2 w b n T) n (T) ?_ ?_ s.heap [] ls hw (lv_sub hl [1, 0] rfl)
  · intro i2 q2 hi2 k2 H locs ls hw hl
    refine lv_iload_n hx hb dX0_leaveWards_2 rfl (lv_at hl 1 rfl) ?_
    refine lv_aload_n hx hb dX0_leaveWards_3 rfl (lv_at hl 0 rfl) ?_
    refine g_get (v := .int (nI n)) hc hw hiX0 0 9 (wo_X0_T ..) rfl (by decide) (List.mem_of_getElem? (i := 1) rfl) (wv_X0_T_9 ..) dX0_leaveWards_4 ?_
    refine lv_icmp_ge (tgt := 66) hx hb dX0_leaveWards_7 (by decide) (fun z => absurd z (nI_ge hi2 (by omega))) (fun _ => ?_)
    refine lv_aload_n hx hb dX0_leaveWards_10 rfl (lv_at hl 0 rfl) ?_
    refine g_get (v := .ref (a 11)) hc hw hiX0 0 11 (wo_X0_T ..) rfl (by decide) (List.mem_of_getElem? (i := 2) rfl) (wv_X0_T_11 ..) dX0_leaveWards_11 ?_
    refine lv_iload_n hx hb dX0_leaveWards_14 rfl (lv_at hl 1 rfl) ?_
    refine g_iald (f := (ct_wh q2)) hc hw 6 (wr_X0_T_11 ..) (vp_in_nI (show i2 < 30 by omega) (by omega)) dX0_leaveWards_15 ?_
    refine lv_iconst (v := 1) hx hb dX0_leaveWards_16 (by decide) ?_
    refine lv_icmp_eq (tgt := 23) hx hb dX0_leaveWards_17 (by decide) (fun c1 => ?_) (fun c1 => ?_)
    · refine lv_aload_n hx hb dX0_leaveWards_23 rfl (lv_at hl 0 rfl) ?_
      refine g_get (v := .ref (a 10)) hc hw hiX0 0 10 (wo_X0_T ..) rfl (by decide) (List.mem_of_getElem? (i := 3) rfl) (wv_X0_T_10 ..) dX0_leaveWards_24 ?_
      refine lv_iload_n hx hb dX0_leaveWards_27 rfl (lv_at hl 1 rfl) ?_
      refine g_iald (f := (ct_fe q2)) hc hw 5 (wr_X0_T_10 ..) (vp_in_nI (show i2 < 30 by omega) (by omega)) dX0_leaveWards_28 ?_
      refine lv_if_ne (tgt := 42) hx hb dX0_leaveWards_29 (by decide) (fun c2 => ?_) (fun c2 => ?_)
      · refine lv_aload_n hx hb dX0_leaveWards_42 rfl (lv_at hl 0 rfl) ?_
        refine g_get (v := .ref (a 10)) hc hw hiX0 0 10 (wo_X0_T ..) rfl (by decide) (List.mem_of_getElem? (i := 3) rfl) (wv_X0_T_10 ..) dX0_leaveWards_43 ?_
        refine lv_iload_n hx hb dX0_leaveWards_46 rfl (lv_at hl 1 rfl) ?_
        refine g_iald (f := (ct_fe q2)) hc hw 5 (wr_X0_T_10 ..) (vp_in_nI (show i2 < 30 by omega) (by omega)) dX0_leaveWards_47 ?_
        refine lv_bipush (v := 10) hx hb dX0_leaveWards_48 (by decide) ?_
        refine lv_icmp_ne (tgt := 60) hx hb dX0_leaveWards_50 (by decide) (fun c3 => ?_) (fun c3 => ?_)
        · refine lv_iinc (v := (nI (i2 + 1))) (lv' := [(1, .int (nI (i2 + 1))), (0, .ref (a 0))]) hx hb dX0_leaveWards_60 hl (k := 1) rfl (inc_n i2) (by decide) rfl (fun ls hl => ?_)
          refine lv_goto (tgt := 2) hx hb dX0_leaveWards_63 (by decide) ?_
          rw [show (f_X0_leaveWards_2 w b n T) i2 q2 = (q2) from by rw [f_X0_leaveWards_2, if_pos c1, if_neg c2, if_neg c3]] at k2
          exact k2 H locs ls hw (lv_sub hl [1, 0] rfl)
        · refine lv_aload_n hx hb dX0_leaveWards_53 rfl (lv_at hl 0 rfl) ?_
          refine lv_iload_n hx hb dX0_leaveWards_54 rfl (lv_at hl 1 rfl) ?_
          refine lv_iconst (v := 3) hx hb dX0_leaveWards_55 (by decide) ?_
          refine lv_iconst (v := (-1)) hx hb dX0_leaveWards_56 (by decide) ?_
          refine g_callV0 (n := 3) hc hw (k_X0_move l D cI cZ cL a w b n q2 hd5 hd4 hd30 (nI i2) (3 : Int32) (-1 : Int32) (vp_in_nI (show i2 < 30 by omega) (by omega))) gX0_leaveWards_X0_move rfl (by decide +kernel) ⟨Nat.le_of_ble_eq_true rfl, Nat.le_of_ble_eq_true rfl⟩ 0 (wo_X0_T ..) rfl rfl rfl (rest := []) rfl hl.1 (Nat.le_of_ble_eq_true rfl) (st1 := []) rfl dX0_leaveWards_57 (k2 := 0) (s2 := 0) rfl rfl ⟨Nat.le_of_ble_eq_true rfl, Nat.le_of_ble_eq_true rfl⟩ (fun H locs hw => ?_)
          refine lv_iinc (v := (nI (i2 + 1))) (lv' := [(1, .int (nI (i2 + 1))), (0, .ref (a 0))]) hx hb dX0_leaveWards_60 hl (k := 1) rfl (inc_n i2) (by decide) rfl (fun ls hl => ?_)
          refine lv_goto (tgt := 2) hx hb dX0_leaveWards_63 (by decide) ?_
          rw [show (f_X0_leaveWards_2 w b n T) i2 q2 = ((s_X0_move w b n q2 (nI i2) (3 : Int32) (-1 : Int32))) from by rw [f_X0_leaveWards_2, if_pos c1, if_neg c2, if_pos c3]] at k2
          exact k2 H locs ls hw (lv_sub hl [1, 0] rfl)
      · refine lv_aload_n hx hb dX0_leaveWards_32 rfl (lv_at hl 0 rfl) ?_
        refine lv_iload_n hx hb dX0_leaveWards_33 rfl (lv_at hl 1 rfl) ?_
        refine lv_iconst (v := 2) hx hb dX0_leaveWards_34 (by decide) ?_
        refine lv_iconst (v := (-1)) hx hb dX0_leaveWards_35 (by decide) ?_
        refine g_callV0 (n := 3) hc hw (k_X0_move l D cI cZ cL a w b n q2 hd5 hd4 hd30 (nI i2) (2 : Int32) (-1 : Int32) (vp_in_nI (show i2 < 30 by omega) (by omega))) gX0_leaveWards_X0_move rfl (by decide +kernel) ⟨Nat.le_of_ble_eq_true rfl, Nat.le_of_ble_eq_true rfl⟩ 0 (wo_X0_T ..) rfl rfl rfl (rest := []) rfl hl.1 (Nat.le_of_ble_eq_true rfl) (st1 := []) rfl dX0_leaveWards_36 (k2 := 0) (s2 := 0) rfl rfl ⟨Nat.le_of_ble_eq_true rfl, Nat.le_of_ble_eq_true rfl⟩ (fun H locs hw => ?_)
        refine lv_goto (tgt := 60) hx hb dX0_leaveWards_39 (by decide) ?_
        refine lv_iinc (v := (nI (i2 + 1))) (lv' := [(1, .int (nI (i2 + 1))), (0, .ref (a 0))]) hx hb dX0_leaveWards_60 hl (k := 1) rfl (inc_n i2) (by decide) rfl (fun ls hl => ?_)
        refine lv_goto (tgt := 2) hx hb dX0_leaveWards_63 (by decide) ?_
        rw [show (f_X0_leaveWards_2 w b n T) i2 q2 = ((s_X0_move w b n q2 (nI i2) (2 : Int32) (-1 : Int32))) from by rw [f_X0_leaveWards_2, if_pos c1, if_pos c2]] at k2
        exact k2 H locs ls hw (lv_sub hl [1, 0] rfl)
    · refine lv_goto (tgt := 60) hx hb dX0_leaveWards_20 (by decide) ?_
      refine lv_iinc (v := (nI (i2 + 1))) (lv' := [(1, .int (nI (i2 + 1))), (0, .ref (a 0))]) hx hb dX0_leaveWards_60 hl (k := 1) rfl (inc_n i2) (by decide) rfl (fun ls hl => ?_)
      refine lv_goto (tgt := 2) hx hb dX0_leaveWards_63 (by decide) ?_
      rw [show (f_X0_leaveWards_2 w b n T) i2 q2 = (q2) from by rw [f_X0_leaveWards_2, if_neg c1]] at k2
      exact k2 H locs ls hw (lv_sub hl [1, 0] rfl)
  · intro H locs ls hw hl
    refine lv_iload_n hx hb dX0_leaveWards_2 rfl (lv_at hl 1 rfl) ?_
    refine lv_aload_n hx hb dX0_leaveWards_3 rfl (lv_at hl 0 rfl) ?_
    refine g_get (v := .int (nI n)) hc hw hiX0 0 9 (wo_X0_T ..) rfl (by decide) (List.mem_of_getElem? (i := 1) rfl) (wv_X0_T_9 ..) dX0_leaveWards_4 ?_
    refine lv_icmp_ge (tgt := 66) hx hb dX0_leaveWards_7 (by decide) (fun _ => ?_) (fun z => absurd (nI_le (Nat.le_refl _) (by omega)) z)
    rw [show s_X0_leaveWards w b n T = (lpf (f_X0_leaveWards_2 w b n T) n 0 (T)) from by rw [s_X0_leaveWards]]
    exact g_vret hc hw rfl (Nat.le_of_ble_eq_true rfl) (Nat.le_of_ble_eq_true rfl) dX0_leaveWards_66
