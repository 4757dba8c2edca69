def f_X3_daysUntilHome_32 (th : Int32) (w : Nat) (b : Nat) (n : Nat) (T : mt_T) (w2 : Nat) (b2 : Nat) (n2 : Nat) (T2 : mt_T) (x1 : Int32) (i32 : Nat) (q32 : mt_T) : (Int32 × Int32 × mt_T × Nat × Nat × Nat) ⊕ (mt_T) := if ((mt_wh q32) x1.toNatClampNeg) = (20 : Int32) then (.inl ((nI i32), (0 : Int32), q32, w, b, n)) else (.inr ((s_X2_pass w b n q32)))
def r_X3_daysUntilHome (th : Int32) (w : Nat) (b : Nat) (n : Nat) (T : mt_T) (w2 : Nat) (b2 : Nat) (n2 : Nat) (T2 : mt_T) (x1 : Int32) : Int32 := if (r_X3_isPerson (0 : Int32) w b n T w2 b2 n2 T2 x1) = (0 : Int32) then ((r_X3_no (0 : Int32) w b n T w2 b2 n2 T2 (1 : Int32))) else (match lpx (f_X3_daysUntilHome_32 th w b n T w2 b2 n2 T2 x1) 61 0 ((s_X2_become w2 b2 n2 T2 w b n T)) with | .inl bb => bb.1 | .inr q32 => (-1 : Int32))
def t_X3_daysUntilHome (th : Int32) (w : Nat) (b : Nat) (n : Nat) (T : mt_T) (w2 : Nat) (b2 : Nat) (n2 : Nat) (T2 : mt_T) (x1 : Int32) : Int32 := if (r_X3_isPerson (0 : Int32) w b n T w2 b2 n2 T2 x1) = (0 : Int32) then ((t_X3_no (0 : Int32) w b n T w2 b2 n2 T2 (1 : Int32))) else (match lpx (f_X3_daysUntilHome_32 th w b n T w2 b2 n2 T2 x1) 61 0 ((s_X2_become w2 b2 n2 T2 w b n T)) with | .inl bb => bb.2.1 | .inr q32 => (0 : Int32))
def z_X3_daysUntilHome (th : Int32) (w : Nat) (b : Nat) (n : Nat) (T : mt_T) (w2 : Nat) (b2 : Nat) (n2 : Nat) (T2 : mt_T) (x1 : Int32) : mt_T := if (r_X3_isPerson (0 : Int32) w b n T w2 b2 n2 T2 x1) = (0 : Int32) then (T2) else (match lpx (f_X3_daysUntilHome_32 th w b n T w2 b2 n2 T2 x1) 61 0 ((s_X2_become w2 b2 n2 T2 w b n T)) with | .inl bb => bb.2.2.1 | .inr q32 => q32)
def nw2_X3_daysUntilHome (th : Int32) (w : Nat) (b : Nat) (n : Nat) (T : mt_T) (w2 : Nat) (b2 : Nat) (n2 : Nat) (T2 : mt_T) (x1 : Int32) : Nat := if (r_X3_isPerson (0 : Int32) w b n T w2 b2 n2 T2 x1) = (0 : Int32) then (w2) else (match lpx (f_X3_daysUntilHome_32 th w b n T w2 b2 n2 T2 x1) 61 0 ((s_X2_become w2 b2 n2 T2 w b n T)) with | .inl bb => bb.2.2.2.1 | .inr q32 => w)
def nb2_X3_daysUntilHome (th : Int32) (w : Nat) (b : Nat) (n : Nat) (T : mt_T) (w2 : Nat) (b2 : Nat) (n2 : Nat) (T2 : mt_T) (x1 : Int32) : Nat := if (r_X3_isPerson (0 : Int32) w b n T w2 b2 n2 T2 x1) = (0 : Int32) then (b2) else (match lpx (f_X3_daysUntilHome_32 th w b n T w2 b2 n2 T2 x1) 61 0 ((s_X2_become w2 b2 n2 T2 w b n T)) with | .inl bb => bb.2.2.2.2.1 | .inr q32 => b)
def nn2_X3_daysUntilHome (th : Int32) (w : Nat) (b : Nat) (n : Nat) (T : mt_T) (w2 : Nat) (b2 : Nat) (n2 : Nat) (T2 : mt_T) (x1 : Int32) : Nat := if (r_X3_isPerson (0 : Int32) w b n T w2 b2 n2 T2 x1) = (0 : Int32) then (n2) else (match lpx (f_X3_daysUntilHome_32 th w b n T w2 b2 n2 T2 x1) 61 0 ((s_X2_become w2 b2 n2 T2 w b n T)) with | .inl bb => bb.2.2.2.2.2 | .inr q32 => n)
abbrev rm_X3_daysUntilHome : Room := { frames := 4, cells := 0, slots := 0, locals := 102 }
set_option maxHeartbeats 4000000 in
set_option maxRecDepth 100000 in
theorem k_X3_daysUntilHome (l : Launch) (D : va_G) (cI cZ cL : ClassId) (h : Nat) (a a2 : Nat → Nat) (th : Int32) (w : Nat) (b : Nat) (n : Nat) (T : mt_T) (w2 : Nat) (b2 : Nat) (n2 : Nat) (T2 : mt_T) (hd5 : w ≤ 5) (hd4 : b ≤ 4) (hd30 : n ≤ 30) (he5 : w2 ≤ 5) (he4 : b2 ≤ 4) (he30 : n2 ≤ 30) (x1 : Int32)  : MX l yX3_daysUntilHome wsX3_daysUntilHome rm_X3_daysUntilHome D cI cZ cL [.ref h, .int x1] (wb_m h a a2 cI th w b n T w2 b2 n2 T2) (some (.int (r_X3_daysUntilHome th w b n T w2 b2 n2 T2 x1))) (wb_m h a a2 cI (t_X3_daysUntilHome th w b n T w2 b2 n2 T2 x1) w b n T (nw2_X3_daysUntilHome th w b n T w2 b2 n2 T2 x1) (nb2_X3_daysUntilHome th w b n T w2 b2 n2 T2 x1) (nn2_X3_daysUntilHome th w b n T w2 b2 n2 T2 x1) (z_X3_daysUntilHome th w b n T w2 b2 n2 T2 x1)) := by
  refine MX.of (own := RX3) (cc := cX3_daysUntilHome) (maxL := 3) (ret := (some .int)) (lv0 := [(0, .ref h), (1, .int x1)]) (by decide) rfl rfl (Nat.le_of_ble_eq_true rfl) rfl ?_
  intro p e s m args below meth c A hc hnm hw ls hl
  obtain ⟨hx, hb, hr, hml, hown, hts, hlk, hK, hA⟩ := id hc
  have hiX2 : ∀ w ∈ u_ws RX2 TX2 13, w ∈ wsX3_daysUntilHome := fun _ h => List.mem_cons_of_mem _ (List.mem_append_right _ h)
  have hiX3 : ∀ w ∈ u_ws RX3 TX3 3, w ∈ wsX3_daysUntilHome := fun _ h => List.mem_cons_of_mem _ (List.mem_append_left _ (List.mem_append_right _ h))
  refine lv_aload_n hx hb dX3_daysUntilHome_0 rfl (lv_at hl 0 rfl) ?_
  refine lv_iconst (v := 0) hx hb dX3_daysUntilHome_1 (by decide) ?_
  refine g_put hc hw hiX3 tyX3 tyX3_ok nmX3 0 0 (wo_X3_H ..) rfl (by decide) (List.mem_of_getElem? (i := 1) rfl) (by decide) rfl rfl (Nat.le_of_ble_eq_true rfl) (w' := (wb_m h a a2 cI (0 : Int32) w b n T w2 b2 n2 T2)) (wp_X3_H_0 ..) dX3_daysUntilHome_2 (fun H locs hw => ?_)
  refine lv_aload_n hx hb dX3_daysUntilHome_5 rfl (lv_at hl 0 rfl) ?_
  refine lv_iload_n hx hb dX3_daysUntilHome_6 rfl (lv_at hl 1 rfl) ?_
  refine g_callV0 (n := 1) hc hw (k_X3_isPerson l D cI cZ cL h a a2 (0 : Int32) w b n T w2 b2 n2 T2 hd5 hd4 hd30 he5 he4 he30 x1) gX3_daysUntilHome_X3_isPerson rfl (by decide +kernel) ⟨Nat.le_of_ble_eq_true rfl, Nat.le_of_ble_eq_true rfl⟩ 0 (wo_X3_H ..) rfl rfl rfl (rest := []) rfl hl.1 (Nat.le_of_ble_eq_true rfl) (st1 := [.int (r_X3_isPerson (0 : Int32) w b n T w2 b2 n2 T2 x1)]) rfl dX3_daysUntilHome_7 (k2 := 0) (s2 := 0) rfl rfl ⟨Nat.le_of_ble_eq_true rfl, Nat.le_of_ble_eq_true rfl⟩ (fun H locs hw => ?_)
  refine lv_if_ne (tgt := 19) hx hb dX3_daysUntilHome_10 (by decide) (fun c1 => ?_) (fun c1 => ?_)
  · refine lv_aload_n hx hb dX3_daysUntilHome_19 rfl (lv_at hl 0 rfl) ?_
    refine g_get (v := .ref (a2 0)) hc hw hiX3 0 2 (wo_X3_H ..) rfl (by decide) (List.mem_of_getElem? (i := 2) rfl) (wv_X3_H_2 ..) dX3_daysUntilHome_20 ?_
    refine lv_aload_n hx hb dX3_daysUntilHome_23 rfl (lv_at hl 0 rfl) ?_
    refine g_get (v := .ref (a 0)) hc hw hiX3 0 1 (wo_X3_H ..) rfl (by decide) (List.mem_of_getElem? (i := 3) rfl) (wv_X3_H_1 ..) dX3_daysUntilHome_24 ?_
    refine g_callV (n := 1) hc hw (k_X2_become l D cI cZ cL a2 a w2 b2 n2 T2 w b n T he5 he4 he30 hd5 hd4 hd30) gX3_daysUntilHome_X2_become rfl (by decide +kernel) ⟨Nat.le_of_ble_eq_true rfl, Nat.le_of_ble_eq_true rfl⟩ (q0 := 0) rfl rfl rfl [9, 10, 11, 12, 13, 14, 15, 16, 1, 2, 3, 4, 5, 6, 7, 8] [0] [0, 9, 10, 11, 12, 13, 14, 15, 16, 1, 2, 3, 4, 5, 6, 7, 8] (wr := ([wb_m0 h a a2 (0 : Int32)])) (w' := (wb_m h a a2 cI (0 : Int32) w b n T w b n (s_X2_become w2 b2 n2 T2 w b n T))) (wqC_X3 ..) (wqR_X3 ..) (by decide) (by decide) (by decide) (wqJ_X3 ..) (by decide) rfl (rest := []) rfl hl.1 (Nat.le_of_ble_eq_true rfl) (st1 := []) rfl dX3_daysUntilHome_27 (k2 := 0) (s2 := 0) rfl rfl ⟨Nat.le_of_ble_eq_true rfl, Nat.le_of_ble_eq_true rfl⟩ (fun H locs hw => ?_)
    refine lv_iconst (v := 0) hx hb dX3_daysUntilHome_30 (by decide) ?_
    refine lv_istore_n (lv' := [(2, .int (0 : Int32)), (0, .ref h), (1, .int x1)]) hx hb dX3_daysUntilHome_31 rfl hl (by decide) rfl (fun ls hl => ?_)
    refine lpx_go (fun (i32 : Nat) (q32 : mt_T) => ∀ (H : Heap) (locs : List Loc) (ls : Array Slot), Wo D A s.heap (wb_m h a a2 cI (0 : Int32) w b n T w b n q32) H locs → lv_has ls 3 [(0, .ref h), (1, .int x1), (2, .int (nI i32))] → W p l e rm_X3_daysUntilHome s m args below meth c H locs 0 0 (QE below args s D A (some (.int (r_X3_daysUntilHome th w b n T w2 b2 n2 T2 x1))) (wb_m h a a2 cI (t_X3_daysUntilHome th w b n T w2 b2 n2 T2 x1) w b n T (nw2_X3_daysUntilHome th w b n T w2 b2 n2 T2 x1) (nb2_X3_daysUntilHome th w b n T w2 b2 n2 T2 x1) (nn2_X3_daysUntilHome th w b n T w2 b2 n2 T2 x1) (z_X3_daysUntilHome th w b n T w2 b2 n2 T2 x1)) rm_X3_daysUntilHome) (F0 m 32 ls [])) (fun (bb : Int32 × Int32 × mt_T × Nat × Nat × Nat) => r_X3_daysUntilHome th w b n T w2 b2 n2 T2 x1 = bb.1 ∧ t_X3_daysUntilHome th w b n T w2 b2 n2 T2 x1 = bb.2.1 ∧ z_X3_daysUntilHome th w b n T w2 b2 n2 T2 x1 = bb.2.2.1 ∧ nw2_X3_daysUntilHome th w b n T w2 b2 n2 T2 x1 = bb.2.2.2.1 ∧ nb2_X3_daysUntilHome th w b n T w2 b2 n2 T2 x1 = bb.2.2.2.2.1 ∧ nn2_X3_daysUntilHome th w b n T w2 b2 n2 T2 x1 = bb.2.2.2.2.2) (f_X3_daysUntilHome_32 th w b n T w2 b2 n2 T2 x1) 61 ((s_X2_become w2 b2 n2 T2 w b n T)) ?_ ?_ ?_ H locs ls hw (lv_sub hl [1, 2, 0] rfl)
    · intro i32 q32 hi32 x32_x k32 H locs ls hw hl
      refine lv_iload_n hx hb dX3_daysUntilHome_32 rfl (lv_at hl 2 rfl) ?_
      refine lv_bipush (v := 60) hx hb dX3_daysUntilHome_33 (by decide) ?_
      refine lv_icmp_gt (tgt := 67) hx hb dX3_daysUntilHome_35 (by decide) (fun z => absurd z (nI_nlt (show i32 ≤ 60 by omega) (by decide))) (fun _ => ?_)
      refine lv_aload_n hx hb dX3_daysUntilHome_38 rfl (lv_at hl 0 rfl) ?_
      refine g_get (v := .ref (a2 0)) hc hw hiX3 0 2 (wo_X3_H ..) rfl (by decide) (List.mem_of_getElem? (i := 2) rfl) (wv_X3_H_2 ..) dX3_daysUntilHome_39 ?_
      refine g_getN (v := .ref (a2 11)) (host := RX3) hc hw hiX2 9 11 (wo_X3_T2 ..) rfl (by decide) (fun z => z.2 (57, "where", "[I") (by decide +kernel)) (wv_X3_T2_11 ..) dX3_daysUntilHome_42 ?_
      refine lv_iload_n hx hb dX3_daysUntilHome_45 rfl (lv_at hl 1 rfl) ?_
      refine g_iald (f := (mt_wh q32)) hc hw 15 (wr_X3_T2_11 ..) (v_X3_isPerson c1 hd30) dX3_daysUntilHome_46 ?_
      refine lv_bipush (v := 20) hx hb dX3_daysUntilHome_47 (by decide) ?_
      refine lv_icmp_ne (tgt := 54) hx hb dX3_daysUntilHome_49 (by decide) (fun c2 => ?_) (fun c2 => ?_)
      · refine lv_aload_n hx hb dX3_daysUntilHome_54 rfl (lv_at hl 0 rfl) ?_
        refine g_get (v := .ref (a2 0)) hc hw hiX3 0 2 (wo_X3_H ..) rfl (by decide) (List.mem_of_getElem? (i := 2) rfl) (wv_X3_H_2 ..) dX3_daysUntilHome_55 ?_
        refine g_callV (n := 0) hc hw (k_X2_pass l D cI cZ cL a2 w b n q32 hd5 hd4 hd30) gX3_daysUntilHome_X2_pass rfl (by decide +kernel) ⟨Nat.le_of_ble_eq_true rfl, Nat.le_of_ble_eq_true rfl⟩ (wo_X2_T ..) rfl rfl [9, 10, 11, 12, 13, 14, 15, 16] [0, 1, 2, 3, 4, 5, 6, 7, 8] [0, 1, 2, 3, 4, 5, 6, 7, 8, 9, 10, 11, 12, 13, 14, 15, 16] (wr := (wb_m0 h a a2 (0 : Int32) :: wt_m a cI w b n T)) (w' := (wb_m h a a2 cI (0 : Int32) w b n T w b n (s_X2_pass w b n q32))) (wpC_X3_T2 ..) (wpR_X3_T2 ..) (by decide) (by decide) (by decide) (wpJ_X3_T2 ..) (by decide) rfl (rest := []) rfl hl.1 (Nat.le_of_ble_eq_true rfl) (st1 := []) rfl dX3_daysUntilHome_58 (k2 := 0) (s2 := 0) rfl rfl ⟨Nat.le_of_ble_eq_true rfl, Nat.le_of_ble_eq_true rfl⟩ (fun H locs hw => ?_)
        refine lv_iinc (v := (nI (i32 + 1))) (lv' := [(2, .int (nI (i32 + 1))), (0, .ref h), (1, .int x1)]) hx hb dX3_daysUntilHome_61 hl (k := 2) rfl (inc_n i32) (by decide) rfl (fun ls hl => ?_)
        refine lv_goto (tgt := 32) hx hb dX3_daysUntilHome_64 (by decide) ?_
        exact k32 ((s_X2_pass w b n q32)) (by rw [f_X3_daysUntilHome_32, if_neg c2]) H locs ls hw (lv_sub hl [1, 2, 0] rfl)
      · refine lv_iload_n hx hb dX3_daysUntilHome_52 rfl (lv_at hl 2 rfl) ?_
        obtain ⟨e0, e1, e2, e3, e4, e5⟩ := x32_x ((nI i32), (0 : Int32), q32, w, b, n) (by rw [f_X3_daysUntilHome_32, if_pos c2])
        rw [show r_X3_daysUntilHome th w b n T w2 b2 n2 T2 x1 = _ from e0]
        rw [show t_X3_daysUntilHome th w b n T w2 b2 n2 T2 x1 = _ from e1]
        rw [show z_X3_daysUntilHome th w b n T w2 b2 n2 T2 x1 = _ from e2]
        rw [show nw2_X3_daysUntilHome th w b n T w2 b2 n2 T2 x1 = _ from e3]
        rw [show nb2_X3_daysUntilHome th w b n T w2 b2 n2 T2 x1 = _ from e4]
        rw [show nn2_X3_daysUntilHome th w b n T w2 b2 n2 T2 x1 = _ from e5]
        exact g_ret hc hw rfl (Nat.le_of_ble_eq_true rfl) (Nat.le_of_ble_eq_true rfl) dX3_daysUntilHome_53
    · intro bb hL32
      exact ⟨by rw [r_X3_daysUntilHome, if_neg c1, hL32], by rw [t_X3_daysUntilHome, if_neg c1, hL32], by rw [z_X3_daysUntilHome, if_neg c1, hL32], by rw [nw2_X3_daysUntilHome, if_neg c1, hL32], by rw [nb2_X3_daysUntilHome, if_neg c1, hL32], by rw [nn2_X3_daysUntilHome, if_neg c1, hL32]⟩
    · intro q32 hL32 H locs ls hw hl
      refine lv_iload_n hx hb dX3_daysUntilHome_32 rfl (lv_at hl 2 rfl) ?_
      refine lv_bipush (v := 60) hx hb dX3_daysUntilHome_33 (by decide) ?_
      refine lv_icmp_gt (tgt := 67) hx hb dX3_daysUntilHome_35 (by decide) (fun _ => ?_) (fun z => absurd (nI_lt (show 60 < 61 by omega) (by omega)) z)
      refine lv_iconst (v := (-1)) hx hb dX3_daysUntilHome_67 (by decide) ?_
      rw [show r_X3_daysUntilHome th w b n T w2 b2 n2 T2 x1 = (-1 : Int32) from by rw [r_X3_daysUntilHome, hL32, if_neg c1]]
      rw [show t_X3_daysUntilHome th w b n T w2 b2 n2 T2 x1 = (0 : Int32) from by rw [t_X3_daysUntilHome, hL32, if_neg c1]]
      rw [show z_X3_daysUntilHome th w b n T w2 b2 n2 T2 x1 = q32 from by rw [z_X3_daysUntilHome, hL32, if_neg c1]]
      rw [show nw2_X3_daysUntilHome th w b n T w2 b2 n2 T2 x1 = w from by rw [nw2_X3_daysUntilHome, hL32, if_neg c1]]
      rw [show nb2_X3_daysUntilHome th w b n T w2 b2 n2 T2 x1 = b from by rw [nb2_X3_daysUntilHome, hL32, if_neg c1]]
      rw [show nn2_X3_daysUntilHome th w b n T w2 b2 n2 T2 x1 = n from by rw [nn2_X3_daysUntilHome, hL32, if_neg c1]]
      exact g_ret hc hw rfl (Nat.le_of_ble_eq_true rfl) (Nat.le_of_ble_eq_true rfl) dX3_daysUntilHome_68
  · refine lv_aload_n hx hb dX3_daysUntilHome_13 rfl (lv_at hl 0 rfl) ?_
    refine lv_iconst (v := 1) hx hb dX3_daysUntilHome_14 (by decide) ?_
    refine g_callV0 (n := 1) hc hw (k_X3_no l D cI cZ cL h a a2 (0 : Int32) w b n T w2 b2 n2 T2 hd5 hd4 hd30 he5 he4 he30 (1 : Int32)) gX3_daysUntilHome_X3_no rfl (by decide +kernel) ⟨Nat.le_of_ble_eq_true rfl, Nat.le_of_ble_eq_true rfl⟩ 0 (wo_X3_H ..) rfl rfl rfl (rest := []) rfl hl.1 (Nat.le_of_ble_eq_true rfl) (st1 := [.int (r_X3_no (0 : Int32) w b n T w2 b2 n2 T2 (1 : Int32))]) rfl dX3_daysUntilHome_15 (k2 := 0) (s2 := 0) rfl rfl ⟨Nat.le_of_ble_eq_true rfl, Nat.le_of_ble_eq_true rfl⟩ (fun H locs hw => ?_)
    rw [show r_X3_daysUntilHome th w b n T w2 b2 n2 T2 x1 = (r_X3_no (0 : Int32) w b n T w2 b2 n2 T2 (1 : Int32)) from by rw [r_X3_daysUntilHome, if_pos c1]]
    rw [show t_X3_daysUntilHome th w b n T w2 b2 n2 T2 x1 = (t_X3_no (0 : Int32) w b n T w2 b2 n2 T2 (1 : Int32)) from by rw [t_X3_daysUntilHome, if_pos c1]]
    rw [show z_X3_daysUntilHome th w b n T w2 b2 n2 T2 x1 = T2 from by rw [z_X3_daysUntilHome, if_pos c1]]
    rw [show nw2_X3_daysUntilHome th w b n T w2 b2 n2 T2 x1 = w2 from by rw [nw2_X3_daysUntilHome, if_pos c1]]
    rw [show nb2_X3_daysUntilHome th w b n T w2 b2 n2 T2 x1 = b2 from by rw [nb2_X3_daysUntilHome, if_pos c1]]
    rw [show nn2_X3_daysUntilHome th w b n T w2 b2 n2 T2 x1 = n2 from by rw [nn2_X3_daysUntilHome, if_pos c1]]
    exact g_ret hc hw rfl (Nat.le_of_ble_eq_true rfl) (Nat.le_of_ble_eq_true rfl) dX3_daysUntilHome_18

def r_X3_after (th : Int32) (w : Nat) (b : Nat) (n : Nat) (T : mt_T) (w2 : Nat) (b2 : Nat) (n2 : Nat) (T2 : mt_T) (x1 : Int32) (x2 : Int32) : Int32 := if (r_X3_isIn x1 (1 : Int32) (40 : Int32)) = (0 : Int32) then ((r_X3_no (0 : Int32) w b n T w2 b2 n2 T2 (1 : Int32))) else ((r_X2_at w b n (s_X2_passOn w b n (s_X2_become w2 b2 n2 T2 w b n T) x1.toNatClampNeg) x2))
def t_X3_after (th : Int32) (w : Nat) (b : Nat) (n : Nat) (T : mt_T) (w2 : Nat) (b2 : Nat) (n2 : Nat) (T2 : mt_T) (x1 : Int32) (x2 : Int32) : Int32 := if (r_X3_isIn x1 (1 : Int32) (40 : Int32)) = (0 : Int32) then ((t_X3_no (0 : Int32) w b n T w2 b2 n2 T2 (1 : Int32))) else ((0 : Int32))
def z_X3_after (th : Int32) (w : Nat) (b : Nat) (n : Nat) (T : mt_T) (w2 : Nat) (b2 : Nat) (n2 : Nat) (T2 : mt_T) (x1 : Int32) (x2 : Int32) : mt_T := if (r_X3_isIn x1 (1 : Int32) (40 : Int32)) = (0 : Int32) then (T2) else ((s_X2_passOn w b n (s_X2_become w2 b2 n2 T2 w b n T) x1.toNatClampNeg))
def nw2_X3_after (th : Int32) (w : Nat) (b : Nat) (n : Nat) (T : mt_T) (w2 : Nat) (b2 : Nat) (n2 : Nat) (T2 : mt_T) (x1 : Int32) (x2 : Int32) : Nat := if (r_X3_isIn x1 (1 : Int32) (40 : Int32)) = (0 : Int32) then (w2) else (w)
def nb2_X3_after (th : Int32) (w : Nat) (b : Nat) (n : Nat) (T : mt_T) (w2 : Nat) (b2 : Nat) (n2 : Nat) (T2 : mt_T) (x1 : Int32) (x2 : Int32) : Nat := if (r_X3_isIn x1 (1 : Int32) (40 : Int32)) = (0 : Int32) then (b2) else (b)
def nn2_X3_after (th : Int32) (w : Nat) (b : Nat) (n : Nat) (T : mt_T) (w2 : Nat) (b2 : Nat) (n2 : Nat) (T2 : mt_T) (x1 : Int32) (x2 : Int32) : Nat := if (r_X3_isIn x1 (1 : Int32) (40 : Int32)) = (0 : Int32) then (n2) else (n)
abbrev rm_X3_after : Room := { frames := 5, cells := 0, slots := 0, locals := 110 }
set_option maxHeartbeats 4000000 in
set_option maxRecDepth 100000 in
theorem k_X3_after (l : Launch) (D : va_G) (cI cZ cL : ClassId) (h : Nat) (a a2 : Nat → Nat) (th : Int32) (w : Nat) (b : Nat) (n : Nat) (T : mt_T) (w2 : Nat) (b2 : Nat) (n2 : Nat) (T2 : mt_T) (hd5 : w ≤ 5) (hd4 : b ≤ 4) (hd30 : n ≤ 30) (he5 : w2 ≤ 5) (he4 : b2 ≤ 4) (he30 : n2 ≤ 30) (x1 : Int32) (x2 : Int32)  : MX l yX3_after wsX3_after rm_X3_after D cI cZ cL [.ref h, .int x1, .int x2] (wb_m h a a2 cI th w b n T w2 b2 n2 T2) (some (.int (r_X3_after th w b n T w2 b2 n2 T2 x1 x2))) (wb_m h a a2 cI (t_X3_after th w b n T w2 b2 n2 T2 x1 x2) w b n T (nw2_X3_after th w b n T w2 b2 n2 T2 x1 x2) (nb2_X3_after th w b n T w2 b2 n2 T2 x1 x2) (nn2_X3_after th w b n T w2 b2 n2 T2 x1 x2) (z_X3_after th w b n T w2 b2 n2 T2 x1 x2)) := by
  refine MX.of (own := RX3) (cc := cX3_after) (maxL := 3) (ret := (some .int)) (lv0 := [(0, .ref h), (1, .int x1), (2, .int x2)]) (by decide) rfl rfl (Nat.le_of_ble_eq_true rfl) rfl ?_
  intro p e s m args below meth c A hc hnm hw ls hl
  obtain ⟨hx, hb, hr, hml, hown, hts, hlk, hK, hA⟩ := id hc
  have hiX3 : ∀ w ∈ u_ws RX3 TX3 3, w ∈ wsX3_after := fun _ h => List.mem_cons_of_mem _ (List.mem_append_left _ (List.mem_append_right _ h))
  refine lv_aload_n hx hb dX3_after_0 rfl (lv_at hl 0 rfl) ?_
  refine lv_iconst (v := 0) hx hb dX3_after_1 (by decide) ?_
  refine g_put hc hw hiX3 tyX3 tyX3_ok nmX3 0 0 (wo_X3_H ..) rfl (by decide) (List.mem_of_getElem? (i := 1) rfl) (by decide) rfl rfl (Nat.le_of_ble_eq_true rfl) (w' := (wb_m h a a2 cI (0 : Int32) w b n T w2 b2 n2 T2)) (wp_X3_H_0 ..) dX3_after_2 (fun H locs hw => ?_)
  refine lv_iload_n hx hb dX3_after_5 rfl (lv_at hl 1 rfl) ?_
  refine lv_iconst (v := 1) hx hb dX3_after_6 (by decide) ?_
  refine lv_bipush (v := 40) hx hb dX3_after_7 (by decide) ?_
  refine g_callS0 (n := 3) hc hw (k_X3_isIn l D cI cZ cL x1 (1 : Int32) (40 : Int32)) gX3_after_X3_isIn rfl (by decide +kernel) ⟨Nat.le_of_ble_eq_true rfl, Nat.le_of_ble_eq_true rfl⟩ rfl (rest := []) rfl hl.1 (Nat.le_of_ble_eq_true rfl) (st1 := [.int (r_X3_isIn x1 (1 : Int32) (40 : Int32))]) rfl dX3_after_9 (k2 := 0) (s2 := 0) rfl rfl ⟨Nat.le_of_ble_eq_true rfl, Nat.le_of_ble_eq_true rfl⟩ (fun H locs hw => ?_)
  refine lv_if_ne (tgt := 21) hx hb dX3_after_12 (by decide) (fun c1 => ?_) (fun c1 => ?_)
  · refine lv_aload_n hx hb dX3_after_21 rfl (lv_at hl 0 rfl) ?_
    refine g_get (v := .ref (a2 0)) hc hw hiX3 0 2 (wo_X3_H ..) rfl (by decide) (List.mem_of_getElem? (i := 2) rfl) (wv_X3_H_2 ..) dX3_after_22 ?_
    refine lv_aload_n hx hb dX3_after_25 rfl (lv_at hl 0 rfl) ?_
    refine g_get (v := .ref (a 0)) hc hw hiX3 0 1 (wo_X3_H ..) rfl (by decide) (List.mem_of_getElem? (i := 3) rfl) (wv_X3_H_1 ..) dX3_after_26 ?_
    refine g_callV (n := 1) hc hw (k_X2_become l D cI cZ cL a2 a w2 b2 n2 T2 w b n T he5 he4 he30 hd5 hd4 hd30) gX3_after_X2_become rfl (by decide +kernel) ⟨Nat.le_of_ble_eq_true rfl, Nat.le_of_ble_eq_true rfl⟩ (q0 := 0) rfl rfl rfl [9, 10, 11, 12, 13, 14, 15, 16, 1, 2, 3, 4, 5, 6, 7, 8] [0] [0, 9, 10, 11, 12, 13, 14, 15, 16, 1, 2, 3, 4, 5, 6, 7, 8] (wr := ([wb_m0 h a a2 (0 : Int32)])) (w' := (wb_m h a a2 cI (0 : Int32) w b n T w b n (s_X2_become w2 b2 n2 T2 w b n T))) (wqC_X3 ..) (wqR_X3 ..) (by decide) (by decide) (by decide) (wqJ_X3 ..) (by decide) rfl (rest := []) rfl hl.1 (Nat.le_of_ble_eq_true rfl) (st1 := []) rfl dX3_after_29 (k2 := 0) (s2 := 0) rfl rfl ⟨Nat.le_of_ble_eq_true rfl, Nat.le_of_ble_eq_true rfl⟩ (fun H locs hw => ?_)
    refine lv_aload_n hx hb dX3_after_32 rfl (lv_at hl 0 rfl) ?_
    refine g_get (v := .ref (a2 0)) hc hw hiX3 0 2 (wo_X3_H ..) rfl (by decide) (List.mem_of_getElem? (i := 2) rfl) (wv_X3_H_2 ..) dX3_after_33 ?_
    refine lv_iload_n hx hb dX3_after_36 rfl (lv_at hl 1 rfl) ?_
    refine g_callV (n := 1) hc hw (k_X2_passOn l D cI cZ cL a2 w b n (s_X2_become w2 b2 n2 T2 w b n T) hd5 hd4 hd30 x1.toNatClampNeg (v_X3_days c1).2) gX3_after_X2_passOn rfl (by decide +kernel) ⟨Nat.le_of_ble_eq_true rfl, Nat.le_of_ble_eq_true rfl⟩ (wo_X2_T ..) rfl rfl [9, 10, 11, 12, 13, 14, 15, 16] [0, 1, 2, 3, 4, 5, 6, 7, 8] [0, 1, 2, 3, 4, 5, 6, 7, 8, 9, 10, 11, 12, 13, 14, 15, 16] (wr := (wb_m0 h a a2 (0 : Int32) :: wt_m a cI w b n T)) (w' := (wb_m h a a2 cI (0 : Int32) w b n T w b n (s_X2_passOn w b n (s_X2_become w2 b2 n2 T2 w b n T) x1.toNatClampNeg))) (wpC_X3_T2 ..) (wpR_X3_T2 ..) (by decide) (by decide) (by decide) (wpJ_X3_T2 ..) (by decide) rfl (rest := []) (by first | (rw [← (v_X3_days c1).1]; done) | (rw [← (v_X3_days c1).1]; rfl)) hl.1 (Nat.le_of_ble_eq_true rfl) (st1 := []) rfl dX3_after_37 (k2 := 0) (s2 := 0) rfl rfl ⟨Nat.le_of_ble_eq_true rfl, Nat.le_of_ble_eq_true rfl⟩ (fun H locs hw => ?_)
    refine lv_aload_n hx hb dX3_after_40 rfl (lv_at hl 0 rfl) ?_
    refine g_get (v := .ref (a2 0)) hc hw hiX3 0 2 (wo_X3_H ..) rfl (by decide) (List.mem_of_getElem? (i := 2) rfl) (wv_X3_H_2 ..) dX3_after_41 ?_
    refine lv_iload_n hx hb dX3_after_44 rfl (lv_at hl 2 rfl) ?_
    refine g_callV (n := 1) hc hw (k_X2_at l D cI cZ cL a2 w b n (s_X2_passOn w b n (s_X2_become w2 b2 n2 T2 w b n T) x1.toNatClampNeg) hd5 hd4 hd30 x2) gX3_after_X2_at rfl (by decide +kernel) ⟨Nat.le_of_ble_eq_true rfl, Nat.le_of_ble_eq_true rfl⟩ (wo_X2_T ..) rfl rfl [9, 10, 11, 12, 13, 14, 15, 16] [0, 1, 2, 3, 4, 5, 6, 7, 8] [0, 1, 2, 3, 4, 5, 6, 7, 8, 9, 10, 11, 12, 13, 14, 15, 16] (wr := (wb_m0 h a a2 (0 : Int32) :: wt_m a cI w b n T)) (w' := (wb_m h a a2 cI (0 : Int32) w b n T w b n (s_X2_passOn w b n (s_X2_become w2 b2 n2 T2 w b n T) x1.toNatClampNeg))) (wpC_X3_T2 ..) (wpR_X3_T2 ..) (by decide) (by decide) (by decide) (wpJ_X3_T2 ..) (by decide) rfl (rest := []) rfl hl.1 (Nat.le_of_ble_eq_true rfl) (st1 := [.int (r_X2_at w b n (s_X2_passOn w b n (s_X2_become w2 b2 n2 T2 w b n T) x1.toNatClampNeg) x2)]) rfl dX3_after_45 (k2 := 0) (s2 := 0) rfl rfl ⟨Nat.le_of_ble_eq_true rfl, Nat.le_of_ble_eq_true rfl⟩ (fun H locs hw => ?_)
    rw [show r_X3_after th w b n T w2 b2 n2 T2 x1 x2 = (r_X2_at w b n (s_X2_passOn w b n (s_X2_become w2 b2 n2 T2 w b n T) x1.toNatClampNeg) x2) from by rw [r_X3_after, if_neg c1]]
    rw [show t_X3_after th w b n T w2 b2 n2 T2 x1 x2 = (0 : Int32) from by rw [t_X3_after, if_neg c1]]
    rw [show z_X3_after th w b n T w2 b2 n2 T2 x1 x2 = (s_X2_passOn w b n (s_X2_become w2 b2 n2 T2 w b n T) x1.toNatClampNeg) from by rw [z_X3_after, if_neg c1]]
    rw [show nw2_X3_after th w b n T w2 b2 n2 T2 x1 x2 = w from by rw [nw2_X3_after, if_neg c1]]
    rw [show nb2_X3_after th w b n T w2 b2 n2 T2 x1 x2 = b from by rw [nb2_X3_after, if_neg c1]]
    rw [show nn2_X3_after th w b n T w2 b2 n2 T2 x1 x2 = n from by rw [nn2_X3_after, if_neg c1]]
    exact g_ret hc hw rfl (Nat.le_of_ble_eq_true rfl) (Nat.le_of_ble_eq_true rfl) dX3_after_48
  · refine lv_aload_n hx hb dX3_after_15 rfl (lv_at hl 0 rfl) ?_
    refine lv_iconst (v := 1) hx hb dX3_after_16 (by decide) ?_
    refine g_callV0 (n := 1) hc hw (k_X3_no l D cI cZ cL h a a2 (0 : Int32) w b n T w2 b2 n2 T2 hd5 hd4 hd30 he5 he4 he30 (1 : Int32)) gX3_after_X3_no rfl (by decide +kernel) ⟨Nat.le_of_ble_eq_true rfl, Nat.le_of_ble_eq_true rfl⟩ 0 (wo_X3_H ..) rfl rfl rfl (rest := []) rfl hl.1 (Nat.le_of_ble_eq_true rfl) (st1 := [.int (r_X3_no (0 : Int32) w b n T w2 b2 n2 T2 (1 : Int32))]) rfl dX3_after_17 (k2 := 0) (s2 := 0) rfl rfl ⟨Nat.le_of_ble_eq_true rfl, Nat.le_of_ble_eq_true rfl⟩ (fun H locs hw => ?_)
    rw [show r_X3_after th w b n T w2 b2 n2 T2 x1 x2 = (r_X3_no (0 : Int32) w b n T w2 b2 n2 T2 (1 : Int32)) from by rw [r_X3_after, if_pos c1]]
    rw [show t_X3_after th w b n T w2 b2 n2 T2 x1 x2 = (t_X3_no (0 : Int32) w b n T w2 b2 n2 T2 (1 : Int32)) from by rw [t_X3_after, if_pos c1]]
    rw [show z_X3_after th w b n T w2 b2 n2 T2 x1 x2 = T2 from by rw [z_X3_after, if_pos c1]]
    rw [show nw2_X3_after th w b n T w2 b2 n2 T2 x1 x2 = w2 from by rw [nw2_X3_after, if_pos c1]]
    rw [show nb2_X3_after th w b n T w2 b2 n2 T2 x1 x2 = b2 from by rw [nb2_X3_after, if_pos c1]]
    rw [show nn2_X3_after th w b n T w2 b2 n2 T2 x1 x2 = n2 from by rw [nn2_X3_after, if_pos c1]]
    exact g_ret hc hw rfl (Nat.le_of_ble_eq_true rfl) (Nat.le_of_ble_eq_true rfl) dX3_after_20
