def e_X1_greatHouseAfter (w : Nat) (b : Nat) (n : Nat) (T : ct_T) (w2 : Nat) (b2 : Nat) (n2 : Nat) (T2 : ct_T) (x1 : Int32) : Nat := if (e_X1_checkDays x1) = 0 then (0) else ((e_X1_checkDays x1))
def r_X1_greatHouseAfter (w : Nat) (b : Nat) (n : Nat) (T : ct_T) (w2 : Nat) (b2 : Nat) (n2 : Nat) (T2 : ct_T) (x1 : Int32) : Int32 := if (e_X1_checkDays x1) = 0 then ((r_X1_countBehind w b n T w2 b2 n2 T2 x1.toNatClampNeg (3 : Int32))) else ((0 : Int32))
def z_X1_greatHouseAfter (w : Nat) (b : Nat) (n : Nat) (T : ct_T) (w2 : Nat) (b2 : Nat) (n2 : Nat) (T2 : ct_T) (x1 : Int32) : ct_T := if (e_X1_checkDays x1) = 0 then ((z_X1_countBehind w b n T w2 b2 n2 T2 x1.toNatClampNeg (3 : Int32))) else (T2)
abbrev rm_X1_greatHouseAfter : Room := { frames := 7, cells := 1, slots := 6, locals := 135 }
set_option maxHeartbeats 4000000 in
set_option maxRecDepth 100000 in
theorem k_X1_greatHouseAfter {l : Launch} (hst : l.stackTraces = false) (D : va_G) (cI cZ cL : ClassId) (h : Nat) (a a2 : Nat → Nat) (w : Nat) (b : Nat) (n : Nat) (T : ct_T) (w2 : Nat) (b2 : Nat) (n2 : Nat) (T2 : ct_T) (hd5 : w ≤ 5) (hd4 : b ≤ 4) (hd30 : n ≤ 30) (he5 : w2 ≤ 5) (he4 : b2 ≤ 4) (he30 : n2 ≤ 30) (x1 : Int32)  : TX l yX1_greatHouseAfter wsX1_greatHouseAfter rm_X1_greatHouseAfter D cI cZ cL [.ref h, .int x1] (wb_c h a a2 cI cZ w b n T w2 b2 n2 T2) (e_X1_greatHouseAfter w b n T w2 b2 n2 T2 x1) (some (.int (r_X1_greatHouseAfter w b n T w2 b2 n2 T2 x1))) (wb_c h a a2 cI cZ w b n T w b n (z_X1_greatHouseAfter w b n T w2 b2 n2 T2 x1)) := by
  refine TX.of (own := RX1) (cc := cX1_greatHouseAfter) (maxL := 2) (ret := (some .int)) (lv0 := [(0, .ref h), (1, .int x1)]) (by decide) rfl rfl (Nat.le_of_ble_eq_true rfl) rfl ?_
  intro p e s m args below meth c A hc hT hout hw ls hl
  obtain ⟨hx, hb, hr, hml, hown, hts, hlk, hK, hA⟩ := id hc
  refine lv_iload_n hx hb dX1_greatHouseAfter_0 rfl (lv_at hl 1 rfl) ?_
  refine t_callS0 (n := 1) hc hT hw (k_X1_checkDays hst D cI cZ cL x1) gX1_greatHouseAfter_X1_checkDays rfl (by decide +kernel) ⟨Nat.le_of_ble_eq_true rfl, Nat.le_of_ble_eq_true rfl⟩ rfl (rest := []) rfl hl.1 (Nat.le_of_ble_eq_true rfl) (st1 := []) rfl dX1_greatHouseAfter_1 (k2 := 1) (s2 := 6) rfl rfl ⟨Nat.le_of_ble_eq_true rfl, Nat.le_of_ble_eq_true rfl⟩ (fun he1 H locs q9 ce9 hw h1 h2 h3 => ?_) (fun he1 H locs hw => ?_)
  · rw [show e_X1_greatHouseAfter w b n T w2 b2 n2 T2 x1 = (e_X1_checkDays x1) from by rw [e_X1_greatHouseAfter, if_neg he1]]
    exact t_out hc hout hw he1 h1 h2 h3 (Nat.le_of_ble_eq_true rfl) (Nat.le_of_ble_eq_true rfl)
  · have hN2 := v_X1_checkDays he1
    refine lv_aload_n hx hb dX1_greatHouseAfter_4 rfl (lv_at hl 0 rfl) ?_
    refine lv_iload_n hx hb dX1_greatHouseAfter_5 rfl (lv_at hl 1 rfl) ?_
    refine lv_iconst (v := 3) hx hb dX1_greatHouseAfter_6 (by decide) ?_
    refine g_callV0 (n := 2) hc hw (k_X1_countBehind l D cI cZ cL h a a2 w b n T w2 b2 n2 T2 hd5 hd4 hd30 he5 he4 he30 x1.toNatClampNeg (3 : Int32) hN2.2) gX1_greatHouseAfter_X1_countBehind rfl (by decide +kernel) ⟨Nat.le_of_ble_eq_true rfl, Nat.le_of_ble_eq_true rfl⟩ 0 (wo_X1_H ..) rfl rfl rfl (rest := []) (by first | (rw [← hN2.1]; done) | (rw [← hN2.1]; rfl)) hl.1 (Nat.le_of_ble_eq_true rfl) (st1 := [.int (r_X1_countBehind w b n T w2 b2 n2 T2 x1.toNatClampNeg (3 : Int32))]) rfl dX1_greatHouseAfter_7 (k2 := 1) (s2 := 6) rfl rfl ⟨Nat.le_of_ble_eq_true rfl, Nat.le_of_ble_eq_true rfl⟩ (fun H locs hw => ?_)
    refine t_end (show e_X1_greatHouseAfter w b n T w2 b2 n2 T2 x1 = 0 from by rw [e_X1_greatHouseAfter, if_pos he1]) (fun _ _ z1 z2 => ?_)
    subst z1; subst z2
    rw [show r_X1_greatHouseAfter w b n T w2 b2 n2 T2 x1 = (r_X1_countBehind w b n T w2 b2 n2 T2 x1.toNatClampNeg (3 : Int32)) from by rw [r_X1_greatHouseAfter, if_pos he1]]
    rw [show z_X1_greatHouseAfter w b n T w2 b2 n2 T2 x1 = (z_X1_countBehind w b n T w2 b2 n2 T2 x1.toNatClampNeg (3 : Int32)) from by rw [z_X1_greatHouseAfter, if_pos he1]]
    exact g_ret hc hw rfl (Nat.le_of_ble_eq_true rfl) (Nat.le_of_ble_eq_true rfl) dX1_greatHouseAfter_10

def f_X1_daysUntilHome_18 (w : Nat) (b : Nat) (n : Nat) (T : ct_T) (w2 : Nat) (b2 : Nat) (n2 : Nat) (T2 : ct_T) (x1 : Int32) (i18 : Nat) (q18 : ct_T) : (Int32 × ct_T) ⊕ (ct_T) := if ((ct_wh q18) x1.toNatClampNeg) = (2 : Int32) then (.inl ((nI i18), q18)) else (.inr ((s_X0_liveDays w b n q18 1)))
def e_X1_daysUntilHome (w : Nat) (b : Nat) (n : Nat) (T : ct_T) (w2 : Nat) (b2 : Nat) (n2 : Nat) (T2 : ct_T) (x1 : Int32) : Nat := if (e_X1_checkPerson w b n T w2 b2 n2 T2 x1) = 0 then (0) else ((e_X1_checkPerson w b n T w2 b2 n2 T2 x1))
def r_X1_daysUntilHome (w : Nat) (b : Nat) (n : Nat) (T : ct_T) (w2 : Nat) (b2 : Nat) (n2 : Nat) (T2 : ct_T) (x1 : Int32) : Int32 := if (e_X1_checkPerson w b n T w2 b2 n2 T2 x1) = 0 then (match lpx (f_X1_daysUntilHome_18 w b n T w2 b2 n2 T2 x1) 61 0 ((s_X0_copyFrom w2 b2 n2 T2 w b n T)) with | .inl bb => bb.1 | .inr q18 => (-1 : Int32)) else ((0 : Int32))
def z_X1_daysUntilHome (w : Nat) (b : Nat) (n : Nat) (T : ct_T) (w2 : Nat) (b2 : Nat) (n2 : Nat) (T2 : ct_T) (x1 : Int32) : ct_T := if (e_X1_checkPerson w b n T w2 b2 n2 T2 x1) = 0 then (match lpx (f_X1_daysUntilHome_18 w b n T w2 b2 n2 T2 x1) 61 0 ((s_X0_copyFrom w2 b2 n2 T2 w b n T)) with | .inl bb => bb.2 | .inr q18 => q18) else (T2)
abbrev rm_X1_daysUntilHome : Room := { frames := 7, cells := 1, slots := 6, locals := 113 }
set_option maxHeartbeats 4000000 in
set_option maxRecDepth 100000 in
theorem k_X1_daysUntilHome {l : Launch} (hst : l.stackTraces = false) (D : va_G) (cI cZ cL : ClassId) (h : Nat) (a a2 : Nat → Nat) (w : Nat) (b : Nat) (n : Nat) (T : ct_T) (w2 : Nat) (b2 : Nat) (n2 : Nat) (T2 : ct_T) (hd5 : w ≤ 5) (hd4 : b ≤ 4) (hd30 : n ≤ 30) (he5 : w2 ≤ 5) (he4 : b2 ≤ 4) (he30 : n2 ≤ 30) (x1 : Int32)  : TX l yX1_daysUntilHome wsX1_daysUntilHome rm_X1_daysUntilHome D cI cZ cL [.ref h, .int x1] (wb_c h a a2 cI cZ w b n T w2 b2 n2 T2) (e_X1_daysUntilHome w b n T w2 b2 n2 T2 x1) (some (.int (r_X1_daysUntilHome w b n T w2 b2 n2 T2 x1))) (wb_c h a a2 cI cZ w b n T w b n (z_X1_daysUntilHome w b n T w2 b2 n2 T2 x1)) := by
  refine TX.of (own := RX1) (cc := cX1_daysUntilHome) (maxL := 3) (ret := (some .int)) (lv0 := [(0, .ref h), (1, .int x1)]) (by decide) rfl rfl (Nat.le_of_ble_eq_true rfl) rfl ?_
  intro p e s m args below meth c A hc hT hout hw ls hl
  obtain ⟨hx, hb, hr, hml, hown, hts, hlk, hK, hA⟩ := id hc
  have hiX0 : ∀ w ∈ u_ws RX0 TX0 16, w ∈ wsX1_daysUntilHome := fun _ h => List.mem_cons_of_mem _ (List.mem_append_left _ (List.mem_append_right _ h))
  have hiX1 : ∀ w ∈ u_ws RX1 TX1 2, w ∈ wsX1_daysUntilHome := fun _ h => List.mem_cons_of_mem _ (List.mem_append_left _ (List.mem_append_left _ (List.mem_append_right _ h)))
  refine lv_aload_n hx hb dX1_daysUntilHome_0 rfl (lv_at hl 0 rfl) ?_
  refine lv_iload_n hx hb dX1_daysUntilHome_1 rfl (lv_at hl 1 rfl) ?_
  refine t_callV0 (n := 1) hc hT hw (k_X1_checkPerson hst D cI cZ cL h a a2 w b n T w2 b2 n2 T2 hd5 hd4 hd30 he5 he4 he30 x1) gX1_daysUntilHome_X1_checkPerson rfl (by decide +kernel) ⟨Nat.le_of_ble_eq_true rfl, Nat.le_of_ble_eq_true rfl⟩ 0 (wo_X1_H ..) rfl rfl rfl (rest := []) rfl hl.1 (Nat.le_of_ble_eq_true rfl) (st1 := []) rfl dX1_daysUntilHome_2 (k2 := 1) (s2 := 6) rfl rfl ⟨Nat.le_of_ble_eq_true rfl, Nat.le_of_ble_eq_true rfl⟩ (fun he1 H locs q9 ce9 hw h1 h2 h3 => ?_) (fun he1 H locs hw => ?_)
  · rw [show e_X1_daysUntilHome w b n T w2 b2 n2 T2 x1 = (e_X1_checkPerson w b n T w2 b2 n2 T2 x1) from by rw [e_X1_daysUntilHome, if_neg he1]]
    exact t_out hc hout hw he1 h1 h2 h3 (Nat.le_of_ble_eq_true rfl) (Nat.le_of_ble_eq_true rfl)
  · have hv2 : vp_in x1 30 := vp_x (v_X1_checkPerson he1).1 (v_X1_checkPerson he1).2 hd30 (by omega)
    refine lv_aload_n hx hb dX1_daysUntilHome_5 rfl (lv_at hl 0 rfl) ?_
    refine g_get (v := .ref (a2 0)) hc hw hiX1 0 1 (wo_X1_H ..) rfl (by decide) (List.mem_of_getElem? (i := 1) rfl) (wv_X1_H_1 ..) dX1_daysUntilHome_6 ?_
    refine lv_aload_n hx hb dX1_daysUntilHome_9 rfl (lv_at hl 0 rfl) ?_
    refine g_get (v := .ref (a 0)) hc hw hiX1 0 0 (wo_X1_H ..) rfl (by decide) (List.mem_of_getElem? (i := 2) rfl) (wv_X1_H_0 ..) dX1_daysUntilHome_10 ?_
    refine g_callV (n := 1) hc hw (k_X0_copyFrom l D cI cZ cL a2 a w2 b2 n2 T2 w b n T he5 he4 he30 hd5 hd4 hd30) gX1_daysUntilHome_X0_copyFrom rfl (by decide +kernel) ⟨Nat.le_of_ble_eq_true rfl, Nat.le_of_ble_eq_true rfl⟩ (q0 := 0) rfl rfl rfl [12, 13, 14, 15, 16, 17, 18, 19, 20, 21, 22, 1, 2, 3, 4, 5, 6, 7, 8, 9, 10, 11] [0] [0, 12, 13, 14, 15, 16, 17, 18, 19, 20, 21, 22, 1, 2, 3, 4, 5, 6, 7, 8, 9, 10, 11] (wr := ([wb_c0 h a a2])) (w' := (wb_c h a a2 cI cZ w b n T w b n (s_X0_copyFrom w2 b2 n2 T2 w b n T))) (wqC_X1 ..) (wqR_X1 ..) (by decide) (by decide) (by decide) (wqJ_X1 ..) (by decide) rfl (rest := []) rfl hl.1 (Nat.le_of_ble_eq_true rfl) (st1 := []) rfl dX1_daysUntilHome_13 (k2 := 1) (s2 := 6) rfl rfl ⟨Nat.le_of_ble_eq_true rfl, Nat.le_of_ble_eq_true rfl⟩ (fun H locs hw => ?_)
    refine lv_iconst (v := 0) hx hb dX1_daysUntilHome_16 (by decide) ?_
    refine lv_istore_n (lv' := [(2, .int (0 : Int32)), (0, .ref h), (1, .int x1)]) hx hb dX1_daysUntilHome_17 rfl hl (by decide) rfl (fun ls hl => ?_)
    refine lpx_go (fun (i18 : Nat) (q18 : ct_T) => ∀ (H : Heap) (locs : List Loc) (ls : Array Slot), Wo D A s.heap (wb_c h a a2 cI cZ w b n T w b n q18) H locs → lv_has ls 3 [(0, .ref h), (1, .int x1), (2, .int (nI i18))] → W p l e rm_X1_daysUntilHome s m args below meth c H locs 1 6 (TE below args s D A (e_X1_daysUntilHome w b n T w2 b2 n2 T2 x1) (some (.int (r_X1_daysUntilHome w b n T w2 b2 n2 T2 x1))) (wb_c h a a2 cI cZ w b n T w2 b2 n2 T2) (wb_c h a a2 cI cZ w b n T w b n (z_X1_daysUntilHome w b n T w2 b2 n2 T2 x1)) rm_X1_daysUntilHome) (F0 m 18 ls [])) (fun (bb : Int32 × ct_T) => r_X1_daysUntilHome w b n T w2 b2 n2 T2 x1 = bb.1 ∧ z_X1_daysUntilHome w b n T w2 b2 n2 T2 x1 = bb.2) (f_X1_daysUntilHome_18 w b n T w2 b2 n2 T2 x1) 61 ((s_X0_copyFrom w2 b2 n2 T2 w b n T)) ?_ ?_ ?_ H locs ls hw (lv_sub hl [1, 2, 0] rfl)
    · intro i18 q18 hi18 x18_x k18 H locs ls hw hl
      refine lv_iload_n hx hb dX1_daysUntilHome_18 rfl (lv_at hl 2 rfl) ?_
      refine lv_bipush (v := 60) hx hb dX1_daysUntilHome_19 (by decide) ?_
      refine lv_icmp_gt (tgt := 53) hx hb dX1_daysUntilHome_21 (by decide) (fun z => absurd z (nI_nlt (show i18 ≤ 60 by omega) (by decide))) (fun _ => ?_)
      refine lv_aload_n hx hb dX1_daysUntilHome_24 rfl (lv_at hl 0 rfl) ?_
      refine g_get (v := .ref (a2 0)) hc hw hiX1 0 1 (wo_X1_H ..) rfl (by decide) (List.mem_of_getElem? (i := 1) rfl) (wv_X1_H_1 ..) dX1_daysUntilHome_25 ?_
      refine g_get (v := .ref (a2 11)) hc hw hiX0 12 11 (wo_X1_T2 ..) rfl (by decide) (List.mem_of_getElem? (i := 3) rfl) (wv_X1_T2_11 ..) dX1_daysUntilHome_28 ?_
      refine lv_iload_n hx hb dX1_daysUntilHome_31 rfl (lv_at hl 1 rfl) ?_
      refine g_iald (f := (ct_wh q18)) hc hw 18 (wr_X1_T2_11 ..) hv2 dX1_daysUntilHome_32 ?_
      refine lv_iconst (v := 2) hx hb dX1_daysUntilHome_33 (by decide) ?_
      refine lv_icmp_ne (tgt := 39) hx hb dX1_daysUntilHome_34 (by decide) (fun c3 => ?_) (fun c3 => ?_)
      · refine lv_aload_n hx hb dX1_daysUntilHome_39 rfl (lv_at hl 0 rfl) ?_
        refine g_get (v := .ref (a2 0)) hc hw hiX1 0 1 (wo_X1_H ..) rfl (by decide) (List.mem_of_getElem? (i := 1) rfl) (wv_X1_H_1 ..) dX1_daysUntilHome_40 ?_
        refine lv_iconst (v := 1) hx hb dX1_daysUntilHome_43 (by decide) ?_
        refine g_callV (n := 1) hc hw (k_X0_liveDays l D cI cZ cL a2 w b n q18 hd5 hd4 hd30 1 (by decide)) gX1_daysUntilHome_X0_liveDays rfl (by decide +kernel) ⟨Nat.le_of_ble_eq_true rfl, Nat.le_of_ble_eq_true rfl⟩ (wo_X0_T ..) rfl rfl [12, 13, 14, 15, 16, 17, 18, 19, 20, 21, 22] [0, 1, 2, 3, 4, 5, 6, 7, 8, 9, 10, 11] [0, 1, 2, 3, 4, 5, 6, 7, 8, 9, 10, 11, 12, 13, 14, 15, 16, 17, 18, 19, 20, 21, 22] (wr := (wb_c0 h a a2 :: wt_c a cI cZ w b n T)) (w' := (wb_c h a a2 cI cZ w b n T w b n (s_X0_liveDays w b n q18 1))) (wpC_X1_T2 ..) (wpR_X1_T2 ..) (by decide) (by decide) (by decide) (wpJ_X1_T2 ..) (by decide) rfl (rest := []) rfl hl.1 (Nat.le_of_ble_eq_true rfl) (st1 := []) rfl dX1_daysUntilHome_44 (k2 := 1) (s2 := 6) rfl rfl ⟨Nat.le_of_ble_eq_true rfl, Nat.le_of_ble_eq_true rfl⟩ (fun H locs hw => ?_)
        refine lv_iinc (v := (nI (i18 + 1))) (lv' := [(2, .int (nI (i18 + 1))), (0, .ref h), (1, .int x1)]) hx hb dX1_daysUntilHome_47 hl (k := 2) rfl (inc_n i18) (by decide) rfl (fun ls hl => ?_)
        refine lv_goto (tgt := 18) hx hb dX1_daysUntilHome_50 (by decide) ?_
        exact k18 ((s_X0_liveDays w b n q18 1)) (by rw [f_X1_daysUntilHome_18, if_neg c3]) H locs ls hw (lv_sub hl [1, 2, 0] rfl)
      · refine lv_iload_n hx hb dX1_daysUntilHome_37 rfl (lv_at hl 2 rfl) ?_
        obtain ⟨e0, e1⟩ := x18_x ((nI i18), q18) (by rw [f_X1_daysUntilHome_18, if_pos c3])
        refine t_end (show e_X1_daysUntilHome w b n T w2 b2 n2 T2 x1 = 0 from by rw [e_X1_daysUntilHome, if_pos he1]) (fun _ _ z1 z2 => ?_)
        subst z1; subst z2
        rw [show r_X1_daysUntilHome w b n T w2 b2 n2 T2 x1 = _ from e0]
        rw [show z_X1_daysUntilHome w b n T w2 b2 n2 T2 x1 = _ from e1]
        exact g_ret hc hw rfl (Nat.le_of_ble_eq_true rfl) (Nat.le_of_ble_eq_true rfl) dX1_daysUntilHome_38
    · intro bb hL18
      exact ⟨by rw [r_X1_daysUntilHome, if_pos he1, hL18], by rw [z_X1_daysUntilHome, if_pos he1, hL18]⟩
    · intro q18 hL18 H locs ls hw hl
      refine lv_iload_n hx hb dX1_daysUntilHome_18 rfl (lv_at hl 2 rfl) ?_
      refine lv_bipush (v := 60) hx hb dX1_daysUntilHome_19 (by decide) ?_
      refine lv_icmp_gt (tgt := 53) hx hb dX1_daysUntilHome_21 (by decide) (fun _ => ?_) (fun z => absurd (nI_lt (show 60 < 61 by omega) (by omega)) z)
      refine lv_iconst (v := (-1)) hx hb dX1_daysUntilHome_53 (by decide) ?_
      refine t_end (show e_X1_daysUntilHome w b n T w2 b2 n2 T2 x1 = 0 from by rw [e_X1_daysUntilHome, if_pos he1]) (fun _ _ z1 z2 => ?_)
      subst z1; subst z2
      rw [show r_X1_daysUntilHome w b n T w2 b2 n2 T2 x1 = (-1 : Int32) from by rw [r_X1_daysUntilHome, hL18, if_pos he1]]
      rw [show z_X1_daysUntilHome w b n T w2 b2 n2 T2 x1 = q18 from by rw [z_X1_daysUntilHome, hL18, if_pos he1]]
      exact g_ret hc hw rfl (Nat.le_of_ble_eq_true rfl) (Nat.le_of_ble_eq_true rfl) dX1_daysUntilHome_54
