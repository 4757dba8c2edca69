def f_X0_giveBowls_17 (w : Nat) (b : Nat) (n : Nat) (T : ct_T) (i7 : Nat) (q7 : ct_T × Int32) (i17 : Nat) (q17 : ct_T × Int32) : ct_T × Int32 := if (r_X0_isAt w b n q17.1 (nI i17) (1 : Int32) (nI i7)) = (0 : Int32) then (q17.1, q17.2) else (if q17.2 = (0 : Int32) then ((cs_hd (cs_ht q17.1 (upd (ct_ht q17.1) (nI i17).toNatClampNeg (1 : Int32))) (upd (ct_hd (cs_ht q17.1 (upd (ct_ht q17.1) (nI i17).toNatClampNeg (1 : Int32)))) (nI i17).toNatClampNeg (((ct_hd (cs_ht q17.1 (upd (ct_ht q17.1) (nI i17).toNatClampNeg (1 : Int32)))) (nI i17).toNatClampNeg) + (1 : Int32)))), q17.2) else ((cs_ht q17.1 (upd (ct_ht q17.1) (nI i17).toNatClampNeg (0 : Int32))), (q17.2 + (-1))))
def f_X0_giveBowls_7 (w : Nat) (b : Nat) (n : Nat) (T : ct_T) (i7 : Nat) (q7 : ct_T × Int32) : ct_T × Int32 := ((lpf (f_X0_giveBowls_17 w b n T i7 q7) n 0 (q7.1, q7.2)).1, (lpf (f_X0_giveBowls_17 w b n T i7 q7) n 0 (q7.1, q7.2)).2)
def s_X0_giveBowls (w : Nat) (b : Nat) (n : Nat) (T : ct_T) : ct_T := (cs_ea (lpf (f_X0_giveBowls_7 w b n T) w 0 (T, (ct_bo T))).1 ((ct_ea (lpf (f_X0_giveBowls_7 w b n T) w 0 (T, (ct_bo T))).1) + ((ct_bo (lpf (f_X0_giveBowls_7 w b n T) w 0 (T, (ct_bo T))).1) - (lpf (f_X0_giveBowls_7 w b n T) w 0 (T, (ct_bo T))).2)))
abbrev rm_X0_giveBowls : Room := { frames := 1, cells := 0, slots := 0, locals := 23 }
set_option maxHeartbeats 4000000 in
set_option maxRecDepth 100000 in
theorem k_X0_giveBowls (l : Launch) (D : va_G) (cI cZ cL : ClassId) (a : Nat → Nat) (w : Nat) (b : Nat) (n : Nat) (T : ct_T) (hd5 : w ≤ 5) (hd4 : b ≤ 4) (hd30 : n ≤ 30)   : MX l yX0_giveBowls wsX0_giveBowls rm_X0_giveBowls D cI cZ cL [.ref (a 0)] (wt_c a cI cZ w b n T) none (wt_c a cI cZ w b n (s_X0_giveBowls w b n T)) := by
  refine MX.of (own := RX0) (cc := cX0_giveBowls) (maxL := 4) (ret := none) (lv0 := [(0, .ref (a 0))]) (by decide) rfl rfl (Nat.le_of_ble_eq_true rfl) rfl ?_
  intro p e s m args below meth c A hc hnm hw ls hl
  obtain ⟨hx, hb, hr, hml, hown, hts, hlk, hK, hA⟩ := id hc
  have hiX0 : ∀ w ∈ u_ws RX0 TX0 16, w ∈ wsX0_giveBowls := fun _ h => List.mem_cons_of_mem _ (List.mem_append_right _ h)
  refine lv_aload_n hx hb dX0_giveBowls_0 rfl (lv_at hl 0 rfl) ?_
  refine g_get (v := .int (ct_bo T)) hc hw hiX0 0 1 (wo_X0_T ..) rfl (by decide) (List.mem_of_getElem? (i := 1) rfl) (wv_X0_T_1 ..) dX0_giveBowls_1 ?_
  refine lv_istore_n (lv' := [(1, .int (ct_bo T)), (0, .ref (a 0))]) hx hb dX0_giveBowls_4 rfl hl (by decide) rfl (fun ls hl => ?_)
  refine lv_iconst (v := 0) hx hb dX0_giveBowls_5 (by decide) ?_
  refine lv_istore_n (lv' := [(2, .int (0 : Int32)), (1, .int (ct_bo T)), (0, .ref (a 0))]) hx hb dX0_giveBowls_6 rfl hl (by decide) rfl (fun ls hl => ?_)
  refine lp_go (fun (i7 : Nat) (q7 : ct_T × Int32) => ∀ (H : Heap) (locs : List Loc) (ls : Array Slot), Wo D A s.heap (wt_c a cI cZ w b n q7.1) H locs → lv_has ls 4 [(0, .ref (a 0)), (1, .int q7.2), (2, .int (nI i7))] → W p l e rm_X0_giveBowls s m args below meth c H locs 0 0 (QE below args s D A none (wt_c a cI cZ w b n (s_X0_giveBowls w b n T)) rm_X0_giveBowls) (F0 m 7 ls [])) (f_X0_giveBowls_7 w b n T) w (T, (ct_bo T)) ?_ ?_ s.heap [] ls hw (lv_sub hl [2, 1, 0] rfl)
  · intro i7 q7 hi7 k7 H locs ls hw hl
    refine lv_iload_n hx hb dX0_giveBowls_7 rfl (lv_at hl 2 rfl) ?_
    refine lv_aload_n hx hb dX0_giveBowls_8 rfl (lv_at hl 0 rfl) ?_
    refine g_get (v := .int (nI w)) hc hw hiX0 0 3 (wo_X0_T ..) rfl (by decide) (List.mem_of_getElem? (i := 2) rfl) (wv_X0_T_3 ..) dX0_giveBowls_9 ?_
    refine lv_icmp_ge (tgt := 85) hx hb dX0_giveBowls_12 (by decide) (fun z => absurd z (nI_ge hi7 (by omega))) (fun _ => ?_)
    refine lv_iconst (v := 0) hx hb dX0_giveBowls_15 (by decide) ?_
    refine lv_istore_n (lv' := [(3, .int (0 : Int32)), (0, .ref (a 0)), (1, .int q7.2), (2, .int (nI i7))]) hx hb dX0_giveBowls_16 rfl hl (by decide) rfl (fun ls hl => ?_)
    refine lp_go (fun (i17 : Nat) (q17 : ct_T × Int32) => ∀ (H : Heap) (locs : List Loc) (ls : Array Slot), Wo D A s.heap (wt_c a cI cZ w b n q17.1) H locs → lv_has ls 4 [(0, .ref (a 0)), (1, .int q17.2), (2, .int (nI i7)), (3, .int (nI i17))] → W p l e rm_X0_giveBowls s m args below meth c H locs 0 0 (QE below args s D A none (wt_c a cI cZ w b n (s_X0_giveBowls w b n T)) rm_X0_giveBowls) (F0 m 17 ls [])) (f_X0_giveBowls_17 w b n T i7 q7) n (q7.1, q7.2) ?_ ?_ H locs ls hw (lv_sub hl [1, 2, 3, 0] rfl)
    · intro i17 q17 hi17 k17 H locs ls hw hl
      refine lv_iload_n hx hb dX0_giveBowls_17 rfl (lv_at hl 3 rfl) ?_
      refine lv_aload_n hx hb dX0_giveBowls_18 rfl (lv_at hl 0 rfl) ?_
      refine g_get (v := .int (nI n)) hc hw hiX0 0 9 (wo_X0_T ..) rfl (by decide) (List.mem_of_getElem? (i := 3) rfl) (wv_X0_T_9 ..) dX0_giveBowls_19 ?_
      refine lv_icmp_ge (tgt := 79) hx hb dX0_giveBowls_22 (by decide) (fun z => absurd z (nI_ge hi17 (by omega))) (fun _ => ?_)
      refine lv_aload_n hx hb dX0_giveBowls_25 rfl (lv_at hl 0 rfl) ?_
      refine lv_iload_n hx hb dX0_giveBowls_26 rfl (lv_at hl 3 rfl) ?_
      refine lv_iconst (v := 1) hx hb dX0_giveBowls_27 (by decide) ?_
      refine lv_iload_n hx hb dX0_giveBowls_28 rfl (lv_at hl 2 rfl) ?_
      refine g_callV0 (n := 3) hc hw (k_X0_isAt l D cI cZ cL a w b n q17.1 hd5 hd4 hd30 (nI i17) (1 : Int32) (nI i7) (vp_in_nI (show i17 < 30 by omega) (by omega))) gX0_giveBowls_X0_isAt rfl (by decide +kernel) ⟨Nat.le_of_ble_eq_true rfl, Nat.le_of_ble_eq_true rfl⟩ 0 (wo_X0_T ..) rfl rfl rfl (rest := []) rfl hl.1 (Nat.le_of_ble_eq_true rfl) (st1 := [.int (r_X0_isAt w b n q17.1 (nI i17) (1 : Int32) (nI i7))]) rfl dX0_giveBowls_29 (k2 := 0) (s2 := 0) rfl rfl ⟨Nat.le_of_ble_eq_true rfl, Nat.le_of_ble_eq_true rfl⟩ (fun H locs hw => ?_)
      refine lv_if_ne (tgt := 38) hx hb dX0_giveBowls_32 (by decide) (fun c1 => ?_) (fun c1 => ?_)
      · refine lv_aload_n hx hb dX0_giveBowls_38 rfl (lv_at hl 0 rfl) ?_
        refine g_get (v := .ref (a 14)) hc hw hiX0 0 14 (wo_X0_T ..) rfl (by decide) (List.mem_of_getElem? (i := 4) rfl) (wv_X0_T_14 ..) dX0_giveBowls_39 ?_
        refine lv_iload_n hx hb dX0_giveBowls_42 rfl (lv_at hl 3 rfl) ?_
        refine lv_iload_n hx hb dX0_giveBowls_43 rfl (lv_at hl 1 rfl) ?_
        refine lv_if_ne (tgt := 51) hx hb dX0_giveBowls_44 (by decide) (fun c2 => ?_) (fun c2 => ?_)
        · refine lv_iconst (v := 0) hx hb dX0_giveBowls_51 (by decide) ?_
          refine g_zast (f := (ct_ht q17.1)) hc hw 9 (wr_X0_T_14 ..) (vp_in_nI (show i17 < 30 by omega) (by omega)) rfl (w' := (wt_c a cI cZ w b n (cs_ht q17.1 (upd (ct_ht q17.1) (nI i17).toNatClampNeg (0 : Int32))))) (wu_X0_T_14 ..) dX0_giveBowls_52 (fun H locs hw => ?_)
          refine lv_iload_n hx hb dX0_giveBowls_53 rfl (lv_at hl 1 rfl) ?_
          refine lv_if_ne (tgt := 70) hx hb dX0_giveBowls_54 (by decide) (fun _ => ?_) (fun z => absurd z c2)
          refine lv_iinc (v := (q17.2 + (-1))) (lv' := [(1, .int (q17.2 + (-1))), (0, .ref (a 0)), (2, .int (nI i7)), (3, .int (nI i17))]) hx hb dX0_giveBowls_70 hl (k := 1) rfl (dec_1 _) (by decide) rfl (fun ls hl => ?_)
          refine lv_iinc (v := (nI (i17 + 1))) (lv' := [(3, .int (nI (i17 + 1))), (1, .int (q17.2 + (-1))), (0, .ref (a 0)), (2, .int (nI i7))]) hx hb dX0_giveBowls_73 hl (k := 3) rfl (inc_n i17) (by decide) rfl (fun ls hl => ?_)
          refine lv_goto (tgt := 17) hx hb dX0_giveBowls_76 (by decide) ?_
          rw [show (f_X0_giveBowls_17 w b n T i7 q7) i17 q17 = ((cs_ht q17.1 (upd (ct_ht q17.1) (nI i17).toNatClampNeg (0 : Int32))), (q17.2 + (-1))) from by rw [f_X0_giveBowls_17, if_neg c1, if_neg c2]] at k17
          exact k17 H locs ls hw (lv_sub hl [2, 1, 3, 0] rfl)
        · refine lv_iconst (v := 1) hx hb dX0_giveBowls_47 (by decide) ?_
          refine lv_goto (tgt := 52) hx hb dX0_giveBowls_48 (by decide) ?_
          refine g_zast (f := (ct_ht q17.1)) hc hw 9 (wr_X0_T_14 ..) (vp_in_nI (show i17 < 30 by omega) (by omega)) rfl (w' := (wt_c a cI cZ w b n (cs_ht q17.1 (upd (ct_ht q17.1) (nI i17).toNatClampNeg (1 : Int32))))) (wu_X0_T_14 ..) dX0_giveBowls_52 (fun H locs hw => ?_)
          refine lv_iload_n hx hb dX0_giveBowls_53 rfl (lv_at hl 1 rfl) ?_
          refine lv_if_ne (tgt := 70) hx hb dX0_giveBowls_54 (by decide) (fun z => absurd c2 z) (fun _ => ?_)
          refine lv_aload_n hx hb dX0_giveBowls_57 rfl (lv_at hl 0 rfl) ?_
          refine g_get (v := .ref (a 13)) hc hw hiX0 0 13 (wo_X0_T ..) rfl (by decide) (List.mem_of_getElem? (i := 5) rfl) (wv_X0_T_13 ..) dX0_giveBowls_58 ?_
          refine lv_iload_n hx hb dX0_giveBowls_61 rfl (lv_at hl 3 rfl) ?_
          refine lv_dup2_11 hx hb dX0_giveBowls_62 rfl rfl ?_
          refine g_iald (f := (ct_hd (cs_ht q17.1 (upd (ct_ht q17.1) (nI i17).toNatClampNeg (1 : Int32))))) hc hw 8 (wr_X0_T_13 ..) (vp_in_nI (show i17 < 30 by omega) (by omega)) dX0_giveBowls_63 ?_
          refine lv_iconst (v := 1) hx hb dX0_giveBowls_64 (by decide) ?_
          refine lv_iadd hx hb dX0_giveBowls_65 ?_
          refine g_iast (f := (ct_hd (cs_ht q17.1 (upd (ct_ht q17.1) (nI i17).toNatClampNeg (1 : Int32))))) hc hw 8 (wr_X0_T_13 ..) (vp_in_nI (show i17 < 30 by omega) (by omega)) (w' := (wt_c a cI cZ w b n (cs_hd (cs_ht q17.1 (upd (ct_ht q17.1) (nI i17).toNatClampNeg (1 : Int32))) (upd (ct_hd (cs_ht q17.1 (upd (ct_ht q17.1) (nI i17).toNatClampNeg (1 : Int32)))) (nI i17).toNatClampNeg (((ct_hd (cs_ht q17.1 (upd (ct_ht q17.1) (nI i17).toNatClampNeg (1 : Int32)))) (nI i17).toNatClampNeg) + (1 : Int32)))))) (wu_X0_T_13 ..) dX0_giveBowls_66 (fun H locs hw => ?_)
          refine lv_goto (tgt := 73) hx hb dX0_giveBowls_67 (by decide) ?_
          refine lv_iinc (v := (nI (i17 + 1))) (lv' := [(3, .int (nI (i17 + 1))), (0, .ref (a 0)), (1, .int q17.2), (2, .int (nI i7))]) hx hb dX0_giveBowls_73 hl (k := 3) rfl (inc_n i17) (by decide) rfl (fun ls hl => ?_)
          refine lv_goto (tgt := 17) hx hb dX0_giveBowls_76 (by decide) ?_
          rw [show (f_X0_giveBowls_17 w b n T i7 q7) i17 q17 = ((cs_hd (cs_ht q17.1 (upd (ct_ht q17.1) (nI i17).toNatClampNeg (1 : Int32))) (upd (ct_hd (cs_ht q17.1 (upd (ct_ht q17.1) (nI i17).toNatClampNeg (1 : Int32)))) (nI i17).toNatClampNeg (((ct_hd (cs_ht q17.1 (upd (ct_ht q17.1) (nI i17).toNatClampNeg (1 : Int32)))) (nI i17).toNatClampNeg) + (1 : Int32)))), q17.2) from by rw [f_X0_giveBowls_17, if_neg c1, if_pos c2]] at k17
          exact k17 H locs ls hw (lv_sub hl [1, 2, 3, 0] rfl)
      · refine lv_goto (tgt := 73) hx hb dX0_giveBowls_35 (by decide) ?_
        refine lv_iinc (v := (nI (i17 + 1))) (lv' := [(3, .int (nI (i17 + 1))), (0, .ref (a 0)), (1, .int q17.2), (2, .int (nI i7))]) hx hb dX0_giveBowls_73 hl (k := 3) rfl (inc_n i17) (by decide) rfl (fun ls hl => ?_)
        refine lv_goto (tgt := 17) hx hb dX0_giveBowls_76 (by decide) ?_
        rw [show (f_X0_giveBowls_17 w b n T i7 q7) i17 q17 = (q17.1, q17.2) from by rw [f_X0_giveBowls_17, if_pos c1]] at k17
        exact k17 H locs ls hw (lv_sub hl [1, 2, 3, 0] rfl)
    · intro H locs ls hw hl
      refine lv_iload_n hx hb dX0_giveBowls_17 rfl (lv_at hl 3 rfl) ?_
      refine lv_aload_n hx hb dX0_giveBowls_18 rfl (lv_at hl 0 rfl) ?_
      refine g_get (v := .int (nI n)) hc hw hiX0 0 9 (wo_X0_T ..) rfl (by decide) (List.mem_of_getElem? (i := 3) rfl) (wv_X0_T_9 ..) dX0_giveBowls_19 ?_
      refine lv_icmp_ge (tgt := 79) hx hb dX0_giveBowls_22 (by decide) (fun _ => ?_) (fun z => absurd (nI_le (Nat.le_refl _) (by omega)) z)
      refine lv_iinc (v := (nI (i7 + 1))) (lv' := [(2, .int (nI (i7 + 1))), (0, .ref (a 0)), (1, .int ((lpf (f_X0_giveBowls_17 w b n T i7 q7) n 0 (q7.1, q7.2)).2)), (3, .int (nI n))]) hx hb dX0_giveBowls_79 hl (k := 2) rfl (inc_n i7) (by decide) rfl (fun ls hl => ?_)
      refine lv_goto (tgt := 7) hx hb dX0_giveBowls_82 (by decide) ?_
      rw [show (f_X0_giveBowls_7 w b n T) i7 q7 = ((lpf (f_X0_giveBowls_17 w b n T i7 q7) n 0 (q7.1, q7.2)).1, (lpf (f_X0_giveBowls_17 w b n T i7 q7) n 0 (q7.1, q7.2)).2) from by rw [f_X0_giveBowls_7]] at k7
      exact k7 H locs ls hw (lv_sub hl [1, 2, 0] rfl)
  · intro H locs ls hw hl
    refine lv_iload_n hx hb dX0_giveBowls_7 rfl (lv_at hl 2 rfl) ?_
    refine lv_aload_n hx hb dX0_giveBowls_8 rfl (lv_at hl 0 rfl) ?_
    refine g_get (v := .int (nI w)) hc hw hiX0 0 3 (wo_X0_T ..) rfl (by decide) (List.mem_of_getElem? (i := 2) rfl) (wv_X0_T_3 ..) dX0_giveBowls_9 ?_
    refine lv_icmp_ge (tgt := 85) hx hb dX0_giveBowls_12 (by decide) (fun _ => ?_) (fun z => absurd (nI_le (Nat.le_refl _) (by omega)) z)
    refine lv_aload_n hx hb dX0_giveBowls_85 rfl (lv_at hl 0 rfl) ?_
    refine lv_dup hx hb dX0_giveBowls_86 rfl ?_
    refine g_get (v := .int (ct_ea (lpf (f_X0_giveBowls_7 w b n T) w 0 (T, (ct_bo T))).1)) hc hw hiX0 0 2 (wo_X0_T ..) rfl (by decide) (List.mem_of_getElem? (i := 6) rfl) (wv_X0_T_2 ..) dX0_giveBowls_87 ?_
    refine lv_aload_n hx hb dX0_giveBowls_90 rfl (lv_at hl 0 rfl) ?_
    refine g_get (v := .int (ct_bo (lpf (f_X0_giveBowls_7 w b n T) w 0 (T, (ct_bo T))).1)) hc hw hiX0 0 1 (wo_X0_T ..) rfl (by decide) (List.mem_of_getElem? (i := 1) rfl) (wv_X0_T_1 ..) dX0_giveBowls_91 ?_
    refine lv_iload_n hx hb dX0_giveBowls_94 rfl (lv_at hl 1 rfl) ?_
    refine lv_isub hx hb dX0_giveBowls_95 ?_
    refine lv_iadd hx hb dX0_giveBowls_96 ?_
    refine g_put hc hw hiX0 tyX0 tyX0_ok nmX0 0 2 (wo_X0_T ..) rfl (by decide) (List.mem_of_getElem? (i := 6) rfl) (by decide) rfl rfl (Nat.le_of_ble_eq_true rfl) (w' := (wt_c a cI cZ w b n (cs_ea (lpf (f_X0_giveBowls_7 w b n T) w 0 (T, (ct_bo T))).1 ((ct_ea (lpf (f_X0_giveBowls_7 w b n T) w 0 (T, (ct_bo T))).1) + ((ct_bo (lpf (f_X0_giveBowls_7 w b n T) w 0 (T, (ct_bo T))).1) - (lpf (f_X0_giveBowls_7 w b n T) w 0 (T, (ct_bo T))).2))))) (wp_X0_T_2 ..) dX0_giveBowls_97 (fun H locs hw => ?_)
    rw [show s_X0_giveBowls w b n T = (cs_ea (lpf (f_X0_giveBowls_7 w b n T) w 0 (T, (ct_bo T))).1 ((ct_ea (lpf (f_X0_giveBowls_7 w b n T) w 0 (T, (ct_bo T))).1) + ((ct_bo (lpf (f_X0_giveBowls_7 w b n T) w 0 (T, (ct_bo T))).1) - (lpf (f_X0_giveBowls_7 w b n T) w 0 (T, (ct_bo T))).2))) from by rw [s_X0_giveBowls]]
    exact g_vret hc hw rfl (Nat.le_of_ble_eq_true rfl) (Nat.le_of_ble_eq_true rfl) dX0_giveBowls_100
