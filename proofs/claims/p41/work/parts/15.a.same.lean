/-! 15.a: isSame: it says yes of towns that are alike -/
abbrev rm_X2_isSame : Room := { frames := 8, cells := 400, slots := 2400, locals := 132 }
set_option maxHeartbeats 8000000 in
set_option maxRecDepth 100000 in
theorem k_X2_isSame {l : Launch} (hst : l.stackTraces = false) (D : va_G) (cI cZ cL : ClassId) {h : Nat} {a a2 : Nat → Nat} {w b n k : Nat} {T : ct_T} {w2 b2 n2 : Nat} {T2 : ct_T} {Z : sA} {dy ea : Int32} {Wr Br Pr : Nat → Nat → Int32} (hd5 : w ≤ 5) (hd4 : b ≤ 4) (hd30 : n ≤ 30) (he5 : w2 ≤ 5) (he4 : b2 ≤ 4) (he30 : n2 ≤ 30) (hk : k ≤ 60) (hD : DI w b n k T (dy, ea, Wr, Br, Pr)) : MG l yX2_isSame wsX2_isSame rm_X2_isSame D cI cZ cL [.ref (zh Z), .ref h] (wb_c h a a2 cI cZ w b n T w2 b2 n2 T2 ++ ws_s Z cI cL w b n dy (nI k) ea Wr Br Pr []) (fun res w1 => res = some (.int 1) ∧ w1 = (wb_c h a a2 cI cZ w b n T w2 b2 n2 T2 ++ ws_s Z cI cL w b n dy (nI k) ea Wr Br Pr [])) := by
  refine MG.of (own := RX2) (cc := cX2_isSame) (maxL := 12) (ret := (some .boolean)) (lv0 := [(0, .ref (zh Z)), (1, .ref h)]) (by decide) rfl rfl (Nat.le_of_ble_eq_true rfl) rfl ?_
  intro p e s m args below meth c A hc hT hnm hw ls hl
  obtain ⟨hx, hb, hr, hml, hown, hts, hlk, hK, hA⟩ := id hc
  have hi2 : ∀ w ∈ u_ws RX2 TX2 6, w ∈ wsX2_isSame := fun _ h => List.mem_cons_of_mem _ (List.mem_append_left _ (List.mem_append_left _ (List.mem_append_left _ (List.mem_append_right _ h))))
  have hX : RX w b n T Wr Br Pr := hD.1.1
  have hbo : ct_bo T = nI k := hD.2.2.2.2.1
  have h526 : (sI (ct_pl T) w - sI (fun i => nI (cn (iw T i) n)) w) = ((sI (fun j => Wr j 0) w) - (nI (ch T 1 n))) := by rw [sI_cw hd5 hX, sI_congr (fun j hj => (hX.1 j hj).1)]
  have h543 : (nI (ch T 1 n - k)) = (if (0 : Int32) < ((nI (ch T 1 n)) - (nI k)) then ((nI (ch T 1 n)) - (nI k)) else (0 : Int32)) := (i_max0 (Nat.le_trans (ch_le T 1 n) (by omega)) hk).symm
  refine lv_iconst (v := 0) hx hb dX2_isSame_0 (by decide) ?_
  refine lv_istore_n (lv' := [(2, .int (0 : Int32)), (0, .ref (zh Z)), (1, .ref h)]) hx hb dX2_isSame_1 rfl hl (by decide) rfl (fun ls hl => ?_)
  refine lv_iconst (v := 0) hx hb dX2_isSame_2 (by decide) ?_
  refine lv_istore_n (lv' := [(3, .int (0 : Int32)), (2, .int (0 : Int32)), (0, .ref (zh Z)), (1, .ref h)]) hx hb dX2_isSame_3 rfl hl (by decide) rfl (fun ls hl => ?_)
  refine lv_iconst (v := 0) hx hb dX2_isSame_4 (by decide) ?_
  refine lv_istore (lv' := [(4, .int (0 : Int32)), (3, .int (0 : Int32)), (2, .int (0 : Int32)), (0, .ref (zh Z)), (1, .ref h)]) hx hb dX2_isSame_5 hl (by decide) rfl (fun ls hl => ?_)
  refine lv_iconst (v := 0) hx hb dX2_isSame_7 (by decide) ?_
  refine lv_istore (lv' := [(5, .int (0 : Int32)), (4, .int (0 : Int32)), (3, .int (0 : Int32)), (2, .int (0 : Int32)), (0, .ref (zh Z)), (1, .ref h)]) hx hb dX2_isSame_8 hl (by decide) rfl (fun ls hl => ?_)
  refine lp_go0 (fun (i10 : Nat) => ∀ (H : Heap) (locs : List Loc) (ls : Array Slot), Wo D A s.heap (wb_c h a a2 cI cZ w b n T w2 b2 n2 T2 ++ ws_s Z cI cL w b n dy (nI k) ea Wr Br Pr []) H locs → lv_has ls 12 [(0, .ref (zh Z)), (1, .ref h), (2, .int (sI (fun j => Wr j 0) i10)), (3, .int (sI (fun j => nI (cn (iw T j) n)) i10)), (4, .int (sI (fun j => fI T j n) i10)), (5, .int (nI i10))] → W p l e rm_X2_isSame s m args below meth c H locs (8 * i10) (48 * i10) (GE below args s D A (fun res w1 => res = some (.int 1) ∧ w1 = (wb_c h a a2 cI cZ w b n T w2 b2 n2 T2 ++ ws_s Z cI cL w b n dy (nI k) ea Wr Br Pr [])) rm_X2_isSame) (F0 m 10 ls [])) w ?_ ?_ s.heap [] ls hw (lv_sub hl [4, 5, 3, 2, 1, 0] rfl)
  · intro i10 hi10 k10 H locs ls hw hl
    refine lv_iload hx hb dX2_isSame_10 (lv_at hl 5 rfl) ?_
    refine lv_aload_n hx hb dX2_isSame_12 rfl (lv_at hl 0 rfl) ?_
    refine g_get (v := .ref (zy Z 3)) hc hw hi2 (23 + (0)) 3 (two_get s_H) rfl (by decide) (List.mem_of_getElem? (i := 1) rfl) sv_3 dX2_isSame_13 ?_
    refine va_alen (v := nI w) hx hb hK.1 hw.1 (23 + (1)) 2 (two_get s_Y3) rfl rfl dX2_isSame_16 ?_
    refine lv_icmp_ge (tgt := 177) hx hb dX2_isSame_17 (by decide) (fun z => absurd z (nI_ge hi10 (by omega))) (fun _ => ?_)
    refine lv_iconst (v := 0) hx hb dX2_isSame_20 (by decide) ?_
    refine lv_istore (lv' := [(6, .int (0 : Int32)), (0, .ref (zh Z)), (1, .ref h), (2, .int (sI (fun j => Wr j 0) i10)), (3, .int (sI (fun j => nI (cn (iw T j) n)) i10)), (4, .int (sI (fun j => fI T j n) i10)), (5, .int (nI i10))]) hx hb dX2_isSame_21 hl (by decide) rfl (fun ls hl => ?_)
    refine lv_aload_n hx hb dX2_isSame_23 rfl (lv_at hl 1 rfl) ?_
    refine g_get (v := .ref (zy Z 5)) hc hw hi2 (23 + (0)) 5 (two_get s_H) rfl (by decide) (List.mem_of_getElem? (i := 2) rfl) sv_5 dX2_isSame_24 ?_
    refine lv_astore (lv' := [(7, .ref (zy Z 5)), (6, .int (0 : Int32)), (0, .ref (zh Z)), (1, .ref h), (2, .int (sI (fun j => Wr j 0) i10)), (3, .int (sI (fun j => nI (cn (iw T j) n)) i10)), (4, .int (sI (fun j => fI T j n) i10)), (5, .int (nI i10))]) hx hb dX2_isSame_27 hl (by decide) rfl (fun ls hl => ?_)
    refine lv_aload hx hb dX2_isSame_29 (lv_at hl 0 rfl) ?_
    refine va_alen (v := nI n) hx hb hK.1 hw.1 (23 + (3)) 2 (two_get s_Y5) rfl rfl dX2_isSame_31 ?_
    refine lv_istore (lv' := [(8, .int (nI n)), (7, .ref (zy Z 5)), (6, .int (0 : Int32)), (0, .ref (zh Z)), (1, .ref h), (2, .int (sI (fun j => Wr j 0) i10)), (3, .int (sI (fun j => nI (cn (iw T j) n)) i10)), (4, .int (sI (fun j => fI T j n) i10)), (5, .int (nI i10))]) hx hb dX2_isSame_32 hl (by decide) rfl (fun ls hl => ?_)
    refine lv_iconst (v := 0) hx hb dX2_isSame_34 (by decide) ?_
    refine lv_istore (lv' := [(9, .int (0 : Int32)), (8, .int (nI n)), (7, .ref (zy Z 5)), (6, .int (0 : Int32)), (0, .ref (zh Z)), (1, .ref h), (2, .int (sI (fun j => Wr j 0) i10)), (3, .int (sI (fun j => nI (cn (iw T j) n)) i10)), (4, .int (sI (fun j => fI T j n) i10)), (5, .int (nI i10))]) hx hb dX2_isSame_35 hl (by decide) rfl (fun ls hl => ?_)
    refine lp_go0 (fun (i37 : Nat) => ∀ (H : Heap) (locs : List Loc) (ls : Array Slot), Wo D A s.heap (wb_c h a a2 cI cZ w b n T w2 b2 n2 T2 ++ ws_s Z cI cL w b n dy (nI k) ea Wr Br Pr []) H locs → lv_has ls 12 [(0, .ref (zh Z)), (1, .ref h), (2, .int (sI (fun j => Wr j 0) i10)), (3, .int (sI (fun j => nI (cn (iw T j) n)) i10)), (4, .int (sI (fun j => fI T j n) i10)), (5, .int (nI i10)), (6, .int (fS Pr i10 i37)), (7, .ref (zy Z 5)), (8, .int (nI n)), (9, .int (nI i37))] → W p l e rm_X2_isSame s m args below meth c H locs (8 * i10) (48 * i10) (GE below args s D A (fun res w1 => res = some (.int 1) ∧ w1 = (wb_c h a a2 cI cZ w b n T w2 b2 n2 T2 ++ ws_s Z cI cL w b n dy (nI k) ea Wr Br Pr [])) rm_X2_isSame) (F0 m 37 ls [])) n ?_ ?_ H locs ls hw (lv_sub hl [4, 5, 6, 7, 8, 9, 3, 2, 1, 0] rfl)
    · intro i37 hi37 k37 H locs ls hw hl
      refine lv_iload hx hb dX2_isSame_37 (lv_at hl 9 rfl) ?_
      refine lv_iload hx hb dX2_isSame_39 (lv_at hl 8 rfl) ?_
      refine lv_icmp_ge (tgt := 79) hx hb dX2_isSame_41 (by decide) (fun z => absurd z (nI_ge hi37 (by omega))) (fun _ => ?_)
      refine lv_aload hx hb dX2_isSame_44 (lv_at hl 7 rfl) ?_
      refine lv_iload hx hb dX2_isSame_46 (lv_at hl 9 rfl) ?_
      refine g_aald (v := zp Z i37) hc hw (23 + (3)) (two_get s_Y5) (vp_in_nI (show i37 < n by omega) (by omega)) (congrArg (fun q => some (zp Z q)) (nI_clamp (show i37 < 2 ^ 31 by omega))) dX2_isSame_48 ?_
      refine lv_astore (lv' := [(10, .ref (zp Z i37)), (0, .ref (zh Z)), (1, .ref h), (2, .int (sI (fun j => Wr j 0) i10)), (3, .int (sI (fun j => nI (cn (iw T j) n)) i10)), (4, .int (sI (fun j => fI T j n) i10)), (5, .int (nI i10)), (6, .int (fS Pr i10 i37)), (7, .ref (zy Z 5)), (8, .int (nI n)), (9, .int (nI i37))]) hx hb dX2_isSame_49 hl (by decide) rfl (fun ls hl => ?_)
      refine lv_iload hx hb dX2_isSame_51 (lv_at hl 7 rfl) ?_
      refine lv_aload hx hb dX2_isSame_53 (lv_at hl 0 rfl) ?_
      refine lv_iconst (v := 1) hx hb dX2_isSame_55 (by decide) ?_
      refine r_ld (f := (Pr i37)) (k := 1) hc hw (23 + (4 + (w + (b + i37)))) (two_get (s_P (show i37 < n by omega))) (by unfold vp_in; decide) (by decide) dX2_isSame_56 ?_
      refine lv_iload hx hb dX2_isSame_57 (lv_at hl 6 rfl) ?_
      refine lv_icmp_ne (tgt := 69) hx hb dX2_isSame_59 (by decide) (fun c1 => ?_) (fun c1 => ?_)
      · refine lv_iconst (v := 0) hx hb dX2_isSame_69 (by decide) ?_
        refine lv_iadd hx hb dX2_isSame_70 ?_
        refine lv_istore (lv' := [(6, .int ((fS Pr i10 i37) + (0 : Int32))), (10, .ref (zp Z i37)), (0, .ref (zh Z)), (1, .ref h), (2, .int (sI (fun j => Wr j 0) i10)), (3, .int (sI (fun j => nI (cn (iw T j) n)) i10)), (4, .int (sI (fun j => fI T j n) i10)), (5, .int (nI i10)), (7, .ref (zy Z 5)), (8, .int (nI n)), (9, .int (nI i37))]) hx hb dX2_isSame_71 hl (by decide) rfl (fun ls hl => ?_)
        refine lv_iinc (v := (nI (i37 + 1))) (lv' := [(9, .int (nI (i37 + 1))), (6, .int ((fS Pr i10 i37) + (0 : Int32))), (10, .ref (zp Z i37)), (0, .ref (zh Z)), (1, .ref h), (2, .int (sI (fun j => Wr j 0) i10)), (3, .int (sI (fun j => nI (cn (iw T j) n)) i10)), (4, .int (sI (fun j => fI T j n) i10)), (5, .int (nI i10)), (7, .ref (zy Z 5)), (8, .int (nI n))]) hx hb dX2_isSame_73 hl (k := 10) rfl (inc_n i37) (by decide) rfl (fun ls hl => ?_)
        refine lv_goto (tgt := 37) hx hb dX2_isSame_76 (by decide) ?_
        rw [show ((fS Pr i10 i37) + (0 : Int32)) = (fS Pr i10 (i37 + 1)) from (fS_n c1).symm] at hl
        refine W.widen (show 8 * i10 ≤ 8 * i10 by omega) (show 48 * i10 ≤ 48 * i10 by omega) ?_
        exact k37 H locs ls hw (lv_sub hl [3, 4, 5, 6, 7, 8, 1, 9, 10, 0] rfl)
      · refine lv_aload hx hb dX2_isSame_62 (lv_at hl 0 rfl) ?_
        refine lv_iconst (v := 0) hx hb dX2_isSame_64 (by decide) ?_
        refine r_ld (f := (Pr i37)) (k := 0) hc hw (23 + (4 + (w + (b + i37)))) (two_get (s_P (show i37 < n by omega))) (by unfold vp_in; decide) (by decide) dX2_isSame_65 ?_
        refine lv_goto (tgt := 70) hx hb dX2_isSame_66 (by decide) ?_
        refine lv_iadd hx hb dX2_isSame_70 ?_
        refine lv_istore (lv' := [(6, .int ((fS Pr i10 i37) + (Pr i37 0))), (10, .ref (zp Z i37)), (0, .ref (zh Z)), (1, .ref h), (2, .int (sI (fun j => Wr j 0) i10)), (3, .int (sI (fun j => nI (cn (iw T j) n)) i10)), (4, .int (sI (fun j => fI T j n) i10)), (5, .int (nI i10)), (7, .ref (zy Z 5)), (8, .int (nI n)), (9, .int (nI i37))]) hx hb dX2_isSame_71 hl (by decide) rfl (fun ls hl => ?_)
        refine lv_iinc (v := (nI (i37 + 1))) (lv' := [(9, .int (nI (i37 + 1))), (6, .int ((fS Pr i10 i37) + (Pr i37 0))), (10, .ref (zp Z i37)), (0, .ref (zh Z)), (1, .ref h), (2, .int (sI (fun j => Wr j 0) i10)), (3, .int (sI (fun j => nI (cn (iw T j) n)) i10)), (4, .int (sI (fun j => fI T j n) i10)), (5, .int (nI i10)), (7, .ref (zy Z 5)), (8, .int (nI n))]) hx hb dX2_isSame_73 hl (k := 10) rfl (inc_n i37) (by decide) rfl (fun ls hl => ?_)
        refine lv_goto (tgt := 37) hx hb dX2_isSame_76 (by decide) ?_
        rw [show ((fS Pr i10 i37) + (Pr i37 0)) = (fS Pr i10 (i37 + 1)) from (fS_p c1).symm] at hl
        refine W.widen (show 8 * i10 ≤ 8 * i10 by omega) (show 48 * i10 ≤ 48 * i10 by omega) ?_
        exact k37 H locs ls hw (lv_sub hl [3, 4, 5, 6, 7, 8, 1, 9, 10, 0] rfl)
    · intro H locs ls hw hl
      refine lv_iload hx hb dX2_isSame_37 (lv_at hl 9 rfl) ?_
      refine lv_iload hx hb dX2_isSame_39 (lv_at hl 8 rfl) ?_
      refine lv_icmp_ge (tgt := 79) hx hb dX2_isSame_41 (by decide) (fun _ => ?_) (fun z => absurd (nI_le (Nat.le_refl _) (by omega)) z)
      rw [show (fS Pr i10 n) = (fI T i10 n) from fS_ok hd5 hX (show i10 < w by omega)] at hl
      refine lv_aload_n hx hb dX2_isSame_79 rfl (lv_at hl 1 rfl) ?_
      refine lv_iload hx hb dX2_isSame_80 (lv_at hl 5 rfl) ?_
      refine G_callT (n := 1) (q0 := 0) (rest := []) hc hT hw.2.2 (Pt.front hw hA) (n_placesOf hst D cI cZ cL h a a2 hd5 hd4 hd30 he5 he4 he30 (i := i10) (show i10 < w by omega)) gX2_isSame_X1_placesOf rfl (by decide +kernel) ⟨Nat.le_of_ble_eq_true rfl, Nat.le_of_ble_eq_true rfl⟩ rfl rfl rfl rfl rfl hl.1 (Nat.le_of_ble_eq_true rfl) (st1 := [.int (ct_pl T i10)]) rfl dX2_isSame_82 (k2 := 1 + 8 * i10) (s2 := 6 + 48 * i10) (by show 8 * i10 + 1 = 1 + 8 * i10; omega) (by show 48 * i10 + 6 = 6 + 48 * i10; omega) ⟨(Nat.le_trans (show 1 + 8 * i10 ≤ 400 by omega) (Nat.le_of_ble_eq_true rfl)), (Nat.le_trans (show 6 + 48 * i10 ≤ 2400 by omega) (Nat.le_of_ble_eq_true rfl))⟩ (fun H locs hw => ?_)
      refine lv_aload_n hx hb dX2_isSame_85 rfl (lv_at hl 0 rfl) ?_
      refine g_get (v := .ref (zy Z 3)) hc hw hi2 (23 + (0)) 3 (two_get s_H) rfl (by decide) (List.mem_of_getElem? (i := 1) rfl) sv_3 dX2_isSame_86 ?_
      refine lv_iload hx hb dX2_isSame_89 (lv_at hl 5 rfl) ?_
      refine g_aald (v := zw Z i10) hc hw (23 + (1)) (two_get s_Y3) (vp_in_nI (show i10 < w by omega) (by omega)) (congrArg (fun q => some (zw Z q)) (nI_clamp (show i10 < 2 ^ 31 by omega))) dX2_isSame_91 ?_
      refine lv_iconst (v := 0) hx hb dX2_isSame_92 (by decide) ?_
      refine r_ld (f := (Wr i10)) (k := 0) hc hw (23 + (4 + i10)) (two_get (s_W (show i10 < w by omega))) (by unfold vp_in; decide) (by decide) dX2_isSame_93 ?_
      refine lv_icmp_ne (tgt := 141) hx hb dX2_isSame_94 (by decide) (fun z => absurd ((hX.1 i10 (by omega)).1) z) (fun _ => ?_)
      refine lv_aload_n hx hb dX2_isSame_97 rfl (lv_at hl 1 rfl) ?_
      refine lv_iload hx hb dX2_isSame_98 (lv_at hl 5 rfl) ?_
      refine G_callT (n := 1) (q0 := 0) (rest := []) hc hT hw.2.2 (Pt.front hw hA) (n_peopleIn hst D cI cZ cL h a a2 hd5 hd4 hd30 he5 he4 he30 (i := i10) (show i10 < w by omega)) gX2_isSame_X1_peopleIn rfl (by decide +kernel) ⟨Nat.le_of_ble_eq_true rfl, Nat.le_of_ble_eq_true rfl⟩ rfl rfl rfl rfl rfl hl.1 (Nat.le_of_ble_eq_true rfl) (st1 := [.int (nI (cn (iw T i10) n))]) rfl dX2_isSame_100 (k2 := 2 + 8 * i10) (s2 := 12 + 48 * i10) (by show 1 + 8 * i10 + 1 = 2 + 8 * i10; omega) (by show 6 + 48 * i10 + 6 = 12 + 48 * i10; omega) ⟨(Nat.le_trans (show 2 + 8 * i10 ≤ 400 by omega) (Nat.le_of_ble_eq_true rfl)), (Nat.le_trans (show 12 + 48 * i10 ≤ 2400 by omega) (Nat.le_of_ble_eq_true rfl))⟩ (fun H locs hw => ?_)
      refine lv_aload_n hx hb dX2_isSame_103 rfl (lv_at hl 0 rfl) ?_
      refine lv_iload hx hb dX2_isSame_104 (lv_at hl 5 rfl) ?_
      refine p_callV (n := 1) (q0 := 0) (rest := [.int (nI (cn (iw T i10) n))]) hc hw.2.2 (Pt.back hw hA) ((k_X2_in l D cI cZ cL [] (nI i10) hd30).tx (congrArg (fun v : Int32 => some (Value.int v)) (q_in hd5 hX (show i10 < w by omega)))) gX2_isSame_X2_in rfl (by decide +kernel) ⟨Nat.le_of_ble_eq_true rfl, Nat.le_of_ble_eq_true rfl⟩ rfl rfl rfl rfl rfl hl.1 (Nat.le_of_ble_eq_true rfl) (st1 := [.int (nI (cn (iw T i10) n)), .int (nI (cn (iw T i10) n))]) rfl dX2_isSame_106 (k2 := 2 + 8 * i10) (s2 := 12 + 48 * i10) (by show 2 + 8 * i10 + 0 = 2 + 8 * i10; omega) (by show 12 + 48 * i10 + 0 = 12 + 48 * i10; omega) ⟨(Nat.le_trans (show 2 + 8 * i10 ≤ 400 by omega) (Nat.le_of_ble_eq_true rfl)), (Nat.le_trans (show 12 + 48 * i10 ≤ 2400 by omega) (Nat.le_of_ble_eq_true rfl))⟩ (fun H locs hw => ?_)
      refine lv_icmp_ne (tgt := 141) hx hb dX2_isSame_109 (by decide) (fun z => absurd rfl z) (fun _ => ?_)
      refine lv_aload_n hx hb dX2_isSame_112 rfl (lv_at hl 1 rfl) ?_
      refine lv_iload hx hb dX2_isSame_113 (lv_at hl 5 rfl) ?_
      refine G_callT (n := 1) (q0 := 0) (rest := []) hc hT hw.2.2 (Pt.front hw hA) (n_strawOf hst D cI cZ cL h a a2 hd5 hd4 hd30 he5 he4 he30 (i := i10) (show i10 < w by omega)) gX2_isSame_X1_strawOf rfl (by decide +kernel) ⟨Nat.le_of_ble_eq_true rfl, Nat.le_of_ble_eq_true rfl⟩ rfl rfl rfl rfl rfl hl.1 (Nat.le_of_ble_eq_true rfl) (st1 := [.int (ct_st T i10)]) rfl dX2_isSame_115 (k2 := 3 + 8 * i10) (s2 := 18 + 48 * i10) (by show 2 + 8 * i10 + 1 = 3 + 8 * i10; omega) (by show 12 + 48 * i10 + 6 = 18 + 48 * i10; omega) ⟨(Nat.le_trans (show 3 + 8 * i10 ≤ 400 by omega) (Nat.le_of_ble_eq_true rfl)), (Nat.le_trans (show 18 + 48 * i10 ≤ 2400 by omega) (Nat.le_of_ble_eq_true rfl))⟩ (fun H locs hw => ?_)
      refine lv_aload_n hx hb dX2_isSame_118 rfl (lv_at hl 0 rfl) ?_
      refine g_get (v := .ref (zy Z 3)) hc hw hi2 (23 + (0)) 3 (two_get s_H) rfl (by decide) (List.mem_of_getElem? (i := 1) rfl) sv_3 dX2_isSame_119 ?_
      refine lv_iload hx hb dX2_isSame_122 (lv_at hl 5 rfl) ?_
      refine g_aald (v := zw Z i10) hc hw (23 + (1)) (two_get s_Y3) (vp_in_nI (show i10 < w by omega) (by omega)) (congrArg (fun q => some (zw Z q)) (nI_clamp (show i10 < 2 ^ 31 by omega))) dX2_isSame_124 ?_
      refine lv_iconst (v := 1) hx hb dX2_isSame_125 (by decide) ?_
      refine r_ld (f := (Wr i10)) (k := 1) hc hw (23 + (4 + i10)) (two_get (s_W (show i10 < w by omega))) (by unfold vp_in; decide) (by decide) dX2_isSame_126 ?_
      refine lv_icmp_ne (tgt := 141) hx hb dX2_isSame_127 (by decide) (fun z => absurd ((hX.1 i10 (by omega)).2) z) (fun _ => ?_)
      refine lv_aload_n hx hb dX2_isSame_130 rfl (lv_at hl 1 rfl) ?_
      refine lv_iload hx hb dX2_isSame_131 (lv_at hl 5 rfl) ?_
      refine G_callT (n := 1) (q0 := 0) (rest := []) hc hT hw.2.2 (Pt.front hw hA) (n_feversIn hst D cI cZ cL h a a2 hd5 hd4 hd30 he5 he4 he30 (i := i10) (show i10 < w by omega)) gX2_isSame_X1_feversIn rfl (by decide +kernel) ⟨Nat.le_of_ble_eq_true rfl, Nat.le_of_ble_eq_true rfl⟩ rfl rfl rfl rfl rfl hl.1 (Nat.le_of_ble_eq_true rfl) (st1 := [.int (fI T i10 n)]) rfl dX2_isSame_133 (k2 := 4 + 8 * i10) (s2 := 24 + 48 * i10) (by show 3 + 8 * i10 + 1 = 4 + 8 * i10; omega) (by show 18 + 48 * i10 + 6 = 24 + 48 * i10; omega) ⟨(Nat.le_trans (show 4 + 8 * i10 ≤ 400 by omega) (Nat.le_of_ble_eq_true rfl)), (Nat.le_trans (show 24 + 48 * i10 ≤ 2400 by omega) (Nat.le_of_ble_eq_true rfl))⟩ (fun H locs hw => ?_)
      refine lv_iload hx hb dX2_isSame_136 (lv_at hl 6 rfl) ?_
      refine lv_icmp_eq (tgt := 143) hx hb dX2_isSame_138 (by decide) (fun _ => ?_) (fun z => absurd rfl z)
      refine lv_iload_n hx hb dX2_isSame_143 rfl (lv_at hl 2 rfl) ?_
      refine lv_aload_n hx hb dX2_isSame_144 rfl (lv_at hl 0 rfl) ?_
      refine g_get (v := .ref (zy Z 3)) hc hw hi2 (23 + (0)) 3 (two_get s_H) rfl (by decide) (List.mem_of_getElem? (i := 1) rfl) sv_3 dX2_isSame_145 ?_
      refine lv_iload hx hb dX2_isSame_148 (lv_at hl 5 rfl) ?_
      refine g_aald (v := zw Z i10) hc hw (23 + (1)) (two_get s_Y3) (vp_in_nI (show i10 < w by omega) (by omega)) (congrArg (fun q => some (zw Z q)) (nI_clamp (show i10 < 2 ^ 31 by omega))) dX2_isSame_150 ?_
      refine lv_iconst (v := 0) hx hb dX2_isSame_151 (by decide) ?_
      refine r_ld (f := (Wr i10)) (k := 0) hc hw (23 + (4 + i10)) (two_get (s_W (show i10 < w by omega))) (by unfold vp_in; decide) (by decide) dX2_isSame_152 ?_
      refine lv_iadd hx hb dX2_isSame_153 ?_
      refine lv_istore_n (lv' := [(2, .int ((sI (fun j => Wr j 0) i10) + (Wr i10 0))), (0, .ref (zh Z)), (1, .ref h), (3, .int (sI (fun j => nI (cn (iw T j) n)) i10)), (4, .int (sI (fun j => fI T j n) i10)), (5, .int (nI i10)), (6, .int (fI T i10 n)), (7, .ref (zy Z 5)), (8, .int (nI n)), (9, .int (nI n))]) hx hb dX2_isSame_154 rfl hl (by decide) rfl (fun ls hl => ?_)
      refine lv_iload_n hx hb dX2_isSame_155 rfl (lv_at hl 3 rfl) ?_
      refine lv_aload_n hx hb dX2_isSame_156 rfl (lv_at hl 1 rfl) ?_
      refine lv_iload hx hb dX2_isSame_157 (lv_at hl 5 rfl) ?_
      refine p_callV (n := 1) (q0 := 0) (rest := [.int (sI (fun j => nI (cn (iw T j) n)) i10)]) hc hw.2.2 (Pt.back hw hA) ((k_X2_in l D cI cZ cL [] (nI i10) hd30).tx (congrArg (fun v : Int32 => some (Value.int v)) (q_in hd5 hX (show i10 < w by omega)))) gX2_isSame_X2_in rfl (by decide +kernel) ⟨Nat.le_of_ble_eq_true rfl, Nat.le_of_ble_eq_true rfl⟩ rfl rfl rfl rfl rfl hl.1 (Nat.le_of_ble_eq_true rfl) (st1 := [.int (nI (cn (iw T i10) n)), .int (sI (fun j => nI (cn (iw T j) n)) i10)]) rfl dX2_isSame_159 (k2 := 4 + 8 * i10) (s2 := 24 + 48 * i10) (by show 4 + 8 * i10 + 0 = 4 + 8 * i10; omega) (by show 24 + 48 * i10 + 0 = 24 + 48 * i10; omega) ⟨(Nat.le_trans (show 4 + 8 * i10 ≤ 400 by omega) (Nat.le_of_ble_eq_true rfl)), (Nat.le_trans (show 24 + 48 * i10 ≤ 2400 by omega) (Nat.le_of_ble_eq_true rfl))⟩ (fun H locs hw => ?_)
      refine lv_iadd hx hb dX2_isSame_162 ?_
      refine lv_istore_n (lv' := [(3, .int ((sI (fun j => nI (cn (iw T j) n)) i10) + (nI (cn (iw T i10) n)))), (2, .int ((sI (fun j => Wr j 0) i10) + (Wr i10 0))), (0, .ref (zh Z)), (1, .ref h), (4, .int (sI (fun j => fI T j n) i10)), (5, .int (nI i10)), (6, .int (fI T i10 n)), (7, .ref (zy Z 5)), (8, .int (nI n)), (9, .int (nI n))]) hx hb dX2_isSame_163 rfl hl (by decide) rfl (fun ls hl => ?_)
      refine lv_iload hx hb dX2_isSame_164 (lv_at hl 4 rfl) ?_
      refine lv_iload hx hb dX2_isSame_166 (lv_at hl 6 rfl) ?_
      refine lv_iadd hx hb dX2_isSame_168 ?_
      refine lv_istore (lv' := [(4, .int ((sI (fun j => fI T j n) i10) + (fI T i10 n))), (3, .int ((sI (fun j => nI (cn (iw T j) n)) i10) + (nI (cn (iw T i10) n)))), (2, .int ((sI (fun j => Wr j 0) i10) + (Wr i10 0))), (0, .ref (zh Z)), (1, .ref h), (5, .int (nI i10)), (6, .int (fI T i10 n)), (7, .ref (zy Z 5)), (8, .int (nI n)), (9, .int (nI n))]) hx hb dX2_isSame_169 hl (by decide) rfl (fun ls hl => ?_)
      refine lv_iinc (v := (nI (i10 + 1))) (lv' := [(5, .int (nI (i10 + 1))), (4, .int ((sI (fun j => fI T j n) i10) + (fI T i10 n))), (3, .int ((sI (fun j => nI (cn (iw T j) n)) i10) + (nI (cn (iw T i10) n)))), (2, .int ((sI (fun j => Wr j 0) i10) + (Wr i10 0))), (0, .ref (zh Z)), (1, .ref h), (6, .int (fI T i10 n)), (7, .ref (zy Z 5)), (8, .int (nI n)), (9, .int (nI n))]) hx hb dX2_isSame_171 hl (k := 5) rfl (inc_n i10) (by decide) rfl (fun ls hl => ?_)
      refine lv_goto (tgt := 10) hx hb dX2_isSame_174 (by decide) ?_
      rw [show ((sI (fun j => Wr j 0) i10) + (Wr i10 0)) = (sI (fun j => Wr j 0) (i10 + 1)) from rfl] at hl
      rw [show ((sI (fun j => nI (cn (iw T j) n)) i10) + (nI (cn (iw T i10) n))) = (sI (fun j => nI (cn (iw T j) n)) (i10 + 1)) from rfl] at hl
      rw [show ((sI (fun j => fI T j n) i10) + (fI T i10 n)) = (sI (fun j => fI T j n) (i10 + 1)) from rfl] at hl
      refine W.widen (show 4 + 8 * i10 ≤ 8 * (i10 + 1) by omega) (show 24 + 48 * i10 ≤ 48 * (i10 + 1) by omega) ?_
      exact k10 H locs ls hw (lv_sub hl [4, 5, 3, 2, 1, 0] rfl)
  · intro H locs ls hw hl
    refine lv_iload hx hb dX2_isSame_10 (lv_at hl 5 rfl) ?_
    refine lv_aload_n hx hb dX2_isSame_12 rfl (lv_at hl 0 rfl) ?_
    refine g_get (v := .ref (zy Z 3)) hc hw hi2 (23 + (0)) 3 (two_get s_H) rfl (by decide) (List.mem_of_getElem? (i := 1) rfl) sv_3 dX2_isSame_13 ?_
    refine va_alen (v := nI w) hx hb hK.1 hw.1 (23 + (1)) 2 (two_get s_Y3) rfl rfl dX2_isSame_16 ?_
    refine lv_icmp_ge (tgt := 177) hx hb dX2_isSame_17 (by decide) (fun _ => ?_) (fun z => absurd (nI_le (Nat.le_refl _) (by omega)) z)
    refine W.widen (show 8 * w ≤ 40 by omega) (show 48 * w ≤ 240 by omega) ?_
    rw [show (sI (fun j => nI (cn (iw T j) n)) w) = (nI (ch T 1 n)) from sI_cw hd5 hX] at hl
    refine lv_iconst (v := 0) hx hb dX2_isSame_177 (by decide) ?_
    refine lv_istore (lv' := [(5, .int (0 : Int32)), (0, .ref (zh Z)), (1, .ref h), (2, .int (sI (fun j => Wr j 0) w)), (3, .int (nI (ch T 1 n))), (4, .int (sI (fun j => fI T j n) w))]) hx hb dX2_isSame_178 hl (by decide) rfl (fun ls hl => ?_)
    refine lp_go0 (fun (i180 : Nat) => ∀ (H : Heap) (locs : List Loc) (ls : Array Slot), Wo D A s.heap (wb_c h a a2 cI cZ w b n T w2 b2 n2 T2 ++ ws_s Z cI cL w b n dy (nI k) ea Wr Br Pr []) H locs → lv_has ls 12 [(0, .ref (zh Z)), (1, .ref h), (2, .int (sI (fun j => Wr j 0) w)), (3, .int (nI (ch T 1 n))), (4, .int (sI (fun j => fI T j n) w)), (5, .int (nI i180))] → W p l e rm_X2_isSame s m args below meth c H locs (40 + 8 * i180) (240 + 48 * i180) (GE below args s D A (fun res w1 => res = some (.int 1) ∧ w1 = (wb_c h a a2 cI cZ w b n T w2 b2 n2 T2 ++ ws_s Z cI cL w b n dy (nI k) ea Wr Br Pr [])) rm_X2_isSame) (F0 m 180 ls [])) b ?_ ?_ H locs ls hw (lv_sub hl [1, 2, 3, 4, 5, 0] rfl)
    · intro i180 hi180 k180 H locs ls hw hl
      refine lv_iload hx hb dX2_isSame_180 (lv_at hl 5 rfl) ?_
      refine lv_aload_n hx hb dX2_isSame_182 rfl (lv_at hl 0 rfl) ?_
      refine g_get (v := .ref (zy Z 4)) hc hw hi2 (23 + (0)) 4 (two_get s_H) rfl (by decide) (List.mem_of_getElem? (i := 3) rfl) sv_4 dX2_isSame_183 ?_
      refine va_alen (v := nI b) hx hb hK.1 hw.1 (23 + (2)) 2 (two_get s_Y4) rfl rfl dX2_isSame_186 ?_
      refine lv_icmp_ge (tgt := 322) hx hb dX2_isSame_187 (by decide) (fun z => absurd z (nI_ge hi180 (by omega))) (fun _ => ?_)
      refine lv_iconst (v := 0) hx hb dX2_isSame_190 (by decide) ?_
      refine lv_istore (lv' := [(6, .int (0 : Int32)), (0, .ref (zh Z)), (1, .ref h), (2, .int (sI (fun j => Wr j 0) w)), (3, .int (nI (ch T 1 n))), (4, .int (sI (fun j => fI T j n) w)), (5, .int (nI i180))]) hx hb dX2_isSame_191 hl (by decide) rfl (fun ls hl => ?_)
      refine lv_iconst (v := 0) hx hb dX2_isSame_193 (by decide) ?_
      refine lv_istore (lv' := [(7, .int (0 : Int32)), (6, .int (0 : Int32)), (0, .ref (zh Z)), (1, .ref h), (2, .int (sI (fun j => Wr j 0) w)), (3, .int (nI (ch T 1 n))), (4, .int (sI (fun j => fI T j n) w)), (5, .int (nI i180))]) hx hb dX2_isSame_194 hl (by decide) rfl (fun ls hl => ?_)
      refine lv_aload_n hx hb dX2_isSame_196 rfl (lv_at hl 2 rfl) ?_
      refine g_get (v := .ref (zy Z 5)) hc hw hi2 (23 + (0)) 5 (two_get s_H) rfl (by decide) (List.mem_of_getElem? (i := 2) rfl) sv_5 dX2_isSame_197 ?_
      refine lv_astore (lv' := [(8, .ref (zy Z 5)), (7, .int (0 : Int32)), (6, .int (0 : Int32)), (0, .ref (zh Z)), (1, .ref h), (2, .int (sI (fun j => Wr j 0) w)), (3, .int (nI (ch T 1 n))), (4, .int (sI (fun j => fI T j n) w)), (5, .int (nI i180))]) hx hb dX2_isSame_200 hl (by decide) rfl (fun ls hl => ?_)
      refine lv_aload hx hb dX2_isSame_202 (lv_at hl 0 rfl) ?_
      refine va_alen (v := nI n) hx hb hK.1 hw.1 (23 + (3)) 2 (two_get s_Y5) rfl rfl dX2_isSame_204 ?_
      refine lv_istore (lv' := [(9, .int (nI n)), (8, .ref (zy Z 5)), (7, .int (0 : Int32)), (6, .int (0 : Int32)), (0, .ref (zh Z)), (1, .ref h), (2, .int (sI (fun j => Wr j 0) w)), (3, .int (nI (ch T 1 n))), (4, .int (sI (fun j => fI T j n) w)), (5, .int (nI i180))]) hx hb dX2_isSame_205 hl (by decide) rfl (fun ls hl => ?_)
      refine lv_iconst (v := 0) hx hb dX2_isSame_207 (by decide) ?_
      refine lv_istore (lv' := [(10, .int (0 : Int32)), (9, .int (nI n)), (8, .ref (zy Z 5)), (7, .int (0 : Int32)), (6, .int (0 : Int32)), (0, .ref (zh Z)), (1, .ref h), (2, .int (sI (fun j => Wr j 0) w)), (3, .int (nI (ch T 1 n))), (4, .int (sI (fun j => fI T j n) w)), (5, .int (nI i180))]) hx hb dX2_isSame_208 hl (by decide) rfl (fun ls hl => ?_)
      refine lp_go0 (fun (i210 : Nat) => ∀ (H : Heap) (locs : List Loc) (ls : Array Slot), Wo D A s.heap (wb_c h a a2 cI cZ w b n T w2 b2 n2 T2 ++ ws_s Z cI cL w b n dy (nI k) ea Wr Br Pr []) H locs → lv_has ls 12 [(0, .ref (zh Z)), (1, .ref h), (2, .int (sI (fun j => Wr j 0) w)), (3, .int (nI (ch T 1 n))), (4, .int (sI (fun j => fI T j n) w)), (5, .int (nI i180)), (6, .int (nI (nS Pr 2 i180 i210))), (7, .int (hS Pr i180 i210)), (8, .ref (zy Z 5)), (9, .int (nI n)), (10, .int (nI i210))] → W p l e rm_X2_isSame s m args below meth c H locs (40 + 8 * i180) (240 + 48 * i180) (GE below args s D A (fun res w1 => res = some (.int 1) ∧ w1 = (wb_c h a a2 cI cZ w b n T w2 b2 n2 T2 ++ ws_s Z cI cL w b n dy (nI k) ea Wr Br Pr [])) rm_X2_isSame) (F0 m 210 ls [])) n ?_ ?_ H locs ls hw (lv_sub hl [5, 6, 7, 8, 9, 10, 4, 3, 2, 1, 0] rfl)
      · intro i210 hi210 k210 H locs ls hw hl
        refine lv_iload hx hb dX2_isSame_210 (lv_at hl 10 rfl) ?_
        refine lv_iload hx hb dX2_isSame_212 (lv_at hl 9 rfl) ?_
        refine lv_icmp_ge (tgt := 256) hx hb dX2_isSame_214 (by decide) (fun z => absurd z (nI_ge hi210 (by omega))) (fun _ => ?_)
        refine lv_aload hx hb dX2_isSame_217 (lv_at hl 8 rfl) ?_
        refine lv_iload hx hb dX2_isSame_219 (lv_at hl 10 rfl) ?_
        refine g_aald (v := zp Z i210) hc hw (23 + (3)) (two_get s_Y5) (vp_in_nI (show i210 < n by omega) (by omega)) (congrArg (fun q => some (zp Z q)) (nI_clamp (show i210 < 2 ^ 31 by omega))) dX2_isSame_221 ?_
        refine lv_astore (lv' := [(11, .ref (zp Z i210)), (0, .ref (zh Z)), (1, .ref h), (2, .int (sI (fun j => Wr j 0) w)), (3, .int (nI (ch T 1 n))), (4, .int (sI (fun j => fI T j n) w)), (5, .int (nI i180)), (6, .int (nI (nS Pr 2 i180 i210))), (7, .int (hS Pr i180 i210)), (8, .ref (zy Z 5)), (9, .int (nI n)), (10, .int (nI i210))]) hx hb dX2_isSame_222 hl (by decide) rfl (fun ls hl => ?_)
        refine lv_aload hx hb dX2_isSame_224 (lv_at hl 0 rfl) ?_
        refine lv_iconst (v := 2) hx hb dX2_isSame_226 (by decide) ?_
        refine r_ld (f := (Pr i210)) (k := 2) hc hw (23 + (4 + (w + (b + i210)))) (two_get (s_P (show i210 < n by omega))) (by unfold vp_in; decide) (by decide) dX2_isSame_227 ?_
        refine lv_iload hx hb dX2_isSame_228 (lv_at hl 6 rfl) ?_
        refine lv_icmp_eq (tgt := 236) hx hb dX2_isSame_230 (by decide) (fun c2 => ?_) (fun c2 => ?_)
        · refine lv_iinc (v := (nI ((nS Pr 2 i180 i210) + 1))) (lv' := [(6, .int (nI ((nS Pr 2 i180 i210) + 1))), (11, .ref (zp Z i210)), (0, .ref (zh Z)), (1, .ref h), (2, .int (sI (fun j => Wr j 0) w)), (3, .int (nI (ch T 1 n))), (4, .int (sI (fun j => fI T j n) w)), (5, .int (nI i180)), (7, .int (hS Pr i180 i210)), (8, .ref (zy Z 5)), (9, .int (nI n)), (10, .int (nI i210))]) hx hb dX2_isSame_236 hl (k := 7) rfl (inc_n (nS Pr 2 i180 i210)) (by decide) rfl (fun ls hl => ?_)
          refine lv_iload hx hb dX2_isSame_239 (lv_at hl 8 rfl) ?_
          refine lv_aload hx hb dX2_isSame_241 (lv_at hl 1 rfl) ?_
          refine lv_iconst (v := 0) hx hb dX2_isSame_243 (by decide) ?_
          refine r_ld (f := (Pr i210)) (k := 0) hc hw (23 + (4 + (w + (b + i210)))) (two_get (s_P (show i210 < n by omega))) (by unfold vp_in; decide) (by decide) dX2_isSame_244 ?_
          refine g_mmax hc hl.1 (List.mem_of_getElem? (i := 4) rfl) (List.mem_of_getElem? (i := 5) rfl) (List.mem_of_getElem? (i := 6) rfl) (List.mem_of_getElem? (i := 7) rfl) (Nat.le_of_ble_eq_true rfl) (Nat.le_of_ble_eq_true rfl) (Nat.le_trans (show 40 + 8 * i180 ≤ 400 by omega) (Nat.le_of_ble_eq_true rfl)) (Nat.le_trans (show 240 + 48 * i180 ≤ 2400 by omega) (Nat.le_of_ble_eq_true rfl)) dX2_isSame_245 ?_
          refine lv_istore (lv' := [(7, .int (if (hS Pr i180 i210) < (Pr i210 0) then (Pr i210 0) else (hS Pr i180 i210))), (6, .int (nI ((nS Pr 2 i180 i210) + 1))), (11, .ref (zp Z i210)), (0, .ref (zh Z)), (1, .ref h), (2, .int (sI (fun j => Wr j 0) w)), (3, .int (nI (ch T 1 n))), (4, .int (sI (fun j => fI T j n) w)), (5, .int (nI i180)), (8, .ref (zy Z 5)), (9, .int (nI n)), (10, .int (nI i210))]) hx hb dX2_isSame_248 hl (by decide) rfl (fun ls hl => ?_)
          refine lv_iinc (v := (nI (i210 + 1))) (lv' := [(10, .int (nI (i210 + 1))), (7, .int (if (hS Pr i180 i210) < (Pr i210 0) then (Pr i210 0) else (hS Pr i180 i210))), (6, .int (nI ((nS Pr 2 i180 i210) + 1))), (11, .ref (zp Z i210)), (0, .ref (zh Z)), (1, .ref h), (2, .int (sI (fun j => Wr j 0) w)), (3, .int (nI (ch T 1 n))), (4, .int (sI (fun j => fI T j n) w)), (5, .int (nI i180)), (8, .ref (zy Z 5)), (9, .int (nI n))]) hx hb dX2_isSame_250 hl (k := 11) rfl (inc_n i210) (by decide) rfl (fun ls hl => ?_)
          refine lv_goto (tgt := 210) hx hb dX2_isSame_253 (by decide) ?_
          rw [show (nI ((nS Pr 2 i180 i210) + 1)) = (nI (nS Pr 2 i180 (i210 + 1))) from congrArg nI (nS_p c2).symm] at hl
          rw [show (if (hS Pr i180 i210) < (Pr i210 0) then (Pr i210 0) else (hS Pr i180 i210)) = (hS Pr i180 (i210 + 1)) from (hS_p c2).symm] at hl
          refine W.widen (show 40 + 8 * i180 ≤ 40 + 8 * i180 by omega) (show 240 + 48 * i180 ≤ 240 + 48 * i180 by omega) ?_
          exact k210 H locs ls hw (lv_sub hl [4, 5, 6, 7, 8, 9, 2, 1, 10, 11, 0] rfl)
        · refine lv_goto (tgt := 250) hx hb dX2_isSame_233 (by decide) ?_
          refine lv_iinc (v := (nI (i210 + 1))) (lv' := [(10, .int (nI (i210 + 1))), (11, .ref (zp Z i210)), (0, .ref (zh Z)), (1, .ref h), (2, .int (sI (fun j => Wr j 0) w)), (3, .int (nI (ch T 1 n))), (4, .int (sI (fun j => fI T j n) w)), (5, .int (nI i180)), (6, .int (nI (nS Pr 2 i180 i210))), (7, .int (hS Pr i180 i210)), (8, .ref (zy Z 5)), (9, .int (nI n))]) hx hb dX2_isSame_250 hl (k := 11) rfl (inc_n i210) (by decide) rfl (fun ls hl => ?_)
          refine lv_goto (tgt := 210) hx hb dX2_isSame_253 (by decide) ?_
          rw [show (nI (nS Pr 2 i180 i210)) = (nI (nS Pr 2 i180 (i210 + 1))) from congrArg nI (nS_n c2).symm] at hl
          rw [show (hS Pr i180 i210) = (hS Pr i180 (i210 + 1)) from (hS_n c2).symm] at hl
          refine W.widen (show 40 + 8 * i180 ≤ 40 + 8 * i180 by omega) (show 240 + 48 * i180 ≤ 240 + 48 * i180 by omega) ?_
          exact k210 H locs ls hw (lv_sub hl [2, 3, 4, 5, 6, 7, 8, 9, 10, 11, 0] rfl)
      · intro H locs ls hw hl
        refine lv_iload hx hb dX2_isSame_210 (lv_at hl 10 rfl) ?_
        refine lv_iload hx hb dX2_isSame_212 (lv_at hl 9 rfl) ?_
        refine lv_icmp_ge (tgt := 256) hx hb dX2_isSame_214 (by decide) (fun _ => ?_) (fun z => absurd (nI_le (Nat.le_refl _) (by omega)) z)
        rw [show (nI (nS Pr 2 i180 n)) = (nI (cn (ob T i180) n)) from congrArg nI (nS_ok hd4 hX (show i180 < b by omega))] at hl
        rw [show (hS Pr i180 n) = (hTT T i180 n) from hS_ok hd4 hX (show i180 < b by omega)] at hl
        refine lv_aload_n hx hb dX2_isSame_256 rfl (lv_at hl 1 rfl) ?_
        refine lv_iload hx hb dX2_isSame_257 (lv_at hl 5 rfl) ?_
        refine G_callT (n := 1) (q0 := 0) (rest := []) hc hT hw.2.2 (Pt.front hw hA) (n_daysToGo hst D cI cZ cL h a a2 hd5 hd4 hd30 he5 he4 he30 (i := i180) (show i180 < b by omega)) gX2_isSame_X1_daysToGo rfl (by decide +kernel) ⟨Nat.le_of_ble_eq_true rfl, Nat.le_of_ble_eq_true rfl⟩ rfl rfl rfl rfl rfl hl.1 (Nat.le_of_ble_eq_true rfl) (st1 := [.int (ct_to T i180)]) rfl dX2_isSame_259 (k2 := 41 + 8 * i180) (s2 := 246 + 48 * i180) (by show 40 + 8 * i180 + 1 = 41 + 8 * i180; omega) (by show 240 + 48 * i180 + 6 = 246 + 48 * i180; omega) ⟨(Nat.le_trans (show 41 + 8 * i180 ≤ 400 by omega) (Nat.le_of_ble_eq_true rfl)), (Nat.le_trans (show 246 + 48 * i180 ≤ 2400 by omega) (Nat.le_of_ble_eq_true rfl))⟩ (fun H locs hw => ?_)
        refine lv_aload_n hx hb dX2_isSame_262 rfl (lv_at hl 0 rfl) ?_
        refine g_get (v := .ref (zy Z 4)) hc hw hi2 (23 + (0)) 4 (two_get s_H) rfl (by decide) (List.mem_of_getElem? (i := 3) rfl) sv_4 dX2_isSame_263 ?_
        refine lv_iload hx hb dX2_isSame_266 (lv_at hl 5 rfl) ?_
        refine g_aald (v := zb Z i180) hc hw (23 + (2)) (two_get s_Y4) (vp_in_nI (show i180 < b by omega) (by omega)) (congrArg (fun q => some (zb Z q)) (nI_clamp (show i180 < 2 ^ 31 by omega))) dX2_isSame_268 ?_
        refine lv_iconst (v := 1) hx hb dX2_isSame_269 (by decide) ?_
        refine r_ld (f := (Br i180)) (k := 1) hc hw (23 + (4 + (w + i180))) (two_get (s_B (show i180 < b by omega))) (by unfold vp_in; decide) (by decide) dX2_isSame_270 ?_
        refine lv_icmp_ne (tgt := 314) hx hb dX2_isSame_271 (by decide) (fun z => absurd ((hX.2.1 i180 (by omega)).2) z) (fun _ => ?_)
        refine lv_aload_n hx hb dX2_isSame_274 rfl (lv_at hl 1 rfl) ?_
        refine lv_iload hx hb dX2_isSame_275 (lv_at hl 5 rfl) ?_
        refine G_callT (n := 1) (q0 := 0) (rest := []) hc hT hw.2.2 (Pt.front hw hA) (n_keptFor hst D cI cZ cL h a a2 hd5 hd4 hd30 he5 he4 he30 (i := i180) (show i180 < b by omega)) gX2_isSame_X1_keptFor rfl (by decide +kernel) ⟨Nat.le_of_ble_eq_true rfl, Nat.le_of_ble_eq_true rfl⟩ rfl rfl rfl rfl rfl hl.1 (Nat.le_of_ble_eq_true rfl) (st1 := [.int (ct_ke T i180)]) rfl dX2_isSame_277 (k2 := 42 + 8 * i180) (s2 := 252 + 48 * i180) (by show 41 + 8 * i180 + 1 = 42 + 8 * i180; omega) (by show 246 + 48 * i180 + 6 = 252 + 48 * i180; omega) ⟨(Nat.le_trans (show 42 + 8 * i180 ≤ 400 by omega) (Nat.le_of_ble_eq_true rfl)), (Nat.le_trans (show 252 + 48 * i180 ≤ 2400 by omega) (Nat.le_of_ble_eq_true rfl))⟩ (fun H locs hw => ?_)
        refine lv_aload_n hx hb dX2_isSame_280 rfl (lv_at hl 0 rfl) ?_
        refine g_get (v := .ref (zy Z 4)) hc hw hi2 (23 + (0)) 4 (two_get s_H) rfl (by decide) (List.mem_of_getElem? (i := 3) rfl) sv_4 dX2_isSame_281 ?_
        refine lv_iload hx hb dX2_isSame_284 (lv_at hl 5 rfl) ?_
        refine g_aald (v := zb Z i180) hc hw (23 + (2)) (two_get s_Y4) (vp_in_nI (show i180 < b by omega) (by omega)) (congrArg (fun q => some (zb Z q)) (nI_clamp (show i180 < 2 ^ 31 by omega))) dX2_isSame_286 ?_
        refine lv_iconst (v := 0) hx hb dX2_isSame_287 (by decide) ?_
        refine r_ld (f := (Br i180)) (k := 0) hc hw (23 + (4 + (w + i180))) (two_get (s_B (show i180 < b by omega))) (by unfold vp_in; decide) (by decide) dX2_isSame_288 ?_
        refine lv_icmp_ne (tgt := 314) hx hb dX2_isSame_289 (by decide) (fun z => absurd ((hX.2.1 i180 (by omega)).1) z) (fun _ => ?_)
        refine lv_aload_n hx hb dX2_isSame_292 rfl (lv_at hl 1 rfl) ?_
        refine lv_iload hx hb dX2_isSame_293 (lv_at hl 5 rfl) ?_
        refine G_callT (n := 1) (q0 := 0) (rest := []) hc hT hw.2.2 (Pt.front hw hA) (n_peopleOn hst D cI cZ cL h a a2 hd5 hd4 hd30 he5 he4 he30 (i := i180) (show i180 < b by omega)) gX2_isSame_X1_peopleOn rfl (by decide +kernel) ⟨Nat.le_of_ble_eq_true rfl, Nat.le_of_ble_eq_true rfl⟩ rfl rfl rfl rfl rfl hl.1 (Nat.le_of_ble_eq_true rfl) (st1 := [.int (nI (cn (ob T i180) n))]) rfl dX2_isSame_295 (k2 := 43 + 8 * i180) (s2 := 258 + 48 * i180) (by show 42 + 8 * i180 + 1 = 43 + 8 * i180; omega) (by show 252 + 48 * i180 + 6 = 258 + 48 * i180; omega) ⟨(Nat.le_trans (show 43 + 8 * i180 ≤ 400 by omega) (Nat.le_of_ble_eq_true rfl)), (Nat.le_trans (show 258 + 48 * i180 ≤ 2400 by omega) (Nat.le_of_ble_eq_true rfl))⟩ (fun H locs hw => ?_)
        refine lv_iload hx hb dX2_isSame_298 (lv_at hl 6 rfl) ?_
        refine lv_icmp_ne (tgt := 314) hx hb dX2_isSame_300 (by decide) (fun z => absurd rfl z) (fun _ => ?_)
        refine lv_aload_n hx hb dX2_isSame_303 rfl (lv_at hl 1 rfl) ?_
        refine lv_iload hx hb dX2_isSame_304 (lv_at hl 5 rfl) ?_
        refine G_callT (n := 1) (q0 := 0) (rest := []) hc hT hw.2.2 (Pt.front hw hA) (n_highestFeverOn hst D cI cZ cL h a a2 hd5 hd4 hd30 he5 he4 he30 (i := i180) (show i180 < b by omega)) gX2_isSame_X1_highestFeverOn rfl (by decide +kernel) ⟨Nat.le_of_ble_eq_true rfl, Nat.le_of_ble_eq_true rfl⟩ rfl rfl rfl rfl rfl hl.1 (Nat.le_of_ble_eq_true rfl) (st1 := [.int (hTT T i180 n)]) rfl dX2_isSame_306 (k2 := 44 + 8 * i180) (s2 := 264 + 48 * i180) (by show 43 + 8 * i180 + 1 = 44 + 8 * i180; omega) (by show 258 + 48 * i180 + 6 = 264 + 48 * i180; omega) ⟨(Nat.le_trans (show 44 + 8 * i180 ≤ 400 by omega) (Nat.le_of_ble_eq_true rfl)), (Nat.le_trans (show 264 + 48 * i180 ≤ 2400 by omega) (Nat.le_of_ble_eq_true rfl))⟩ (fun H locs hw => ?_)
        refine lv_iload hx hb dX2_isSame_309 (lv_at hl 7 rfl) ?_
        refine lv_icmp_eq (tgt := 316) hx hb dX2_isSame_311 (by decide) (fun _ => ?_) (fun z => absurd rfl z)
        refine lv_iinc (v := (nI (i180 + 1))) (lv' := [(5, .int (nI (i180 + 1))), (0, .ref (zh Z)), (1, .ref h), (2, .int (sI (fun j => Wr j 0) w)), (3, .int (nI (ch T 1 n))), (4, .int (sI (fun j => fI T j n) w)), (6, .int (nI (cn (ob T i180) n))), (7, .int (hTT T i180 n)), (8, .ref (zy Z 5)), (9, .int (nI n)), (10, .int (nI n))]) hx hb dX2_isSame_316 hl (k := 5) rfl (inc_n i180) (by decide) rfl (fun ls hl => ?_)
        refine lv_goto (tgt := 180) hx hb dX2_isSame_319 (by decide) ?_
        refine W.widen (show 44 + 8 * i180 ≤ 40 + 8 * (i180 + 1) by omega) (show 264 + 48 * i180 ≤ 240 + 48 * (i180 + 1) by omega) ?_
        exact k180 H locs ls hw (lv_sub hl [1, 2, 3, 4, 5, 0] rfl)
    · intro H locs ls hw hl
      refine lv_iload hx hb dX2_isSame_180 (lv_at hl 5 rfl) ?_
      refine lv_aload_n hx hb dX2_isSame_182 rfl (lv_at hl 0 rfl) ?_
      refine g_get (v := .ref (zy Z 4)) hc hw hi2 (23 + (0)) 4 (two_get s_H) rfl (by decide) (List.mem_of_getElem? (i := 3) rfl) sv_4 dX2_isSame_183 ?_
      refine va_alen (v := nI b) hx hb hK.1 hw.1 (23 + (2)) 2 (two_get s_Y4) rfl rfl dX2_isSame_186 ?_
      refine lv_icmp_ge (tgt := 322) hx hb dX2_isSame_187 (by decide) (fun _ => ?_) (fun z => absurd (nI_le (Nat.le_refl _) (by omega)) z)
      refine W.widen (show 40 + 8 * b ≤ 72 by omega) (show 240 + 48 * b ≤ 432 by omega) ?_
      refine lv_iconst (v := 0) hx hb dX2_isSame_322 (by decide) ?_
      refine lv_istore (lv' := [(5, .int (0 : Int32)), (0, .ref (zh Z)), (1, .ref h), (2, .int (sI (fun j => Wr j 0) w)), (3, .int (nI (ch T 1 n))), (4, .int (sI (fun j => fI T j n) w))]) hx hb dX2_isSame_323 hl (by decide) rfl (fun ls hl => ?_)
      refine lp_go0 (fun (i325 : Nat) => ∀ (H : Heap) (locs : List Loc) (ls : Array Slot), Wo D A s.heap (wb_c h a a2 cI cZ w b n T w2 b2 n2 T2 ++ ws_s Z cI cL w b n dy (nI k) ea Wr Br Pr []) H locs → lv_has ls 12 [(0, .ref (zh Z)), (1, .ref h), (2, .int (sI (fun j => Wr j 0) w)), (3, .int (nI (ch T 1 n))), (4, .int (sI (fun j => fI T j n) w)), (5, .int (nI i325))] → W p l e rm_X2_isSame s m args below meth c H locs (72 + 8 * i325) (432 + 48 * i325) (GE below args s D A (fun res w1 => res = some (.int 1) ∧ w1 = (wb_c h a a2 cI cZ w b n T w2 b2 n2 T2 ++ ws_s Z cI cL w b n dy (nI k) ea Wr Br Pr [])) rm_X2_isSame) (F0 m 325 ls [])) n ?_ ?_ H locs ls hw (lv_sub hl [1, 2, 3, 4, 5, 0] rfl)
      · intro i325 hi325 k325 H locs ls hw hl
        refine lv_iload hx hb dX2_isSame_325 (lv_at hl 5 rfl) ?_
        refine lv_aload_n hx hb dX2_isSame_327 rfl (lv_at hl 0 rfl) ?_
        refine g_get (v := .ref (zy Z 5)) hc hw hi2 (23 + (0)) 5 (two_get s_H) rfl (by decide) (List.mem_of_getElem? (i := 2) rfl) sv_5 dX2_isSame_328 ?_
        refine va_alen (v := nI n) hx hb hK.1 hw.1 (23 + (3)) 2 (two_get s_Y5) rfl rfl dX2_isSame_331 ?_
        refine lv_icmp_ge (tgt := 448) hx hb dX2_isSame_332 (by decide) (fun z => absurd z (nI_ge hi325 (by omega))) (fun _ => ?_)
        refine lv_aload_n hx hb dX2_isSame_335 rfl (lv_at hl 0 rfl) ?_
        refine g_get (v := .ref (zy Z 5)) hc hw hi2 (23 + (0)) 5 (two_get s_H) rfl (by decide) (List.mem_of_getElem? (i := 2) rfl) sv_5 dX2_isSame_336 ?_
        refine lv_iload hx hb dX2_isSame_339 (lv_at hl 5 rfl) ?_
        refine g_aald (v := zp Z i325) hc hw (23 + (3)) (two_get s_Y5) (vp_in_nI (show i325 < n by omega) (by omega)) (congrArg (fun q => some (zp Z q)) (nI_clamp (show i325 < 2 ^ 31 by omega))) dX2_isSame_341 ?_
        refine lv_astore (lv' := [(6, .ref (zp Z i325)), (0, .ref (zh Z)), (1, .ref h), (2, .int (sI (fun j => Wr j 0) w)), (3, .int (nI (ch T 1 n))), (4, .int (sI (fun j => fI T j n) w)), (5, .int (nI i325))]) hx hb dX2_isSame_342 hl (by decide) rfl (fun ls hl => ?_)
        refine lv_aload_n hx hb dX2_isSame_344 rfl (lv_at hl 2 rfl) ?_
        refine lv_iload hx hb dX2_isSame_345 (lv_at hl 6 rfl) ?_
        refine G_callT (n := 1) (q0 := 0) (rest := []) hc hT hw.2.2 (Pt.front hw hA) (n_feverOf hst D cI cZ cL h a a2 hd5 hd4 hd30 he5 he4 he30 (i := i325) (show i325 < n by omega)) gX2_isSame_X1_feverOf rfl (by decide +kernel) ⟨Nat.le_of_ble_eq_true rfl, Nat.le_of_ble_eq_true rfl⟩ rfl rfl rfl rfl rfl hl.1 (Nat.le_of_ble_eq_true rfl) (st1 := [.int (ct_fe T i325)]) rfl dX2_isSame_347 (k2 := 73 + 8 * i325) (s2 := 438 + 48 * i325) (by show 72 + 8 * i325 + 1 = 73 + 8 * i325; omega) (by show 432 + 48 * i325 + 6 = 438 + 48 * i325; omega) ⟨(Nat.le_trans (show 73 + 8 * i325 ≤ 400 by omega) (Nat.le_of_ble_eq_true rfl)), (Nat.le_trans (show 438 + 48 * i325 ≤ 2400 by omega) (Nat.le_of_ble_eq_true rfl))⟩ (fun H locs hw => ?_)
        refine lv_aload hx hb dX2_isSame_350 (lv_at hl 0 rfl) ?_
        refine lv_iconst (v := 0) hx hb dX2_isSame_352 (by decide) ?_
        refine r_ld (f := (Pr i325)) (k := 0) hc hw (23 + (4 + (w + (b + i325)))) (two_get (s_P (show i325 < n by omega))) (by unfold vp_in; decide) (by decide) dX2_isSame_353 ?_
        refine lv_icmp_ne (tgt := 440) hx hb dX2_isSame_354 (by decide) (fun z => absurd ((hX.2.2 i325 (by omega)).1) z) (fun _ => ?_)
        refine lv_aload_n hx hb dX2_isSame_357 rfl (lv_at hl 2 rfl) ?_
        refine lv_iload hx hb dX2_isSame_358 (lv_at hl 6 rfl) ?_
        refine G_callT (n := 1) (q0 := 0) (rest := []) hc hT hw.2.2 (Pt.front hw hA) (n_wardOf hst D cI cZ cL h a a2 hd5 hd4 hd30 he5 he4 he30 (i := i325) (show i325 < n by omega) hX) gX2_isSame_X1_wardOf rfl (by decide +kernel) ⟨Nat.le_of_ble_eq_true rfl, Nat.le_of_ble_eq_true rfl⟩ rfl rfl rfl rfl rfl hl.1 (Nat.le_of_ble_eq_true rfl) (st1 := [.int (Pr i325 1)]) rfl dX2_isSame_360 (k2 := 74 + 8 * i325) (s2 := 444 + 48 * i325) (by show 73 + 8 * i325 + 1 = 74 + 8 * i325; omega) (by show 438 + 48 * i325 + 6 = 444 + 48 * i325; omega) ⟨(Nat.le_trans (show 74 + 8 * i325 ≤ 400 by omega) (Nat.le_of_ble_eq_true rfl)), (Nat.le_trans (show 444 + 48 * i325 ≤ 2400 by omega) (Nat.le_of_ble_eq_true rfl))⟩ (fun H locs hw => ?_)
        refine lv_aload hx hb dX2_isSame_363 (lv_at hl 0 rfl) ?_
        refine lv_iconst (v := 1) hx hb dX2_isSame_365 (by decide) ?_
        refine r_ld (f := (Pr i325)) (k := 1) hc hw (23 + (4 + (w + (b + i325)))) (two_get (s_P (show i325 < n by omega))) (by unfold vp_in; decide) (by decide) dX2_isSame_366 ?_
        refine lv_icmp_ne (tgt := 440) hx hb dX2_isSame_367 (by decide) (fun z => absurd rfl z) (fun _ => ?_)
        refine lv_aload_n hx hb dX2_isSame_370 rfl (lv_at hl 2 rfl) ?_
        refine lv_iload hx hb dX2_isSame_371 (lv_at hl 6 rfl) ?_
        refine G_callT (n := 1) (q0 := 0) (rest := []) hc hT hw.2.2 (Pt.front hw hA) (n_bargeOf hst D cI cZ cL h a a2 hd5 hd4 hd30 he5 he4 he30 (i := i325) (show i325 < n by omega) hX) gX2_isSame_X1_bargeOf rfl (by decide +kernel) ⟨Nat.le_of_ble_eq_true rfl, Nat.le_of_ble_eq_true rfl⟩ rfl rfl rfl rfl rfl hl.1 (Nat.le_of_ble_eq_true rfl) (st1 := [.int (Pr i325 2)]) rfl dX2_isSame_373 (k2 := 75 + 8 * i325) (s2 := 450 + 48 * i325) (by show 74 + 8 * i325 + 1 = 75 + 8 * i325; omega) (by show 444 + 48 * i325 + 6 = 450 + 48 * i325; omega) ⟨(Nat.le_trans (show 75 + 8 * i325 ≤ 400 by omega) (Nat.le_of_ble_eq_true rfl)), (Nat.le_trans (show 450 + 48 * i325 ≤ 2400 by omega) (Nat.le_of_ble_eq_true rfl))⟩ (fun H locs hw => ?_)
        refine lv_aload hx hb dX2_isSame_376 (lv_at hl 0 rfl) ?_
        refine lv_iconst (v := 2) hx hb dX2_isSame_378 (by decide) ?_
        refine r_ld (f := (Pr i325)) (k := 2) hc hw (23 + (4 + (w + (b + i325)))) (two_get (s_P (show i325 < n by omega))) (by unfold vp_in; decide) (by decide) dX2_isSame_379 ?_
        refine lv_icmp_ne (tgt := 440) hx hb dX2_isSame_380 (by decide) (fun z => absurd rfl z) (fun _ => ?_)
        refine lv_aload_n hx hb dX2_isSame_383 rfl (lv_at hl 2 rfl) ?_
        refine lv_iload hx hb dX2_isSame_384 (lv_at hl 6 rfl) ?_
        refine G_callT (n := 1) (q0 := 0) (rest := []) hc hT hw.2.2 (Pt.front hw hA) (n_isHome hst D cI cZ cL h a a2 hd5 hd4 hd30 he5 he4 he30 (i := i325) (show i325 < n by omega) hX) gX2_isSame_X1_isHome rfl (by decide +kernel) ⟨Nat.le_of_ble_eq_true rfl, Nat.le_of_ble_eq_true rfl⟩ rfl rfl rfl rfl rfl hl.1 (Nat.le_of_ble_eq_true rfl) (st1 := [.int (Pr i325 3)]) rfl dX2_isSame_386 (k2 := 76 + 8 * i325) (s2 := 456 + 48 * i325) (by show 75 + 8 * i325 + 1 = 76 + 8 * i325; omega) (by show 450 + 48 * i325 + 6 = 456 + 48 * i325; omega) ⟨(Nat.le_trans (show 76 + 8 * i325 ≤ 400 by omega) (Nat.le_of_ble_eq_true rfl)), (Nat.le_trans (show 456 + 48 * i325 ≤ 2400 by omega) (Nat.le_of_ble_eq_true rfl))⟩ (fun H locs hw => ?_)
        refine lv_aload hx hb dX2_isSame_389 (lv_at hl 0 rfl) ?_
        refine lv_iconst (v := 3) hx hb dX2_isSame_391 (by decide) ?_
        refine r_ld (f := (Pr i325)) (k := 3) hc hw (23 + (4 + (w + (b + i325)))) (two_get (s_P (show i325 < n by omega))) (by unfold vp_in; decide) (by decide) dX2_isSame_392 ?_
        refine lv_iconst (v := 1) hx hb dX2_isSame_393 (by decide) ?_
        refine lv_icmp_ne (tgt := 401) hx hb dX2_isSame_394 (by decide) (fun c3 => ?_) (fun c3 => ?_)
        · refine lv_iconst (v := 0) hx hb dX2_isSame_401 (by decide) ?_
          refine lv_icmp_ne (tgt := 440) hx hb dX2_isSame_402 (by decide) (fun z => absurd ((s01 hX (show i325 < n by omega)).1 c3) z) (fun _ => ?_)
          refine lv_aload_n hx hb dX2_isSame_405 rfl (lv_at hl 2 rfl) ?_
          refine lv_iload hx hb dX2_isSame_406 (lv_at hl 6 rfl) ?_
          refine G_callT (n := 1) (q0 := 0) (rest := []) hc hT hw.2.2 (Pt.front hw hA) (n_isInGreatHouse hst D cI cZ cL h a a2 hd5 hd4 hd30 he5 he4 he30 (i := i325) (show i325 < n by omega) hX) gX2_isSame_X1_isInGreatHouse rfl (by decide +kernel) ⟨Nat.le_of_ble_eq_true rfl, Nat.le_of_ble_eq_true rfl⟩ rfl rfl rfl rfl rfl hl.1 (Nat.le_of_ble_eq_true rfl) (st1 := [.int (Pr i325 4)]) rfl dX2_isSame_408 (k2 := 77 + 8 * i325) (s2 := 462 + 48 * i325) (by show 76 + 8 * i325 + 1 = 77 + 8 * i325; omega) (by show 456 + 48 * i325 + 6 = 462 + 48 * i325; omega) ⟨(Nat.le_trans (show 77 + 8 * i325 ≤ 400 by omega) (Nat.le_of_ble_eq_true rfl)), (Nat.le_trans (show 462 + 48 * i325 ≤ 2400 by omega) (Nat.le_of_ble_eq_true rfl))⟩ (fun H locs hw => ?_)
          refine lv_aload hx hb dX2_isSame_411 (lv_at hl 0 rfl) ?_
          refine lv_iconst (v := 4) hx hb dX2_isSame_413 (by decide) ?_
          refine r_ld (f := (Pr i325)) (k := 4) hc hw (23 + (4 + (w + (b + i325)))) (two_get (s_P (show i325 < n by omega))) (by unfold vp_in; decide) (by decide) dX2_isSame_414 ?_
          refine lv_iconst (v := 1) hx hb dX2_isSame_415 (by decide) ?_
          refine lv_icmp_ne (tgt := 423) hx hb dX2_isSame_416 (by decide) (fun c4 => ?_) (fun c4 => ?_)
          · refine lv_iconst (v := 0) hx hb dX2_isSame_423 (by decide) ?_
            refine lv_icmp_ne (tgt := 440) hx hb dX2_isSame_424 (by decide) (fun z => absurd ((s01 hX (show i325 < n by omega)).2 c4) z) (fun _ => ?_)
            refine lv_aload_n hx hb dX2_isSame_427 rfl (lv_at hl 2 rfl) ?_
            refine lv_iload hx hb dX2_isSame_428 (lv_at hl 6 rfl) ?_
            refine G_callT (n := 1) (q0 := 0) (rest := []) hc hT hw.2.2 (Pt.front hw hA) (n_hungryDaysOf hst D cI cZ cL h a a2 hd5 hd4 hd30 he5 he4 he30 (i := i325) (show i325 < n by omega)) gX2_isSame_X1_hungryDaysOf rfl (by decide +kernel) ⟨Nat.le_of_ble_eq_true rfl, Nat.le_of_ble_eq_true rfl⟩ rfl rfl rfl rfl rfl hl.1 (Nat.le_of_ble_eq_true rfl) (st1 := [.int (ct_hd T i325)]) rfl dX2_isSame_430 (k2 := 78 + 8 * i325) (s2 := 468 + 48 * i325) (by show 77 + 8 * i325 + 1 = 78 + 8 * i325; omega) (by show 462 + 48 * i325 + 6 = 468 + 48 * i325; omega) ⟨(Nat.le_trans (show 78 + 8 * i325 ≤ 400 by omega) (Nat.le_of_ble_eq_true rfl)), (Nat.le_trans (show 468 + 48 * i325 ≤ 2400 by omega) (Nat.le_of_ble_eq_true rfl))⟩ (fun H locs hw => ?_)
            refine lv_aload hx hb dX2_isSame_433 (lv_at hl 0 rfl) ?_
            refine lv_iconst (v := 5) hx hb dX2_isSame_435 (by decide) ?_
            refine r_ld (f := (Pr i325)) (k := 5) hc hw (23 + (4 + (w + (b + i325)))) (two_get (s_P (show i325 < n by omega))) (by unfold vp_in; decide) (by decide) dX2_isSame_436 ?_
            refine lv_icmp_eq (tgt := 442) hx hb dX2_isSame_437 (by decide) (fun _ => ?_) (fun z => absurd ((hX.2.2 i325 (by omega)).2.1) z)
            refine lv_iinc (v := (nI (i325 + 1))) (lv' := [(5, .int (nI (i325 + 1))), (6, .ref (zp Z i325)), (0, .ref (zh Z)), (1, .ref h), (2, .int (sI (fun j => Wr j 0) w)), (3, .int (nI (ch T 1 n))), (4, .int (sI (fun j => fI T j n) w))]) hx hb dX2_isSame_442 hl (k := 6) rfl (inc_n i325) (by decide) rfl (fun ls hl => ?_)
            refine lv_goto (tgt := 325) hx hb dX2_isSame_445 (by decide) ?_
            refine W.widen (show 78 + 8 * i325 ≤ 72 + 8 * (i325 + 1) by omega) (show 468 + 48 * i325 ≤ 432 + 48 * (i325 + 1) by omega) ?_
            exact k325 H locs ls hw (lv_sub hl [2, 3, 4, 5, 6, 0] rfl)
          · refine lv_iconst (v := 1) hx hb dX2_isSame_419 (by decide) ?_
            refine lv_goto (tgt := 424) hx hb dX2_isSame_420 (by decide) ?_
            refine lv_icmp_ne (tgt := 440) hx hb dX2_isSame_424 (by decide) (fun z => absurd c4 z) (fun _ => ?_)
            refine lv_aload_n hx hb dX2_isSame_427 rfl (lv_at hl 2 rfl) ?_
            refine lv_iload hx hb dX2_isSame_428 (lv_at hl 6 rfl) ?_
            refine G_callT (n := 1) (q0 := 0) (rest := []) hc hT hw.2.2 (Pt.front hw hA) (n_hungryDaysOf hst D cI cZ cL h a a2 hd5 hd4 hd30 he5 he4 he30 (i := i325) (show i325 < n by omega)) gX2_isSame_X1_hungryDaysOf rfl (by decide +kernel) ⟨Nat.le_of_ble_eq_true rfl, Nat.le_of_ble_eq_true rfl⟩ rfl rfl rfl rfl rfl hl.1 (Nat.le_of_ble_eq_true rfl) (st1 := [.int (ct_hd T i325)]) rfl dX2_isSame_430 (k2 := 78 + 8 * i325) (s2 := 468 + 48 * i325) (by show 77 + 8 * i325 + 1 = 78 + 8 * i325; omega) (by show 462 + 48 * i325 + 6 = 468 + 48 * i325; omega) ⟨(Nat.le_trans (show 78 + 8 * i325 ≤ 400 by omega) (Nat.le_of_ble_eq_true rfl)), (Nat.le_trans (show 468 + 48 * i325 ≤ 2400 by omega) (Nat.le_of_ble_eq_true rfl))⟩ (fun H locs hw => ?_)
            refine lv_aload hx hb dX2_isSame_433 (lv_at hl 0 rfl) ?_
            refine lv_iconst (v := 5) hx hb dX2_isSame_435 (by decide) ?_
            refine r_ld (f := (Pr i325)) (k := 5) hc hw (23 + (4 + (w + (b + i325)))) (two_get (s_P (show i325 < n by omega))) (by unfold vp_in; decide) (by decide) dX2_isSame_436 ?_
            refine lv_icmp_eq (tgt := 442) hx hb dX2_isSame_437 (by decide) (fun _ => ?_) (fun z => absurd ((hX.2.2 i325 (by omega)).2.1) z)
            refine lv_iinc (v := (nI (i325 + 1))) (lv' := [(5, .int (nI (i325 + 1))), (6, .ref (zp Z i325)), (0, .ref (zh Z)), (1, .ref h), (2, .int (sI (fun j => Wr j 0) w)), (3, .int (nI (ch T 1 n))), (4, .int (sI (fun j => fI T j n) w))]) hx hb dX2_isSame_442 hl (k := 6) rfl (inc_n i325) (by decide) rfl (fun ls hl => ?_)
            refine lv_goto (tgt := 325) hx hb dX2_isSame_445 (by decide) ?_
            refine W.widen (show 78 + 8 * i325 ≤ 72 + 8 * (i325 + 1) by omega) (show 468 + 48 * i325 ≤ 432 + 48 * (i325 + 1) by omega) ?_
            exact k325 H locs ls hw (lv_sub hl [2, 3, 4, 5, 6, 0] rfl)
        · refine lv_iconst (v := 1) hx hb dX2_isSame_397 (by decide) ?_
          refine lv_goto (tgt := 402) hx hb dX2_isSame_398 (by decide) ?_
          refine lv_icmp_ne (tgt := 440) hx hb dX2_isSame_402 (by decide) (fun z => absurd c3 z) (fun _ => ?_)
          refine lv_aload_n hx hb dX2_isSame_405 rfl (lv_at hl 2 rfl) ?_
          refine lv_iload hx hb dX2_isSame_406 (lv_at hl 6 rfl) ?_
          refine G_callT (n := 1) (q0 := 0) (rest := []) hc hT hw.2.2 (Pt.front hw hA) (n_isInGreatHouse hst D cI cZ cL h a a2 hd5 hd4 hd30 he5 he4 he30 (i := i325) (show i325 < n by omega) hX) gX2_isSame_X1_isInGreatHouse rfl (by decide +kernel) ⟨Nat.le_of_ble_eq_true rfl, Nat.le_of_ble_eq_true rfl⟩ rfl rfl rfl rfl rfl hl.1 (Nat.le_of_ble_eq_true rfl) (st1 := [.int (Pr i325 4)]) rfl dX2_isSame_408 (k2 := 77 + 8 * i325) (s2 := 462 + 48 * i325) (by show 76 + 8 * i325 + 1 = 77 + 8 * i325; omega) (by show 456 + 48 * i325 + 6 = 462 + 48 * i325; omega) ⟨(Nat.le_trans (show 77 + 8 * i325 ≤ 400 by omega) (Nat.le_of_ble_eq_true rfl)), (Nat.le_trans (show 462 + 48 * i325 ≤ 2400 by omega) (Nat.le_of_ble_eq_true rfl))⟩ (fun H locs hw => ?_)
          refine lv_aload hx hb dX2_isSame_411 (lv_at hl 0 rfl) ?_
          refine lv_iconst (v := 4) hx hb dX2_isSame_413 (by decide) ?_
          refine r_ld (f := (Pr i325)) (k := 4) hc hw (23 + (4 + (w + (b + i325)))) (two_get (s_P (show i325 < n by omega))) (by unfold vp_in; decide) (by decide) dX2_isSame_414 ?_
          refine lv_iconst (v := 1) hx hb dX2_isSame_415 (by decide) ?_
          refine lv_icmp_ne (tgt := 423) hx hb dX2_isSame_416 (by decide) (fun c5 => ?_) (fun c5 => ?_)
          · refine lv_iconst (v := 0) hx hb dX2_isSame_423 (by decide) ?_
            refine lv_icmp_ne (tgt := 440) hx hb dX2_isSame_424 (by decide) (fun z => absurd ((s01 hX (show i325 < n by omega)).2 c5) z) (fun _ => ?_)
            refine lv_aload_n hx hb dX2_isSame_427 rfl (lv_at hl 2 rfl) ?_
            refine lv_iload hx hb dX2_isSame_428 (lv_at hl 6 rfl) ?_
            refine G_callT (n := 1) (q0 := 0) (rest := []) hc hT hw.2.2 (Pt.front hw hA) (n_hungryDaysOf hst D cI cZ cL h a a2 hd5 hd4 hd30 he5 he4 he30 (i := i325) (show i325 < n by omega)) gX2_isSame_X1_hungryDaysOf rfl (by decide +kernel) ⟨Nat.le_of_ble_eq_true rfl, Nat.le_of_ble_eq_true rfl⟩ rfl rfl rfl rfl rfl hl.1 (Nat.le_of_ble_eq_true rfl) (st1 := [.int (ct_hd T i325)]) rfl dX2_isSame_430 (k2 := 78 + 8 * i325) (s2 := 468 + 48 * i325) (by show 77 + 8 * i325 + 1 = 78 + 8 * i325; omega) (by show 462 + 48 * i325 + 6 = 468 + 48 * i325; omega) ⟨(Nat.le_trans (show 78 + 8 * i325 ≤ 400 by omega) (Nat.le_of_ble_eq_true rfl)), (Nat.le_trans (show 468 + 48 * i325 ≤ 2400 by omega) (Nat.le_of_ble_eq_true rfl))⟩ (fun H locs hw => ?_)
            refine lv_aload hx hb dX2_isSame_433 (lv_at hl 0 rfl) ?_
            refine lv_iconst (v := 5) hx hb dX2_isSame_435 (by decide) ?_
            refine r_ld (f := (Pr i325)) (k := 5) hc hw (23 + (4 + (w + (b + i325)))) (two_get (s_P (show i325 < n by omega))) (by unfold vp_in; decide) (by decide) dX2_isSame_436 ?_
            refine lv_icmp_eq (tgt := 442) hx hb dX2_isSame_437 (by decide) (fun _ => ?_) (fun z => absurd ((hX.2.2 i325 (by omega)).2.1) z)
            refine lv_iinc (v := (nI (i325 + 1))) (lv' := [(5, .int (nI (i325 + 1))), (6, .ref (zp Z i325)), (0, .ref (zh Z)), (1, .ref h), (2, .int (sI (fun j => Wr j 0) w)), (3, .int (nI (ch T 1 n))), (4, .int (sI (fun j => fI T j n) w))]) hx hb dX2_isSame_442 hl (k := 6) rfl (inc_n i325) (by decide) rfl (fun ls hl => ?_)
            refine lv_goto (tgt := 325) hx hb dX2_isSame_445 (by decide) ?_
            refine W.widen (show 78 + 8 * i325 ≤ 72 + 8 * (i325 + 1) by omega) (show 468 + 48 * i325 ≤ 432 + 48 * (i325 + 1) by omega) ?_
            exact k325 H locs ls hw (lv_sub hl [2, 3, 4, 5, 6, 0] rfl)
          · refine lv_iconst (v := 1) hx hb dX2_isSame_419 (by decide) ?_
            refine lv_goto (tgt := 424) hx hb dX2_isSame_420 (by decide) ?_
            refine lv_icmp_ne (tgt := 440) hx hb dX2_isSame_424 (by decide) (fun z => absurd c5 z) (fun _ => ?_)
            refine lv_aload_n hx hb dX2_isSame_427 rfl (lv_at hl 2 rfl) ?_
            refine lv_iload hx hb dX2_isSame_428 (lv_at hl 6 rfl) ?_
            refine G_callT (n := 1) (q0 := 0) (rest := []) hc hT hw.2.2 (Pt.front hw hA) (n_hungryDaysOf hst D cI cZ cL h a a2 hd5 hd4 hd30 he5 he4 he30 (i := i325) (show i325 < n by omega)) gX2_isSame_X1_hungryDaysOf rfl (by decide +kernel) ⟨Nat.le_of_ble_eq_true rfl, Nat.le_of_ble_eq_true rfl⟩ rfl rfl rfl rfl rfl hl.1 (Nat.le_of_ble_eq_true rfl) (st1 := [.int (ct_hd T i325)]) rfl dX2_isSame_430 (k2 := 78 + 8 * i325) (s2 := 468 + 48 * i325) (by show 77 + 8 * i325 + 1 = 78 + 8 * i325; omega) (by show 462 + 48 * i325 + 6 = 468 + 48 * i325; omega) ⟨(Nat.le_trans (show 78 + 8 * i325 ≤ 400 by omega) (Nat.le_of_ble_eq_true rfl)), (Nat.le_trans (show 468 + 48 * i325 ≤ 2400 by omega) (Nat.le_of_ble_eq_true rfl))⟩ (fun H locs hw => ?_)
            refine lv_aload hx hb dX2_isSame_433 (lv_at hl 0 rfl) ?_
            refine lv_iconst (v := 5) hx hb dX2_isSame_435 (by decide) ?_
            refine r_ld (f := (Pr i325)) (k := 5) hc hw (23 + (4 + (w + (b + i325)))) (two_get (s_P (show i325 < n by omega))) (by unfold vp_in; decide) (by decide) dX2_isSame_436 ?_
            refine lv_icmp_eq (tgt := 442) hx hb dX2_isSame_437 (by decide) (fun _ => ?_) (fun z => absurd ((hX.2.2 i325 (by omega)).2.1) z)
            refine lv_iinc (v := (nI (i325 + 1))) (lv' := [(5, .int (nI (i325 + 1))), (6, .ref (zp Z i325)), (0, .ref (zh Z)), (1, .ref h), (2, .int (sI (fun j => Wr j 0) w)), (3, .int (nI (ch T 1 n))), (4, .int (sI (fun j => fI T j n) w))]) hx hb dX2_isSame_442 hl (k := 6) rfl (inc_n i325) (by decide) rfl (fun ls hl => ?_)
            refine lv_goto (tgt := 325) hx hb dX2_isSame_445 (by decide) ?_
            refine W.widen (show 78 + 8 * i325 ≤ 72 + 8 * (i325 + 1) by omega) (show 468 + 48 * i325 ≤ 432 + 48 * (i325 + 1) by omega) ?_
            exact k325 H locs ls hw (lv_sub hl [2, 3, 4, 5, 6, 0] rfl)
      · intro H locs ls hw hl
        refine lv_iload hx hb dX2_isSame_325 (lv_at hl 5 rfl) ?_
        refine lv_aload_n hx hb dX2_isSame_327 rfl (lv_at hl 0 rfl) ?_
        refine g_get (v := .ref (zy Z 5)) hc hw hi2 (23 + (0)) 5 (two_get s_H) rfl (by decide) (List.mem_of_getElem? (i := 2) rfl) sv_5 dX2_isSame_328 ?_
        refine va_alen (v := nI n) hx hb hK.1 hw.1 (23 + (3)) 2 (two_get s_Y5) rfl rfl dX2_isSame_331 ?_
        refine lv_icmp_ge (tgt := 448) hx hb dX2_isSame_332 (by decide) (fun _ => ?_) (fun z => absurd (nI_le (Nat.le_refl _) (by omega)) z)
        refine W.widen (show 72 + 8 * n ≤ 312 by omega) (show 432 + 48 * n ≤ 1872 by omega) ?_
        refine lv_aload_n hx hb dX2_isSame_448 rfl (lv_at hl 1 rfl) ?_
        refine p_callV (n := 0) (q0 := 0) (rest := []) hc hw.2.2 (Pt.front hw hA) (n_day l D cI cZ cL h a a2 hd5 hd4 hd30 he5 he4 he30) gX2_isSame_X1_day rfl (by decide +kernel) ⟨Nat.le_of_ble_eq_true rfl, Nat.le_of_ble_eq_true rfl⟩ rfl rfl rfl rfl rfl hl.1 (Nat.le_of_ble_eq_true rfl) (st1 := [.int (ct_day T)]) rfl dX2_isSame_449 (k2 := 312) (s2 := 1872) (by show 312 + 0 = 312; omega) (by show 1872 + 0 = 1872; omega) ⟨(Nat.le_trans (show 312 ≤ 400 by omega) (Nat.le_of_ble_eq_true rfl)), (Nat.le_trans (show 1872 ≤ 2400 by omega) (Nat.le_of_ble_eq_true rfl))⟩ (fun H locs hw => ?_)
        refine lv_aload_n hx hb dX2_isSame_452 rfl (lv_at hl 0 rfl) ?_
        refine g_get (v := .int dy) hc hw hi2 (23 + (0)) 0 (two_get s_H) rfl (by decide) (List.mem_of_getElem? (i := 8) rfl) sv_0 dX2_isSame_453 ?_
        refine lv_icmp_ne (tgt := 517) hx hb dX2_isSame_456 (by decide) (fun z => absurd hD.2.2.2.1 z) (fun _ => ?_)
        refine lv_aload_n hx hb dX2_isSame_459 rfl (lv_at hl 1 rfl) ?_
        refine p_callV (n := 0) (q0 := 0) (rest := []) hc hw.2.2 (Pt.front hw hA) (n_wards l D cI cZ cL h a a2 hd5 hd4 hd30 he5 he4 he30) gX2_isSame_X1_wards rfl (by decide +kernel) ⟨Nat.le_of_ble_eq_true rfl, Nat.le_of_ble_eq_true rfl⟩ rfl rfl rfl rfl rfl hl.1 (Nat.le_of_ble_eq_true rfl) (st1 := [.int (nI w)]) rfl dX2_isSame_460 (k2 := 312) (s2 := 1872) (by show 312 + 0 = 312; omega) (by show 1872 + 0 = 1872; omega) ⟨(Nat.le_trans (show 312 ≤ 400 by omega) (Nat.le_of_ble_eq_true rfl)), (Nat.le_trans (show 1872 ≤ 2400 by omega) (Nat.le_of_ble_eq_true rfl))⟩ (fun H locs hw => ?_)
        refine lv_aload_n hx hb dX2_isSame_463 rfl (lv_at hl 0 rfl) ?_
        refine g_get (v := .ref (zy Z 3)) hc hw hi2 (23 + (0)) 3 (two_get s_H) rfl (by decide) (List.mem_of_getElem? (i := 1) rfl) sv_3 dX2_isSame_464 ?_
        refine va_alen (v := nI w) hx hb hK.1 hw.1 (23 + (1)) 2 (two_get s_Y3) rfl rfl dX2_isSame_467 ?_
        refine lv_icmp_ne (tgt := 517) hx hb dX2_isSame_468 (by decide) (fun z => absurd rfl z) (fun _ => ?_)
        refine lv_aload_n hx hb dX2_isSame_471 rfl (lv_at hl 1 rfl) ?_
        refine p_callV (n := 0) (q0 := 0) (rest := []) hc hw.2.2 (Pt.front hw hA) (n_barges l D cI cZ cL h a a2 hd5 hd4 hd30 he5 he4 he30) gX2_isSame_X1_barges rfl (by decide +kernel) ⟨Nat.le_of_ble_eq_true rfl, Nat.le_of_ble_eq_true rfl⟩ rfl rfl rfl rfl rfl hl.1 (Nat.le_of_ble_eq_true rfl) (st1 := [.int (nI b)]) rfl dX2_isSame_472 (k2 := 312) (s2 := 1872) (by show 312 + 0 = 312; omega) (by show 1872 + 0 = 1872; omega) ⟨(Nat.le_trans (show 312 ≤ 400 by omega) (Nat.le_of_ble_eq_true rfl)), (Nat.le_trans (show 1872 ≤ 2400 by omega) (Nat.le_of_ble_eq_true rfl))⟩ (fun H locs hw => ?_)
        refine lv_aload_n hx hb dX2_isSame_475 rfl (lv_at hl 0 rfl) ?_
        refine g_get (v := .ref (zy Z 4)) hc hw hi2 (23 + (0)) 4 (two_get s_H) rfl (by decide) (List.mem_of_getElem? (i := 3) rfl) sv_4 dX2_isSame_476 ?_
        refine va_alen (v := nI b) hx hb hK.1 hw.1 (23 + (2)) 2 (two_get s_Y4) rfl rfl dX2_isSame_479 ?_
        refine lv_icmp_ne (tgt := 517) hx hb dX2_isSame_480 (by decide) (fun z => absurd rfl z) (fun _ => ?_)
        refine lv_aload_n hx hb dX2_isSame_483 rfl (lv_at hl 1 rfl) ?_
        refine p_callV (n := 0) (q0 := 0) (rest := []) hc hw.2.2 (Pt.front hw hA) (n_people l D cI cZ cL h a a2 hd5 hd4 hd30 he5 he4 he30) gX2_isSame_X1_people rfl (by decide +kernel) ⟨Nat.le_of_ble_eq_true rfl, Nat.le_of_ble_eq_true rfl⟩ rfl rfl rfl rfl rfl hl.1 (Nat.le_of_ble_eq_true rfl) (st1 := [.int (nI n)]) rfl dX2_isSame_484 (k2 := 312) (s2 := 1872) (by show 312 + 0 = 312; omega) (by show 1872 + 0 = 1872; omega) ⟨(Nat.le_trans (show 312 ≤ 400 by omega) (Nat.le_of_ble_eq_true rfl)), (Nat.le_trans (show 1872 ≤ 2400 by omega) (Nat.le_of_ble_eq_true rfl))⟩ (fun H locs hw => ?_)
        refine lv_aload_n hx hb dX2_isSame_487 rfl (lv_at hl 0 rfl) ?_
        refine g_get (v := .ref (zy Z 5)) hc hw hi2 (23 + (0)) 5 (two_get s_H) rfl (by decide) (List.mem_of_getElem? (i := 2) rfl) sv_5 dX2_isSame_488 ?_
        refine va_alen (v := nI n) hx hb hK.1 hw.1 (23 + (3)) 2 (two_get s_Y5) rfl rfl dX2_isSame_491 ?_
        refine lv_icmp_ne (tgt := 517) hx hb dX2_isSame_492 (by decide) (fun z => absurd rfl z) (fun _ => ?_)
        refine lv_aload_n hx hb dX2_isSame_495 rfl (lv_at hl 1 rfl) ?_
        refine p_callV (n := 0) (q0 := 0) (rest := []) hc hw.2.2 (Pt.front hw hA) (n_bowls l D cI cZ cL h a a2 hd5 hd4 hd30 he5 he4 he30 hbo) gX2_isSame_X1_bowls rfl (by decide +kernel) ⟨Nat.le_of_ble_eq_true rfl, Nat.le_of_ble_eq_true rfl⟩ rfl rfl rfl rfl rfl hl.1 (Nat.le_of_ble_eq_true rfl) (st1 := [.int (nI k)]) rfl dX2_isSame_496 (k2 := 312) (s2 := 1872) (by show 312 + 0 = 312; omega) (by show 1872 + 0 = 1872; omega) ⟨(Nat.le_trans (show 312 ≤ 400 by omega) (Nat.le_of_ble_eq_true rfl)), (Nat.le_trans (show 1872 ≤ 2400 by omega) (Nat.le_of_ble_eq_true rfl))⟩ (fun H locs hw => ?_)
        refine lv_aload_n hx hb dX2_isSame_499 rfl (lv_at hl 0 rfl) ?_
        refine g_get (v := .int (nI k)) hc hw hi2 (23 + (0)) 1 (two_get s_H) rfl (by decide) (List.mem_of_getElem? (i := 9) rfl) sv_1 dX2_isSame_500 ?_
        refine lv_icmp_ne (tgt := 517) hx hb dX2_isSame_503 (by decide) (fun z => absurd rfl z) (fun _ => ?_)
        refine lv_aload_n hx hb dX2_isSame_506 rfl (lv_at hl 1 rfl) ?_
        refine p_callV (n := 0) (q0 := 0) (rest := []) hc hw.2.2 (Pt.front hw hA) (n_bowlsEaten l D cI cZ cL h a a2 hd5 hd4 hd30 he5 he4 he30) gX2_isSame_X1_bowlsEaten rfl (by decide +kernel) ⟨Nat.le_of_ble_eq_true rfl, Nat.le_of_ble_eq_true rfl⟩ rfl rfl rfl rfl rfl hl.1 (Nat.le_of_ble_eq_true rfl) (st1 := [.int (ct_ea T)]) rfl dX2_isSame_507 (k2 := 312) (s2 := 1872) (by show 312 + 0 = 312; omega) (by show 1872 + 0 = 1872; omega) ⟨(Nat.le_trans (show 312 ≤ 400 by omega) (Nat.le_of_ble_eq_true rfl)), (Nat.le_trans (show 1872 ≤ 2400 by omega) (Nat.le_of_ble_eq_true rfl))⟩ (fun H locs hw => ?_)
        refine lv_aload_n hx hb dX2_isSame_510 rfl (lv_at hl 0 rfl) ?_
        refine g_get (v := .int ea) hc hw hi2 (23 + (0)) 2 (two_get s_H) rfl (by decide) (List.mem_of_getElem? (i := 10) rfl) sv_2 dX2_isSame_511 ?_
        refine lv_icmp_eq (tgt := 519) hx hb dX2_isSame_514 (by decide) (fun _ => ?_) (fun z => absurd hD.2.2.2.2.2 z)
        refine lv_aload_n hx hb dX2_isSame_519 rfl (lv_at hl 1 rfl) ?_
        refine p_callV (n := 0) (q0 := 0) (rest := []) hc hw.2.2 (Pt.front hw hA) (n_freePlaces l D cI cZ cL h a a2 hd5 hd4 hd30 he5 he4 he30) gX2_isSame_X1_freePlaces rfl (by decide +kernel) ⟨Nat.le_of_ble_eq_true rfl, Nat.le_of_ble_eq_true rfl⟩ rfl rfl rfl rfl rfl hl.1 (Nat.le_of_ble_eq_true rfl) (st1 := [.int (sI (ct_pl T) w - sI (fun i => nI (cn (iw T i) n)) w)]) rfl dX2_isSame_520 (k2 := 312) (s2 := 1872) (by show 312 + 0 = 312; omega) (by show 1872 + 0 = 1872; omega) ⟨(Nat.le_trans (show 312 ≤ 400 by omega) (Nat.le_of_ble_eq_true rfl)), (Nat.le_trans (show 1872 ≤ 2400 by omega) (Nat.le_of_ble_eq_true rfl))⟩ (fun H locs hw => ?_)
        refine lv_iload_n hx hb dX2_isSame_523 rfl (lv_at hl 2 rfl) ?_
        refine lv_iload_n hx hb dX2_isSame_524 rfl (lv_at hl 3 rfl) ?_
        refine lv_isub hx hb dX2_isSame_525 ?_
        refine lv_icmp_ne (tgt := 604) hx hb dX2_isSame_526 (by decide) (fun z => absurd h526 z) (fun _ => ?_)
        refine lv_aload_n hx hb dX2_isSame_529 rfl (lv_at hl 1 rfl) ?_
        refine p_callV (n := 0) (q0 := 0) (rest := []) hc hw.2.2 (Pt.front hw hA) (n_bowlsShort l D cI cZ cL h a a2 hd5 hd4 hd30 he5 he4 he30 hbo hk) gX2_isSame_X1_bowlsShort rfl (by decide +kernel) ⟨Nat.le_of_ble_eq_true rfl, Nat.le_of_ble_eq_true rfl⟩ rfl rfl rfl rfl rfl hl.1 (Nat.le_of_ble_eq_true rfl) (st1 := [.int (nI (ch T 1 n - k))]) rfl dX2_isSame_530 (k2 := 312) (s2 := 1872) (by show 312 + 0 = 312; omega) (by show 1872 + 0 = 1872; omega) ⟨(Nat.le_trans (show 312 ≤ 400 by omega) (Nat.le_of_ble_eq_true rfl)), (Nat.le_trans (show 1872 ≤ 2400 by omega) (Nat.le_of_ble_eq_true rfl))⟩ (fun H locs hw => ?_)
        refine lv_iconst (v := 0) hx hb dX2_isSame_533 (by decide) ?_
        refine lv_iload_n hx hb dX2_isSame_534 rfl (lv_at hl 3 rfl) ?_
        refine lv_aload_n hx hb dX2_isSame_535 rfl (lv_at hl 0 rfl) ?_
        refine g_get (v := .int (nI k)) hc hw hi2 (23 + (0)) 1 (two_get s_H) rfl (by decide) (List.mem_of_getElem? (i := 9) rfl) sv_1 dX2_isSame_536 ?_
        refine lv_isub hx hb dX2_isSame_539 ?_
        refine g_mmax hc hl.1 (List.mem_of_getElem? (i := 4) rfl) (List.mem_of_getElem? (i := 5) rfl) (List.mem_of_getElem? (i := 6) rfl) (List.mem_of_getElem? (i := 7) rfl) (Nat.le_of_ble_eq_true rfl) (Nat.le_of_ble_eq_true rfl) (Nat.le_trans (show 312 ≤ 400 by omega) (Nat.le_of_ble_eq_true rfl)) (Nat.le_trans (show 1872 ≤ 2400 by omega) (Nat.le_of_ble_eq_true rfl)) dX2_isSame_540 ?_
        refine lv_icmp_ne (tgt := 604) hx hb dX2_isSame_543 (by decide) (fun z => absurd h543 z) (fun _ => ?_)
        refine lv_aload_n hx hb dX2_isSame_546 rfl (lv_at hl 1 rfl) ?_
        refine p_callV (n := 0) (q0 := 0) (rest := []) hc hw.2.2 (Pt.front hw hA) (n_bowlsNeeded l D cI cZ cL h a a2 hd5 hd4 hd30 he5 he4 he30) gX2_isSame_X1_bowlsNeeded rfl (by decide +kernel) ⟨Nat.le_of_ble_eq_true rfl, Nat.le_of_ble_eq_true rfl⟩ rfl rfl rfl rfl rfl hl.1 (Nat.le_of_ble_eq_true rfl) (st1 := [.int (nI (ch T 1 n))]) rfl dX2_isSame_547 (k2 := 312) (s2 := 1872) (by show 312 + 0 = 312; omega) (by show 1872 + 0 = 1872; omega) ⟨(Nat.le_trans (show 312 ≤ 400 by omega) (Nat.le_of_ble_eq_true rfl)), (Nat.le_trans (show 1872 ≤ 2400 by omega) (Nat.le_of_ble_eq_true rfl))⟩ (fun H locs hw => ?_)
        refine lv_iload_n hx hb dX2_isSame_550 rfl (lv_at hl 3 rfl) ?_
        refine lv_icmp_ne (tgt := 604) hx hb dX2_isSame_551 (by decide) (fun z => absurd rfl z) (fun _ => ?_)
        refine lv_aload_n hx hb dX2_isSame_554 rfl (lv_at hl 1 rfl) ?_
        refine p_callV (n := 0) (q0 := 0) (rest := []) hc hw.2.2 (Pt.front hw hA) (n_peopleHome l D cI cZ cL h a a2 hd5 hd4 hd30 he5 he4 he30) gX2_isSame_X1_peopleHome rfl (by decide +kernel) ⟨Nat.le_of_ble_eq_true rfl, Nat.le_of_ble_eq_true rfl⟩ rfl rfl rfl rfl rfl hl.1 (Nat.le_of_ble_eq_true rfl) (st1 := [.int (nI (ch T 2 n))]) rfl dX2_isSame_555 (k2 := 312) (s2 := 1872) (by show 312 + 0 = 312; omega) (by show 1872 + 0 = 1872; omega) ⟨(Nat.le_trans (show 312 ≤ 400 by omega) (Nat.le_of_ble_eq_true rfl)), (Nat.le_trans (show 1872 ≤ 2400 by omega) (Nat.le_of_ble_eq_true rfl))⟩ (fun H locs hw => ?_)
        refine lv_aload_n hx hb dX2_isSame_558 rfl (lv_at hl 0 rfl) ?_
        refine lv_iconst (v := 3) hx hb dX2_isSame_559 (by decide) ?_
        refine p_callV (n := 1) (q0 := 0) (rest := [.int (nI (ch T 2 n))]) hc hw.2.2 (Pt.back hw hA) ((k_X2_all l D cI cZ cL [] (3 : Int32) hd30 (by unfold vp_in; decide)).tx (congrArg (fun v : Int32 => some (Value.int v)) (all_ok hX).1)) gX2_isSame_X2_all rfl (by decide +kernel) ⟨Nat.le_of_ble_eq_true rfl, Nat.le_of_ble_eq_true rfl⟩ rfl rfl rfl rfl rfl hl.1 (Nat.le_of_ble_eq_true rfl) (st1 := [.int (nI (hz (dy, ea, Wr, Br, Pr) 3 n)), .int (nI (ch T 2 n))]) rfl dX2_isSame_560 (k2 := 312) (s2 := 1872) (by show 312 + 0 = 312; omega) (by show 1872 + 0 = 1872; omega) ⟨(Nat.le_trans (show 312 ≤ 400 by omega) (Nat.le_of_ble_eq_true rfl)), (Nat.le_trans (show 1872 ≤ 2400 by omega) (Nat.le_of_ble_eq_true rfl))⟩ (fun H locs hw => ?_)
        refine lv_icmp_ne (tgt := 604) hx hb dX2_isSame_563 (by decide) (fun z => absurd (congrArg nI (DI_h2 hD)) z) (fun _ => ?_)
        refine lv_aload_n hx hb dX2_isSame_566 rfl (lv_at hl 1 rfl) ?_
        refine p_callV (n := 0) (q0 := 0) (rest := []) hc hw.2.2 (Pt.front hw hA) (n_peopleInGreatHouse l D cI cZ cL h a a2 hd5 hd4 hd30 he5 he4 he30) gX2_isSame_X1_peopleInGreatHouse rfl (by decide +kernel) ⟨Nat.le_of_ble_eq_true rfl, Nat.le_of_ble_eq_true rfl⟩ rfl rfl rfl rfl rfl hl.1 (Nat.le_of_ble_eq_true rfl) (st1 := [.int (nI (ch T 3 n))]) rfl dX2_isSame_567 (k2 := 312) (s2 := 1872) (by show 312 + 0 = 312; omega) (by show 1872 + 0 = 1872; omega) ⟨(Nat.le_trans (show 312 ≤ 400 by omega) (Nat.le_of_ble_eq_true rfl)), (Nat.le_trans (show 1872 ≤ 2400 by omega) (Nat.le_of_ble_eq_true rfl))⟩ (fun H locs hw => ?_)
        refine lv_aload_n hx hb dX2_isSame_570 rfl (lv_at hl 0 rfl) ?_
        refine lv_iconst (v := 4) hx hb dX2_isSame_571 (by decide) ?_
        refine p_callV (n := 1) (q0 := 0) (rest := [.int (nI (ch T 3 n))]) hc hw.2.2 (Pt.back hw hA) ((k_X2_all l D cI cZ cL [] (4 : Int32) hd30 (by unfold vp_in; decide)).tx (congrArg (fun v : Int32 => some (Value.int v)) (all_ok hX).2)) gX2_isSame_X2_all rfl (by decide +kernel) ⟨Nat.le_of_ble_eq_true rfl, Nat.le_of_ble_eq_true rfl⟩ rfl rfl rfl rfl rfl hl.1 (Nat.le_of_ble_eq_true rfl) (st1 := [.int (nI (hz (dy, ea, Wr, Br, Pr) 4 n)), .int (nI (ch T 3 n))]) rfl dX2_isSame_572 (k2 := 312) (s2 := 1872) (by show 312 + 0 = 312; omega) (by show 1872 + 0 = 1872; omega) ⟨(Nat.le_trans (show 312 ≤ 400 by omega) (Nat.le_of_ble_eq_true rfl)), (Nat.le_trans (show 1872 ≤ 2400 by omega) (Nat.le_of_ble_eq_true rfl))⟩ (fun H locs hw => ?_)
        refine lv_icmp_ne (tgt := 604) hx hb dX2_isSame_575 (by decide) (fun z => absurd (congrArg nI (DI_h3 hD)) z) (fun _ => ?_)
        refine lv_aload_n hx hb dX2_isSame_578 rfl (lv_at hl 1 rfl) ?_
        refine p_callV (n := 0) (q0 := 0) (rest := []) hc hw.2.2 (Pt.front hw hA) (n_meanFever l D cI cZ cL h a a2 hd5 hd4 hd30 he5 he4 he30) gX2_isSame_X1_meanFever rfl (by decide +kernel) ⟨Nat.le_of_ble_eq_true rfl, Nat.le_of_ble_eq_true rfl⟩ rfl rfl rfl rfl rfl hl.1 (Nat.le_of_ble_eq_true rfl) (st1 := [.double (r_X1_meanFever w b n T w2 b2 n2 T2)]) rfl dX2_isSame_579 (k2 := 312) (s2 := 1872) (by show 312 + 0 = 312; omega) (by show 1872 + 0 = 1872; omega) ⟨(Nat.le_trans (show 312 ≤ 400 by omega) (Nat.le_of_ble_eq_true rfl)), (Nat.le_trans (show 1872 ≤ 2400 by omega) (Nat.le_of_ble_eq_true rfl))⟩ (fun H locs hw => ?_)
        refine lv_iload_n hx hb dX2_isSame_582 rfl (lv_at hl 3 rfl) ?_
        refine lv_if_ne (tgt := 590) hx hb dX2_isSame_583 (by decide) (fun c6 => ?_) (fun c6 => ?_)
        · refine lv_iload hx hb dX2_isSame_590 (lv_at hl 4 rfl) ?_
          refine lv_i2d hx hb dX2_isSame_592 ?_
          refine lv_iload_n hx hb dX2_isSame_593 rfl (lv_at hl 3 rfl) ?_
          refine lv_i2d hx hb dX2_isSame_594 ?_
          refine lv_ddiv hx hb dX2_isSame_595 (fp_ok _ c6) ?_
          refine lv_dcmp hx hb dX2_isSame_596 ?_
          refine lv_if_ne (tgt := 604) hx hb dX2_isSame_597 (by decide) (fun z => absurd (cmp_eq (mean_p hd5 hd30 c6) (nn_div _ c6)) z) (fun _ => ?_)
          refine lv_iconst (v := 1) hx hb dX2_isSame_600 (by decide) ?_
          refine lv_goto (tgt := 605) hx hb dX2_isSame_601 (by decide) ?_
          exact G_zret hc hw rfl ⟨rfl, rfl⟩ (Nat.le_trans (show 312 ≤ 400 by omega) (Nat.le_of_ble_eq_true rfl)) (Nat.le_trans (show 1872 ≤ 2400 by omega) (Nat.le_of_ble_eq_true rfl)) dX2_isSame_605
        · refine lv_dconst0 hx hb dX2_isSame_586 ?_
          refine lv_goto (tgt := 596) hx hb dX2_isSame_587 (by decide) ?_
          refine lv_dcmp hx hb dX2_isSame_596 ?_
          refine lv_if_ne (tgt := 604) hx hb dX2_isSame_597 (by decide) (fun z => absurd (cmp_eq (mean_0 hd30 c6) nn_0) z) (fun _ => ?_)
          refine lv_iconst (v := 1) hx hb dX2_isSame_600 (by decide) ?_
          refine lv_goto (tgt := 605) hx hb dX2_isSame_601 (by decide) ?_
          exact G_zret hc hw rfl ⟨rfl, rfl⟩ (Nat.le_trans (show 312 ≤ 400 by omega) (Nat.le_of_ble_eq_true rfl)) (Nat.le_trans (show 1872 ≤ 2400 by omega) (Nat.le_of_ble_eq_true rfl)) dX2_isSame_605
