def f_X3_highestFeverOn_23 (th : Int32) (w : Nat) (b : Nat) (n : Nat) (T : mt_T) (w2 : Nat) (b2 : Nat) (n2 : Nat) (T2 : mt_T) (x1 : Int32) (i23 : Nat) (q23 : Int32) : Int32 := if ((mt_wh T) (nI i23).toNatClampNeg) = ((10 : Int32) + x1) then ((if q23 < ((mt_fe T) (nI i23).toNatClampNeg) then ((mt_fe T) (nI i23).toNatClampNeg) else q23)) else (q23)
def r_X3_highestFeverOn (th : Int32) (w : Nat) (b : Nat) (n : Nat) (T : mt_T) (w2 : Nat) (b2 : Nat) (n2 : Nat) (T2 : mt_T) (x1 : Int32) : Int32 := if (r_X3_isBarge (0 : Int32) w b n T w2 b2 n2 T2 x1) = (0 : Int32) then ((r_X3_no (0 : Int32) w b n T w2 b2 n2 T2 (1 : Int32))) else ((lpf (f_X3_highestFeverOn_23 th w b n T w2 b2 n2 T2 x1) n 0 ((0 : Int32))))
def t_X3_highestFeverOn (th : Int32) (w : Nat) (b : Nat) (n : Nat) (T : mt_T) (w2 : Nat) (b2 : Nat) (n2 : Nat) (T2 : mt_T) (x1 : Int32) : Int32 := if (r_X3_isBarge (0 : Int32) w b n T w2 b2 n2 T2 x1) = (0 : Int32) then ((t_X3_no (0 : Int32) w b n T w2 b2 n2 T2 (1 : Int32))) else ((0 : Int32))
abbrev rm_X3_highestFeverOn : Room := { frames := 2, cells := 0, slots := 0, locals := 43 }
set_option maxHeartbeats 4000000 in
set_option maxRecDepth 100000 in
theorem k_X3_highestFeverOn (l : Launch) (D : va_G) (cI cZ cL : ClassId) (h : Nat) (a a2 : Nat → Nat) (th : Int32) (w : Nat) (b : Nat) (n : Nat) (T : mt_T) (w2 : Nat) (b2 : Nat) (n2 : Nat) (T2 : mt_T) (hd5 : w ≤ 5) (hd4 : b ≤ 4) (hd30 : n ≤ 30) (he5 : w2 ≤ 5) (he4 : b2 ≤ 4) (he30 : n2 ≤ 30) (x1 : Int32)  : MX l yX3_highestFeverOn wsX3_highestFeverOn rm_X3_highestFeverOn D cI cZ cL [.ref h, .int x1] (wb_m h a a2 cI th w b n T w2 b2 n2 T2) (some (.int (r_X3_highestFeverOn th w b n T w2 b2 n2 T2 x1))) (wb_m h a a2 cI (t_X3_highestFeverOn th w b n T w2 b2 n2 T2 x1) w b n T w2 b2 n2 T2) := by
  refine MX.of (own := RX3) (cc := cX3_highestFeverOn) (maxL := 4) (ret := (some .int)) (lv0 := [(0, .ref h), (1, .int x1)]) (by decide) rfl rfl (Nat.le_of_ble_eq_true rfl) rfl ?_
  intro p e s m args below meth c A hc hnm hw ls hl
  obtain ⟨hx, hb, hr, hml, hown, hts, hlk, hK, hA⟩ := id hc
  have hiX2 : ∀ w ∈ u_ws RX2 TX2 13, w ∈ wsX3_highestFeverOn := fun _ h => List.mem_cons_of_mem _ (List.mem_append_right _ h)
  have hiX3 : ∀ w ∈ u_ws RX3 TX3 3, w ∈ wsX3_highestFeverOn := fun _ h => List.mem_cons_of_mem _ (List.mem_append_left _ (List.mem_append_right _ h))
  refine lv_aload_n hx hb dX3_highestFeverOn_0 rfl (lv_at hl 0 rfl) ?_
  refine lv_iconst (v := 0) hx hb dX3_highestFeverOn_1 (by decide) ?_
  refine g_put hc hw hiX3 tyX3 tyX3_ok nmX3 0 0 (wo_X3_H ..) rfl (by decide) (List.mem_of_getElem? (i := 1) rfl) (by decide) rfl rfl (Nat.le_of_ble_eq_true rfl) (w' := (wb_m h a a2 cI (0 : Int32) w b n T w2 b2 n2 T2)) (wp_X3_H_0 ..) dX3_highestFeverOn_2 (fun H locs hw => ?_)
  refine lv_aload_n hx hb dX3_highestFeverOn_5 rfl (lv_at hl 0 rfl) ?_
  refine lv_iload_n hx hb dX3_highestFeverOn_6 rfl (lv_at hl 1 rfl) ?_
  refine g_callV0 (n := 1) hc hw (k_X3_isBarge l D cI cZ cL h a a2 (0 : Int32) w b n T w2 b2 n2 T2 hd5 hd4 hd30 he5 he4 he30 x1) gX3_highestFeverOn_X3_isBarge rfl (by decide +kernel) ⟨Nat.le_of_ble_eq_true rfl, Nat.le_of_ble_eq_true rfl⟩ 0 (wo_X3_H ..) rfl rfl rfl (rest := []) rfl hl.1 (Nat.le_of_ble_eq_true rfl) (st1 := [.int (r_X3_isBarge (0 : Int32) w b n T w2 b2 n2 T2 x1)]) rfl dX3_highestFeverOn_7 (k2 := 0) (s2 := 0) rfl rfl ⟨Nat.le_of_ble_eq_true rfl, Nat.le_of_ble_eq_true rfl⟩ (fun H locs hw => ?_)
  refine lv_if_ne (tgt := 19) hx hb dX3_highestFeverOn_10 (by decide) (fun c1 => ?_) (fun c1 => ?_)
  · refine lv_iconst (v := 0) hx hb dX3_highestFeverOn_19 (by decide) ?_
    refine lv_istore_n (lv' := [(2, .int (0 : Int32)), (0, .ref h), (1, .int x1)]) hx hb dX3_highestFeverOn_20 rfl hl (by decide) rfl (fun ls hl => ?_)
    refine lv_iconst (v := 0) hx hb dX3_highestFeverOn_21 (by decide) ?_
    refine lv_istore_n (lv' := [(3, .int (0 : Int32)), (2, .int (0 : Int32)), (0, .ref h), (1, .int x1)]) hx hb dX3_highestFeverOn_22 rfl hl (by decide) rfl (fun ls hl => ?_)
    refine lp_go (fun (i23 : Nat) (q23 : Int32) => ∀ (H : Heap) (locs : List Loc) (ls : Array Slot), Wo D A s.heap (wb_m h a a2 cI (0 : Int32) w b n T w2 b2 n2 T2) H locs → lv_has ls 4 [(0, .ref h), (1, .int x1), (2, .int q23), (3, .int (nI i23))] → W p l e rm_X3_highestFeverOn s m args below meth c H locs 0 0 (QE below args s D A (some (.int (r_X3_highestFeverOn th w b n T w2 b2 n2 T2 x1))) (wb_m h a a2 cI (t_X3_highestFeverOn th w b n T w2 b2 n2 T2 x1) w b n T w2 b2 n2 T2) rm_X3_highestFeverOn) (F0 m 23 ls [])) (f_X3_highestFeverOn_23 th w b n T w2 b2 n2 T2 x1) n ((0 : Int32)) ?_ ?_ H locs ls hw (lv_sub hl [2, 3, 1, 0] rfl)
    · intro i23 q23 hi23 k23 H locs ls hw hl
      refine lv_iload_n hx hb dX3_highestFeverOn_23 rfl (lv_at hl 3 rfl) ?_
      refine lv_aload_n hx hb dX3_highestFeverOn_24 rfl (lv_at hl 0 rfl) ?_
      refine g_get (v := .ref (a 0)) hc hw hiX3 0 1 (wo_X3_H ..) rfl (by decide) (List.mem_of_getElem? (i := 2) rfl) (wv_X3_H_1 ..) dX3_highestFeverOn_25 ?_
      refine g_getN (v := .int (nI n)) (host := RX3) hc hw hiX2 1 3 (wo_X3_T ..) rfl (by decide) (fun z => z.2 (33, "people", "I") (by decide +kernel)) (wv_X3_T_3 ..) dX3_highestFeverOn_28 ?_
      refine lv_icmp_ge (tgt := 70) hx hb dX3_highestFeverOn_31 (by decide) (fun z => absurd z (nI_ge hi23 (by omega))) (fun _ => ?_)
      refine lv_aload_n hx hb dX3_highestFeverOn_34 rfl (lv_at hl 0 rfl) ?_
      refine g_get (v := .ref (a 0)) hc hw hiX3 0 1 (wo_X3_H ..) rfl (by decide) (List.mem_of_getElem? (i := 2) rfl) (wv_X3_H_1 ..) dX3_highestFeverOn_35 ?_
      refine g_getN (v := .ref (a 11)) (host := RX3) hc hw hiX2 1 11 (wo_X3_T ..) rfl (by decide) (fun z => z.2 (57, "where", "[I") (by decide +kernel)) (wv_X3_T_11 ..) dX3_highestFeverOn_38 ?_
      refine lv_iload_n hx hb dX3_highestFeverOn_41 rfl (lv_at hl 3 rfl) ?_
      refine g_iald (f := (mt_wh T)) hc hw 7 (wr_X3_T_11 ..) (vp_in_nI (show i23 < 30 by omega) (by omega)) dX3_highestFeverOn_42 ?_
      refine lv_bipush (v := 10) hx hb dX3_highestFeverOn_43 (by decide) ?_
      refine lv_iload_n hx hb dX3_highestFeverOn_45 rfl (lv_at hl 1 rfl) ?_
      refine lv_iadd hx hb dX3_highestFeverOn_46 ?_
      refine lv_icmp_ne (tgt := 64) hx hb dX3_highestFeverOn_47 (by decide) (fun c2 => ?_) (fun c2 => ?_)
      · refine lv_iinc (v := (nI (i23 + 1))) (lv' := [(3, .int (nI (i23 + 1))), (0, .ref h), (1, .int x1), (2, .int q23)]) hx hb dX3_highestFeverOn_64 hl (k := 3) rfl (inc_n i23) (by decide) rfl (fun ls hl => ?_)
        refine lv_goto (tgt := 23) hx hb dX3_highestFeverOn_67 (by decide) ?_
        rw [show (f_X3_highestFeverOn_23 th w b n T w2 b2 n2 T2 x1) i23 q23 = (q23) from by rw [f_X3_highestFeverOn_23, if_neg c2]] at k23
        exact k23 H locs ls hw (lv_sub hl [1, 2, 3, 0] rfl)
      · refine lv_iload_n hx hb dX3_highestFeverOn_50 rfl (lv_at hl 2 rfl) ?_
        refine lv_aload_n hx hb dX3_highestFeverOn_51 rfl (lv_at hl 0 rfl) ?_
        refine g_get (v := .ref (a 0)) hc hw hiX3 0 1 (wo_X3_H ..) rfl (by decide) (List.mem_of_getElem? (i := 2) rfl) (wv_X3_H_1 ..) dX3_highestFeverOn_52 ?_
        refine g_getN (v := .ref (a 10)) (host := RX3) hc hw hiX2 1 10 (wo_X3_T ..) rfl (by decide) (fun z => z.2 (54, "fever", "[I") (by decide +kernel)) (wv_X3_T_10 ..) dX3_highestFeverOn_55 ?_
        refine lv_iload_n hx hb dX3_highestFeverOn_58 rfl (lv_at hl 3 rfl) ?_
        refine g_iald (f := (mt_fe T)) hc hw 6 (wr_X3_T_10 ..) (vp_in_nI (show i23 < 30 by omega) (by omega)) dX3_highestFeverOn_59 ?_
        refine g_mmax hc hl.1 (List.mem_of_getElem? (i := 3) rfl) (List.mem_of_getElem? (i := 4) rfl) (List.mem_of_getElem? (i := 5) rfl) (List.mem_of_getElem? (i := 6) rfl) (Nat.le_of_ble_eq_true rfl) (Nat.le_of_ble_eq_true rfl) (Nat.le_of_ble_eq_true rfl) (Nat.le_of_ble_eq_true rfl) dX3_highestFeverOn_60 ?_
        refine lv_istore_n (lv' := [(2, .int (if q23 < ((mt_fe T) (nI i23).toNatClampNeg) then ((mt_fe T) (nI i23).toNatClampNeg) else q23)), (0, .ref h), (1, .int x1), (3, .int (nI i23))]) hx hb dX3_highestFeverOn_63 rfl hl (by decide) rfl (fun ls hl => ?_)
        refine lv_iinc (v := (nI (i23 + 1))) (lv' := [(3, .int (nI (i23 + 1))), (2, .int (if q23 < ((mt_fe T) (nI i23).toNatClampNeg) then ((mt_fe T) (nI i23).toNatClampNeg) else q23)), (0, .ref h), (1, .int x1)]) hx hb dX3_highestFeverOn_64 hl (k := 3) rfl (inc_n i23) (by decide) rfl (fun ls hl => ?_)
        refine lv_goto (tgt := 23) hx hb dX3_highestFeverOn_67 (by decide) ?_
        rw [show (f_X3_highestFeverOn_23 th w b n T w2 b2 n2 T2 x1) i23 q23 = ((if q23 < ((mt_fe T) (nI i23).toNatClampNeg) then ((mt_fe T) (nI i23).toNatClampNeg) else q23)) from by rw [f_X3_highestFeverOn_23, if_pos c2]] at k23
        exact k23 H locs ls hw (lv_sub hl [2, 3, 1, 0] rfl)
    · intro H locs ls hw hl
      refine lv_iload_n hx hb dX3_highestFeverOn_23 rfl (lv_at hl 3 rfl) ?_
      refine lv_aload_n hx hb dX3_highestFeverOn_24 rfl (lv_at hl 0 rfl) ?_
      refine g_get (v := .ref (a 0)) hc hw hiX3 0 1 (wo_X3_H ..) rfl (by decide) (List.mem_of_getElem? (i := 2) rfl) (wv_X3_H_1 ..) dX3_highestFeverOn_25 ?_
      refine g_getN (v := .int (nI n)) (host := RX3) hc hw hiX2 1 3 (wo_X3_T ..) rfl (by decide) (fun z => z.2 (33, "people", "I") (by decide +kernel)) (wv_X3_T_3 ..) dX3_highestFeverOn_28 ?_
      refine lv_icmp_ge (tgt := 70) hx hb dX3_highestFeverOn_31 (by decide) (fun _ => ?_) (fun z => absurd (nI_le (Nat.le_refl _) (by omega)) z)
      refine lv_iload_n hx hb dX3_highestFeverOn_70 rfl (lv_at hl 2 rfl) ?_
      rw [show r_X3_highestFeverOn th w b n T w2 b2 n2 T2 x1 = (lpf (f_X3_highestFeverOn_23 th w b n T w2 b2 n2 T2 x1) n 0 ((0 : Int32))) from by rw [r_X3_highestFeverOn, if_neg c1]]
      rw [show t_X3_highestFeverOn th w b n T w2 b2 n2 T2 x1 = (0 : Int32) from by rw [t_X3_highestFeverOn, if_neg c1]]
      exact g_ret hc hw rfl (Nat.le_of_ble_eq_true rfl) (Nat.le_of_ble_eq_true rfl) dX3_highestFeverOn_71
  · refine lv_aload_n hx hb dX3_highestFeverOn_13 rfl (lv_at hl 0 rfl) ?_
    refine lv_iconst (v := 1) hx hb dX3_highestFeverOn_14 (by decide) ?_
    refine g_callV0 (n := 1) hc hw (k_X3_no l D cI cZ cL h a a2 (0 : Int32) w b n T w2 b2 n2 T2 hd5 hd4 hd30 he5 he4 he30 (1 : Int32)) gX3_highestFeverOn_X3_no rfl (by decide +kernel) ⟨Nat.le_of_ble_eq_true rfl, Nat.le_of_ble_eq_true rfl⟩ 0 (wo_X3_H ..) rfl rfl rfl (rest := []) rfl hl.1 (Nat.le_of_ble_eq_true rfl) (st1 := [.int (r_X3_no (0 : Int32) w b n T w2 b2 n2 T2 (1 : Int32))]) rfl dX3_highestFeverOn_15 (k2 := 0) (s2 := 0) rfl rfl ⟨Nat.le_of_ble_eq_true rfl, Nat.le_of_ble_eq_true rfl⟩ (fun H locs hw => ?_)
    rw [show r_X3_highestFeverOn th w b n T w2 b2 n2 T2 x1 = (r_X3_no (0 : Int32) w b n T w2 b2 n2 T2 (1 : Int32)) from by rw [r_X3_highestFeverOn, if_pos c1]]
    rw [show t_X3_highestFeverOn th w b n T w2 b2 n2 T2 x1 = (t_X3_no (0 : Int32) w b n T w2 b2 n2 T2 (1 : Int32)) from by rw [t_X3_highestFeverOn, if_pos c1]]
    exact g_ret hc hw rfl (Nat.le_of_ble_eq_true rfl) (Nat.le_of_ble_eq_true rfl) dX3_highestFeverOn_18

def r_X3_day (th : Int32) (w : Nat) (b : Nat) (n : Nat) (T : mt_T) (w2 : Nat) (b2 : Nat) (n2 : Nat) (T2 : mt_T) : Int32 := (mt_day T)
def t_X3_day (th : Int32) (w : Nat) (b : Nat) (n : Nat) (T : mt_T) (w2 : Nat) (b2 : Nat) (n2 : Nat) (T2 : mt_T) : Int32 := (0 : Int32)
abbrev rm_X3_day : Room := { frames := 0, cells := 0, slots := 0, locals := 0 }
set_option maxHeartbeats 4000000 in
set_option maxRecDepth 100000 in
theorem k_X3_day (l : Launch) (D : va_G) (cI cZ cL : ClassId) (h : Nat) (a a2 : Nat → Nat) (th : Int32) (w : Nat) (b : Nat) (n : Nat) (T : mt_T) (w2 : Nat) (b2 : Nat) (n2 : Nat) (T2 : mt_T) (hd5 : w ≤ 5) (hd4 : b ≤ 4) (hd30 : n ≤ 30) (he5 : w2 ≤ 5) (he4 : b2 ≤ 4) (he30 : n2 ≤ 30)   : MX l yX3_day wsX3_day rm_X3_day D cI cZ cL [.ref h] (wb_m h a a2 cI th w b n T w2 b2 n2 T2) (some (.int (r_X3_day th w b n T w2 b2 n2 T2))) (wb_m h a a2 cI (t_X3_day th w b n T w2 b2 n2 T2) w b n T w2 b2 n2 T2) := by
  refine MX.of (own := RX3) (cc := cX3_day) (maxL := 1) (ret := (some .int)) (lv0 := [(0, .ref h)]) (by decide) rfl rfl (Nat.le_of_ble_eq_true rfl) rfl ?_
  intro p e s m args below meth c A hc hnm hw ls hl
  obtain ⟨hx, hb, hr, hml, hown, hts, hlk, hK, hA⟩ := id hc
  have hiX2 : ∀ w ∈ u_ws RX2 TX2 13, w ∈ wsX3_day := fun _ h => List.mem_cons_of_mem _ (List.mem_append_right _ h)
  have hiX3 : ∀ w ∈ u_ws RX3 TX3 3, w ∈ wsX3_day := fun _ h => List.mem_cons_of_mem _ (List.mem_append_left _ (List.mem_append_right _ h))
  refine lv_aload_n hx hb dX3_day_0 rfl (lv_at hl 0 rfl) ?_
  refine lv_iconst (v := 0) hx hb dX3_day_1 (by decide) ?_
  refine g_put hc hw hiX3 tyX3 tyX3_ok nmX3 0 0 (wo_X3_H ..) rfl (by decide) (List.mem_of_getElem? (i := 1) rfl) (by decide) rfl rfl (Nat.le_of_ble_eq_true rfl) (w' := (wb_m h a a2 cI (0 : Int32) w b n T w2 b2 n2 T2)) (wp_X3_H_0 ..) dX3_day_2 (fun H locs hw => ?_)
  refine lv_aload_n hx hb dX3_day_5 rfl (lv_at hl 0 rfl) ?_
  refine g_get (v := .ref (a 0)) hc hw hiX3 0 1 (wo_X3_H ..) rfl (by decide) (List.mem_of_getElem? (i := 2) rfl) (wv_X3_H_1 ..) dX3_day_6 ?_
  refine g_getN (v := .int (mt_day T)) (host := RX3) hc hw hiX2 1 0 (wo_X3_T ..) rfl (by decide) (fun z => z.2 (97, "day", "I") (by decide +kernel)) (wv_X3_T_0 ..) dX3_day_9 ?_
  rw [show r_X3_day th w b n T w2 b2 n2 T2 = (mt_day T) from by rw [r_X3_day]]
  rw [show t_X3_day th w b n T w2 b2 n2 T2 = (0 : Int32) from by rw [t_X3_day]]
  exact g_ret hc hw rfl (Nat.le_of_ble_eq_true rfl) (Nat.le_of_ble_eq_true rfl) dX3_day_12

def r_X3_wards (th : Int32) (w : Nat) (b : Nat) (n : Nat) (T : mt_T) (w2 : Nat) (b2 : Nat) (n2 : Nat) (T2 : mt_T) : Int32 := (nI w)
def t_X3_wards (th : Int32) (w : Nat) (b : Nat) (n : Nat) (T : mt_T) (w2 : Nat) (b2 : Nat) (n2 : Nat) (T2 : mt_T) : Int32 := (0 : Int32)
abbrev rm_X3_wards : Room := { frames := 0, cells := 0, slots := 0, locals := 0 }
set_option maxHeartbeats 4000000 in
set_option maxRecDepth 100000 in
theorem k_X3_wards (l : Launch) (D : va_G) (cI cZ cL : ClassId) (h : Nat) (a a2 : Nat → Nat) (th : Int32) (w : Nat) (b : Nat) (n : Nat) (T : mt_T) (w2 : Nat) (b2 : Nat) (n2 : Nat) (T2 : mt_T) (hd5 : w ≤ 5) (hd4 : b ≤ 4) (hd30 : n ≤ 30) (he5 : w2 ≤ 5) (he4 : b2 ≤ 4) (he30 : n2 ≤ 30)   : MX l yX3_wards wsX3_wards rm_X3_wards D cI cZ cL [.ref h] (wb_m h a a2 cI th w b n T w2 b2 n2 T2) (some (.int (r_X3_wards th w b n T w2 b2 n2 T2))) (wb_m h a a2 cI (t_X3_wards th w b n T w2 b2 n2 T2) w b n T w2 b2 n2 T2) := by
  refine MX.of (own := RX3) (cc := cX3_wards) (maxL := 1) (ret := (some .int)) (lv0 := [(0, .ref h)]) (by decide) rfl rfl (Nat.le_of_ble_eq_true rfl) rfl ?_
  intro p e s m args below meth c A hc hnm hw ls hl
  obtain ⟨hx, hb, hr, hml, hown, hts, hlk, hK, hA⟩ := id hc
  have hiX2 : ∀ w ∈ u_ws RX2 TX2 13, w ∈ wsX3_wards := fun _ h => List.mem_cons_of_mem _ (List.mem_append_right _ h)
  have hiX3 : ∀ w ∈ u_ws RX3 TX3 3, w ∈ wsX3_wards := fun _ h => List.mem_cons_of_mem _ (List.mem_append_left _ (List.mem_append_right _ h))
  refine lv_aload_n hx hb dX3_wards_0 rfl (lv_at hl 0 rfl) ?_
  refine lv_iconst (v := 0) hx hb dX3_wards_1 (by decide) ?_
  refine g_put hc hw hiX3 tyX3 tyX3_ok nmX3 0 0 (wo_X3_H ..) rfl (by decide) (List.mem_of_getElem? (i := 1) rfl) (by decide) rfl rfl (Nat.le_of_ble_eq_true rfl) (w' := (wb_m h a a2 cI (0 : Int32) w b n T w2 b2 n2 T2)) (wp_X3_H_0 ..) dX3_wards_2 (fun H locs hw => ?_)
  refine lv_aload_n hx hb dX3_wards_5 rfl (lv_at hl 0 rfl) ?_
  refine g_get (v := .ref (a 0)) hc hw hiX3 0 1 (wo_X3_H ..) rfl (by decide) (List.mem_of_getElem? (i := 2) rfl) (wv_X3_H_1 ..) dX3_wards_6 ?_
  refine g_getN (v := .int (nI w)) (host := RX3) hc hw hiX2 1 1 (wo_X3_T ..) rfl (by decide) (fun z => z.2 (23, "wards", "I") (by decide +kernel)) (wv_X3_T_1 ..) dX3_wards_9 ?_
  rw [show r_X3_wards th w b n T w2 b2 n2 T2 = (nI w) from by rw [r_X3_wards]]
  rw [show t_X3_wards th w b n T w2 b2 n2 T2 = (0 : Int32) from by rw [t_X3_wards]]
  exact g_ret hc hw rfl (Nat.le_of_ble_eq_true rfl) (Nat.le_of_ble_eq_true rfl) dX3_wards_12

def r_X3_barges (th : Int32) (w : Nat) (b : Nat) (n : Nat) (T : mt_T) (w2 : Nat) (b2 : Nat) (n2 : Nat) (T2 : mt_T) : Int32 := (nI b)
def t_X3_barges (th : Int32) (w : Nat) (b : Nat) (n : Nat) (T : mt_T) (w2 : Nat) (b2 : Nat) (n2 : Nat) (T2 : mt_T) : Int32 := (0 : Int32)
abbrev rm_X3_barges : Room := { frames := 0, cells := 0, slots := 0, locals := 0 }
set_option maxHeartbeats 4000000 in
set_option maxRecDepth 100000 in
theorem k_X3_barges (l : Launch) (D : va_G) (cI cZ cL : ClassId) (h : Nat) (a a2 : Nat → Nat) (th : Int32) (w : Nat) (b : Nat) (n : Nat) (T : mt_T) (w2 : Nat) (b2 : Nat) (n2 : Nat) (T2 : mt_T) (hd5 : w ≤ 5) (hd4 : b ≤ 4) (hd30 : n ≤ 30) (he5 : w2 ≤ 5) (he4 : b2 ≤ 4) (he30 : n2 ≤ 30)   : MX l yX3_barges wsX3_barges rm_X3_barges D cI cZ cL [.ref h] (wb_m h a a2 cI th w b n T w2 b2 n2 T2) (some (.int (r_X3_barges th w b n T w2 b2 n2 T2))) (wb_m h a a2 cI (t_X3_barges th w b n T w2 b2 n2 T2) w b n T w2 b2 n2 T2) := by
  refine MX.of (own := RX3) (cc := cX3_barges) (maxL := 1) (ret := (some .int)) (lv0 := [(0, .ref h)]) (by decide) rfl rfl (Nat.le_of_ble_eq_true rfl) rfl ?_
  intro p e s m args below meth c A hc hnm hw ls hl
  obtain ⟨hx, hb, hr, hml, hown, hts, hlk, hK, hA⟩ := id hc
  have hiX2 : ∀ w ∈ u_ws RX2 TX2 13, w ∈ wsX3_barges := fun _ h => List.mem_cons_of_mem _ (List.mem_append_right _ h)
  have hiX3 : ∀ w ∈ u_ws RX3 TX3 3, w ∈ wsX3_barges := fun _ h => List.mem_cons_of_mem _ (List.mem_append_left _ (List.mem_append_right _ h))
  refine lv_aload_n hx hb dX3_barges_0 rfl (lv_at hl 0 rfl) ?_
  refine lv_iconst (v := 0) hx hb dX3_barges_1 (by decide) ?_
  refine g_put hc hw hiX3 tyX3 tyX3_ok nmX3 0 0 (wo_X3_H ..) rfl (by decide) (List.mem_of_getElem? (i := 1) rfl) (by decide) rfl rfl (Nat.le_of_ble_eq_true rfl) (w' := (wb_m h a a2 cI (0 : Int32) w b n T w2 b2 n2 T2)) (wp_X3_H_0 ..) dX3_barges_2 (fun H locs hw => ?_)
  refine lv_aload_n hx hb dX3_barges_5 rfl (lv_at hl 0 rfl) ?_
  refine g_get (v := .ref (a 0)) hc hw hiX3 0 1 (wo_X3_H ..) rfl (by decide) (List.mem_of_getElem? (i := 2) rfl) (wv_X3_H_1 ..) dX3_barges_6 ?_
  refine g_getN (v := .int (nI b)) (host := RX3) hc hw hiX2 1 2 (wo_X3_T ..) rfl (by decide) (fun z => z.2 (30, "barges", "I") (by decide +kernel)) (wv_X3_T_2 ..) dX3_barges_9 ?_
  rw [show r_X3_barges th w b n T w2 b2 n2 T2 = (nI b) from by rw [r_X3_barges]]
  rw [show t_X3_barges th w b n T w2 b2 n2 T2 = (0 : Int32) from by rw [t_X3_barges]]
  exact g_ret hc hw rfl (Nat.le_of_ble_eq_true rfl) (Nat.le_of_ble_eq_true rfl) dX3_barges_12

def r_X3_people (th : Int32) (w : Nat) (b : Nat) (n : Nat) (T : mt_T) (w2 : Nat) (b2 : Nat) (n2 : Nat) (T2 : mt_T) : Int32 := (nI n)
def t_X3_people (th : Int32) (w : Nat) (b : Nat) (n : Nat) (T : mt_T) (w2 : Nat) (b2 : Nat) (n2 : Nat) (T2 : mt_T) : Int32 := (0 : Int32)
abbrev rm_X3_people : Room := { frames := 0, cells := 0, slots := 0, locals := 0 }
set_option maxHeartbeats 4000000 in
set_option maxRecDepth 100000 in
theorem k_X3_people (l : Launch) (D : va_G) (cI cZ cL : ClassId) (h : Nat) (a a2 : Nat → Nat) (th : Int32) (w : Nat) (b : Nat) (n : Nat) (T : mt_T) (w2 : Nat) (b2 : Nat) (n2 : Nat) (T2 : mt_T) (hd5 : w ≤ 5) (hd4 : b ≤ 4) (hd30 : n ≤ 30) (he5 : w2 ≤ 5) (he4 : b2 ≤ 4) (he30 : n2 ≤ 30)   : MX l yX3_people wsX3_people rm_X3_people D cI cZ cL [.ref h] (wb_m h a a2 cI th w b n T w2 b2 n2 T2) (some (.int (r_X3_people th w b n T w2 b2 n2 T2))) (wb_m h a a2 cI (t_X3_people th w b n T w2 b2 n2 T2) w b n T w2 b2 n2 T2) := by
  refine MX.of (own := RX3) (cc := cX3_people) (maxL := 1) (ret := (some .int)) (lv0 := [(0, .ref h)]) (by decide) rfl rfl (Nat.le_of_ble_eq_true rfl) rfl ?_
  intro p e s m args below meth c A hc hnm hw ls hl
  obtain ⟨hx, hb, hr, hml, hown, hts, hlk, hK, hA⟩ := id hc
  have hiX2 : ∀ w ∈ u_ws RX2 TX2 13, w ∈ wsX3_people := fun _ h => List.mem_cons_of_mem _ (List.mem_append_right _ h)
  have hiX3 : ∀ w ∈ u_ws RX3 TX3 3, w ∈ wsX3_people := fun _ h => List.mem_cons_of_mem _ (List.mem_append_left _ (List.mem_append_right _ h))
  refine lv_aload_n hx hb dX3_people_0 rfl (lv_at hl 0 rfl) ?_
  refine lv_iconst (v := 0) hx hb dX3_people_1 (by decide) ?_
  refine g_put hc hw hiX3 tyX3 tyX3_ok nmX3 0 0 (wo_X3_H ..) rfl (by decide) (List.mem_of_getElem? (i := 1) rfl) (by decide) rfl rfl (Nat.le_of_ble_eq_true rfl) (w' := (wb_m h a a2 cI (0 : Int32) w b n T w2 b2 n2 T2)) (wp_X3_H_0 ..) dX3_people_2 (fun H locs hw => ?_)
  refine lv_aload_n hx hb dX3_people_5 rfl (lv_at hl 0 rfl) ?_
  refine g_get (v := .ref (a 0)) hc hw hiX3 0 1 (wo_X3_H ..) rfl (by decide) (List.mem_of_getElem? (i := 2) rfl) (wv_X3_H_1 ..) dX3_people_6 ?_
  refine g_getN (v := .int (nI n)) (host := RX3) hc hw hiX2 1 3 (wo_X3_T ..) rfl (by decide) (fun z => z.2 (33, "people", "I") (by decide +kernel)) (wv_X3_T_3 ..) dX3_people_9 ?_
  rw [show r_X3_people th w b n T w2 b2 n2 T2 = (nI n) from by rw [r_X3_people]]
  rw [show t_X3_people th w b n T w2 b2 n2 T2 = (0 : Int32) from by rw [t_X3_people]]
  exact g_ret hc hw rfl (Nat.le_of_ble_eq_true rfl) (Nat.le_of_ble_eq_true rfl) dX3_people_12

def r_X3_bowls (th : Int32) (w : Nat) (b : Nat) (n : Nat) (T : mt_T) (w2 : Nat) (b2 : Nat) (n2 : Nat) (T2 : mt_T) : Int32 := (mt_bo T)
def t_X3_bowls (th : Int32) (w : Nat) (b : Nat) (n : Nat) (T : mt_T) (w2 : Nat) (b2 : Nat) (n2 : Nat) (T2 : mt_T) : Int32 := (0 : Int32)
abbrev rm_X3_bowls : Room := { frames := 0, cells := 0, slots := 0, locals := 0 }
set_option maxHeartbeats 4000000 in
set_option maxRecDepth 100000 in
theorem k_X3_bowls (l : Launch) (D : va_G) (cI cZ cL : ClassId) (h : Nat) (a a2 : Nat → Nat) (th : Int32) (w : Nat) (b : Nat) (n : Nat) (T : mt_T) (w2 : Nat) (b2 : Nat) (n2 : Nat) (T2 : mt_T) (hd5 : w ≤ 5) (hd4 : b ≤ 4) (hd30 : n ≤ 30) (he5 : w2 ≤ 5) (he4 : b2 ≤ 4) (he30 : n2 ≤ 30)   : MX l yX3_bowls wsX3_bowls rm_X3_bowls D cI cZ cL [.ref h] (wb_m h a a2 cI th w b n T w2 b2 n2 T2) (some (.int (r_X3_bowls th w b n T w2 b2 n2 T2))) (wb_m h a a2 cI (t_X3_bowls th w b n T w2 b2 n2 T2) w b n T w2 b2 n2 T2) := by
  refine MX.of (own := RX3) (cc := cX3_bowls) (maxL := 1) (ret := (some .int)) (lv0 := [(0, .ref h)]) (by decide) rfl rfl (Nat.le_of_ble_eq_true rfl) rfl ?_
  intro p e s m args below meth c A hc hnm hw ls hl
  obtain ⟨hx, hb, hr, hml, hown, hts, hlk, hK, hA⟩ := id hc
  have hiX2 : ∀ w ∈ u_ws RX2 TX2 13, w ∈ wsX3_bowls := fun _ h => List.mem_cons_of_mem _ (List.mem_append_right _ h)
  have hiX3 : ∀ w ∈ u_ws RX3 TX3 3, w ∈ wsX3_bowls := fun _ h => List.mem_cons_of_mem _ (List.mem_append_left _ (List.mem_append_right _ h))
  refine lv_aload_n hx hb dX3_bowls_0 rfl (lv_at hl 0 rfl) ?_
  refine lv_iconst (v := 0) hx hb dX3_bowls_1 (by decide) ?_
  refine g_put hc hw hiX3 tyX3 tyX3_ok nmX3 0 0 (wo_X3_H ..) rfl (by decide) (List.mem_of_getElem? (i := 1) rfl) (by decide) rfl rfl (Nat.le_of_ble_eq_true rfl) (w' := (wb_m h a a2 cI (0 : Int32) w b n T w2 b2 n2 T2)) (wp_X3_H_0 ..) dX3_bowls_2 (fun H locs hw => ?_)
  refine lv_aload_n hx hb dX3_bowls_5 rfl (lv_at hl 0 rfl) ?_
  refine g_get (v := .ref (a 0)) hc hw hiX3 0 1 (wo_X3_H ..) rfl (by decide) (List.mem_of_getElem? (i := 2) rfl) (wv_X3_H_1 ..) dX3_bowls_6 ?_
  refine g_getN (v := .int (mt_bo T)) (host := RX3) hc hw hiX2 1 4 (wo_X3_T ..) rfl (by decide) (fun z => z.2 (60, "bowls", "I") (by decide +kernel)) (wv_X3_T_4 ..) dX3_bowls_9 ?_
  rw [show r_X3_bowls th w b n T w2 b2 n2 T2 = (mt_bo T) from by rw [r_X3_bowls]]
  rw [show t_X3_bowls th w b n T w2 b2 n2 T2 = (0 : Int32) from by rw [t_X3_bowls]]
  exact g_ret hc hw rfl (Nat.le_of_ble_eq_true rfl) (Nat.le_of_ble_eq_true rfl) dX3_bowls_12

def f_X3_freePlaces_9 (th : Int32) (w : Nat) (b : Nat) (n : Nat) (T : mt_T) (w2 : Nat) (b2 : Nat) (n2 : Nat) (T2 : mt_T) (i9 : Nat) (q9 : Int32) : Int32 := ((q9 + ((mt_pl T) (nI i9).toNatClampNeg)))
def r_X3_freePlaces (th : Int32) (w : Nat) (b : Nat) (n : Nat) (T : mt_T) (w2 : Nat) (b2 : Nat) (n2 : Nat) (T2 : mt_T) : Int32 := ((lpf (f_X3_freePlaces_9 th w b n T w2 b2 n2 T2) w 0 ((0 : Int32))) - (r_X2_inWards w b n T))
def t_X3_freePlaces (th : Int32) (w : Nat) (b : Nat) (n : Nat) (T : mt_T) (w2 : Nat) (b2 : Nat) (n2 : Nat) (T2 : mt_T) : Int32 := (0 : Int32)
abbrev rm_X3_freePlaces : Room := { frames := 1, cells := 0, slots := 0, locals := 22 }
set_option maxHeartbeats 4000000 in
set_option maxRecDepth 100000 in
theorem k_X3_freePlaces (l : Launch) (D : va_G) (cI cZ cL : ClassId) (h : Nat) (a a2 : Nat → Nat) (th : Int32) (w : Nat) (b : Nat) (n : Nat) (T : mt_T) (w2 : Nat) (b2 : Nat) (n2 : Nat) (T2 : mt_T) (hd5 : w ≤ 5) (hd4 : b ≤ 4) (hd30 : n ≤ 30) (he5 : w2 ≤ 5) (he4 : b2 ≤ 4) (he30 : n2 ≤ 30)   : MX l yX3_freePlaces wsX3_freePlaces rm_X3_freePlaces D cI cZ cL [.ref h] (wb_m h a a2 cI th w b n T w2 b2 n2 T2) (some (.int (r_X3_freePlaces th w b n T w2 b2 n2 T2))) (wb_m h a a2 cI (t_X3_freePlaces th w b n T w2 b2 n2 T2) w b n T w2 b2 n2 T2) := by
  refine MX.of (own := RX3) (cc := cX3_freePlaces) (maxL := 3) (ret := (some .int)) (lv0 := [(0, .ref h)]) (by decide) rfl rfl (Nat.le_of_ble_eq_true rfl) rfl ?_
  intro p e s m args below meth c A hc hnm hw ls hl
  obtain ⟨hx, hb, hr, hml, hown, hts, hlk, hK, hA⟩ := id hc
  have hiX2 : ∀ w ∈ u_ws RX2 TX2 13, w ∈ wsX3_freePlaces := fun _ h => List.mem_cons_of_mem _ (List.mem_append_right _ h)
  have hiX3 : ∀ w ∈ u_ws RX3 TX3 3, w ∈ wsX3_freePlaces := fun _ h => List.mem_cons_of_mem _ (List.mem_append_left _ (List.mem_append_right _ h))
  refine lv_aload_n hx hb dX3_freePlaces_0 rfl (lv_at hl 0 rfl) ?_
  refine lv_iconst (v := 0) hx hb dX3_freePlaces_1 (by decide) ?_
  refine g_put hc hw hiX3 tyX3 tyX3_ok nmX3 0 0 (wo_X3_H ..) rfl (by decide) (List.mem_of_getElem? (i := 1) rfl) (by decide) rfl rfl (Nat.le_of_ble_eq_true rfl) (w' := (wb_m h a a2 cI (0 : Int32) w b n T w2 b2 n2 T2)) (wp_X3_H_0 ..) dX3_freePlaces_2 (fun H locs hw => ?_)
  refine lv_iconst (v := 0) hx hb dX3_freePlaces_5 (by decide) ?_
  refine lv_istore_n (lv' := [(1, .int (0 : Int32)), (0, .ref h)]) hx hb dX3_freePlaces_6 rfl hl (by decide) rfl (fun ls hl => ?_)
  refine lv_iconst (v := 0) hx hb dX3_freePlaces_7 (by decide) ?_
  refine lv_istore_n (lv' := [(2, .int (0 : Int32)), (1, .int (0 : Int32)), (0, .ref h)]) hx hb dX3_freePlaces_8 rfl hl (by decide) rfl (fun ls hl => ?_)
  refine lp_go (fun (i9 : Nat) (q9 : Int32) => ∀ (H : Heap) (locs : List Loc) (ls : Array Slot), Wo D A s.heap (wb_m h a a2 cI (0 : Int32) w b n T w2 b2 n2 T2) H locs → lv_has ls 3 [(0, .ref h), (1, .int q9), (2, .int (nI i9))] → W p l e rm_X3_freePlaces s m args below meth c H locs 0 0 (QE below args s D A (some (.int (r_X3_freePlaces th w b n T w2 b2 n2 T2))) (wb_m h a a2 cI (t_X3_freePlaces th w b n T w2 b2 n2 T2) w b n T w2 b2 n2 T2) rm_X3_freePlaces) (F0 m 9 ls [])) (f_X3_freePlaces_9 th w b n T w2 b2 n2 T2) w ((0 : Int32)) ?_ ?_ H locs ls hw (lv_sub hl [2, 1, 0] rfl)
  · intro i9 q9 hi9 k9 H locs ls hw hl
    refine lv_iload_n hx hb dX3_freePlaces_9 rfl (lv_at hl 2 rfl) ?_
    refine lv_aload_n hx hb dX3_freePlaces_10 rfl (lv_at hl 0 rfl) ?_
    refine g_get (v := .ref (a 0)) hc hw hiX3 0 1 (wo_X3_H ..) rfl (by decide) (List.mem_of_getElem? (i := 2) rfl) (wv_X3_H_1 ..) dX3_freePlaces_11 ?_
    refine g_getN (v := .int (nI w)) (host := RX3) hc hw hiX2 1 1 (wo_X3_T ..) rfl (by decide) (fun z => z.2 (23, "wards", "I") (by decide +kernel)) (wv_X3_T_1 ..) dX3_freePlaces_14 ?_
    refine lv_icmp_ge (tgt := 38) hx hb dX3_freePlaces_17 (by decide) (fun z => absurd z (nI_ge hi9 (by omega))) (fun _ => ?_)
    refine lv_iload_n hx hb dX3_freePlaces_20 rfl (lv_at hl 1 rfl) ?_
    refine lv_aload_n hx hb dX3_freePlaces_21 rfl (lv_at hl 0 rfl) ?_
    refine g_get (v := .ref (a 0)) hc hw hiX3 0 1 (wo_X3_H ..) rfl (by decide) (List.mem_of_getElem? (i := 2) rfl) (wv_X3_H_1 ..) dX3_freePlaces_22 ?_
    refine g_getN (v := .ref (a 6)) (host := RX3) hc hw hiX2 1 6 (wo_X3_T ..) rfl (by decide) (fun z => z.2 (40, "places", "[I") (by decide +kernel)) (wv_X3_T_6 ..) dX3_freePlaces_25 ?_
    refine lv_iload_n hx hb dX3_freePlaces_28 rfl (lv_at hl 2 rfl) ?_
    refine g_iald (f := (mt_pl T)) hc hw 2 (wr_X3_T_6 ..) (vp_in_nI (show i9 < 5 by omega) (by omega)) dX3_freePlaces_29 ?_
    refine lv_iadd hx hb dX3_freePlaces_30 ?_
    refine lv_istore_n (lv' := [(1, .int (q9 + ((mt_pl T) (nI i9).toNatClampNeg))), (0, .ref h), (2, .int (nI i9))]) hx hb dX3_freePlaces_31 rfl hl (by decide) rfl (fun ls hl => ?_)
    refine lv_iinc (v := (nI (i9 + 1))) (lv' := [(2, .int (nI (i9 + 1))), (1, .int (q9 + ((mt_pl T) (nI i9).toNatClampNeg))), (0, .ref h)]) hx hb dX3_freePlaces_32 hl (k := 2) rfl (inc_n i9) (by decide) rfl (fun ls hl => ?_)
    refine lv_goto (tgt := 9) hx hb dX3_freePlaces_35 (by decide) ?_
    rw [show (f_X3_freePlaces_9 th w b n T w2 b2 n2 T2) i9 q9 = ((q9 + ((mt_pl T) (nI i9).toNatClampNeg))) from by rw [f_X3_freePlaces_9]] at k9
    exact k9 H locs ls hw (lv_sub hl [2, 1, 0] rfl)
  · intro H locs ls hw hl
    refine lv_iload_n hx hb dX3_freePlaces_9 rfl (lv_at hl 2 rfl) ?_
    refine lv_aload_n hx hb dX3_freePlaces_10 rfl (lv_at hl 0 rfl) ?_
    refine g_get (v := .ref (a 0)) hc hw hiX3 0 1 (wo_X3_H ..) rfl (by decide) (List.mem_of_getElem? (i := 2) rfl) (wv_X3_H_1 ..) dX3_freePlaces_11 ?_
    refine g_getN (v := .int (nI w)) (host := RX3) hc hw hiX2 1 1 (wo_X3_T ..) rfl (by decide) (fun z => z.2 (23, "wards", "I") (by decide +kernel)) (wv_X3_T_1 ..) dX3_freePlaces_14 ?_
    refine lv_icmp_ge (tgt := 38) hx hb dX3_freePlaces_17 (by decide) (fun _ => ?_) (fun z => absurd (nI_le (Nat.le_refl _) (by omega)) z)
    refine lv_iload_n hx hb dX3_freePlaces_38 rfl (lv_at hl 1 rfl) ?_
    refine lv_aload_n hx hb dX3_freePlaces_39 rfl (lv_at hl 0 rfl) ?_
    refine g_get (v := .ref (a 0)) hc hw hiX3 0 1 (wo_X3_H ..) rfl (by decide) (List.mem_of_getElem? (i := 2) rfl) (wv_X3_H_1 ..) dX3_freePlaces_40 ?_
    refine g_callV (n := 0) hc hw (k_X2_inWards l D cI cZ cL a w b n T hd5 hd4 hd30) gX3_freePlaces_X2_inWards rfl (by decide +kernel) ⟨Nat.le_of_ble_eq_true rfl, Nat.le_of_ble_eq_true rfl⟩ (wo_X2_T ..) rfl rfl [1, 2, 3, 4, 5, 6, 7, 8] [0, 9, 10, 11, 12, 13, 14, 15, 16] [0, 9, 10, 11, 12, 13, 14, 15, 16, 1, 2, 3, 4, 5, 6, 7, 8] (wr := (wb_m0 h a a2 (0 : Int32) :: wt_m a2 cI w2 b2 n2 T2)) (w' := (wb_m h a a2 cI (0 : Int32) w b n T w2 b2 n2 T2)) (wpC_X3_T ..) (wpR_X3_T ..) (by decide) (by decide) (by decide) (wpJ_X3_T ..) (by decide) rfl (rest := [.int (lpf (f_X3_freePlaces_9 th w b n T w2 b2 n2 T2) w 0 ((0 : Int32)))]) rfl hl.1 (Nat.le_of_ble_eq_true rfl) (st1 := [.int (r_X2_inWards w b n T), .int (lpf (f_X3_freePlaces_9 th w b n T w2 b2 n2 T2) w 0 ((0 : Int32)))]) rfl dX3_freePlaces_43 (k2 := 0) (s2 := 0) rfl rfl ⟨Nat.le_of_ble_eq_true rfl, Nat.le_of_ble_eq_true rfl⟩ (fun H locs hw => ?_)
    refine lv_isub hx hb dX3_freePlaces_46 ?_
    rw [show r_X3_freePlaces th w b n T w2 b2 n2 T2 = ((lpf (f_X3_freePlaces_9 th w b n T w2 b2 n2 T2) w 0 ((0 : Int32))) - (r_X2_inWards w b n T)) from by rw [r_X3_freePlaces]]
    rw [show t_X3_freePlaces th w b n T w2 b2 n2 T2 = (0 : Int32) from by rw [t_X3_freePlaces]]
    exact g_ret hc hw rfl (Nat.le_of_ble_eq_true rfl) (Nat.le_of_ble_eq_true rfl) dX3_freePlaces_47
