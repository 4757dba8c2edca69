def r_X3_homeAfter (th : Int32) (w : Nat) (b : Nat) (n : Nat) (T : mt_T) (w2 : Nat) (b2 : Nat) (n2 : Nat) (T2 : mt_T) (x1 : Int32) : Int32 := (r_X3_after th w b n T w2 b2 n2 T2 x1 (20 : Int32))
def t_X3_homeAfter (th : Int32) (w : Nat) (b : Nat) (n : Nat) (T : mt_T) (w2 : Nat) (b2 : Nat) (n2 : Nat) (T2 : mt_T) (x1 : Int32) : Int32 := (t_X3_after th w b n T w2 b2 n2 T2 x1 (20 : Int32))
def z_X3_homeAfter (th : Int32) (w : Nat) (b : Nat) (n : Nat) (T : mt_T) (w2 : Nat) (b2 : Nat) (n2 : Nat) (T2 : mt_T) (x1 : Int32) : mt_T := (z_X3_after th w b n T w2 b2 n2 T2 x1 (20 : Int32))
def nw2_X3_homeAfter (th : Int32) (w : Nat) (b : Nat) (n : Nat) (T : mt_T) (w2 : Nat) (b2 : Nat) (n2 : Nat) (T2 : mt_T) (x1 : Int32) : Nat := (nw2_X3_after th w b n T w2 b2 n2 T2 x1 (20 : Int32))
def nb2_X3_homeAfter (th : Int32) (w : Nat) (b : Nat) (n : Nat) (T : mt_T) (w2 : Nat) (b2 : Nat) (n2 : Nat) (T2 : mt_T) (x1 : Int32) : Nat := (nb2_X3_after th w b n T w2 b2 n2 T2 x1 (20 : Int32))
def nn2_X3_homeAfter (th : Int32) (w : Nat) (b : Nat) (n : Nat) (T : mt_T) (w2 : Nat) (b2 : Nat) (n2 : Nat) (T2 : mt_T) (x1 : Int32) : Nat := (nn2_X3_after th w b n T w2 b2 n2 T2 x1 (20 : Int32))
abbrev rm_X3_homeAfter : Room := { frames := 6, cells := 0, slots := 0, locals := 132 }
set_option maxHeartbeats 4000000 in
set_option maxRecDepth 100000 in
theorem k_X3_homeAfter (l : Launch) (D : va_G) (cI cZ cL : ClassId) (h : Nat) (a a2 : Nat → Nat) (th : Int32) (w : Nat) (b : Nat) (n : Nat) (T : mt_T) (w2 : Nat) (b2 : Nat) (n2 : Nat) (T2 : mt_T) (hd5 : w ≤ 5) (hd4 : b ≤ 4) (hd30 : n ≤ 30) (he5 : w2 ≤ 5) (he4 : b2 ≤ 4) (he30 : n2 ≤ 30) (x1 : Int32)  : MX l yX3_homeAfter wsX3_homeAfter rm_X3_homeAfter D cI cZ cL [.ref h, .int x1] (wb_m h a a2 cI th w b n T w2 b2 n2 T2) (some (.int (r_X3_homeAfter th w b n T w2 b2 n2 T2 x1))) (wb_m h a a2 cI (t_X3_homeAfter th w b n T w2 b2 n2 T2 x1) w b n T (nw2_X3_homeAfter th w b n T w2 b2 n2 T2 x1) (nb2_X3_homeAfter th w b n T w2 b2 n2 T2 x1) (nn2_X3_homeAfter th w b n T w2 b2 n2 T2 x1) (z_X3_homeAfter th w b n T w2 b2 n2 T2 x1)) := by
  refine MX.of (own := RX3) (cc := cX3_homeAfter) (maxL := 2) (ret := (some .int)) (lv0 := [(0, .ref h), (1, .int x1)]) (by decide) rfl rfl (Nat.le_of_ble_eq_true rfl) rfl ?_
  intro p e s m args below meth c A hc hnm hw ls hl
  obtain ⟨hx, hb, hr, hml, hown, hts, hlk, hK, hA⟩ := id hc
  refine lv_aload_n hx hb dX3_homeAfter_0 rfl (lv_at hl 0 rfl) ?_
  refine lv_iload_n hx hb dX3_homeAfter_1 rfl (lv_at hl 1 rfl) ?_
  refine lv_bipush (v := 20) hx hb dX3_homeAfter_2 (by decide) ?_
  refine g_callV0 (n := 2) hc hw (k_X3_after l D cI cZ cL h a a2 th w b n T w2 b2 n2 T2 hd5 hd4 hd30 he5 he4 he30 x1 (20 : Int32)) gX3_homeAfter_X3_after rfl (by decide +kernel) ⟨Nat.le_of_ble_eq_true rfl, Nat.le_of_ble_eq_true rfl⟩ 0 (wo_X3_H ..) rfl rfl rfl (rest := []) rfl hl.1 (Nat.le_of_ble_eq_true rfl) (st1 := [.int (r_X3_after th w b n T w2 b2 n2 T2 x1 (20 : Int32))]) rfl dX3_homeAfter_4 (k2 := 0) (s2 := 0) rfl rfl ⟨Nat.le_of_ble_eq_true rfl, Nat.le_of_ble_eq_true rfl⟩ (fun H locs hw => ?_)
  rw [show r_X3_homeAfter th w b n T w2 b2 n2 T2 x1 = (r_X3_after th w b n T w2 b2 n2 T2 x1 (20 : Int32)) from by rw [r_X3_homeAfter]]
  rw [show t_X3_homeAfter th w b n T w2 b2 n2 T2 x1 = (t_X3_after th w b n T w2 b2 n2 T2 x1 (20 : Int32)) from by rw [t_X3_homeAfter]]
  rw [show z_X3_homeAfter th w b n T w2 b2 n2 T2 x1 = (z_X3_after th w b n T w2 b2 n2 T2 x1 (20 : Int32)) from by rw [z_X3_homeAfter]]
  rw [show nw2_X3_homeAfter th w b n T w2 b2 n2 T2 x1 = (nw2_X3_after th w b n T w2 b2 n2 T2 x1 (20 : Int32)) from by rw [nw2_X3_homeAfter]]
  rw [show nb2_X3_homeAfter th w b n T w2 b2 n2 T2 x1 = (nb2_X3_after th w b n T w2 b2 n2 T2 x1 (20 : Int32)) from by rw [nb2_X3_homeAfter]]
  rw [show nn2_X3_homeAfter th w b n T w2 b2 n2 T2 x1 = (nn2_X3_after th w b n T w2 b2 n2 T2 x1 (20 : Int32)) from by rw [nn2_X3_homeAfter]]
  exact g_ret hc hw rfl (Nat.le_of_ble_eq_true rfl) (Nat.le_of_ble_eq_true rfl) dX3_homeAfter_7

def r_X3_greatHouseAfter (th : Int32) (w : Nat) (b : Nat) (n : Nat) (T : mt_T) (w2 : Nat) (b2 : Nat) (n2 : Nat) (T2 : mt_T) (x1 : Int32) : Int32 := (r_X3_after th w b n T w2 b2 n2 T2 x1 (21 : Int32))
def t_X3_greatHouseAfter (th : Int32) (w : Nat) (b : Nat) (n : Nat) (T : mt_T) (w2 : Nat) (b2 : Nat) (n2 : Nat) (T2 : mt_T) (x1 : Int32) : Int32 := (t_X3_after th w b n T w2 b2 n2 T2 x1 (21 : Int32))
def z_X3_greatHouseAfter (th : Int32) (w : Nat) (b : Nat) (n : Nat) (T : mt_T) (w2 : Nat) (b2 : Nat) (n2 : Nat) (T2 : mt_T) (x1 : Int32) : mt_T := (z_X3_after th w b n T w2 b2 n2 T2 x1 (21 : Int32))
def nw2_X3_greatHouseAfter (th : Int32) (w : Nat) (b : Nat) (n : Nat) (T : mt_T) (w2 : Nat) (b2 : Nat) (n2 : Nat) (T2 : mt_T) (x1 : Int32) : Nat := (nw2_X3_after th w b n T w2 b2 n2 T2 x1 (21 : Int32))
def nb2_X3_greatHouseAfter (th : Int32) (w : Nat) (b : Nat) (n : Nat) (T : mt_T) (w2 : Nat) (b2 : Nat) (n2 : Nat) (T2 : mt_T) (x1 : Int32) : Nat := (nb2_X3_after th w b n T w2 b2 n2 T2 x1 (21 : Int32))
def nn2_X3_greatHouseAfter (th : Int32) (w : Nat) (b : Nat) (n : Nat) (T : mt_T) (w2 : Nat) (b2 : Nat) (n2 : Nat) (T2 : mt_T) (x1 : Int32) : Nat := (nn2_X3_after th w b n T w2 b2 n2 T2 x1 (21 : Int32))
abbrev rm_X3_greatHouseAfter : Room := { frames := 6, cells := 0, slots := 0, locals := 132 }
set_option maxHeartbeats 4000000 in
set_option maxRecDepth 100000 in
theorem k_X3_greatHouseAfter (l : Launch) (D : va_G) (cI cZ cL : ClassId) (h : Nat) (a a2 : Nat → Nat) (th : Int32) (w : Nat) (b : Nat) (n : Nat) (T : mt_T) (w2 : Nat) (b2 : Nat) (n2 : Nat) (T2 : mt_T) (hd5 : w ≤ 5) (hd4 : b ≤ 4) (hd30 : n ≤ 30) (he5 : w2 ≤ 5) (he4 : b2 ≤ 4) (he30 : n2 ≤ 30) (x1 : Int32)  : MX l yX3_greatHouseAfter wsX3_greatHouseAfter rm_X3_greatHouseAfter D cI cZ cL [.ref h, .int x1] (wb_m h a a2 cI th w b n T w2 b2 n2 T2) (some (.int (r_X3_greatHouseAfter th w b n T w2 b2 n2 T2 x1))) (wb_m h a a2 cI (t_X3_greatHouseAfter th w b n T w2 b2 n2 T2 x1) w b n T (nw2_X3_greatHouseAfter th w b n T w2 b2 n2 T2 x1) (nb2_X3_greatHouseAfter th w b n T w2 b2 n2 T2 x1) (nn2_X3_greatHouseAfter th w b n T w2 b2 n2 T2 x1) (z_X3_greatHouseAfter th w b n T w2 b2 n2 T2 x1)) := by
  refine MX.of (own := RX3) (cc := cX3_greatHouseAfter) (maxL := 2) (ret := (some .int)) (lv0 := [(0, .ref h), (1, .int x1)]) (by decide) rfl rfl (Nat.le_of_ble_eq_true rfl) rfl ?_
  intro p e s m args below meth c A hc hnm hw ls hl
  obtain ⟨hx, hb, hr, hml, hown, hts, hlk, hK, hA⟩ := id hc
  refine lv_aload_n hx hb dX3_greatHouseAfter_0 rfl (lv_at hl 0 rfl) ?_
  refine lv_iload_n hx hb dX3_greatHouseAfter_1 rfl (lv_at hl 1 rfl) ?_
  refine lv_bipush (v := 21) hx hb dX3_greatHouseAfter_2 (by decide) ?_
  refine g_callV0 (n := 2) hc hw (k_X3_after l D cI cZ cL h a a2 th w b n T w2 b2 n2 T2 hd5 hd4 hd30 he5 he4 he30 x1 (21 : Int32)) gX3_greatHouseAfter_X3_after rfl (by decide +kernel) ⟨Nat.le_of_ble_eq_true rfl, Nat.le_of_ble_eq_true rfl⟩ 0 (wo_X3_H ..) rfl rfl rfl (rest := []) rfl hl.1 (Nat.le_of_ble_eq_true rfl) (st1 := [.int (r_X3_after th w b n T w2 b2 n2 T2 x1 (21 : Int32))]) rfl dX3_greatHouseAfter_4 (k2 := 0) (s2 := 0) rfl rfl ⟨Nat.le_of_ble_eq_true rfl, Nat.le_of_ble_eq_true rfl⟩ (fun H locs hw => ?_)
  rw [show r_X3_greatHouseAfter th w b n T w2 b2 n2 T2 x1 = (r_X3_after th w b n T w2 b2 n2 T2 x1 (21 : Int32)) from by rw [r_X3_greatHouseAfter]]
  rw [show t_X3_greatHouseAfter th w b n T w2 b2 n2 T2 x1 = (t_X3_after th w b n T w2 b2 n2 T2 x1 (21 : Int32)) from by rw [t_X3_greatHouseAfter]]
  rw [show z_X3_greatHouseAfter th w b n T w2 b2 n2 T2 x1 = (z_X3_after th w b n T w2 b2 n2 T2 x1 (21 : Int32)) from by rw [z_X3_greatHouseAfter]]
  rw [show nw2_X3_greatHouseAfter th w b n T w2 b2 n2 T2 x1 = (nw2_X3_after th w b n T w2 b2 n2 T2 x1 (21 : Int32)) from by rw [nw2_X3_greatHouseAfter]]
  rw [show nb2_X3_greatHouseAfter th w b n T w2 b2 n2 T2 x1 = (nb2_X3_after th w b n T w2 b2 n2 T2 x1 (21 : Int32)) from by rw [nb2_X3_greatHouseAfter]]
  rw [show nn2_X3_greatHouseAfter th w b n T w2 b2 n2 T2 x1 = (nn2_X3_after th w b n T w2 b2 n2 T2 x1 (21 : Int32)) from by rw [nn2_X3_greatHouseAfter]]
  exact g_ret hc hw rfl (Nat.le_of_ble_eq_true rfl) (Nat.le_of_ble_eq_true rfl) dX3_greatHouseAfter_7

def f_X3_bestStraw_34 (th : Int32) (w : Nat) (b : Nat) (n : Nat) (T : mt_T) (w2 : Nat) (b2 : Nat) (n2 : Nat) (T2 : mt_T) (x1 : Int32) (i34 : Nat) (q34 : mt_T × Int32 × Int32) : mt_T × Int32 × Int32 := if q34.2.1 < (r_X2_at w b n (s_X2_passOn w b n (ms_st (s_X2_become w b n q34.1 w b n T) (upd (mt_st (s_X2_become w b n q34.1 w b n T)) (nI i34).toNatClampNeg (0 : Int32))) x1.toNatClampNeg) (20 : Int32)) then ((s_X2_passOn w b n (ms_st (s_X2_become w b n q34.1 w b n T) (upd (mt_st (s_X2_become w b n q34.1 w b n T)) (nI i34).toNatClampNeg (0 : Int32))) x1.toNatClampNeg), (r_X2_at w b n (s_X2_passOn w b n (ms_st (s_X2_become w b n q34.1 w b n T) (upd (mt_st (s_X2_become w b n q34.1 w b n T)) (nI i34).toNatClampNeg (0 : Int32))) x1.toNatClampNeg) (20 : Int32)), (nI i34)) else ((s_X2_passOn w b n (ms_st (s_X2_become w b n q34.1 w b n T) (upd (mt_st (s_X2_become w b n q34.1 w b n T)) (nI i34).toNatClampNeg (0 : Int32))) x1.toNatClampNeg), q34.2.1, q34.2.2)
def r_X3_bestStraw (th : Int32) (w : Nat) (b : Nat) (n : Nat) (T : mt_T) (w2 : Nat) (b2 : Nat) (n2 : Nat) (T2 : mt_T) (x1 : Int32) : Int32 := if (r_X3_isIn x1 (1 : Int32) (40 : Int32)) = (0 : Int32) then ((r_X3_no (0 : Int32) w b n T w2 b2 n2 T2 (1 : Int32))) else (((lpf (f_X3_bestStraw_34 th w b n T w2 b2 n2 T2 x1) w 0 ((z_X3_after (0 : Int32) w b n T w2 b2 n2 T2 x1 (20 : Int32)), (r_X3_after (0 : Int32) w b n T w2 b2 n2 T2 x1 (20 : Int32)), (-1 : Int32))).2.2))
def t_X3_bestStraw (th : Int32) (w : Nat) (b : Nat) (n : Nat) (T : mt_T) (w2 : Nat) (b2 : Nat) (n2 : Nat) (T2 : mt_T) (x1 : Int32) : Int32 := if (r_X3_isIn x1 (1 : Int32) (40 : Int32)) = (0 : Int32) then ((t_X3_no (0 : Int32) w b n T w2 b2 n2 T2 (1 : Int32))) else ((t_X3_after (0 : Int32) w b n T w2 b2 n2 T2 x1 (20 : Int32)))
def z_X3_bestStraw (th : Int32) (w : Nat) (b : Nat) (n : Nat) (T : mt_T) (w2 : Nat) (b2 : Nat) (n2 : Nat) (T2 : mt_T) (x1 : Int32) : mt_T := if (r_X3_isIn x1 (1 : Int32) (40 : Int32)) = (0 : Int32) then (T2) else ((lpf (f_X3_bestStraw_34 th w b n T w2 b2 n2 T2 x1) w 0 ((z_X3_after (0 : Int32) w b n T w2 b2 n2 T2 x1 (20 : Int32)), (r_X3_after (0 : Int32) w b n T w2 b2 n2 T2 x1 (20 : Int32)), (-1 : Int32))).1)
def nw2_X3_bestStraw (th : Int32) (w : Nat) (b : Nat) (n : Nat) (T : mt_T) (w2 : Nat) (b2 : Nat) (n2 : Nat) (T2 : mt_T) (x1 : Int32) : Nat := if (r_X3_isIn x1 (1 : Int32) (40 : Int32)) = (0 : Int32) then (w2) else (w)
def nb2_X3_bestStraw (th : Int32) (w : Nat) (b : Nat) (n : Nat) (T : mt_T) (w2 : Nat) (b2 : Nat) (n2 : Nat) (T2 : mt_T) (x1 : Int32) : Nat := if (r_X3_isIn x1 (1 : Int32) (40 : Int32)) = (0 : Int32) then (b2) else (b)
def nn2_X3_bestStraw (th : Int32) (w : Nat) (b : Nat) (n : Nat) (T : mt_T) (w2 : Nat) (b2 : Nat) (n2 : Nat) (T2 : mt_T) (x1 : Int32) : Nat := if (r_X3_isIn x1 (1 : Int32) (40 : Int32)) = (0 : Int32) then (n2) else (n)
abbrev rm_X3_bestStraw : Room := { frames := 6, cells := 0, slots := 0, locals := 132 }
set_option maxHeartbeats 4000000 in
set_option maxRecDepth 100000 in
theorem k_X3_bestStraw (l : Launch) (D : va_G) (cI cZ cL : ClassId) (h : Nat) (a a2 : Nat → Nat) (th : Int32) (w : Nat) (b : Nat) (n : Nat) (T : mt_T) (w2 : Nat) (b2 : Nat) (n2 : Nat) (T2 : mt_T) (hd5 : w ≤ 5) (hd4 : b ≤ 4) (hd30 : n ≤ 30) (he5 : w2 ≤ 5) (he4 : b2 ≤ 4) (he30 : n2 ≤ 30) (x1 : Int32)  : MX l yX3_bestStraw wsX3_bestStraw rm_X3_bestStraw D cI cZ cL [.ref h, .int x1] (wb_m h a a2 cI th w b n T w2 b2 n2 T2) (some (.int (r_X3_bestStraw th w b n T w2 b2 n2 T2 x1))) (wb_m h a a2 cI (t_X3_bestStraw th w b n T w2 b2 n2 T2 x1) w b n T (nw2_X3_bestStraw th w b n T w2 b2 n2 T2 x1) (nb2_X3_bestStraw th w b n T w2 b2 n2 T2 x1) (nn2_X3_bestStraw th w b n T w2 b2 n2 T2 x1) (z_X3_bestStraw th w b n T w2 b2 n2 T2 x1)) := by
  refine MX.of (own := RX3) (cc := cX3_bestStraw) (maxL := 5) (ret := (some .int)) (lv0 := [(0, .ref h), (1, .int x1)]) (by decide) rfl rfl (Nat.le_of_ble_eq_true rfl) rfl ?_
  intro p e s m args below meth c A hc hnm hw ls hl
  obtain ⟨hx, hb, hr, hml, hown, hts, hlk, hK, hA⟩ := id hc
  have hiX2 : ∀ w ∈ u_ws RX2 TX2 13, w ∈ wsX3_bestStraw := fun _ h => List.mem_cons_of_mem _ (List.mem_append_right _ h)
  have hiX3 : ∀ w ∈ u_ws RX3 TX3 3, w ∈ wsX3_bestStraw := fun _ h => List.mem_cons_of_mem _ (List.mem_append_left _ (List.mem_append_right _ h))
  refine lv_aload_n hx hb dX3_bestStraw_0 rfl (lv_at hl 0 rfl) ?_
  refine lv_iconst (v := 0) hx hb dX3_bestStraw_1 (by decide) ?_
  refine g_put hc hw hiX3 tyX3 tyX3_ok nmX3 0 0 (wo_X3_H ..) rfl (by decide) (List.mem_of_getElem? (i := 1) rfl) (by decide) rfl rfl (Nat.le_of_ble_eq_true rfl) (w' := (wb_m h a a2 cI (0 : Int32) w b n T w2 b2 n2 T2)) (wp_X3_H_0 ..) dX3_bestStraw_2 (fun H locs hw => ?_)
  refine lv_iload_n hx hb dX3_bestStraw_5 rfl (lv_at hl 1 rfl) ?_
  refine lv_iconst (v := 1) hx hb dX3_bestStraw_6 (by decide) ?_
  refine lv_bipush (v := 40) hx hb dX3_bestStraw_7 (by decide) ?_
  refine g_callS0 (n := 3) hc hw (k_X3_isIn l D cI cZ cL x1 (1 : Int32) (40 : Int32)) gX3_bestStraw_X3_isIn rfl (by decide +kernel) ⟨Nat.le_of_ble_eq_true rfl, Nat.le_of_ble_eq_true rfl⟩ rfl (rest := []) rfl hl.1 (Nat.le_of_ble_eq_true rfl) (st1 := [.int (r_X3_isIn x1 (1 : Int32) (40 : Int32))]) rfl dX3_bestStraw_9 (k2 := 0) (s2 := 0) rfl rfl ⟨Nat.le_of_ble_eq_true rfl, Nat.le_of_ble_eq_true rfl⟩ (fun H locs hw => ?_)
  refine lv_if_ne (tgt := 21) hx hb dX3_bestStraw_12 (by decide) (fun c1 => ?_) (fun c1 => ?_)
  · refine lv_aload_n hx hb dX3_bestStraw_21 rfl (lv_at hl 0 rfl) ?_
    refine lv_iload_n hx hb dX3_bestStraw_22 rfl (lv_at hl 1 rfl) ?_
    refine lv_bipush (v := 20) hx hb dX3_bestStraw_23 (by decide) ?_
    refine g_callV0 (n := 2) hc hw (k_X3_after l D cI cZ cL h a a2 (0 : Int32) w b n T w2 b2 n2 T2 hd5 hd4 hd30 he5 he4 he30 x1 (20 : Int32)) gX3_bestStraw_X3_after rfl (by decide +kernel) ⟨Nat.le_of_ble_eq_true rfl, Nat.le_of_ble_eq_true rfl⟩ 0 (wo_X3_H ..) rfl rfl rfl (rest := []) rfl hl.1 (Nat.le_of_ble_eq_true rfl) (st1 := [.int (r_X3_after (0 : Int32) w b n T w2 b2 n2 T2 x1 (20 : Int32))]) rfl dX3_bestStraw_25 (k2 := 0) (s2 := 0) rfl rfl ⟨Nat.le_of_ble_eq_true rfl, Nat.le_of_ble_eq_true rfl⟩ (fun H locs hw => ?_)
    rw [show nw2_X3_after (0 : Int32) w b n T w2 b2 n2 T2 x1 (20 : Int32) = w from by rw [nw2_X3_after, if_neg c1]] at hw
    rw [show nb2_X3_after (0 : Int32) w b n T w2 b2 n2 T2 x1 (20 : Int32) = b from by rw [nb2_X3_after, if_neg c1]] at hw
    rw [show nn2_X3_after (0 : Int32) w b n T w2 b2 n2 T2 x1 (20 : Int32) = n from by rw [nn2_X3_after, if_neg c1]] at hw
    refine lv_istore_n (lv' := [(2, .int (r_X3_after (0 : Int32) w b n T w2 b2 n2 T2 x1 (20 : Int32))), (0, .ref h), (1, .int x1)]) hx hb dX3_bestStraw_28 rfl hl (by decide) rfl (fun ls hl => ?_)
    refine lv_iconst (v := (-1)) hx hb dX3_bestStraw_29 (by decide) ?_
    refine lv_istore_n (lv' := [(3, .int (-1 : Int32)), (2, .int (r_X3_after (0 : Int32) w b n T w2 b2 n2 T2 x1 (20 : Int32))), (0, .ref h), (1, .int x1)]) hx hb dX3_bestStraw_30 rfl hl (by decide) rfl (fun ls hl => ?_)
    refine lv_iconst (v := 0) hx hb dX3_bestStraw_31 (by decide) ?_
    refine lv_istore (lv' := [(4, .int (0 : Int32)), (3, .int (-1 : Int32)), (2, .int (r_X3_after (0 : Int32) w b n T w2 b2 n2 T2 x1 (20 : Int32))), (0, .ref h), (1, .int x1)]) hx hb dX3_bestStraw_32 hl (by decide) rfl (fun ls hl => ?_)
    refine lp_go (fun (i34 : Nat) (q34 : mt_T × Int32 × Int32) => ∀ (H : Heap) (locs : List Loc) (ls : Array Slot), Wo D A s.heap (wb_m h a a2 cI (t_X3_after (0 : Int32) w b n T w2 b2 n2 T2 x1 (20 : Int32)) w b n T w b n q34.1) H locs → lv_has ls 5 [(0, .ref h), (1, .int x1), (2, .int q34.2.1), (3, .int q34.2.2), (4, .int (nI i34))] → W p l e rm_X3_bestStraw s m args below meth c H locs 0 0 (QE below args s D A (some (.int (r_X3_bestStraw th w b n T w2 b2 n2 T2 x1))) (wb_m h a a2 cI (t_X3_bestStraw th w b n T w2 b2 n2 T2 x1) w b n T (nw2_X3_bestStraw th w b n T w2 b2 n2 T2 x1) (nb2_X3_bestStraw th w b n T w2 b2 n2 T2 x1) (nn2_X3_bestStraw th w b n T w2 b2 n2 T2 x1) (z_X3_bestStraw th w b n T w2 b2 n2 T2 x1)) rm_X3_bestStraw) (F0 m 34 ls [])) (f_X3_bestStraw_34 th w b n T w2 b2 n2 T2 x1) w ((z_X3_after (0 : Int32) w b n T w2 b2 n2 T2 x1 (20 : Int32)), (r_X3_after (0 : Int32) w b n T w2 b2 n2 T2 x1 (20 : Int32)), (-1 : Int32)) ?_ ?_ H locs ls hw (lv_sub hl [3, 4, 2, 1, 0] rfl)
    · intro i34 q34 hi34 k34 H locs ls hw hl
      refine lv_iload hx hb dX3_bestStraw_34 (lv_at hl 4 rfl) ?_
      refine lv_aload_n hx hb dX3_bestStraw_36 rfl (lv_at hl 0 rfl) ?_
      refine g_get (v := .ref (a 0)) hc hw hiX3 0 1 (wo_X3_H ..) rfl (by decide) (List.mem_of_getElem? (i := 2) rfl) (wv_X3_H_1 ..) dX3_bestStraw_37 ?_
      refine g_getN (v := .int (nI w)) (host := RX3) hc hw hiX2 1 1 (wo_X3_T ..) rfl (by decide) (fun z => z.2 (23, "wards", "I") (by decide +kernel)) (wv_X3_T_1 ..) dX3_bestStraw_40 ?_
      refine lv_icmp_ge (tgt := 111) hx hb dX3_bestStraw_43 (by decide) (fun z => absurd z (nI_ge hi34 (by omega))) (fun _ => ?_)
      refine lv_aload_n hx hb dX3_bestStraw_46 rfl (lv_at hl 0 rfl) ?_
      refine g_get (v := .ref (a2 0)) hc hw hiX3 0 2 (wo_X3_H ..) rfl (by decide) (List.mem_of_getElem? (i := 3) rfl) (wv_X3_H_2 ..) dX3_bestStraw_47 ?_
      refine lv_aload_n hx hb dX3_bestStraw_50 rfl (lv_at hl 0 rfl) ?_
      refine g_get (v := .ref (a 0)) hc hw hiX3 0 1 (wo_X3_H ..) rfl (by decide) (List.mem_of_getElem? (i := 2) rfl) (wv_X3_H_1 ..) dX3_bestStraw_51 ?_
      refine g_callV (n := 1) hc hw (k_X2_become l D cI cZ cL a2 a w b n q34.1 w b n T hd5 hd4 hd30 hd5 hd4 hd30) gX3_bestStraw_X2_become rfl (by decide +kernel) ⟨Nat.le_of_ble_eq_true rfl, Nat.le_of_ble_eq_true rfl⟩ (q0 := 0) rfl rfl rfl [9, 10, 11, 12, 13, 14, 15, 16, 1, 2, 3, 4, 5, 6, 7, 8] [0] [0, 9, 10, 11, 12, 13, 14, 15, 16, 1, 2, 3, 4, 5, 6, 7, 8] (wr := ([wb_m0 h a a2 (t_X3_after (0 : Int32) w b n T w2 b2 n2 T2 x1 (20 : Int32))])) (w' := (wb_m h a a2 cI (t_X3_after (0 : Int32) w b n T w2 b2 n2 T2 x1 (20 : Int32)) w b n T w b n (s_X2_become w b n q34.1 w b n T))) (wqC_X3 ..) (wqR_X3 ..) (by decide) (by decide) (by decide) (wqJ_X3 ..) (by decide) rfl (rest := []) rfl hl.1 (Nat.le_of_ble_eq_true rfl) (st1 := []) rfl dX3_bestStraw_54 (k2 := 0) (s2 := 0) rfl rfl ⟨Nat.le_of_ble_eq_true rfl, Nat.le_of_ble_eq_true rfl⟩ (fun H locs hw => ?_)
      refine lv_aload_n hx hb dX3_bestStraw_57 rfl (lv_at hl 0 rfl) ?_
      refine g_get (v := .ref (a2 0)) hc hw hiX3 0 2 (wo_X3_H ..) rfl (by decide) (List.mem_of_getElem? (i := 3) rfl) (wv_X3_H_2 ..) dX3_bestStraw_58 ?_
      refine g_getN (v := .ref (a2 7)) (host := RX3) hc hw hiX2 9 7 (wo_X3_T2 ..) rfl (by decide) (fun z => z.2 (66, "straw", "[I") (by decide +kernel)) (wv_X3_T2_7 ..) dX3_bestStraw_61 ?_
      refine lv_iload hx hb dX3_bestStraw_64 (lv_at hl 4 rfl) ?_
      refine lv_iconst (v := 0) hx hb dX3_bestStraw_66 (by decide) ?_
      refine g_iast (f := (mt_st (s_X2_become w b n q34.1 w b n T))) hc hw 11 (wr_X3_T2_7 ..) (vp_in_nI (show i34 < 5 by omega) (by omega)) (w' := (wb_m h a a2 cI (t_X3_after (0 : Int32) w b n T w2 b2 n2 T2 x1 (20 : Int32)) w b n T w b n (ms_st (s_X2_become w b n q34.1 w b n T) (upd (mt_st (s_X2_become w b n q34.1 w b n T)) (nI i34).toNatClampNeg (0 : Int32))))) (wu_X3_T2_7 ..) dX3_bestStraw_67 (fun H locs hw => ?_)
      refine lv_aload_n hx hb dX3_bestStraw_68 rfl (lv_at hl 0 rfl) ?_
      refine g_get (v := .ref (a2 0)) hc hw hiX3 0 2 (wo_X3_H ..) rfl (by decide) (List.mem_of_getElem? (i := 3) rfl) (wv_X3_H_2 ..) dX3_bestStraw_69 ?_
      refine lv_iload_n hx hb dX3_bestStraw_72 rfl (lv_at hl 1 rfl) ?_
      refine g_callV (n := 1) hc hw (k_X2_passOn l D cI cZ cL a2 w b n (ms_st (s_X2_become w b n q34.1 w b n T) (upd (mt_st (s_X2_become w b n q34.1 w b n T)) (nI i34).toNatClampNeg (0 : Int32))) hd5 hd4 hd30 x1.toNatClampNeg (v_X3_days c1).2) gX3_bestStraw_X2_passOn rfl (by decide +kernel) ⟨Nat.le_of_ble_eq_true rfl, Nat.le_of_ble_eq_true rfl⟩ (wo_X2_T ..) rfl rfl [9, 10, 11, 12, 13, 14, 15, 16] [0, 1, 2, 3, 4, 5, 6, 7, 8] [0, 1, 2, 3, 4, 5, 6, 7, 8, 9, 10, 11, 12, 13, 14, 15, 16] (wr := (wb_m0 h a a2 (t_X3_after (0 : Int32) w b n T w2 b2 n2 T2 x1 (20 : Int32)) :: wt_m a cI w b n T)) (w' := (wb_m h a a2 cI (t_X3_after (0 : Int32) w b n T w2 b2 n2 T2 x1 (20 : Int32)) w b n T w b n (s_X2_passOn w b n (ms_st (s_X2_become w b n q34.1 w b n T) (upd (mt_st (s_X2_become w b n q34.1 w b n T)) (nI i34).toNatClampNeg (0 : Int32))) x1.toNatClampNeg))) (wpC_X3_T2 ..) (wpR_X3_T2 ..) (by decide) (by decide) (by decide) (wpJ_X3_T2 ..) (by decide) rfl (rest := []) (by first | (rw [← (v_X3_days c1).1]; done) | (rw [← (v_X3_days c1).1]; rfl)) hl.1 (Nat.le_of_ble_eq_true rfl) (st1 := []) rfl dX3_bestStraw_73 (k2 := 0) (s2 := 0) rfl rfl ⟨Nat.le_of_ble_eq_true rfl, Nat.le_of_ble_eq_true rfl⟩ (fun H locs hw => ?_)
      refine lv_aload_n hx hb dX3_bestStraw_76 rfl (lv_at hl 0 rfl) ?_
      refine g_get (v := .ref (a2 0)) hc hw hiX3 0 2 (wo_X3_H ..) rfl (by decide) (List.mem_of_getElem? (i := 3) rfl) (wv_X3_H_2 ..) dX3_bestStraw_77 ?_
      refine lv_bipush (v := 20) hx hb dX3_bestStraw_80 (by decide) ?_
      refine g_callV (n := 1) hc hw (k_X2_at l D cI cZ cL a2 w b n (s_X2_passOn w b n (ms_st (s_X2_become w b n q34.1 w b n T) (upd (mt_st (s_X2_become w b n q34.1 w b n T)) (nI i34).toNatClampNeg (0 : Int32))) x1.toNatClampNeg) hd5 hd4 hd30 (20 : Int32)) gX3_bestStraw_X2_at rfl (by decide +kernel) ⟨Nat.le_of_ble_eq_true rfl, Nat.le_of_ble_eq_true rfl⟩ (wo_X2_T ..) rfl rfl [9, 10, 11, 12, 13, 14, 15, 16] [0, 1, 2, 3, 4, 5, 6, 7, 8] [0, 1, 2, 3, 4, 5, 6, 7, 8, 9, 10, 11, 12, 13, 14, 15, 16] (wr := (wb_m0 h a a2 (t_X3_after (0 : Int32) w b n T w2 b2 n2 T2 x1 (20 : Int32)) :: wt_m a cI w b n T)) (w' := (wb_m h a a2 cI (t_X3_after (0 : Int32) w b n T w2 b2 n2 T2 x1 (20 : Int32)) w b n T w b n (s_X2_passOn w b n (ms_st (s_X2_become w b n q34.1 w b n T) (upd (mt_st (s_X2_become w b n q34.1 w b n T)) (nI i34).toNatClampNeg (0 : Int32))) x1.toNatClampNeg))) (wpC_X3_T2 ..) (wpR_X3_T2 ..) (by decide) (by decide) (by decide) (wpJ_X3_T2 ..) (by decide) rfl (rest := []) rfl hl.1 (Nat.le_of_ble_eq_true rfl) (st1 := [.int (r_X2_at w b n (s_X2_passOn w b n (ms_st (s_X2_become w b n q34.1 w b n T) (upd (mt_st (s_X2_become w b n q34.1 w b n T)) (nI i34).toNatClampNeg (0 : Int32))) x1.toNatClampNeg) (20 : Int32))]) rfl dX3_bestStraw_82 (k2 := 0) (s2 := 0) rfl rfl ⟨Nat.le_of_ble_eq_true rfl, Nat.le_of_ble_eq_true rfl⟩ (fun H locs hw => ?_)
      refine lv_iload_n hx hb dX3_bestStraw_85 rfl (lv_at hl 2 rfl) ?_
      refine lv_icmp_gt (tgt := 92) hx hb dX3_bestStraw_86 (by decide) (fun c2 => ?_) (fun c2 => ?_)
      · refine lv_iload hx hb dX3_bestStraw_92 (lv_at hl 4 rfl) ?_
        refine lv_istore_n (lv' := [(3, .int (nI i34)), (0, .ref h), (1, .int x1), (2, .int q34.2.1), (4, .int (nI i34))]) hx hb dX3_bestStraw_94 rfl hl (by decide) rfl (fun ls hl => ?_)
        refine lv_aload_n hx hb dX3_bestStraw_95 rfl (lv_at hl 1 rfl) ?_
        refine g_get (v := .ref (a2 0)) hc hw hiX3 0 2 (wo_X3_H ..) rfl (by decide) (List.mem_of_getElem? (i := 3) rfl) (wv_X3_H_2 ..) dX3_bestStraw_96 ?_
        refine lv_bipush (v := 20) hx hb dX3_bestStraw_99 (by decide) ?_
        refine g_callV (n := 1) hc hw (k_X2_at l D cI cZ cL a2 w b n (s_X2_passOn w b n (ms_st (s_X2_become w b n q34.1 w b n T) (upd (mt_st (s_X2_become w b n q34.1 w b n T)) (nI i34).toNatClampNeg (0 : Int32))) x1.toNatClampNeg) hd5 hd4 hd30 (20 : Int32)) gX3_bestStraw_X2_at rfl (by decide +kernel) ⟨Nat.le_of_ble_eq_true rfl, Nat.le_of_ble_eq_true rfl⟩ (wo_X2_T ..) rfl rfl [9, 10, 11, 12, 13, 14, 15, 16] [0, 1, 2, 3, 4, 5, 6, 7, 8] [0, 1, 2, 3, 4, 5, 6, 7, 8, 9, 10, 11, 12, 13, 14, 15, 16] (wr := (wb_m0 h a a2 (t_X3_after (0 : Int32) w b n T w2 b2 n2 T2 x1 (20 : Int32)) :: wt_m a cI w b n T)) (w' := (wb_m h a a2 cI (t_X3_after (0 : Int32) w b n T w2 b2 n2 T2 x1 (20 : Int32)) w b n T w b n (s_X2_passOn w b n (ms_st (s_X2_become w b n q34.1 w b n T) (upd (mt_st (s_X2_become w b n q34.1 w b n T)) (nI i34).toNatClampNeg (0 : Int32))) x1.toNatClampNeg))) (wpC_X3_T2 ..) (wpR_X3_T2 ..) (by decide) (by decide) (by decide) (wpJ_X3_T2 ..) (by decide) rfl (rest := []) rfl hl.1 (Nat.le_of_ble_eq_true rfl) (st1 := [.int (r_X2_at w b n (s_X2_passOn w b n (ms_st (s_X2_become w b n q34.1 w b n T) (upd (mt_st (s_X2_become w b n q34.1 w b n T)) (nI i34).toNatClampNeg (0 : Int32))) x1.toNatClampNeg) (20 : Int32))]) rfl dX3_bestStraw_101 (k2 := 0) (s2 := 0) rfl rfl ⟨Nat.le_of_ble_eq_true rfl, Nat.le_of_ble_eq_true rfl⟩ (fun H locs hw => ?_)
        refine lv_istore_n (lv' := [(2, .int (r_X2_at w b n (s_X2_passOn w b n (ms_st (s_X2_become w b n q34.1 w b n T) (upd (mt_st (s_X2_become w b n q34.1 w b n T)) (nI i34).toNatClampNeg (0 : Int32))) x1.toNatClampNeg) (20 : Int32))), (3, .int (nI i34)), (0, .ref h), (1, .int x1), (4, .int (nI i34))]) hx hb dX3_bestStraw_104 rfl hl (by decide) rfl (fun ls hl => ?_)
        refine lv_iinc (v := (nI (i34 + 1))) (lv' := [(4, .int (nI (i34 + 1))), (2, .int (r_X2_at w b n (s_X2_passOn w b n (ms_st (s_X2_become w b n q34.1 w b n T) (upd (mt_st (s_X2_become w b n q34.1 w b n T)) (nI i34).toNatClampNeg (0 : Int32))) x1.toNatClampNeg) (20 : Int32))), (3, .int (nI i34)), (0, .ref h), (1, .int x1)]) hx hb dX3_bestStraw_105 hl (k := 4) rfl (inc_n i34) (by decide) rfl (fun ls hl => ?_)
        refine lv_goto (tgt := 34) hx hb dX3_bestStraw_108 (by decide) ?_
        rw [show (f_X3_bestStraw_34 th w b n T w2 b2 n2 T2 x1) i34 q34 = ((s_X2_passOn w b n (ms_st (s_X2_become w b n q34.1 w b n T) (upd (mt_st (s_X2_become w b n q34.1 w b n T)) (nI i34).toNatClampNeg (0 : Int32))) x1.toNatClampNeg), (r_X2_at w b n (s_X2_passOn w b n (ms_st (s_X2_become w b n q34.1 w b n T) (upd (mt_st (s_X2_become w b n q34.1 w b n T)) (nI i34).toNatClampNeg (0 : Int32))) x1.toNatClampNeg) (20 : Int32)), (nI i34)) from by rw [f_X3_bestStraw_34, if_pos c2]] at k34
        exact k34 H locs ls hw (lv_sub hl [3, 4, 1, 2, 0] rfl)
      · refine lv_goto (tgt := 105) hx hb dX3_bestStraw_89 (by decide) ?_
        refine lv_iinc (v := (nI (i34 + 1))) (lv' := [(4, .int (nI (i34 + 1))), (0, .ref h), (1, .int x1), (2, .int q34.2.1), (3, .int q34.2.2)]) hx hb dX3_bestStraw_105 hl (k := 4) rfl (inc_n i34) (by decide) rfl (fun ls hl => ?_)
        refine lv_goto (tgt := 34) hx hb dX3_bestStraw_108 (by decide) ?_
        rw [show (f_X3_bestStraw_34 th w b n T w2 b2 n2 T2 x1) i34 q34 = ((s_X2_passOn w b n (ms_st (s_X2_become w b n q34.1 w b n T) (upd (mt_st (s_X2_become w b n q34.1 w b n T)) (nI i34).toNatClampNeg (0 : Int32))) x1.toNatClampNeg), q34.2.1, q34.2.2) from by rw [f_X3_bestStraw_34, if_neg c2]] at k34
        exact k34 H locs ls hw (lv_sub hl [1, 2, 3, 4, 0] rfl)
    · intro H locs ls hw hl
      refine lv_iload hx hb dX3_bestStraw_34 (lv_at hl 4 rfl) ?_
      refine lv_aload_n hx hb dX3_bestStraw_36 rfl (lv_at hl 0 rfl) ?_
      refine g_get (v := .ref (a 0)) hc hw hiX3 0 1 (wo_X3_H ..) rfl (by decide) (List.mem_of_getElem? (i := 2) rfl) (wv_X3_H_1 ..) dX3_bestStraw_37 ?_
      refine g_getN (v := .int (nI w)) (host := RX3) hc hw hiX2 1 1 (wo_X3_T ..) rfl (by decide) (fun z => z.2 (23, "wards", "I") (by decide +kernel)) (wv_X3_T_1 ..) dX3_bestStraw_40 ?_
      refine lv_icmp_ge (tgt := 111) hx hb dX3_bestStraw_43 (by decide) (fun _ => ?_) (fun z => absurd (nI_le (Nat.le_refl _) (by omega)) z)
      refine lv_iload_n hx hb dX3_bestStraw_111 rfl (lv_at hl 3 rfl) ?_
      rw [show r_X3_bestStraw th w b n T w2 b2 n2 T2 x1 = ((lpf (f_X3_bestStraw_34 th w b n T w2 b2 n2 T2 x1) w 0 ((z_X3_after (0 : Int32) w b n T w2 b2 n2 T2 x1 (20 : Int32)), (r_X3_after (0 : Int32) w b n T w2 b2 n2 T2 x1 (20 : Int32)), (-1 : Int32))).2.2) from by rw [r_X3_bestStraw, if_neg c1]]
      rw [show t_X3_bestStraw th w b n T w2 b2 n2 T2 x1 = (t_X3_after (0 : Int32) w b n T w2 b2 n2 T2 x1 (20 : Int32)) from by rw [t_X3_bestStraw, if_neg c1]]
      rw [show z_X3_bestStraw th w b n T w2 b2 n2 T2 x1 = (lpf (f_X3_bestStraw_34 th w b n T w2 b2 n2 T2 x1) w 0 ((z_X3_after (0 : Int32) w b n T w2 b2 n2 T2 x1 (20 : Int32)), (r_X3_after (0 : Int32) w b n T w2 b2 n2 T2 x1 (20 : Int32)), (-1 : Int32))).1 from by rw [z_X3_bestStraw, if_neg c1]]
      rw [show nw2_X3_bestStraw th w b n T w2 b2 n2 T2 x1 = w from by rw [nw2_X3_bestStraw, if_neg c1]]
      rw [show nb2_X3_bestStraw th w b n T w2 b2 n2 T2 x1 = b from by rw [nb2_X3_bestStraw, if_neg c1]]
      rw [show nn2_X3_bestStraw th w b n T w2 b2 n2 T2 x1 = n from by rw [nn2_X3_bestStraw, if_neg c1]]
      exact g_ret hc hw rfl (Nat.le_of_ble_eq_true rfl) (Nat.le_of_ble_eq_true rfl) dX3_bestStraw_112
  · refine lv_aload_n hx hb dX3_bestStraw_15 rfl (lv_at hl 0 rfl) ?_
    refine lv_iconst (v := 1) hx hb dX3_bestStraw_16 (by decide) ?_
    refine g_callV0 (n := 1) hc hw (k_X3_no l D cI cZ cL h a a2 (0 : Int32) w b n T w2 b2 n2 T2 hd5 hd4 hd30 he5 he4 he30 (1 : Int32)) gX3_bestStraw_X3_no rfl (by decide +kernel) ⟨Nat.le_of_ble_eq_true rfl, Nat.le_of_ble_eq_true rfl⟩ 0 (wo_X3_H ..) rfl rfl rfl (rest := []) rfl hl.1 (Nat.le_of_ble_eq_true rfl) (st1 := [.int (r_X3_no (0 : Int32) w b n T w2 b2 n2 T2 (1 : Int32))]) rfl dX3_bestStraw_17 (k2 := 0) (s2 := 0) rfl rfl ⟨Nat.le_of_ble_eq_true rfl, Nat.le_of_ble_eq_true rfl⟩ (fun H locs hw => ?_)
    rw [show r_X3_bestStraw th w b n T w2 b2 n2 T2 x1 = (r_X3_no (0 : Int32) w b n T w2 b2 n2 T2 (1 : Int32)) from by rw [r_X3_bestStraw, if_pos c1]]
    rw [show t_X3_bestStraw th w b n T w2 b2 n2 T2 x1 = (t_X3_no (0 : Int32) w b n T w2 b2 n2 T2 (1 : Int32)) from by rw [t_X3_bestStraw, if_pos c1]]
    rw [show z_X3_bestStraw th w b n T w2 b2 n2 T2 x1 = T2 from by rw [z_X3_bestStraw, if_pos c1]]
    rw [show nw2_X3_bestStraw th w b n T w2 b2 n2 T2 x1 = w2 from by rw [nw2_X3_bestStraw, if_pos c1]]
    rw [show nb2_X3_bestStraw th w b n T w2 b2 n2 T2 x1 = b2 from by rw [nb2_X3_bestStraw, if_pos c1]]
    rw [show nn2_X3_bestStraw th w b n T w2 b2 n2 T2 x1 = n2 from by rw [nn2_X3_bestStraw, if_pos c1]]
    exact g_ret hc hw rfl (Nat.le_of_ble_eq_true rfl) (Nat.le_of_ble_eq_true rfl) dX3_bestStraw_20
