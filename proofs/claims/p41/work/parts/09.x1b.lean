def e_X1_checkWard (w : Nat) (b : Nat) (n : Nat) (T : ct_T) (w2 : Nat) (b2 : Nat) (n2 : Nat) (T2 : ct_T) (x1 : Int32) : Nat := if x1 < (0 : Int32) then (3) else (if x1 < (nI w) then (0) else (3))
abbrev rm_X1_checkWard : Room := { frames := 6, cells := 1, slots := 6, locals := 90 }
set_option maxHeartbeats 4000000 in
set_option maxRecDepth 100000 in
theorem k_X1_checkWard {l : Launch} (hst : l.stackTraces = false) (D : va_G) (cI cZ cL : ClassId) (h : Nat) (a a2 : Nat → Nat) (w : Nat) (b : Nat) (n : Nat) (T : ct_T) (w2 : Nat) (b2 : Nat) (n2 : Nat) (T2 : ct_T) (hd5 : w ≤ 5) (hd4 : b ≤ 4) (hd30 : n ≤ 30) (he5 : w2 ≤ 5) (he4 : b2 ≤ 4) (he30 : n2 ≤ 30) (x1 : Int32)  : TX l yX1_checkWard wsX1_checkWard rm_X1_checkWard D cI cZ cL [.ref h, .int x1] (wb_c h a a2 cI cZ w b n T w2 b2 n2 T2) (e_X1_checkWard w b n T w2 b2 n2 T2 x1) none (wb_c h a a2 cI cZ w b n T w2 b2 n2 T2) := by
  refine TX.of (own := RX1) (cc := cX1_checkWard) (maxL := 2) (ret := none) (lv0 := [(0, .ref h), (1, .int x1)]) (by decide) rfl rfl (Nat.le_of_ble_eq_true rfl) rfl ?_
  intro p e s m args below meth c A hc hT hout hw ls hl
  obtain ⟨hx, hb, hr, hml, hown, hts, hlk, hK, hA⟩ := id hc
  have hiX0 : ∀ w ∈ u_ws RX0 TX0 16, w ∈ wsX1_checkWard := fun _ h => List.mem_cons_of_mem _ (List.mem_append_left _ (List.mem_append_right _ h))
  have hiX1 : ∀ w ∈ u_ws RX1 TX1 2, w ∈ wsX1_checkWard := fun _ h => List.mem_cons_of_mem _ (List.mem_append_left _ (List.mem_append_left _ (List.mem_append_right _ h)))
  refine lv_iload_n hx hb dX1_checkWard_0 rfl (lv_at hl 1 rfl) ?_
  refine lv_if_lt (tgt := 15) hx hb dX1_checkWard_1 (by decide) (fun c1 => ?_) (fun c1 => ?_)
  · exact t_throw hst hc hT hout hw hl.1 (k := 3) (show e_X1_checkWard w b n T w2 b2 n2 T2 x1 = 3 from by rw [e_X1_checkWard, if_pos c1]) (by decide) rfl gx_fit3 gx_fitn gx_bad3 gx_gd3 (List.mem_of_getElem? (i := 1) rfl) (List.mem_of_getElem? (i := 2) rfl) (fun _ h => List.mem_cons_of_mem _ (List.mem_append_right _ h)) (text := "no such ward") (by decide +kernel) dX1_checkWard_15 dX1_checkWard_18 dX1_checkWard_19 dX1_checkWard_21 dX1_checkWard_24 (Nat.le_of_ble_eq_true rfl) (Nat.le_of_ble_eq_true rfl) (Nat.le_of_ble_eq_true rfl) (Nat.le_of_ble_eq_true rfl) (Nat.le_of_ble_eq_true rfl) (Nat.le_of_ble_eq_true rfl)
  · refine lv_iload_n hx hb dX1_checkWard_4 rfl (lv_at hl 1 rfl) ?_
    refine lv_aload_n hx hb dX1_checkWard_5 rfl (lv_at hl 0 rfl) ?_
    refine g_get (v := .ref (a 0)) hc hw hiX1 0 0 (wo_X1_H ..) rfl (by decide) (List.mem_of_getElem? (i := 3) rfl) (wv_X1_H_0 ..) dX1_checkWard_6 ?_
    refine g_get (v := .int (nI w)) hc hw hiX0 1 3 (wo_X1_T ..) rfl (by decide) (List.mem_of_getElem? (i := 4) rfl) (wv_X1_T_3 ..) dX1_checkWard_9 ?_
    refine lv_icmp_lt (tgt := 25) hx hb dX1_checkWard_12 (by decide) (fun c2 => ?_) (fun c2 => ?_)
    · refine t_end (show e_X1_checkWard w b n T w2 b2 n2 T2 x1 = 0 from by rw [e_X1_checkWard, if_neg c1, if_pos c2]) (fun _ _ z1 z2 => ?_)
      subst z1; subst z2
      exact g_vret hc hw rfl (Nat.le_of_ble_eq_true rfl) (Nat.le_of_ble_eq_true rfl) dX1_checkWard_25
    · exact t_throw hst hc hT hout hw hl.1 (k := 3) (show e_X1_checkWard w b n T w2 b2 n2 T2 x1 = 3 from by rw [e_X1_checkWard, if_neg c1, if_neg c2]) (by decide) rfl gx_fit3 gx_fitn gx_bad3 gx_gd3 (List.mem_of_getElem? (i := 1) rfl) (List.mem_of_getElem? (i := 2) rfl) (fun _ h => List.mem_cons_of_mem _ (List.mem_append_right _ h)) (text := "no such ward") (by decide +kernel) dX1_checkWard_15 dX1_checkWard_18 dX1_checkWard_19 dX1_checkWard_21 dX1_checkWard_24 (Nat.le_of_ble_eq_true rfl) (Nat.le_of_ble_eq_true rfl) (Nat.le_of_ble_eq_true rfl) (Nat.le_of_ble_eq_true rfl) (Nat.le_of_ble_eq_true rfl) (Nat.le_of_ble_eq_true rfl)

theorem v_X1_checkWard {w b n : Nat} {T : ct_T} {w2 b2 n2 : Nat} {T2 : ct_T} {x : Int32} (h : e_X1_checkWard w b n T w2 b2 n2 T2 x = 0) : ¬ x < 0 ∧ ¬ nI w ≤ x := by
  rw [e_X1_checkWard] at h
  by_cases h1 : x < 0
  · rw [if_pos h1] at h; exact absurd h (by decide)
  · rw [if_neg h1] at h
    by_cases h2 : x < nI w
    · exact ⟨h1, fun z => absurd h2 (Int32.not_lt.mpr z)⟩
    · rw [if_neg h2] at h; exact absurd h (by decide)

def e_X1_checkBarge (w : Nat) (b : Nat) (n : Nat) (T : ct_T) (w2 : Nat) (b2 : Nat) (n2 : Nat) (T2 : ct_T) (x1 : Int32) : Nat := if x1 < (0 : Int32) then (3) else (if x1 < (nI b) then (0) else (3))
abbrev rm_X1_checkBarge : Room := { frames := 6, cells := 1, slots := 6, locals := 90 }
set_option maxHeartbeats 4000000 in
set_option maxRecDepth 100000 in
theorem k_X1_checkBarge {l : Launch} (hst : l.stackTraces = false) (D : va_G) (cI cZ cL : ClassId) (h : Nat) (a a2 : Nat → Nat) (w : Nat) (b : Nat) (n : Nat) (T : ct_T) (w2 : Nat) (b2 : Nat) (n2 : Nat) (T2 : ct_T) (hd5 : w ≤ 5) (hd4 : b ≤ 4) (hd30 : n ≤ 30) (he5 : w2 ≤ 5) (he4 : b2 ≤ 4) (he30 : n2 ≤ 30) (x1 : Int32)  : TX l yX1_checkBarge wsX1_checkBarge rm_X1_checkBarge D cI cZ cL [.ref h, .int x1] (wb_c h a a2 cI cZ w b n T w2 b2 n2 T2) (e_X1_checkBarge w b n T w2 b2 n2 T2 x1) none (wb_c h a a2 cI cZ w b n T w2 b2 n2 T2) := by
  refine TX.of (own := RX1) (cc := cX1_checkBarge) (maxL := 2) (ret := none) (lv0 := [(0, .ref h), (1, .int x1)]) (by decide) rfl rfl (Nat.le_of_ble_eq_true rfl) rfl ?_
  intro p e s m args below meth c A hc hT hout hw ls hl
  obtain ⟨hx, hb, hr, hml, hown, hts, hlk, hK, hA⟩ := id hc
  have hiX0 : ∀ w ∈ u_ws RX0 TX0 16, w ∈ wsX1_checkBarge := fun _ h => List.mem_cons_of_mem _ (List.mem_append_left _ (List.mem_append_right _ h))
  have hiX1 : ∀ w ∈ u_ws RX1 TX1 2, w ∈ wsX1_checkBarge := fun _ h => List.mem_cons_of_mem _ (List.mem_append_left _ (List.mem_append_left _ (List.mem_append_right _ h)))
  refine lv_iload_n hx hb dX1_checkBarge_0 rfl (lv_at hl 1 rfl) ?_
  refine lv_if_lt (tgt := 15) hx hb dX1_checkBarge_1 (by decide) (fun c1 => ?_) (fun c1 => ?_)
  · exact t_throw hst hc hT hout hw hl.1 (k := 3) (show e_X1_checkBarge w b n T w2 b2 n2 T2 x1 = 3 from by rw [e_X1_checkBarge, if_pos c1]) (by decide) rfl gx_fit3 gx_fitn gx_bad3 gx_gd3 (List.mem_of_getElem? (i := 1) rfl) (List.mem_of_getElem? (i := 2) rfl) (fun _ h => List.mem_cons_of_mem _ (List.mem_append_right _ h)) (text := "no such barge") (by decide +kernel) dX1_checkBarge_15 dX1_checkBarge_18 dX1_checkBarge_19 dX1_checkBarge_21 dX1_checkBarge_24 (Nat.le_of_ble_eq_true rfl) (Nat.le_of_ble_eq_true rfl) (Nat.le_of_ble_eq_true rfl) (Nat.le_of_ble_eq_true rfl) (Nat.le_of_ble_eq_true rfl) (Nat.le_of_ble_eq_true rfl)
  · refine lv_iload_n hx hb dX1_checkBarge_4 rfl (lv_at hl 1 rfl) ?_
    refine lv_aload_n hx hb dX1_checkBarge_5 rfl (lv_at hl 0 rfl) ?_
    refine g_get (v := .ref (a 0)) hc hw hiX1 0 0 (wo_X1_H ..) rfl (by decide) (List.mem_of_getElem? (i := 3) rfl) (wv_X1_H_0 ..) dX1_checkBarge_6 ?_
    refine g_get (v := .int (nI b)) hc hw hiX0 1 6 (wo_X1_T ..) rfl (by decide) (List.mem_of_getElem? (i := 4) rfl) (wv_X1_T_6 ..) dX1_checkBarge_9 ?_
    refine lv_icmp_lt (tgt := 25) hx hb dX1_checkBarge_12 (by decide) (fun c2 => ?_) (fun c2 => ?_)
    · refine t_end (show e_X1_checkBarge w b n T w2 b2 n2 T2 x1 = 0 from by rw [e_X1_checkBarge, if_neg c1, if_pos c2]) (fun _ _ z1 z2 => ?_)
      subst z1; subst z2
      exact g_vret hc hw rfl (Nat.le_of_ble_eq_true rfl) (Nat.le_of_ble_eq_true rfl) dX1_checkBarge_25
    · exact t_throw hst hc hT hout hw hl.1 (k := 3) (show e_X1_checkBarge w b n T w2 b2 n2 T2 x1 = 3 from by rw [e_X1_checkBarge, if_neg c1, if_neg c2]) (by decide) rfl gx_fit3 gx_fitn gx_bad3 gx_gd3 (List.mem_of_getElem? (i := 1) rfl) (List.mem_of_getElem? (i := 2) rfl) (fun _ h => List.mem_cons_of_mem _ (List.mem_append_right _ h)) (text := "no such barge") (by decide +kernel) dX1_checkBarge_15 dX1_checkBarge_18 dX1_checkBarge_19 dX1_checkBarge_21 dX1_checkBarge_24 (Nat.le_of_ble_eq_true rfl) (Nat.le_of_ble_eq_true rfl) (Nat.le_of_ble_eq_true rfl) (Nat.le_of_ble_eq_true rfl) (Nat.le_of_ble_eq_true rfl) (Nat.le_of_ble_eq_true rfl)

theorem v_X1_checkBarge {w b n : Nat} {T : ct_T} {w2 b2 n2 : Nat} {T2 : ct_T} {x : Int32} (h : e_X1_checkBarge w b n T w2 b2 n2 T2 x = 0) : ¬ x < 0 ∧ ¬ nI b ≤ x := by
  rw [e_X1_checkBarge] at h
  by_cases h1 : x < 0
  · rw [if_pos h1] at h; exact absurd h (by decide)
  · rw [if_neg h1] at h
    by_cases h2 : x < nI b
    · exact ⟨h1, fun z => absurd h2 (Int32.not_lt.mpr z)⟩
    · rw [if_neg h2] at h; exact absurd h (by decide)

def e_X1_checkPerson (w : Nat) (b : Nat) (n : Nat) (T : ct_T) (w2 : Nat) (b2 : Nat) (n2 : Nat) (T2 : ct_T) (x1 : Int32) : Nat := if x1 < (0 : Int32) then (3) else (if x1 < (nI n) then (0) else (3))
abbrev rm_X1_checkPerson : Room := { frames := 6, cells := 1, slots := 6, locals := 90 }
set_option maxHeartbeats 4000000 in
set_option maxRecDepth 100000 in
theorem k_X1_checkPerson {l : Launch} (hst : l.stackTraces = false) (D : va_G) (cI cZ cL : ClassId) (h : Nat) (a a2 : Nat → Nat) (w : Nat) (b : Nat) (n : Nat) (T : ct_T) (w2 : Nat) (b2 : Nat) (n2 : Nat) (T2 : ct_T) (hd5 : w ≤ 5) (hd4 : b ≤ 4) (hd30 : n ≤ 30) (he5 : w2 ≤ 5) (he4 : b2 ≤ 4) (he30 : n2 ≤ 30) (x1 : Int32)  : TX l yX1_checkPerson wsX1_checkPerson rm_X1_checkPerson D cI cZ cL [.ref h, .int x1] (wb_c h a a2 cI cZ w b n T w2 b2 n2 T2) (e_X1_checkPerson w b n T w2 b2 n2 T2 x1) none (wb_c h a a2 cI cZ w b n T w2 b2 n2 T2) := by
  refine TX.of (own := RX1) (cc := cX1_checkPerson) (maxL := 2) (ret := none) (lv0 := [(0, .ref h), (1, .int x1)]) (by decide) rfl rfl (Nat.le_of_ble_eq_true rfl) rfl ?_
  intro p e s m args below meth c A hc hT hout hw ls hl
  obtain ⟨hx, hb, hr, hml, hown, hts, hlk, hK, hA⟩ := id hc
  have hiX0 : ∀ w ∈ u_ws RX0 TX0 16, w ∈ wsX1_checkPerson := fun _ h => List.mem_cons_of_mem _ (List.mem_append_left _ (List.mem_append_right _ h))
  have hiX1 : ∀ w ∈ u_ws RX1 TX1 2, w ∈ wsX1_checkPerson := fun _ h => List.mem_cons_of_mem _ (List.mem_append_left _ (List.mem_append_left _ (List.mem_append_right _ h)))
  refine lv_iload_n hx hb dX1_checkPerson_0 rfl (lv_at hl 1 rfl) ?_
  refine lv_if_lt (tgt := 15) hx hb dX1_checkPerson_1 (by decide) (fun c1 => ?_) (fun c1 => ?_)
  · exact t_throw hst hc hT hout hw hl.1 (k := 3) (show e_X1_checkPerson w b n T w2 b2 n2 T2 x1 = 3 from by rw [e_X1_checkPerson, if_pos c1]) (by decide) rfl gx_fit3 gx_fitn gx_bad3 gx_gd3 (List.mem_of_getElem? (i := 1) rfl) (List.mem_of_getElem? (i := 2) rfl) (fun _ h => List.mem_cons_of_mem _ (List.mem_append_right _ h)) (text := "no such person") (by decide +kernel) dX1_checkPerson_15 dX1_checkPerson_18 dX1_checkPerson_19 dX1_checkPerson_21 dX1_checkPerson_24 (Nat.le_of_ble_eq_true rfl) (Nat.le_of_ble_eq_true rfl) (Nat.le_of_ble_eq_true rfl) (Nat.le_of_ble_eq_true rfl) (Nat.le_of_ble_eq_true rfl) (Nat.le_of_ble_eq_true rfl)
  · refine lv_iload_n hx hb dX1_checkPerson_4 rfl (lv_at hl 1 rfl) ?_
    refine lv_aload_n hx hb dX1_checkPerson_5 rfl (lv_at hl 0 rfl) ?_
    refine g_get (v := .ref (a 0)) hc hw hiX1 0 0 (wo_X1_H ..) rfl (by decide) (List.mem_of_getElem? (i := 3) rfl) (wv_X1_H_0 ..) dX1_checkPerson_6 ?_
    refine g_get (v := .int (nI n)) hc hw hiX0 1 9 (wo_X1_T ..) rfl (by decide) (List.mem_of_getElem? (i := 4) rfl) (wv_X1_T_9 ..) dX1_checkPerson_9 ?_
    refine lv_icmp_lt (tgt := 25) hx hb dX1_checkPerson_12 (by decide) (fun c2 => ?_) (fun c2 => ?_)
    · refine t_end (show e_X1_checkPerson w b n T w2 b2 n2 T2 x1 = 0 from by rw [e_X1_checkPerson, if_neg c1, if_pos c2]) (fun _ _ z1 z2 => ?_)
      subst z1; subst z2
      exact g_vret hc hw rfl (Nat.le_of_ble_eq_true rfl) (Nat.le_of_ble_eq_true rfl) dX1_checkPerson_25
    · exact t_throw hst hc hT hout hw hl.1 (k := 3) (show e_X1_checkPerson w b n T w2 b2 n2 T2 x1 = 3 from by rw [e_X1_checkPerson, if_neg c1, if_neg c2]) (by decide) rfl gx_fit3 gx_fitn gx_bad3 gx_gd3 (List.mem_of_getElem? (i := 1) rfl) (List.mem_of_getElem? (i := 2) rfl) (fun _ h => List.mem_cons_of_mem _ (List.mem_append_right _ h)) (text := "no such person") (by decide +kernel) dX1_checkPerson_15 dX1_checkPerson_18 dX1_checkPerson_19 dX1_checkPerson_21 dX1_checkPerson_24 (Nat.le_of_ble_eq_true rfl) (Nat.le_of_ble_eq_true rfl) (Nat.le_of_ble_eq_true rfl) (Nat.le_of_ble_eq_true rfl) (Nat.le_of_ble_eq_true rfl) (Nat.le_of_ble_eq_true rfl)

theorem v_X1_checkPerson {w b n : Nat} {T : ct_T} {w2 b2 n2 : Nat} {T2 : ct_T} {x : Int32} (h : e_X1_checkPerson w b n T w2 b2 n2 T2 x = 0) : ¬ x < 0 ∧ ¬ nI n ≤ x := by
  rw [e_X1_checkPerson] at h
  by_cases h1 : x < 0
  · rw [if_pos h1] at h; exact absurd h (by decide)
  · rw [if_neg h1] at h
    by_cases h2 : x < nI n
    · exact ⟨h1, fun z => absurd h2 (Int32.not_lt.mpr z)⟩
    · rw [if_neg h2] at h; exact absurd h (by decide)

def e_X1_checkDays (x1 : Int32) : Nat := if x1 < (1 : Int32) then (1) else (if x1 ≤ (40 : Int32) then (0) else (1))
abbrev rm_X1_checkDays : Room := { frames := 6, cells := 1, slots := 6, locals := 90 }
set_option maxHeartbeats 4000000 in
set_option maxRecDepth 100000 in
theorem k_X1_checkDays {l : Launch} (hst : l.stackTraces = false) (D : va_G) (cI cZ cL : ClassId)    (x1 : Int32)  : TX l yX1_checkDays wsX1_checkDays rm_X1_checkDays D cI cZ cL [.int x1] [] (e_X1_checkDays x1) none [] := by
  refine TX.of (own := RX1) (cc := cX1_checkDays) (maxL := 1) (ret := none) (lv0 := [(0, .int x1)]) (by decide) rfl rfl (Nat.le_of_ble_eq_true rfl) rfl ?_
  intro p e s m args below meth c A hc hT hout hw ls hl
  obtain ⟨hx, hb, hr, hml, hown, hts, hlk, hK, hA⟩ := id hc
  refine lv_iload_n hx hb dX1_checkDays_0 rfl (lv_at hl 0 rfl) ?_
  refine lv_iconst (v := 1) hx hb dX1_checkDays_1 (by decide) ?_
  refine lv_icmp_lt (tgt := 11) hx hb dX1_checkDays_2 (by decide) (fun c1 => ?_) (fun c1 => ?_)
  · exact t_throw hst hc hT hout hw hl.1 (k := 1) (show e_X1_checkDays x1 = 1 from by rw [e_X1_checkDays, if_pos c1]) (by decide) rfl gx_fit1 gx_fitn gx_bad1 gx_gd1 (List.mem_of_getElem? (i := 1) rfl) (List.mem_of_getElem? (i := 2) rfl) (fun _ h => List.mem_cons_of_mem _ (List.mem_append_right _ h)) (text := "days are 1 to 40") (by decide +kernel) dX1_checkDays_11 dX1_checkDays_14 dX1_checkDays_15 dX1_checkDays_17 dX1_checkDays_20 (Nat.le_of_ble_eq_true rfl) (Nat.le_of_ble_eq_true rfl) (Nat.le_of_ble_eq_true rfl) (Nat.le_of_ble_eq_true rfl) (Nat.le_of_ble_eq_true rfl) (Nat.le_of_ble_eq_true rfl)
  · refine lv_iload_n hx hb dX1_checkDays_5 rfl (lv_at hl 0 rfl) ?_
    refine lv_bipush (v := 40) hx hb dX1_checkDays_6 (by decide) ?_
    refine lv_icmp_le (tgt := 21) hx hb dX1_checkDays_8 (by decide) (fun c2 => ?_) (fun c2 => ?_)
    · refine t_end (show e_X1_checkDays x1 = 0 from by rw [e_X1_checkDays, if_neg c1, if_pos c2]) (fun _ _ z1 z2 => ?_)
      subst z1; subst z2
      exact g_vret hc hw rfl (Nat.le_of_ble_eq_true rfl) (Nat.le_of_ble_eq_true rfl) dX1_checkDays_21
    · exact t_throw hst hc hT hout hw hl.1 (k := 1) (show e_X1_checkDays x1 = 1 from by rw [e_X1_checkDays, if_neg c1, if_neg c2]) (by decide) rfl gx_fit1 gx_fitn gx_bad1 gx_gd1 (List.mem_of_getElem? (i := 1) rfl) (List.mem_of_getElem? (i := 2) rfl) (fun _ h => List.mem_cons_of_mem _ (List.mem_append_right _ h)) (text := "days are 1 to 40") (by decide +kernel) dX1_checkDays_11 dX1_checkDays_14 dX1_checkDays_15 dX1_checkDays_17 dX1_checkDays_20 (Nat.le_of_ble_eq_true rfl) (Nat.le_of_ble_eq_true rfl) (Nat.le_of_ble_eq_true rfl) (Nat.le_of_ble_eq_true rfl) (Nat.le_of_ble_eq_true rfl) (Nat.le_of_ble_eq_true rfl)

theorem v_X1_checkDays {x : Int32} (h : e_X1_checkDays x = 0) : x = nI x.toNatClampNeg ∧ x.toNatClampNeg < 2 ^ 31 := by
  rw [e_X1_checkDays] at h
  by_cases h1 : x < 1
  · rw [if_pos h1] at h; exact absurd h (by decide)
  · rw [if_neg h1] at h
    by_cases h2 : x ≤ 40
    · exact l_days h1 h2
    · rw [if_neg h2] at h; exact absurd h (by decide)
