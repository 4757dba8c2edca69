/-! 11.b: the constructors -/
abbrev gx_f0 : List Value := [.int 0, .int 0, .int 0, .int 0, .null, .null, .int 0, .null, .null, .int 0, .null, .null, .null, .null, .null, .null]
def ct_0 : ct_T := (0, 20, 0, (fun _ => (0 : Int32)), (fun _ => (0 : Int32)), (fun _ => (0 : Int32)), (fun _ => (0 : Int32)), (fun _ => (0 : Int32)), (fun _ => (0 : Int32)), (fun _ => (0 : Int32)), (fun _ => (0 : Int32)), (fun _ => (0 : Int32)), (fun _ => (0 : Int32)))
def gx_a0 (h : Nat) (q4 : Nat) (q5 : Nat) (q7 : Nat) (q8 : Nat) (q10 : Nat) (q11 : Nat) (q12 : Nat) (q13 : Nat) (q14 : Nat) (q15 : Nat) : Nat → Nat := fun k => match k with
  | 0 => h
  | 4 => q4
  | 5 => q5
  | 7 => q7
  | 8 => q8
  | 10 => q10
  | 11 => q11
  | 12 => q12
  | 13 => q13
  | 14 => q14
  | 15 => q15
  | _ => 0
theorem gx_w0 (h : Nat) (cI cZ : ClassId) (q4 : Nat) (q5 : Nat) (q7 : Nat) (q8 : Nat) (q10 : Nat) (q11 : Nat) (q12 : Nat) (q13 : Nat) (q14 : Nat) (q15 : Nat) : ([(h, .inr (0, [.int 0, .int 20, .int 0, .int 0, .ref q4, .ref q5, .int 0, .ref q7, .ref q8, .int 0, .ref q10, .ref q11, .ref q12, .ref q13, .ref q14, .ref q15])), (q4, .inl (cI, 5, .inl (fun _ => 0))), (q5, .inl (cI, 5, .inl (fun _ => 0))), (q7, .inl (cI, 4, .inl (fun _ => 0))), (q8, .inl (cI, 4, .inl (fun _ => 0))), (q10, .inl (cI, 30, .inl (fun _ => 0))), (q11, .inl (cI, 30, .inl (fun _ => 0))), (q12, .inl (cI, 30, .inl (fun _ => 0))), (q13, .inl (cI, 30, .inl (fun _ => 0))), (q14, .inl (cZ, 30, .inl (fun _ => 0))), (q15, .inl (cI, 5, .inl (fun _ => 0)))] : va_W) = wt_c (gx_a0 h q4 q5 q7 q8 q10 q11 q12 q13 q14 q15) cI cZ 0 0 0 ct_0 := by
  unfold wt_c wf_c
  rw [show nI 0 = 0 from by decide]
  rfl
abbrev rm_X0_init : Room := { frames := 1, cells := 10, slots := 173, locals := 20 }
set_option maxHeartbeats 4000000 in
set_option maxRecDepth 100000 in
theorem k_X0_init (l : Launch) (D : va_G) (cI cZ cL : ClassId) (h : Nat) : MN l yX0_init wsX0_init rm_X0_init D cI cZ cL [.ref h] [(h, .inr (0, gx_f0))] (fun w1 => ∃ a : Nat → Nat, a 0 = h ∧ w1 = wt_c a cI cZ 0 0 0 ct_0) := by
  refine MN.of (own := RX0) (cc := cX0_init) (maxL := 1) (ret := none) (lv0 := [(0, .ref h)]) (by decide) rfl rfl (Nat.le_of_ble_eq_true rfl) rfl ?_
  intro p e s m args below meth c A hc hnm hw ls hl
  obtain ⟨hx, hb, hr, hml, hown, hts, hlk, hK, hA⟩ := id hc
  have hin0 : ∀ w ∈ u_ws RX0 TX0 16, w ∈ wsX0_init := fun _ h => List.mem_cons_of_mem _ (List.mem_append_right _ h)
  refine lv_aload_n hx hb dX0_init_0 rfl (lv_at hl 0 rfl) ?_
  refine g_obj hc hl.1 (List.mem_of_getElem? (i := 1) rfl) (List.mem_of_getElem? (i := 2) rfl) (List.mem_of_getElem? (i := 3) rfl) (Nat.le_of_ble_eq_true rfl) (Nat.le_of_ble_eq_true rfl) dX0_init_1 ?_
  refine lv_aload_n hx hb dX0_init_4 rfl (lv_at hl 0 rfl) ?_
  refine lv_bipush (v := 20) hx hb dX0_init_5 (by decide) ?_
  refine g_put hc hw hin0 tyX0 tyX0_ok nmX0 0 1 rfl rfl (by decide) (List.mem_of_getElem? (i := 4) rfl) (by decide) rfl rfl (Nat.le_of_ble_eq_true rfl) (w' := [(h, .inr (0, [.int 0, .int 20, .int 0, .int 0, .null, .null, .int 0, .null, .null, .int 0, .null, .null, .null, .null, .null, .null]))]) rfl dX0_init_7 (fun H locs hw => ?_)
  refine lv_aload_n hx hb dX0_init_10 rfl (lv_at hl 0 rfl) ?_
  refine lv_iconst (v := 5) hx hb dX0_init_11 (by decide) ?_
  refine g_newI hc hw (N := 5) (List.mem_of_getElem? (i := 5) rfl) (by decide) (by decide) (by decide) (Nat.le_of_ble_eq_true rfl) (Nat.le_of_ble_eq_true rfl) dX0_init_12 (fun q4 H locs hw => ?_)
  replace hw : Wo D A s.heap [(h, .inr (0, [.int 0, .int 20, .int 0, .int 0, .null, .null, .int 0, .null, .null, .int 0, .null, .null, .null, .null, .null, .null])), (q4, .inl (cI, 5, .inl (fun _ => 0)))] H locs := hw
  refine g_putF hc hnm hw hin0 tyX0 tyX0_ok nmX0 0 4 rfl rfl (by decide) (List.mem_of_getElem? (i := 6) rfl) rfl rfl rfl rfl (Nat.le_of_ble_eq_true rfl) (w' := [(h, .inr (0, [.int 0, .int 20, .int 0, .int 0, .ref q4, .null, .int 0, .null, .null, .int 0, .null, .null, .null, .null, .null, .null])), (q4, .inl (cI, 5, .inl (fun _ => 0)))]) rfl dX0_init_14 (fun H locs hw => ?_)
  refine lv_aload_n hx hb dX0_init_17 rfl (lv_at hl 0 rfl) ?_
  refine lv_iconst (v := 5) hx hb dX0_init_18 (by decide) ?_
  refine g_newI hc hw (N := 5) (List.mem_of_getElem? (i := 5) rfl) (by decide) (by decide) (by decide) (Nat.le_of_ble_eq_true rfl) (Nat.le_of_ble_eq_true rfl) dX0_init_19 (fun q5 H locs hw => ?_)
  replace hw : Wo D A s.heap [(h, .inr (0, [.int 0, .int 20, .int 0, .int 0, .ref q4, .null, .int 0, .null, .null, .int 0, .null, .null, .null, .null, .null, .null])), (q4, .inl (cI, 5, .inl (fun _ => 0))), (q5, .inl (cI, 5, .inl (fun _ => 0)))] H locs := hw
  refine g_putF hc hnm hw hin0 tyX0 tyX0_ok nmX0 0 5 rfl rfl (by decide) (List.mem_of_getElem? (i := 7) rfl) rfl rfl rfl rfl (Nat.le_of_ble_eq_true rfl) (w' := [(h, .inr (0, [.int 0, .int 20, .int 0, .int 0, .ref q4, .ref q5, .int 0, .null, .null, .int 0, .null, .null, .null, .null, .null, .null])), (q4, .inl (cI, 5, .inl (fun _ => 0))), (q5, .inl (cI, 5, .inl (fun _ => 0)))]) rfl dX0_init_21 (fun H locs hw => ?_)
  refine lv_aload_n hx hb dX0_init_24 rfl (lv_at hl 0 rfl) ?_
  refine lv_iconst (v := 4) hx hb dX0_init_25 (by decide) ?_
  refine g_newI hc hw (N := 4) (List.mem_of_getElem? (i := 5) rfl) (by decide) (by decide) (by decide) (Nat.le_of_ble_eq_true rfl) (Nat.le_of_ble_eq_true rfl) dX0_init_26 (fun q7 H locs hw => ?_)
  replace hw : Wo D A s.heap [(h, .inr (0, [.int 0, .int 20, .int 0, .int 0, .ref q4, .ref q5, .int 0, .null, .null, .int 0, .null, .null, .null, .null, .null, .null])), (q4, .inl (cI, 5, .inl (fun _ => 0))), (q5, .inl (cI, 5, .inl (fun _ => 0))), (q7, .inl (cI, 4, .inl (fun _ => 0)))] H locs := hw
  refine g_putF hc hnm hw hin0 tyX0 tyX0_ok nmX0 0 7 rfl rfl (by decide) (List.mem_of_getElem? (i := 8) rfl) rfl rfl rfl rfl (Nat.le_of_ble_eq_true rfl) (w' := [(h, .inr (0, [.int 0, .int 20, .int 0, .int 0, .ref q4, .ref q5, .int 0, .ref q7, .null, .int 0, .null, .null, .null, .null, .null, .null])), (q4, .inl (cI, 5, .inl (fun _ => 0))), (q5, .inl (cI, 5, .inl (fun _ => 0))), (q7, .inl (cI, 4, .inl (fun _ => 0)))]) rfl dX0_init_28 (fun H locs hw => ?_)
  refine lv_aload_n hx hb dX0_init_31 rfl (lv_at hl 0 rfl) ?_
  refine lv_iconst (v := 4) hx hb dX0_init_32 (by decide) ?_
  refine g_newI hc hw (N := 4) (List.mem_of_getElem? (i := 5) rfl) (by decide) (by decide) (by decide) (Nat.le_of_ble_eq_true rfl) (Nat.le_of_ble_eq_true rfl) dX0_init_33 (fun q8 H locs hw => ?_)
  replace hw : Wo D A s.heap [(h, .inr (0, [.int 0, .int 20, .int 0, .int 0, .ref q4, .ref q5, .int 0, .ref q7, .null, .int 0, .null, .null, .null, .null, .null, .null])), (q4, .inl (cI, 5, .inl (fun _ => 0))), (q5, .inl (cI, 5, .inl (fun _ => 0))), (q7, .inl (cI, 4, .inl (fun _ => 0))), (q8, .inl (cI, 4, .inl (fun _ => 0)))] H locs := hw
  refine g_putF hc hnm hw hin0 tyX0 tyX0_ok nmX0 0 8 rfl rfl (by decide) (List.mem_of_getElem? (i := 9) rfl) rfl rfl rfl rfl (Nat.le_of_ble_eq_true rfl) (w' := [(h, .inr (0, [.int 0, .int 20, .int 0, .int 0, .ref q4, .ref q5, .int 0, .ref q7, .ref q8, .int 0, .null, .null, .null, .null, .null, .null])), (q4, .inl (cI, 5, .inl (fun _ => 0))), (q5, .inl (cI, 5, .inl (fun _ => 0))), (q7, .inl (cI, 4, .inl (fun _ => 0))), (q8, .inl (cI, 4, .inl (fun _ => 0)))]) rfl dX0_init_35 (fun H locs hw => ?_)
  refine lv_aload_n hx hb dX0_init_38 rfl (lv_at hl 0 rfl) ?_
  refine lv_bipush (v := 30) hx hb dX0_init_39 (by decide) ?_
  refine g_newI hc hw (N := 30) (List.mem_of_getElem? (i := 5) rfl) (by decide) (by decide) (by decide) (Nat.le_of_ble_eq_true rfl) (Nat.le_of_ble_eq_true rfl) dX0_init_41 (fun q10 H locs hw => ?_)
  replace hw : Wo D A s.heap [(h, .inr (0, [.int 0, .int 20, .int 0, .int 0, .ref q4, .ref q5, .int 0, .ref q7, .ref q8, .int 0, .null, .null, .null, .null, .null, .null])), (q4, .inl (cI, 5, .inl (fun _ => 0))), (q5, .inl (cI, 5, .inl (fun _ => 0))), (q7, .inl (cI, 4, .inl (fun _ => 0))), (q8, .inl (cI, 4, .inl (fun _ => 0))), (q10, .inl (cI, 30, .inl (fun _ => 0)))] H locs := hw
  refine g_putF hc hnm hw hin0 tyX0 tyX0_ok nmX0 0 10 rfl rfl (by decide) (List.mem_of_getElem? (i := 10) rfl) rfl rfl rfl rfl (Nat.le_of_ble_eq_true rfl) (w' := [(h, .inr (0, [.int 0, .int 20, .int 0, .int 0, .ref q4, .ref q5, .int 0, .ref q7, .ref q8, .int 0, .ref q10, .null, .null, .null, .null, .null])), (q4, .inl (cI, 5, .inl (fun _ => 0))), (q5, .inl (cI, 5, .inl (fun _ => 0))), (q7, .inl (cI, 4, .inl (fun _ => 0))), (q8, .inl (cI, 4, .inl (fun _ => 0))), (q10, .inl (cI, 30, .inl (fun _ => 0)))]) rfl dX0_init_43 (fun H locs hw => ?_)
  refine lv_aload_n hx hb dX0_init_46 rfl (lv_at hl 0 rfl) ?_
  refine lv_bipush (v := 30) hx hb dX0_init_47 (by decide) ?_
  refine g_newI hc hw (N := 30) (List.mem_of_getElem? (i := 5) rfl) (by decide) (by decide) (by decide) (Nat.le_of_ble_eq_true rfl) (Nat.le_of_ble_eq_true rfl) dX0_init_49 (fun q11 H locs hw => ?_)
  replace hw : Wo D A s.heap [(h, .inr (0, [.int 0, .int 20, .int 0, .int 0, .ref q4, .ref q5, .int 0, .ref q7, .ref q8, .int 0, .ref q10, .null, .null, .null, .null, .null])), (q4, .inl (cI, 5, .inl (fun _ => 0))), (q5, .inl (cI, 5, .inl (fun _ => 0))), (q7, .inl (cI, 4, .inl (fun _ => 0))), (q8, .inl (cI, 4, .inl (fun _ => 0))), (q10, .inl (cI, 30, .inl (fun _ => 0))), (q11, .inl (cI, 30, .inl (fun _ => 0)))] H locs := hw
  refine g_putF hc hnm hw hin0 tyX0 tyX0_ok nmX0 0 11 rfl rfl (by decide) (List.mem_of_getElem? (i := 11) rfl) rfl rfl rfl rfl (Nat.le_of_ble_eq_true rfl) (w' := [(h, .inr (0, [.int 0, .int 20, .int 0, .int 0, .ref q4, .ref q5, .int 0, .ref q7, .ref q8, .int 0, .ref q10, .ref q11, .null, .null, .null, .null])), (q4, .inl (cI, 5, .inl (fun _ => 0))), (q5, .inl (cI, 5, .inl (fun _ => 0))), (q7, .inl (cI, 4, .inl (fun _ => 0))), (q8, .inl (cI, 4, .inl (fun _ => 0))), (q10, .inl (cI, 30, .inl (fun _ => 0))), (q11, .inl (cI, 30, .inl (fun _ => 0)))]) rfl dX0_init_51 (fun H locs hw => ?_)
  refine lv_aload_n hx hb dX0_init_54 rfl (lv_at hl 0 rfl) ?_
  refine lv_bipush (v := 30) hx hb dX0_init_55 (by decide) ?_
  refine g_newI hc hw (N := 30) (List.mem_of_getElem? (i := 5) rfl) (by decide) (by decide) (by decide) (Nat.le_of_ble_eq_true rfl) (Nat.le_of_ble_eq_true rfl) dX0_init_57 (fun q12 H locs hw => ?_)
  replace hw : Wo D A s.heap [(h, .inr (0, [.int 0, .int 20, .int 0, .int 0, .ref q4, .ref q5, .int 0, .ref q7, .ref q8, .int 0, .ref q10, .ref q11, .null, .null, .null, .null])), (q4, .inl (cI, 5, .inl (fun _ => 0))), (q5, .inl (cI, 5, .inl (fun _ => 0))), (q7, .inl (cI, 4, .inl (fun _ => 0))), (q8, .inl (cI, 4, .inl (fun _ => 0))), (q10, .inl (cI, 30, .inl (fun _ => 0))), (q11, .inl (cI, 30, .inl (fun _ => 0))), (q12, .inl (cI, 30, .inl (fun _ => 0)))] H locs := hw
  refine g_putF hc hnm hw hin0 tyX0 tyX0_ok nmX0 0 12 rfl rfl (by decide) (List.mem_of_getElem? (i := 12) rfl) rfl rfl rfl rfl (Nat.le_of_ble_eq_true rfl) (w' := [(h, .inr (0, [.int 0, .int 20, .int 0, .int 0, .ref q4, .ref q5, .int 0, .ref q7, .ref q8, .int 0, .ref q10, .ref q11, .ref q12, .null, .null, .null])), (q4, .inl (cI, 5, .inl (fun _ => 0))), (q5, .inl (cI, 5, .inl (fun _ => 0))), (q7, .inl (cI, 4, .inl (fun _ => 0))), (q8, .inl (cI, 4, .inl (fun _ => 0))), (q10, .inl (cI, 30, .inl (fun _ => 0))), (q11, .inl (cI, 30, .inl (fun _ => 0))), (q12, .inl (cI, 30, .inl (fun _ => 0)))]) rfl dX0_init_59 (fun H locs hw => ?_)
  refine lv_aload_n hx hb dX0_init_62 rfl (lv_at hl 0 rfl) ?_
  refine lv_bipush (v := 30) hx hb dX0_init_63 (by decide) ?_
  refine g_newI hc hw (N := 30) (List.mem_of_getElem? (i := 5) rfl) (by decide) (by decide) (by decide) (Nat.le_of_ble_eq_true rfl) (Nat.le_of_ble_eq_true rfl) dX0_init_65 (fun q13 H locs hw => ?_)
  replace hw : Wo D A s.heap [(h, .inr (0, [.int 0, .int 20, .int 0, .int 0, .ref q4, .ref q5, .int 0, .ref q7, .ref q8, .int 0, .ref q10, .ref q11, .ref q12, .null, .null, .null])), (q4, .inl (cI, 5, .inl (fun _ => 0))), (q5, .inl (cI, 5, .inl (fun _ => 0))), (q7, .inl (cI, 4, .inl (fun _ => 0))), (q8, .inl (cI, 4, .inl (fun _ => 0))), (q10, .inl (cI, 30, .inl (fun _ => 0))), (q11, .inl (cI, 30, .inl (fun _ => 0))), (q12, .inl (cI, 30, .inl (fun _ => 0))), (q13, .inl (cI, 30, .inl (fun _ => 0)))] H locs := hw
  refine g_putF hc hnm hw hin0 tyX0 tyX0_ok nmX0 0 13 rfl rfl (by decide) (List.mem_of_getElem? (i := 13) rfl) rfl rfl rfl rfl (Nat.le_of_ble_eq_true rfl) (w' := [(h, .inr (0, [.int 0, .int 20, .int 0, .int 0, .ref q4, .ref q5, .int 0, .ref q7, .ref q8, .int 0, .ref q10, .ref q11, .ref q12, .ref q13, .null, .null])), (q4, .inl (cI, 5, .inl (fun _ => 0))), (q5, .inl (cI, 5, .inl (fun _ => 0))), (q7, .inl (cI, 4, .inl (fun _ => 0))), (q8, .inl (cI, 4, .inl (fun _ => 0))), (q10, .inl (cI, 30, .inl (fun _ => 0))), (q11, .inl (cI, 30, .inl (fun _ => 0))), (q12, .inl (cI, 30, .inl (fun _ => 0))), (q13, .inl (cI, 30, .inl (fun _ => 0)))]) rfl dX0_init_67 (fun H locs hw => ?_)
  refine lv_aload_n hx hb dX0_init_70 rfl (lv_at hl 0 rfl) ?_
  refine lv_bipush (v := 30) hx hb dX0_init_71 (by decide) ?_
  refine g_newZ hc hw (N := 30) (List.mem_of_getElem? (i := 14) rfl) (by decide) (by decide) (by decide) (Nat.le_of_ble_eq_true rfl) (Nat.le_of_ble_eq_true rfl) dX0_init_73 (fun q14 H locs hw => ?_)
  replace hw : Wo D A s.heap [(h, .inr (0, [.int 0, .int 20, .int 0, .int 0, .ref q4, .ref q5, .int 0, .ref q7, .ref q8, .int 0, .ref q10, .ref q11, .ref q12, .ref q13, .null, .null])), (q4, .inl (cI, 5, .inl (fun _ => 0))), (q5, .inl (cI, 5, .inl (fun _ => 0))), (q7, .inl (cI, 4, .inl (fun _ => 0))), (q8, .inl (cI, 4, .inl (fun _ => 0))), (q10, .inl (cI, 30, .inl (fun _ => 0))), (q11, .inl (cI, 30, .inl (fun _ => 0))), (q12, .inl (cI, 30, .inl (fun _ => 0))), (q13, .inl (cI, 30, .inl (fun _ => 0))), (q14, .inl (cZ, 30, .inl (fun _ => 0)))] H locs := hw
  refine g_putF hc hnm hw hin0 tyX0 tyX0_ok nmX0 0 14 rfl rfl (by decide) (List.mem_of_getElem? (i := 15) rfl) rfl rfl rfl rfl (Nat.le_of_ble_eq_true rfl) (w' := [(h, .inr (0, [.int 0, .int 20, .int 0, .int 0, .ref q4, .ref q5, .int 0, .ref q7, .ref q8, .int 0, .ref q10, .ref q11, .ref q12, .ref q13, .ref q14, .null])), (q4, .inl (cI, 5, .inl (fun _ => 0))), (q5, .inl (cI, 5, .inl (fun _ => 0))), (q7, .inl (cI, 4, .inl (fun _ => 0))), (q8, .inl (cI, 4, .inl (fun _ => 0))), (q10, .inl (cI, 30, .inl (fun _ => 0))), (q11, .inl (cI, 30, .inl (fun _ => 0))), (q12, .inl (cI, 30, .inl (fun _ => 0))), (q13, .inl (cI, 30, .inl (fun _ => 0))), (q14, .inl (cZ, 30, .inl (fun _ => 0)))]) rfl dX0_init_75 (fun H locs hw => ?_)
  refine lv_aload_n hx hb dX0_init_78 rfl (lv_at hl 0 rfl) ?_
  refine lv_iconst (v := 5) hx hb dX0_init_79 (by decide) ?_
  refine g_newI hc hw (N := 5) (List.mem_of_getElem? (i := 5) rfl) (by decide) (by decide) (by decide) (Nat.le_of_ble_eq_true rfl) (Nat.le_of_ble_eq_true rfl) dX0_init_80 (fun q15 H locs hw => ?_)
  replace hw : Wo D A s.heap [(h, .inr (0, [.int 0, .int 20, .int 0, .int 0, .ref q4, .ref q5, .int 0, .ref q7, .ref q8, .int 0, .ref q10, .ref q11, .ref q12, .ref q13, .ref q14, .null])), (q4, .inl (cI, 5, .inl (fun _ => 0))), (q5, .inl (cI, 5, .inl (fun _ => 0))), (q7, .inl (cI, 4, .inl (fun _ => 0))), (q8, .inl (cI, 4, .inl (fun _ => 0))), (q10, .inl (cI, 30, .inl (fun _ => 0))), (q11, .inl (cI, 30, .inl (fun _ => 0))), (q12, .inl (cI, 30, .inl (fun _ => 0))), (q13, .inl (cI, 30, .inl (fun _ => 0))), (q14, .inl (cZ, 30, .inl (fun _ => 0))), (q15, .inl (cI, 5, .inl (fun _ => 0)))] H locs := hw
  refine g_putF hc hnm hw hin0 tyX0 tyX0_ok nmX0 0 15 rfl rfl (by decide) (List.mem_of_getElem? (i := 16) rfl) rfl rfl rfl rfl (Nat.le_of_ble_eq_true rfl) (w' := [(h, .inr (0, [.int 0, .int 20, .int 0, .int 0, .ref q4, .ref q5, .int 0, .ref q7, .ref q8, .int 0, .ref q10, .ref q11, .ref q12, .ref q13, .ref q14, .ref q15])), (q4, .inl (cI, 5, .inl (fun _ => 0))), (q5, .inl (cI, 5, .inl (fun _ => 0))), (q7, .inl (cI, 4, .inl (fun _ => 0))), (q8, .inl (cI, 4, .inl (fun _ => 0))), (q10, .inl (cI, 30, .inl (fun _ => 0))), (q11, .inl (cI, 30, .inl (fun _ => 0))), (q12, .inl (cI, 30, .inl (fun _ => 0))), (q13, .inl (cI, 30, .inl (fun _ => 0))), (q14, .inl (cZ, 30, .inl (fun _ => 0))), (q15, .inl (cI, 5, .inl (fun _ => 0)))]) rfl dX0_init_82 (fun H locs hw => ?_)
  exact n_vret hc hw ⟨gx_a0 h q4 q5 q7 q8 q10 q11 q12 q13 q14 q15, rfl, gx_w0 h cI cZ q4 q5 q7 q8 q10 q11 q12 q13 q14 q15⟩ (Nat.le_of_ble_eq_true rfl) (Nat.le_of_ble_eq_true rfl) dX0_init_85
abbrev gx_f1 : List Value := [.null, .null]
abbrev rm_X1_init : Room := { frames := 2, cells := 22, slots := 378, locals := 60 }
set_option maxHeartbeats 4000000 in
set_option maxRecDepth 100000 in
theorem k_X1_init (l : Launch) (D : va_G) (cI cZ cL : ClassId) (h : Nat) : MN l yX1_init wsX1_init rm_X1_init D cI cZ cL [.ref h] [(h, .inr (1, gx_f1))] (fun w1 => ∃ a a2 : Nat → Nat, w1 = wb_c h a a2 cI cZ 0 0 0 ct_0 0 0 0 ct_0) := by
  refine MN.of (own := RX1) (cc := cX1_init) (maxL := 1) (ret := none) (lv0 := [(0, .ref h)]) (by decide) rfl rfl (Nat.le_of_ble_eq_true rfl) rfl ?_
  intro p e s m args below meth c A hc hnm hw ls hl
  obtain ⟨hx, hb, hr, hml, hown, hts, hlk, hK, hA⟩ := id hc
  have hin0 : ∀ w ∈ u_ws RX1 TX1 2, w ∈ wsX1_init := fun _ h => List.mem_cons_of_mem _ (List.mem_append_right _ h)
  have hin1 : ∀ w ∈ u_ws RX0 TX0 16, w ∈ wsX1_init := fun _ h => List.mem_cons_of_mem _ (List.mem_append_left _ (List.mem_append_right _ h))
  refine lv_aload_n hx hb dX1_init_0 rfl (lv_at hl 0 rfl) ?_
  refine g_obj hc hl.1 (List.mem_of_getElem? (i := 1) rfl) (List.mem_of_getElem? (i := 2) rfl) (List.mem_of_getElem? (i := 3) rfl) (Nat.le_of_ble_eq_true rfl) (Nat.le_of_ble_eq_true rfl) dX1_init_1 ?_
  refine lv_aload_n hx hb dX1_init_4 rfl (lv_at hl 0 rfl) ?_
  refine g_new (ci := 0) (fs := gx_f0) hc hw hin1 tyX0 tyX0_ok (List.mem_of_getElem? (i := 4) rfl) (List.mem_of_getElem? (i := 5) rfl) (List.mem_of_getElem? (i := 6) rfl) rfl (fun j hj => by rcases (show j = 0 ∨ j = 1 ∨ j = 2 ∨ j = 3 ∨ j = 4 ∨ j = 5 ∨ j = 6 ∨ j = 7 ∨ j = 8 ∨ j = 9 ∨ j = 10 ∨ j = 11 ∨ j = 12 ∨ j = 13 ∨ j = 14 ∨ j = 15 by omega) with rfl | rfl | rfl | rfl | rfl | rfl | rfl | rfl | rfl | rfl | rfl | rfl | rfl | rfl | rfl | rfl <;> rfl) (Nat.le_of_ble_eq_true rfl) (Nat.le_of_ble_eq_true rfl) dX1_init_5 (fun q0 H locs hw => ?_)
  refine lv_dup hx hb dX1_init_8 rfl ?_
  refine n_callI (wc := [(q0, .inr (0, gx_f0))]) (wr := [(h, .inr (1, [.null, .null]))]) hc hw (k_X0_init l D cI cZ cL q0) gX1_init_X0_init rfl (List.mem_of_getElem? (i := 6) rfl) (List.mem_of_getElem? (i := 9) rfl) (List.mem_of_getElem? (i := 10) rfl) rfl (by decide +kernel) ⟨Nat.le_of_ble_eq_true rfl, Nat.le_of_ble_eq_true rfl⟩ [1] [0] rfl rfl rfl (by decide) rfl hl.1 (Nat.le_of_ble_eq_true rfl) dX1_init_9 rfl rfl ⟨Nat.le_of_ble_eq_true rfl, Nat.le_of_ble_eq_true rfl⟩ (fun w0 H locs hg hw => ?_)
  obtain ⟨a, rfl, rfl⟩ := hg
  refine g_putF hc hnm hw hin0 tyX1 tyX1_ok nmX1 0 0 rfl rfl (by decide) (List.mem_of_getElem? (i := 7) rfl) rfl rfl rfl rfl (Nat.le_of_ble_eq_true rfl) (w' := ((h, .inr (1, [.ref (a 0), .null])) :: wt_c a cI cZ 0 0 0 ct_0)) rfl dX1_init_12 (fun H locs hw => ?_)
  refine lv_aload_n hx hb dX1_init_15 rfl (lv_at hl 0 rfl) ?_
  refine g_new (ci := 0) (fs := gx_f0) hc hw hin1 tyX0 tyX0_ok (List.mem_of_getElem? (i := 4) rfl) (List.mem_of_getElem? (i := 5) rfl) (List.mem_of_getElem? (i := 6) rfl) rfl (fun j hj => by rcases (show j = 0 ∨ j = 1 ∨ j = 2 ∨ j = 3 ∨ j = 4 ∨ j = 5 ∨ j = 6 ∨ j = 7 ∨ j = 8 ∨ j = 9 ∨ j = 10 ∨ j = 11 ∨ j = 12 ∨ j = 13 ∨ j = 14 ∨ j = 15 by omega) with rfl | rfl | rfl | rfl | rfl | rfl | rfl | rfl | rfl | rfl | rfl | rfl | rfl | rfl | rfl | rfl <;> rfl) (Nat.le_of_ble_eq_true rfl) (Nat.le_of_ble_eq_true rfl) dX1_init_16 (fun q1 H locs hw => ?_)
  refine lv_dup hx hb dX1_init_19 rfl ?_
  refine n_callI (wc := [(q1, .inr (0, gx_f0))]) (wr := ((h, .inr (1, [.ref (a 0), .null])) :: wt_c a cI cZ 0 0 0 ct_0)) hc hw (k_X0_init l D cI cZ cL q1) gX1_init_X0_init rfl (List.mem_of_getElem? (i := 6) rfl) (List.mem_of_getElem? (i := 9) rfl) (List.mem_of_getElem? (i := 10) rfl) rfl (by decide +kernel) ⟨Nat.le_of_ble_eq_true rfl, Nat.le_of_ble_eq_true rfl⟩ [12] [0, 1, 2, 3, 4, 5, 6, 7, 8, 9, 10, 11] rfl rfl rfl (by decide) rfl hl.1 (Nat.le_of_ble_eq_true rfl) dX1_init_20 rfl rfl ⟨Nat.le_of_ble_eq_true rfl, Nat.le_of_ble_eq_true rfl⟩ (fun w1 H locs hg hw => ?_)
  obtain ⟨a2, rfl, rfl⟩ := hg
  refine g_putF hc hnm hw hin0 tyX1 tyX1_ok nmX1 0 1 rfl rfl (by decide) (List.mem_of_getElem? (i := 8) rfl) rfl rfl rfl rfl (Nat.le_of_ble_eq_true rfl) (w' := (wb_c h a a2 cI cZ 0 0 0 ct_0 0 0 0 ct_0)) rfl dX1_init_23 (fun H locs hw => ?_)
  exact n_vret hc hw ⟨a, a2, rfl⟩ (Nat.le_of_ble_eq_true rfl) (Nat.le_of_ble_eq_true rfl) dX1_init_26
