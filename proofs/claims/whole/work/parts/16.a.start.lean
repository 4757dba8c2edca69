/-! 16.a: the law, from its entry -/
section LS
theorem l_exit {p : Program} {l : Launch} {e : Env} {s : State} {m : MethodId} {below : List Frame} {meth : Method} {c0 : Code} {b0 L : Nat} {xs : Nat → Int32} {D : va_G} {cI cZ cL : ClassId} (hC : LC p s m meth c0 b0 L xs D cI cZ cL) {H : Heap} {locs : List Loc} {ls : Array Slot} {k n9 : Nat} (hf : ∀ q ∈ locs, s.heap.size ≤ q.base) (h1 : k ≤ 642976) (h2 : n9 ≤ 7167177) : W p l e room_1 s m #[Value.ref b0] below meth c0 H locs k n9 (lw_Z below #[Value.ref b0] s) (F0 m 1846 ls []) := by
  obtain ⟨hc, hTx, hX, hb0⟩ := hC
  obtain ⟨hx, hb, hr, hml, hown, hts, hlk, hK9, hA⟩ := id hc
  refine va_forget hf ?_
  refine W.widen h1 h2 ?_
  refine lv_iconst (v := 1) hx hb dL_law_1846 (by decide) ?_
  refine W.base ?_
  exact lw_ret (Drawn.sameBut.refl s.drawn lw_cs) hx hb hr hlk dL_law_1847
theorem l_gt {L c : Nat} (hL : L ≤ 1536) (hc : c ≤ L) : Int32.ofNat L - 3 < nI c ↔ L < c + 3 := by
  show nI L - 3 < nI c ↔ L < c + 3
  by_cases h : 3 ≤ L
  · rw [show nI L - 3 = nI (L - 3) from i_sub (a := L) (c := 3) h, nI_ltI (by omega) (by omega)]; omega
  · have h9 : (L = 0 ∧ c = 0) ∨ (L = 1 ∧ c = 0) ∨ (L = 1 ∧ c = 1) ∨ (L = 2 ∧ c = 0) ∨ (L = 2 ∧ c = 1) ∨ (L = 2 ∧ c = 2) := by omega
    rcases h9 with ⟨rfl, rfl⟩ | ⟨rfl, rfl⟩ | ⟨rfl, rfl⟩ | ⟨rfl, rfl⟩ | ⟨rfl, rfl⟩ | ⟨rfl, rfl⟩ <;> decide
set_option maxHeartbeats 4000000 in
set_option maxRecDepth 100000 in
theorem l_loop {p : Program} {l : Launch} {e : Env} {s : State} {m : MethodId} {below : List Frame} {meth : Method} {c0 : Code} {b0 L : Nat} {xs : Nat → Int32} {D : va_G} {cI cZ cL : ClassId} {h hm o : Nat} {a a2 am am2 : Nat → Nat} (hC : LC p s m meth c0 b0 L xs D cI cZ cL) (hst : l.stackTraces = false) (hL : L ≤ 1536) : ∀ (t c : Nat), L + 1 ≤ c + t → c ≤ L → LH p l e s m below meth c0 b0 D cI cZ cL h hm o a a2 am am2 c := by
  intro t
  induction t with
  | zero => intro c h1 h2; omega
  | succ t ih =>
    intro c h1 h2 H locs ls th w b n T M w2 b2 n2 T2 w3 b3 n3 M2 f hok hR hw hl
    obtain ⟨hc, hTx, hX, hb0⟩ := id hC
    obtain ⟨hx, hb, hr, hml, hown, hts, hlk, hK9, hA⟩ := id hc
    have hbA : ¬ (fun q : Nat => s.heap.size ≤ q) b0 := Nat.not_le.mpr hb0
    refine lv_iload hx hb dL_law_23 (lv_at hl 0 rfl) ?_
    refine lv_aload_n hx hb dL_law_25 rfl (lv_at hl 1 rfl) ?_
    refine va_slen hx hb hX hb0 hbA hw.2.2 dL_law_26 ?_
    refine lv_iconst (v := 3) hx hb dL_law_27 (by decide) ?_
    refine lv_isub hx hb dL_law_28 ?_
    refine lv_icmp_gt (tgt := 1846) hx hb dL_law_29 (by decide) (fun z => ?_) (fun z => ?_)
    · exact l_exit hC hw.2.2.2.2 (by omega) (by omega)
    · have hcL : c + 3 ≤ L := Nat.not_lt.mp (fun y => z ((l_gt hL h2).mpr y))
      have hK : LH p l e s m below meth c0 b0 D cI cZ cL h hm o a a2 am am2 (c + 3) := ih (c + 3) (by omega) hcL
      refine lv_aload_n hx hb dL_law_32 rfl (lv_at hl 1 rfl) ?_
      refine lv_iload hx hb dL_law_33 (lv_at hl 0 rfl) ?_
      refine va_sld hx hb hX hb0 hbA hw.2.2 (vp_in_nI (show c < L by omega) (by omega)) dL_law_35 ?_
      refine lv_bipush (v := 63) hx hb dL_law_36 (by decide) ?_
      refine lv_iand hx hb dL_law_38 ?_
      generalize xs (nI c).toNatClampNeg &&& 63 = v
      by_cases hv : v.toInt < 0 ∨ 37 < v.toInt
      · refine lv_tableOut (tgt := 1840) hx hb dL_law_39 hv rfl ?_
        exact l_back hC hK hok hR hw hl (by omega) (by omega)
      have hk : v.toInt = 0 ∨ v.toInt = 1 ∨ v.toInt = 2 ∨ v.toInt = 3 ∨ v.toInt = 4 ∨ v.toInt = 5 ∨ v.toInt = 6 ∨ v.toInt = 7 ∨ v.toInt = 8 ∨ v.toInt = 9 ∨ v.toInt = 10 ∨ v.toInt = 11 ∨ v.toInt = 12 ∨ v.toInt = 13 ∨ v.toInt = 14 ∨ v.toInt = 15 ∨ v.toInt = 16 ∨ v.toInt = 17 ∨ v.toInt = 18 ∨ v.toInt = 19 ∨ v.toInt = 20 ∨ v.toInt = 21 ∨ v.toInt = 22 ∨ v.toInt = 23 ∨ v.toInt = 24 ∨ v.toInt = 25 ∨ v.toInt = 26 ∨ v.toInt = 27 ∨ v.toInt = 28 ∨ v.toInt = 29 ∨ v.toInt = 30 ∨ v.toInt = 31 ∨ v.toInt = 32 ∨ v.toInt = 33 ∨ v.toInt = 34 ∨ v.toInt = 35 ∨ v.toInt = 36 ∨ v.toInt = 37 := by omega
      rcases hk with hk | hk | hk | hk | hk | hk | hk | hk | hk | hk | hk | hk | hk | hk | hk | hk | hk | hk | hk | hk | hk | hk | hk | hk | hk | hk | hk | hk | hk | hk | hk | hk | hk | hk | hk | hk | hk | hk
      · refine lv_tableIn (off := 165) (tgt := 204) hx hb dL_law_39 (by omega) (by omega) (by rw [hk]; rfl) rfl ?_
        exact l_case_addWard hC hst hcL hL hK hok hR hw hl
      · refine lv_tableIn (off := 221) (tgt := 260) hx hb dL_law_39 (by omega) (by omega) (by rw [hk]; rfl) rfl ?_
        exact l_case_addBarge hC hst hcL hL hK hok hR hw hl
      · refine lv_tableIn (off := 277) (tgt := 316) hx hb dL_law_39 (by omega) (by omega) (by rw [hk]; rfl) rfl ?_
        exact l_case_board hC hst hcL hL hK hok hR hw hl
      · refine lv_tableIn (off := 345) (tgt := 384) hx hb dL_law_39 (by omega) (by omega) (by rw [hk]; rfl) rfl ?_
        exact l_case_setBowls hC hst hcL hL hK hok hR hw hl
      · refine lv_tableIn (off := 401) (tgt := 440) hx hb dL_law_39 (by omega) (by omega) (by rw [hk]; rfl) rfl ?_
        exact l_case_layStraw hC hst hcL hL hK hok hR hw hl
      · refine lv_tableIn (off := 457) (tgt := 496) hx hb dL_law_39 (by omega) (by omega) (by rw [hk]; rfl) rfl ?_
        exact l_case_carry hC hst hcL hL hK hok hR hw hl
      · refine lv_tableIn (off := 525) (tgt := 564) hx hb dL_law_39 (by omega) (by omega) (by rw [hk]; rfl) rfl ?_
        exact l_case_pass hC hst hcL hL hK hok hR hw hl
      · refine lv_tableIn (off := 581) (tgt := 620) hx hb dL_law_39 (by omega) (by omega) (by rw [hk]; rfl) rfl ?_
        exact l_case_feverOf hC hst hcL hL hK hok hR hw hl
      · refine lv_tableIn (off := 637) (tgt := 676) hx hb dL_law_39 (by omega) (by omega) (by rw [hk]; rfl) rfl ?_
        exact l_case_wardOf hC hst hcL hL hK hok hR hw hl
      · refine lv_tableIn (off := 693) (tgt := 732) hx hb dL_law_39 (by omega) (by omega) (by rw [hk]; rfl) rfl ?_
        exact l_case_bargeOf hC hst hcL hL hK hok hR hw hl
      · refine lv_tableIn (off := 749) (tgt := 788) hx hb dL_law_39 (by omega) (by omega) (by rw [hk]; rfl) rfl ?_
        exact l_case_isHome hC hst hcL hL hK hok hR hw hl
      · refine lv_tableIn (off := 812) (tgt := 851) hx hb dL_law_39 (by omega) (by omega) (by rw [hk]; rfl) rfl ?_
        exact l_case_isInGreatHouse hC hst hcL hL hK hok hR hw hl
      · refine lv_tableIn (off := 875) (tgt := 914) hx hb dL_law_39 (by omega) (by omega) (by rw [hk]; rfl) rfl ?_
        exact l_case_hungryDaysOf hC hst hcL hL hK hok hR hw hl
      · refine lv_tableIn (off := 931) (tgt := 970) hx hb dL_law_39 (by omega) (by omega) (by rw [hk]; rfl) rfl ?_
        exact l_case_placesOf hC hst hcL hL hK hok hR hw hl
      · refine lv_tableIn (off := 987) (tgt := 1026) hx hb dL_law_39 (by omega) (by omega) (by rw [hk]; rfl) rfl ?_
        exact l_case_peopleIn hC hst hcL hL hK hok hR hw hl
      · refine lv_tableIn (off := 1043) (tgt := 1082) hx hb dL_law_39 (by omega) (by omega) (by rw [hk]; rfl) rfl ?_
        exact l_case_strawOf hC hst hcL hL hK hok hR hw hl
      · refine lv_tableIn (off := 1099) (tgt := 1138) hx hb dL_law_39 (by omega) (by omega) (by rw [hk]; rfl) rfl ?_
        exact l_case_feversIn hC hst hcL hL hK hok hR hw hl
      · refine lv_tableIn (off := 1155) (tgt := 1194) hx hb dL_law_39 (by omega) (by omega) (by rw [hk]; rfl) rfl ?_
        exact l_case_daysToGo hC hst hcL hL hK hok hR hw hl
      · refine lv_tableIn (off := 1211) (tgt := 1250) hx hb dL_law_39 (by omega) (by omega) (by rw [hk]; rfl) rfl ?_
        exact l_case_keptFor hC hst hcL hL hK hok hR hw hl
      · refine lv_tableIn (off := 1267) (tgt := 1306) hx hb dL_law_39 (by omega) (by omega) (by rw [hk]; rfl) rfl ?_
        exact l_case_peopleOn hC hst hcL hL hK hok hR hw hl
      · refine lv_tableIn (off := 1323) (tgt := 1362) hx hb dL_law_39 (by omega) (by omega) (by rw [hk]; rfl) rfl ?_
        exact l_case_highestFeverOn hC hst hcL hL hK hok hR hw hl
      · refine lv_tableIn (off := 1379) (tgt := 1418) hx hb dL_law_39 (by omega) (by omega) (by rw [hk]; rfl) rfl ?_
        exact l_case_day hC hst hcL hL hK hok hR hw hl
      · refine lv_tableIn (off := 1392) (tgt := 1431) hx hb dL_law_39 (by omega) (by omega) (by rw [hk]; rfl) rfl ?_
        exact l_case_wards hC hst hcL hL hK hok hR hw hl
      · refine lv_tableIn (off := 1405) (tgt := 1444) hx hb dL_law_39 (by omega) (by omega) (by rw [hk]; rfl) rfl ?_
        exact l_case_barges hC hst hcL hL hK hok hR hw hl
      · refine lv_tableIn (off := 1418) (tgt := 1457) hx hb dL_law_39 (by omega) (by omega) (by rw [hk]; rfl) rfl ?_
        exact l_case_people hC hst hcL hL hK hok hR hw hl
      · refine lv_tableIn (off := 1431) (tgt := 1470) hx hb dL_law_39 (by omega) (by omega) (by rw [hk]; rfl) rfl ?_
        exact l_case_bowls hC hst hcL hL hK hok hR hw hl
      · refine lv_tableIn (off := 1444) (tgt := 1483) hx hb dL_law_39 (by omega) (by omega) (by rw [hk]; rfl) rfl ?_
        exact l_case_freePlaces hC hst hcL hL hK hok hR hw hl
      · refine lv_tableIn (off := 1457) (tgt := 1496) hx hb dL_law_39 (by omega) (by omega) (by rw [hk]; rfl) rfl ?_
        exact l_case_bowlsShort hC hst hcL hL hK hok hR hw hl
      · refine lv_tableIn (off := 1470) (tgt := 1509) hx hb dL_law_39 (by omega) (by omega) (by rw [hk]; rfl) rfl ?_
        exact l_case_peopleHome hC hst hcL hL hK hok hR hw hl
      · refine lv_tableIn (off := 1483) (tgt := 1522) hx hb dL_law_39 (by omega) (by omega) (by rw [hk]; rfl) rfl ?_
        exact l_case_peopleInGreatHouse hC hst hcL hL hK hok hR hw hl
      · refine lv_tableIn (off := 1496) (tgt := 1535) hx hb dL_law_39 (by omega) (by omega) (by rw [hk]; rfl) rfl ?_
        exact l_case_bowlsEaten hC hst hcL hL hK hok hR hw hl
      · refine lv_tableIn (off := 1509) (tgt := 1548) hx hb dL_law_39 (by omega) (by omega) (by rw [hk]; rfl) rfl ?_
        exact l_case_daysUntilHome hC hst hcL hL hK hok hR hw hl
      · refine lv_tableIn (off := 1565) (tgt := 1604) hx hb dL_law_39 (by omega) (by omega) (by rw [hk]; rfl) rfl ?_
        exact l_case_homeAfter hC hst hcL hL hK hok hR hw hl
      · refine lv_tableIn (off := 1621) (tgt := 1660) hx hb dL_law_39 (by omega) (by omega) (by rw [hk]; rfl) rfl ?_
        exact l_case_greatHouseAfter hC hst hcL hL hK hok hR hw hl
      · refine lv_tableIn (off := 1677) (tgt := 1716) hx hb dL_law_39 (by omega) (by omega) (by rw [hk]; rfl) rfl ?_
        exact l_case_bestStraw hC hst hcL hL hK hok hR hw hl
      · refine lv_tableIn (off := 1733) (tgt := 1772) hx hb dL_law_39 (by omega) (by omega) (by rw [hk]; rfl) rfl ?_
        exact l_case_bowlsNeeded hC hst hcL hL hK hok hR hw hl
      · refine lv_tableIn (off := 1746) (tgt := 1785) hx hb dL_law_39 (by omega) (by omega) (by rw [hk]; rfl) rfl ?_
        exact l_case_meanFever hC hst hcL hL hK hok hR hw hl
      · refine lv_tableIn (off := 1787) (tgt := 1826) hx hb dL_law_39 (by omega) (by omega) (by rw [hk]; rfl) rfl ?_
        exact l_case_digest hC hst hcL hL hK hok hR hw hl
theorem l_m1 : Cond.classLink RL 8 RX1 ∈ wsL_law ∧ Cond.instantiable RX1 2 ∈ wsL_law ∧ Cond.initialized RX1 ∈ wsL_law ∧ Cond.methodLink RL 93 yX1_init ∈ wsL_law ∧ Cond.instanceMethod yX1_init ∈ wsL_law := by decide +kernel
theorem l_m3 : Cond.classLink RL 94 RX3 ∈ wsL_law ∧ Cond.instantiable RX3 3 ∈ wsL_law ∧ Cond.initialized RX3 ∈ wsL_law ∧ Cond.methodLink RL 96 yX3_init ∈ wsL_law ∧ Cond.instanceMethod yX3_init ∈ wsL_law ∧ Cond.arrayClass .long ∈ wsL_law := by decide +kernel
set_option maxHeartbeats 4000000 in
set_option maxRecDepth 100000 in
/-- from the entry, for every script of at most 1536 ints, the law comes to its end with true -/
theorem whole_start {p : Program} {e : Env} {s : State} {m : MethodId} {below : List Frame} {meth : Method} {c : Code} (l : Launch) (hflags : l.flags = flags0) {b L : Nat} {xs : Nat → Int32} (hL : L ≤ 1536) (C0 : lw_At p s m meth c b L xs) : W p l e room_1 s m #[Value.ref b] below meth c s.heap [] 0 0 (lw_Z below #[Value.ref b] s) (entryFrame m ([Value.ref b] : List Value).toArray 9) := by
  obtain ⟨hx, hb, hr, hml, hown, hts, hX, hbl, hlocks, hgv⟩ := id C0
  obtain ⟨D, cI, cZ, cL, hK⟩ := l_K hts
  have hTx := l_Tx hts hgv
  have hst : l.stackTraces = false := by unfold Launch.stackTraces; rw [hflags]; decide
  have hC : LC p s m meth c b L xs D cI cZ cL := ⟨⟨hx, hb, hr, hml, hown, fun w h => hts w (wsL_law_in w h), hlocks, hK, fun q h => h⟩, hTx, hX, hbl⟩
  have hl := lv_entry ([.ref b]) (n := 9) (Nat.le_of_ble_eq_true rfl)
  rw [lg_entry_eq]
  generalize (lg_sl ([.ref b]) ++ List.replicate (9 - (lg_sl ([.ref b])).length) Slot.unset).toArray = ls at hl ⊢
  have hl : lv_has ls 9 [(0, .ref b)] := hl
  have hc := hC.1
  have hw : Wo D (fun q => s.heap.size ≤ q) s.heap [] s.heap [] := ⟨fun k q h => by simp at h, ⟨fun i j p q h => by simp at h, fun k q h => by simp at h⟩, va_S.rf⟩
  refine g_new (ci := 1) (fs := gx_f1) hc hw inlX1 tyX1 tyX1_ok l_m1.1 l_m1.2.1 l_m1.2.2.1 rfl (fun j hj => by rcases (show j = 0 ∨ j = 1 by omega) with rfl | rfl <;> rfl) (Nat.le_of_ble_eq_true rfl) (Nat.le_of_ble_eq_true rfl) dL_law_0 (fun h H locs hw => ?_)
  refine lv_dup hx hb dL_law_3 rfl ?_
  refine n_callI (wc := [(h, .inr (1, gx_f1))]) (wr := []) hc hw (k_X1_init l D cI cZ cL h) gL_law_X1_init rfl l_m1.2.2.1 l_m1.2.2.2.1 l_m1.2.2.2.2 rfl (by decide +kernel) ⟨Nat.le_of_ble_eq_true rfl, Nat.le_of_ble_eq_true rfl⟩ [0] [] rfl rfl rfl (by decide) rfl hl.1 (Nat.le_of_ble_eq_true rfl) dL_law_4 (k2 := 23) (s2 := 380) rfl rfl ⟨Nat.le_of_ble_eq_true rfl, Nat.le_of_ble_eq_true rfl⟩ (fun w1 H locs hg hw => ?_)
  obtain ⟨a, a2, rfl⟩ := hg
  refine lv_astore_n (lv' := [(1, .ref h), (0, .ref b)]) hx hb dL_law_7 rfl hl (by decide) rfl (fun ls hl => ?_)
  refine g_new (ci := 3) (fs := gx_f3) hc hw inlX3 tyX3 tyX3_ok l_m3.1 l_m3.2.1 l_m3.2.2.1 rfl (fun j hj => by rcases (show j = 0 ∨ j = 1 ∨ j = 2 by omega) with rfl | rfl | rfl <;> rfl) (Nat.le_of_ble_eq_true rfl) (Nat.le_of_ble_eq_true rfl) dL_law_8 (fun hm H locs hw => ?_)
  refine lv_dup hx hb dL_law_11 rfl ?_
  refine n_callI (wc := [(hm, .inr (3, gx_f3))]) (wr := wb_c h a a2 cI cZ 0 0 0 ct_0 0 0 0 ct_0) hc hw (k_X3_init l D cI cZ cL hm) gL_law_X3_init rfl l_m3.2.2.1 l_m3.2.2.2.1 l_m3.2.2.2.2.1 rfl (by decide +kernel) ⟨Nat.le_of_ble_eq_true rfl, Nat.le_of_ble_eq_true rfl⟩ [23] [0, 1, 2, 3, 4, 5, 6, 7, 8, 9, 10, 11, 12, 13, 14, 15, 16, 17, 18, 19, 20, 21, 22] rfl rfl rfl (by decide) rfl hl.1 (Nat.le_of_ble_eq_true rfl) dL_law_12 (k2 := 40) (s2 := 625) rfl rfl ⟨Nat.le_of_ble_eq_true rfl, Nat.le_of_ble_eq_true rfl⟩ (fun w1 H locs hg hw => ?_)
  obtain ⟨am, am2, rfl⟩ := hg
  refine lv_astore_n (lv' := [(2, .ref hm), (1, .ref h), (0, .ref b)]) hx hb dL_law_15 rfl hl (by decide) rfl (fun ls hl => ?_)
  refine lv_iconst (v := 1) hx hb dL_law_16 (by decide) ?_
  refine g_newL (N := 1) hc hw l_m3.2.2.2.2.2 (by decide) (by decide) (by decide) (Nat.le_of_ble_eq_true rfl) (Nat.le_of_ble_eq_true rfl) dL_law_17 (fun o H locs hw => ?_)
  refine lv_astore_n (lv' := [(3, .ref o), (2, .ref hm), (1, .ref h), (0, .ref b)]) hx hb dL_law_19 rfl hl (by decide) rfl (fun ls hl => ?_)
  refine lv_iconst (v := 0) hx hb dL_law_20 (by decide) ?_
  refine lv_istore (lv' := [(4, .int 0), (3, .ref o), (2, .ref hm), (1, .ref h), (0, .ref b)]) hx hb dL_law_21 hl (by decide) rfl (fun ls hl => ?_)
  have hw2 : Wo D (fun q => s.heap.size ≤ q) s.heap (Lw cI cZ cL h hm o a a2 am am2 0 0 0 0 ct_0 mt_0 0 0 0 ct_0 0 0 0 mt_0 (fun _ => 0)) H locs := hw.perm (by rw [List.append_assoc]; exact List.perm_append_comm_assoc _ _ _)
  have hl2 : lv_has ls 9 [(4, .int (nI 0)), (0, .ref b), (1, .ref h), (2, .ref hm), (3, .ref o)] := by rw [nI_0]; exact lv_sub hl [0, 4, 3, 2, 1] rfl
  refine W.widen (k := 60 + 0) (n := 700 + 6 * 0) (Nat.le_of_ble_eq_true rfl) (Nat.le_of_ble_eq_true rfl) ?_
  exact l_loop hC hst hL (L + 1) 0 (by omega) (Nat.zero_le L) _ _ _ _ _ _ _ _ _ _ _ _ _ _ _ _ _ _ ⟨⟨by omega, by omega, by omega⟩, ⟨by omega, by omega, by omega⟩, by omega, by omega, by omega⟩ RR_0 hw2 hl2
end LS