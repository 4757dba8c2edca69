set_option maxHeartbeats 4000000 in
set_option maxRecDepth 100000 in
theorem l_case_bowlsNeeded {p : Program} {l : Launch} {e : Env} {s : State} {m : MethodId} {below : List Frame} {meth : Method} {c0 : Code} {b0 L : Nat} {xs : Nat → Int32} {D : va_G} {cI cZ cL : ClassId} {h hm o : Nat} {a a2 am am2 : Nat → Nat} (hC : LC p s m meth c0 b0 L xs D cI cZ cL) (hst : l.stackTraces = false) {c : Nat} (hcL : c + 3 ≤ L) (hL : L ≤ 1536) (hK : LH p l e s m below meth c0 b0 D cI cZ cL h hm o a a2 am am2 (c + 3)) {H : Heap} {locs : List Loc} {ls : Array Slot} {th : Int32} {w b n : Nat} {T : ct_T} {M : mt_T} {w2 b2 n2 : Nat} {T2 : ct_T} {w3 b3 n3 : Nat} {M2 : mt_T} {f : Nat → Int64} (hok : Lok w b n w2 b2 n2 w3 b3 n3) (hR : RR w b n T M) (hw : Wo D (fun q => s.heap.size ≤ q) s.heap (Lw cI cZ cL h hm o a a2 am am2 th w b n T M w2 b2 n2 T2 w3 b3 n3 M2 f) H locs) (hl : lv_has ls 9 [(4, .int (nI c)), (0, .ref b0), (1, .ref h), (2, .ref hm), (3, .ref o)]) : W p l e room_1 s m #[Value.ref b0] below meth c0 H locs (60 + c) (700 + 6 * c) (lw_Z below #[Value.ref b0] s) (F0 m 1772 ls []) := by
  obtain ⟨hc, hTx, hX, hb0⟩ := id hC
  obtain ⟨hx, hb, hr, hml, hown, hts, hlk, hK9, hA⟩ := id hc
  obtain ⟨⟨o1, o2, o3⟩, ⟨o4, o5, o6⟩, ⟨o7, o8, o9⟩⟩ := id hok
  have hop := op_bowlsNeeded (w2 := w2) (b2 := b2) (n2 := n2) (T2 := T2) (w3 := w3) (b3 := b3) (n3 := n3) (M2 := M2) (th := th) o1 o2 o3 hR
  refine lv_aload_n hx hb dL_law_1772 rfl (lv_at hl 2 rfl) ?_
  refine p_callV (n := 0) (As := []) (rest := []) (q0 := 0) (J := fun w1 => wb_m hm am am2 cI th w b n M w3 b3 n3 M2 ++ (w1 ++ [(o, .inl (cL, 1, .inr (.inl f)))])) hc hw.2.2 (Pt.mid (pre := wb_m hm am am2 cI th w b n M w3 b3 n3 M2) (wc := wb_c h a a2 cI cZ w b n T w2 b2 n2 T2) (suf := [(o, .inl (cL, 1, .inr (.inl f)))]) hw hA) (k_X1_bowlsNeeded l D cI cZ cL h a a2 w b n T w2 b2 n2 T2 o1 o2 o3 o4 o5 o6) gL_law_X1_bowlsNeeded rfl (by decide +kernel) ⟨Nat.le_of_ble_eq_true rfl, Nat.le_of_ble_eq_true rfl⟩ (wo_X1_H ..) rfl rfl rfl rfl hl.1 (Nat.le_of_ble_eq_true rfl) (st1 := [.int (r_X1_bowlsNeeded w b n T w2 b2 n2 T2)]) rfl dL_law_1773 (k2 := 60 + c + 0) (s2 := 700 + 6 * c + 0) rfl rfl ⟨(Nat.le_trans (show 60 + c + 0 ≤ 20000 by omega) (Nat.le_of_ble_eq_true rfl)), (Nat.le_trans (show 700 + 6 * c + 0 ≤ 40000 by omega) (Nat.le_of_ble_eq_true rfl))⟩ (fun H locs hw => ?_)
  rw [hop]
  refine lv_aload_n hx hb dL_law_1776 rfl (lv_at hl 3 rfl) ?_
  refine p_callV (n := 0) (As := []) (rest := [.int (r_X3_bowlsNeeded th w b n M w3 b3 n3 M2)]) (q0 := 0) hc hw.2.2 (Pt.front (wc := wb_m hm am am2 cI th w b n M w3 b3 n3 M2) hw hA) (k_X3_bowlsNeeded l D cI cZ cL hm am am2 th w b n M w3 b3 n3 M2 o1 o2 o3 o7 o8 o9) gL_law_X3_bowlsNeeded rfl (by decide +kernel) ⟨Nat.le_of_ble_eq_true rfl, Nat.le_of_ble_eq_true rfl⟩ (wo_X3_H ..) rfl rfl rfl rfl hl.1 (Nat.le_of_ble_eq_true rfl) (st1 := [.int (r_X3_bowlsNeeded th w b n M w3 b3 n3 M2), .int (r_X3_bowlsNeeded th w b n M w3 b3 n3 M2)]) rfl dL_law_1777 (k2 := 60 + c + 0 + 0) (s2 := 700 + 6 * c + 0 + 0) rfl rfl ⟨(Nat.le_trans (show 60 + c + 0 + 0 ≤ 20000 by omega) (Nat.le_of_ble_eq_true rfl)), (Nat.le_trans (show 700 + 6 * c + 0 + 0 ≤ 40000 by omega) (Nat.le_of_ble_eq_true rfl))⟩ (fun H locs hw => ?_)
  refine lv_icmp_eq (tgt := 1840) hx hb dL_law_1780 (by decide) (fun _ => ?_) (fun z => absurd rfl z)
  exact l_back hC hK hok hR hw hl (by omega) (by omega)
set_option maxHeartbeats 4000000 in
set_option maxRecDepth 100000 in
theorem l_case_meanFever {p : Program} {l : Launch} {e : Env} {s : State} {m : MethodId} {below : List Frame} {meth : Method} {c0 : Code} {b0 L : Nat} {xs : Nat → Int32} {D : va_G} {cI cZ cL : ClassId} {h hm o : Nat} {a a2 am am2 : Nat → Nat} (hC : LC p s m meth c0 b0 L xs D cI cZ cL) (hst : l.stackTraces = false) {c : Nat} (hcL : c + 3 ≤ L) (hL : L ≤ 1536) (hK : LH p l e s m below meth c0 b0 D cI cZ cL h hm o a a2 am am2 (c + 3)) {H : Heap} {locs : List Loc} {ls : Array Slot} {th : Int32} {w b n : Nat} {T : ct_T} {M : mt_T} {w2 b2 n2 : Nat} {T2 : ct_T} {w3 b3 n3 : Nat} {M2 : mt_T} {f : Nat → Int64} (hok : Lok w b n w2 b2 n2 w3 b3 n3) (hR : RR w b n T M) (hw : Wo D (fun q => s.heap.size ≤ q) s.heap (Lw cI cZ cL h hm o a a2 am am2 th w b n T M w2 b2 n2 T2 w3 b3 n3 M2 f) H locs) (hl : lv_has ls 9 [(4, .int (nI c)), (0, .ref b0), (1, .ref h), (2, .ref hm), (3, .ref o)]) : W p l e room_1 s m #[Value.ref b0] below meth c0 H locs (60 + c) (700 + 6 * c) (lw_Z below #[Value.ref b0] s) (F0 m 1785 ls []) := by
  obtain ⟨hc, hTx, hX, hb0⟩ := id hC
  obtain ⟨hx, hb, hr, hml, hown, hts, hlk, hK9, hA⟩ := id hc
  obtain ⟨⟨o1, o2, o3⟩, ⟨o4, o5, o6⟩, ⟨o7, o8, o9⟩⟩ := id hok
  have hop := op_meanFever (w2 := w2) (b2 := b2) (n2 := n2) (T2 := T2) (w3 := w3) (b3 := b3) (n3 := n3) (M2 := M2) (th := th) o1 o2 o3 hR
  refine lv_aload_n hx hb dL_law_1785 rfl (lv_at hl 2 rfl) ?_
  refine p_callV (n := 0) (As := []) (rest := []) (q0 := 0) (J := fun w1 => wb_m hm am am2 cI th w b n M w3 b3 n3 M2 ++ (w1 ++ [(o, .inl (cL, 1, .inr (.inl f)))])) hc hw.2.2 (Pt.mid (pre := wb_m hm am am2 cI th w b n M w3 b3 n3 M2) (wc := wb_c h a a2 cI cZ w b n T w2 b2 n2 T2) (suf := [(o, .inl (cL, 1, .inr (.inl f)))]) hw hA) (k_X1_meanFever l D cI cZ cL h a a2 w b n T w2 b2 n2 T2 o1 o2 o3 o4 o5 o6) gL_law_X1_meanFever rfl (by decide +kernel) ⟨Nat.le_of_ble_eq_true rfl, Nat.le_of_ble_eq_true rfl⟩ (wo_X1_H ..) rfl rfl rfl rfl hl.1 (Nat.le_of_ble_eq_true rfl) (st1 := [.double (r_X1_meanFever w b n T w2 b2 n2 T2)]) rfl dL_law_1786 (k2 := 60 + c + 0) (s2 := 700 + 6 * c + 0) rfl rfl ⟨(Nat.le_trans (show 60 + c + 0 ≤ 20000 by omega) (Nat.le_of_ble_eq_true rfl)), (Nat.le_trans (show 700 + 6 * c + 0 ≤ 40000 by omega) (Nat.le_of_ble_eq_true rfl))⟩ (fun H locs hw => ?_)
  rw [hop]
  refine lv_dstore (lv' := [(5, .double (r_X3_meanFever th w b n M w3 b3 n3 M2)), (4, .int (nI c)), (0, .ref b0), (1, .ref h), (2, .ref hm), (3, .ref o)]) hx hb dL_law_1789 hl (by decide) rfl (fun ls hl => ?_)
  refine lv_aload_n hx hb dL_law_1791 rfl (lv_at hl 4 rfl) ?_
  refine p_callV (n := 0) (As := []) (rest := []) (q0 := 0) hc hw.2.2 (Pt.front (wc := wb_m hm am am2 cI th w b n M w3 b3 n3 M2) hw hA) (k_X3_meanFever l D cI cZ cL hm am am2 th w b n M w3 b3 n3 M2 o1 o2 o3 o7 o8 o9) gL_law_X3_meanFever rfl (by decide +kernel) ⟨Nat.le_of_ble_eq_true rfl, Nat.le_of_ble_eq_true rfl⟩ (wo_X3_H ..) rfl rfl rfl rfl hl.1 (Nat.le_of_ble_eq_true rfl) (st1 := [.double (r_X3_meanFever th w b n M w3 b3 n3 M2)]) rfl dL_law_1792 (k2 := 60 + c + 0 + 0) (s2 := 700 + 6 * c + 0 + 0) rfl rfl ⟨(Nat.le_trans (show 60 + c + 0 + 0 ≤ 20000 by omega) (Nat.le_of_ble_eq_true rfl)), (Nat.le_trans (show 700 + 6 * c + 0 + 0 ≤ 40000 by omega) (Nat.le_of_ble_eq_true rfl))⟩ (fun H locs hw => ?_)
  refine lv_dstore (lv' := [(7, .double (r_X3_meanFever th w b n M w3 b3 n3 M2)), (5, .double (r_X3_meanFever th w b n M w3 b3 n3 M2)), (4, .int (nI c)), (0, .ref b0), (1, .ref h), (2, .ref hm), (3, .ref o)]) hx hb dL_law_1795 hl (by decide) rfl (fun ls hl => ?_)
  refine lv_dload hx hb dL_law_1797 (lv_at hl 1 rfl) ?_
  refine lv_dload hx hb dL_law_1799 (lv_at hl 0 rfl) ?_
  refine lv_dcmp hx hb dL_law_1801 ?_
  refine lv_if_eq (tgt := 1823) hx hb dL_law_1802 (by decide) (fun z => ?_) (fun z => ?_)
  · refine lv_goto (tgt := 1840) hx hb dL_law_1823 (by decide) ?_
    exact l_back hC hK hok hR hw (lv_sub hl [2, 3, 4, 5, 6] rfl) (by omega) (by omega)
  · skip
    refine lv_dload hx hb dL_law_1805 (lv_at hl 1 rfl) ?_
    refine lv_dload hx hb dL_law_1807 (lv_at hl 1 rfl) ?_
    refine lv_dcmp hx hb dL_law_1809 ?_
    refine lv_if_eq (tgt := 1821) hx hb dL_law_1810 (by decide) (fun y => absurd y z) (fun y => ?_)
    · skip
      refine lv_dload hx hb dL_law_1813 (lv_at hl 0 rfl) ?_
      refine lv_dload hx hb dL_law_1815 (lv_at hl 0 rfl) ?_
      refine lv_dcmp hx hb dL_law_1817 ?_
      refine lv_if_ne (tgt := 1823) hx hb dL_law_1818 (by decide) (fun _ => ?_) (fun q => absurd q z)
      refine lv_goto (tgt := 1840) hx hb dL_law_1823 (by decide) ?_
      exact l_back hC hK hok hR hw (lv_sub hl [2, 3, 4, 5, 6] rfl) (by omega) (by omega)
set_option maxHeartbeats 4000000 in
set_option maxRecDepth 100000 in
theorem l_case_digest {p : Program} {l : Launch} {e : Env} {s : State} {m : MethodId} {below : List Frame} {meth : Method} {c0 : Code} {b0 L : Nat} {xs : Nat → Int32} {D : va_G} {cI cZ cL : ClassId} {h hm o : Nat} {a a2 am am2 : Nat → Nat} (hC : LC p s m meth c0 b0 L xs D cI cZ cL) (hst : l.stackTraces = false) {c : Nat} (hcL : c + 3 ≤ L) (hL : L ≤ 1536) (hK : LH p l e s m below meth c0 b0 D cI cZ cL h hm o a a2 am am2 (c + 3)) {H : Heap} {locs : List Loc} {ls : Array Slot} {th : Int32} {w b n : Nat} {T : ct_T} {M : mt_T} {w2 b2 n2 : Nat} {T2 : ct_T} {w3 b3 n3 : Nat} {M2 : mt_T} {f : Nat → Int64} (hok : Lok w b n w2 b2 n2 w3 b3 n3) (hR : RR w b n T M) (hw : Wo D (fun q => s.heap.size ≤ q) s.heap (Lw cI cZ cL h hm o a a2 am am2 th w b n T M w2 b2 n2 T2 w3 b3 n3 M2 f) H locs) (hl : lv_has ls 9 [(4, .int (nI c)), (0, .ref b0), (1, .ref h), (2, .ref hm), (3, .ref o)]) : W p l e room_1 s m #[Value.ref b0] below meth c0 H locs (60 + c) (700 + 6 * c) (lw_Z below #[Value.ref b0] s) (F0 m 1826 ls []) := by
  obtain ⟨hc, hTx, hX, hb0⟩ := id hC
  obtain ⟨hx, hb, hr, hml, hown, hts, hlk, hK9, hA⟩ := id hc
  obtain ⟨⟨o1, o2, o3⟩, ⟨o4, o5, o6⟩, ⟨o7, o8, o9⟩⟩ := id hok
  have hop := op_digest (w2 := w2) (b2 := b2) (n2 := n2) (T2 := T2) (w3 := w3) (b3 := b3) (n3 := n3) (M2 := M2) (th := th) o1 o2 o3 hR
  refine lv_aload_n hx hb dL_law_1826 rfl (lv_at hl 2 rfl) ?_
  refine p_callV (n := 0) (As := []) (rest := []) (q0 := 0) (J := fun w1 => wb_m hm am am2 cI th w b n M w3 b3 n3 M2 ++ (w1 ++ [(o, .inl (cL, 1, .inr (.inl f)))])) hc hw.2.2 (Pt.mid (pre := wb_m hm am am2 cI th w b n M w3 b3 n3 M2) (wc := wb_c h a a2 cI cZ w b n T w2 b2 n2 T2) (suf := [(o, .inl (cL, 1, .inr (.inl f)))]) hw hA) (k_X1_digest l D cI cZ cL h a a2 w b n T w2 b2 n2 T2 o1 o2 o3 o4 o5 o6) gL_law_X1_digest rfl (by decide +kernel) ⟨Nat.le_of_ble_eq_true rfl, Nat.le_of_ble_eq_true rfl⟩ (wo_X1_H ..) rfl rfl rfl rfl hl.1 (Nat.le_of_ble_eq_true rfl) (st1 := [.long (r_X1_digest w b n T w2 b2 n2 T2)]) rfl dL_law_1827 (k2 := 60 + c + 0) (s2 := 700 + 6 * c + 0) rfl rfl ⟨(Nat.le_trans (show 60 + c + 0 ≤ 20000 by omega) (Nat.le_of_ble_eq_true rfl)), (Nat.le_trans (show 700 + 6 * c + 0 ≤ 40000 by omega) (Nat.le_of_ble_eq_true rfl))⟩ (fun H locs hw => ?_)
  rw [hop]
  refine lv_aload_n hx hb dL_law_1830 rfl (lv_at hl 3 rfl) ?_
  refine p_callV (n := 0) (As := []) (rest := [.long (r_X3_digest th w b n M w3 b3 n3 M2)]) (q0 := 0) hc hw.2.2 (Pt.front (wc := wb_m hm am am2 cI th w b n M w3 b3 n3 M2) hw hA) (k_X3_digest l D cI cZ cL hm am am2 th w b n M w3 b3 n3 M2 o1 o2 o3 o7 o8 o9) gL_law_X3_digest rfl (by decide +kernel) ⟨Nat.le_of_ble_eq_true rfl, Nat.le_of_ble_eq_true rfl⟩ (wo_X3_H ..) rfl rfl rfl rfl hl.1 (Nat.le_of_ble_eq_true rfl) (st1 := [.long (r_X3_digest th w b n M w3 b3 n3 M2), .long (r_X3_digest th w b n M w3 b3 n3 M2)]) rfl dL_law_1831 (k2 := 60 + c + 0 + 1) (s2 := 700 + 6 * c + 0 + 6) rfl rfl ⟨(Nat.le_trans (show 60 + c + 0 + 1 ≤ 20000 by omega) (Nat.le_of_ble_eq_true rfl)), (Nat.le_trans (show 700 + 6 * c + 0 + 6 ≤ 40000 by omega) (Nat.le_of_ble_eq_true rfl))⟩ (fun H locs hw => ?_)
  refine W.lcmp hx hb dL_law_1834 ?_
  rw [lg_same]
  refine lv_if_eq (tgt := 1840) hx hb dL_law_1835 (by decide) (fun _ => ?_) (fun z => absurd rfl z)
  exact l_back hC hK hok hR hw hl (by omega) (by omega)