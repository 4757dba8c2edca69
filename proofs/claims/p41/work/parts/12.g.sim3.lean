/-! 12.g: pass as a whole, days -/
def sp_ea (w : Nat) (b : Nat) (n : Nat) (dy : Int32) (bo : Int32) (ea : Int32) (Wr : Nat → Nat → Int32) (Br : Nat → Nat → Int32) (Pr : Nat → Nat → Int32) : Int32 := p1_ea w b n dy bo ea Wr Br Pr
def sp_P2 (w : Nat) (b : Nat) (n : Nat) (dy : Int32) (bo : Int32) (ea : Int32) (Wr : Nat → Nat → Int32) (Br : Nat → Nat → Int32) (Pr : Nat → Nat → Int32) : Nat → Nat → Int32 := p2_P w b n dy bo (sp_ea w b n dy bo ea Wr Br Pr) Wr Br Pr (p1_et w b n dy bo ea Wr Br Pr)
def sp_B3 (w : Nat) (b : Nat) (n : Nat) (dy : Int32) (bo : Int32) (ea : Int32) (Wr : Nat → Nat → Int32) (Br : Nat → Nat → Int32) (Pr : Nat → Nat → Int32) : Nat → Nat → Int32 := p3_B w b n dy bo (sp_ea w b n dy bo ea Wr Br Pr) Wr Br (sp_P2 w b n dy bo ea Wr Br Pr)
def sp_P3 (w : Nat) (b : Nat) (n : Nat) (dy : Int32) (bo : Int32) (ea : Int32) (Wr : Nat → Nat → Int32) (Br : Nat → Nat → Int32) (Pr : Nat → Nat → Int32) : Nat → Nat → Int32 := p3_P w b n dy bo (sp_ea w b n dy bo ea Wr Br Pr) Wr Br (sp_P2 w b n dy bo ea Wr Br Pr)
def sp_W (w : Nat) (b : Nat) (n : Nat) (dy : Int32) (bo : Int32) (ea : Int32) (Wr : Nat → Nat → Int32) (Br : Nat → Nat → Int32) (Pr : Nat → Nat → Int32) : Nat → Nat → Int32 := p4_W w b n dy bo (sp_ea w b n dy bo ea Wr Br Pr) Wr (sp_B3 w b n dy bo ea Wr Br Pr) (sp_P3 w b n dy bo ea Wr Br Pr)
def sp_P5 (w : Nat) (b : Nat) (n : Nat) (dy : Int32) (bo : Int32) (ea : Int32) (Wr : Nat → Nat → Int32) (Br : Nat → Nat → Int32) (Pr : Nat → Nat → Int32) : Nat → Nat → Int32 := p5_P w b n dy bo (sp_ea w b n dy bo ea Wr Br Pr) (sp_W w b n dy bo ea Wr Br Pr) (sp_B3 w b n dy bo ea Wr Br Pr) (sp_P3 w b n dy bo ea Wr Br Pr)
def sp_B (w : Nat) (b : Nat) (n : Nat) (dy : Int32) (bo : Int32) (ea : Int32) (Wr : Nat → Nat → Int32) (Br : Nat → Nat → Int32) (Pr : Nat → Nat → Int32) : Nat → Nat → Int32 := p6_B w b n dy bo (sp_ea w b n dy bo ea Wr Br Pr) (sp_W w b n dy bo ea Wr Br Pr) (sp_B3 w b n dy bo ea Wr Br Pr) (sp_P5 w b n dy bo ea Wr Br Pr)
def sp_P (w : Nat) (b : Nat) (n : Nat) (dy : Int32) (bo : Int32) (ea : Int32) (Wr : Nat → Nat → Int32) (Br : Nat → Nat → Int32) (Pr : Nat → Nat → Int32) : Nat → Nat → Int32 := p6_P w b n dy bo (sp_ea w b n dy bo ea Wr Br Pr) (sp_W w b n dy bo ea Wr Br Pr) (sp_B3 w b n dy bo ea Wr Br Pr) (sp_P5 w b n dy bo ea Wr Br Pr)
set_option maxHeartbeats 4000000 in
set_option maxRecDepth 100000 in
theorem k_X2_pass (l : Launch) (D : va_G) (cI cZ cL : ClassId) {Z : sA} {w : Nat} {b : Nat} {n : Nat} {dy : Int32} {bo : Int32} {ea : Int32} {Wr : Nat → Nat → Int32} {Br : Nat → Nat → Int32} {Pr : Nat → Nat → Int32} (hd5 : w ≤ 5) (hd4 : b ≤ 4) (hd30 : n ≤ 30) (hin : ∀ p, p < n → ¬ Pr p 1 < 0 → vp_in (Pr p 1) w) : MX l yX2_pass wsX2_pass rm_X2_pass D cI cZ cL [.ref (zh Z)] (ws_s Z cI cL w b n dy bo ea Wr Br Pr []) none (ws_s Z cI cL w b n (dy + 1) bo (sp_ea w b n dy bo ea Wr Br Pr) (sp_W w b n dy bo ea Wr Br Pr) (sp_B w b n dy bo ea Wr Br Pr) (sp_P w b n dy bo ea Wr Br Pr) []) := by
  refine MX.of (own := RX2) (cc := cX2_pass) (maxL := 11) (ret := none) (lv0 := [(0, .ref (zh Z))]) (by decide) rfl rfl (Nat.le_of_ble_eq_true rfl) rfl ?_
  intro p e s m args below meth c A hc hnm hw ls hl
  obtain ⟨hx, hb, hr, hml, hown, hts, hlk, hK, hA⟩ := id hc
  refine k_X2_pass_1 hd5 hd4 hd30 hc hw hl (fun q1 H locs ls hw hl => ?_)
  refine k_X2_pass_2 hd5 hd4 hd30 hin hc hw hl (fun H locs ls hw hl => ?_)
  refine k_X2_pass_3 hd5 hd4 hd30 hc hw hl (fun H locs ls hw hl => ?_)
  refine k_X2_pass_4 hd5 hd4 hd30 hc hw hl (fun H locs ls hw hl => ?_)
  refine k_X2_pass_5 hd5 hd4 hd30 hc hw hl (fun H locs ls hw hl => ?_)
  refine k_X2_pass_6 hd5 hd4 hd30 hc hw hl (fun H locs ls hw hl => ?_)
  replace hw : Wo D A s.heap (ws_s Z cI cL w b n dy bo (sp_ea w b n dy bo ea Wr Br Pr) (sp_W w b n dy bo ea Wr Br Pr) (sp_B w b n dy bo ea Wr Br Pr) (sp_P w b n dy bo ea Wr Br Pr) []) H locs := Wo.drop2 (X := [(q1, .inl (cZ, n, .inl (p1_et w b n dy bo ea Wr Br Pr)))]) (by rw [s_push]; exact hw)
  have hi2 : ∀ w ∈ u_ws RX2 TX2 6, w ∈ wsX2_pass := fun _ h => List.mem_cons_of_mem _ (List.mem_append_right _ h)
  refine lv_aload_n hx hb dX2_pass_725 rfl (lv_at hl 0 rfl) ?_
  refine lv_dup hx hb dX2_pass_726 rfl ?_
  refine g_get (v := .int dy) hc hw hi2 (0) 0 s_H rfl (by decide) (List.mem_of_getElem? (i := 8) rfl) sv_0 dX2_pass_727 ?_
  refine lv_iconst (v := 1) hx hb dX2_pass_730 (by decide) ?_
  refine lv_iadd hx hb dX2_pass_731 ?_
  refine g_put hc hw hi2 tyX2 tyX2_ok nmX2 (0) 0 s_H rfl (by decide) (List.mem_of_getElem? (i := 8) rfl) (by decide) rfl rfl (Nat.le_of_ble_eq_true rfl) (w' := (ws_s Z cI cL w b n (dy + (1 : Int32)) bo (sp_ea w b n dy bo ea Wr Br Pr) (sp_W w b n dy bo ea Wr Br Pr) (sp_B w b n dy bo ea Wr Br Pr) (sp_P w b n dy bo ea Wr Br Pr) [])) su_0 dX2_pass_732 (fun H locs hw => ?_)
  exact g_vret hc hw rfl (Nat.le_of_ble_eq_true rfl) (Nat.le_of_ble_eq_true rfl) dX2_pass_735
abbrev sm_T : Type := Int32 × Int32 × (Nat → Nat → Int32) × (Nat → Nat → Int32) × (Nat → Nat → Int32)
def sm_dy (S : sm_T) : Int32 := S.1
def sm_ea (S : sm_T) : Int32 := S.2.1
def sm_W (S : sm_T) : Nat → Nat → Int32 := S.2.2.1
def sm_B (S : sm_T) : Nat → Nat → Int32 := S.2.2.2.1
def sm_P (S : sm_T) : Nat → Nat → Int32 := S.2.2.2.2
def sp_day (w b n : Nat) (bo : Int32) (S : sm_T) : sm_T := (sm_dy S + 1, sp_ea w b n (sm_dy S) bo (sm_ea S) (sm_W S) (sm_B S) (sm_P S), sp_W w b n (sm_dy S) bo (sm_ea S) (sm_W S) (sm_B S) (sm_P S), sp_B w b n (sm_dy S) bo (sm_ea S) (sm_W S) (sm_B S) (sm_P S), sp_P w b n (sm_dy S) bo (sm_ea S) (sm_W S) (sm_B S) (sm_P S))
def sp_it (w b n : Nat) (bo : Int32) (S : sm_T) : Nat → sm_T
  | 0 => S
  | k + 1 => sp_day w b n bo (sp_it w b n bo S k)
def sp_in (w n : Nat) (S : sm_T) : Prop := ∀ p, p < n → ¬ sm_P S p 1 < 0 → vp_in (sm_P S p 1) w
def ws_m (Z : sA) (cI cL : ClassId) (w b n : Nat) (bo : Int32) (S : sm_T) (E : va_W) : va_W := ws_s Z cI cL w b n (sm_dy S) bo (sm_ea S) (sm_W S) (sm_B S) (sm_P S) E
theorem k_X2_day (l : Launch) (D : va_G) (cI cZ cL : ClassId) {Z : sA} {w b n : Nat} {bo : Int32} {S : sm_T} (hd5 : w ≤ 5) (hd4 : b ≤ 4) (hd30 : n ≤ 30) (hin : sp_in w n S) : MX l yX2_pass wsX2_pass rm_X2_pass D cI cZ cL [.ref (zh Z)] (ws_m Z cI cL w b n bo S []) none (ws_m Z cI cL w b n bo (sp_day w b n bo S) []) := k_X2_pass l D cI cZ cL hd5 hd4 hd30 hin
abbrev rm_X2_pass_ : Room := { frames := 2, cells := 100, slots := 3000, locals := 56 }
set_option maxHeartbeats 4000000 in
set_option maxRecDepth 100000 in
theorem k_X2_pass_ (l : Launch) (D : va_G) (cI cZ cL : ClassId) {Z : sA} {w b n : Nat} {bo : Int32} {S : sm_T} (hd5 : w ≤ 5) (hd4 : b ≤ 4) (hd30 : n ≤ 30) (d : Nat) (hd20 : d ≤ 20) (hin : ∀ i, i < d → sp_in w n (sp_it w b n bo S i)) : MX l yX2_pass_ wsX2_pass_ rm_X2_pass_ D cI cZ cL [.ref (zh Z), .int (nI d)] (ws_m Z cI cL w b n bo S []) none (ws_m Z cI cL w b n bo (sp_it w b n bo S d) []) := by
  refine MX.of (own := RX2) (cc := cX2_pass_) (maxL := 3) (ret := none) (lv0 := [(0, .ref (zh Z)), (1, .int (nI d))]) (by decide) rfl rfl (Nat.le_of_ble_eq_true rfl) rfl ?_
  intro p e s m args below meth c A hc hnm hw ls hl
  obtain ⟨hx, hb, hr, hml, hown, hts, hlk, hK, hA⟩ := id hc
  refine lv_iconst (v := 0) hx hb dX2_pass__0 (by decide) ?_
  refine lv_istore_n (lv' := [(2, .int 0), (0, .ref (zh Z)), (1, .int (nI d))]) hx hb dX2_pass__1 rfl hl (by decide) rfl (fun ls hl => ?_)
  refine lp_go0 (fun i => ∀ (H : Heap) (locs : List Loc) (ls : Array Slot), Wo D A s.heap (ws_m Z cI cL w b n bo (sp_it w b n bo S i) []) H locs → lv_has ls 3 [(0, .ref (zh Z)), (1, .int (nI d)), (2, .int (nI i))] → W p l e rm_X2_pass_ s m args below meth c H locs (5 * i) (150 * i) (QE below args s D A none (ws_m Z cI cL w b n bo (sp_it w b n bo S d) []) rm_X2_pass_) (F0 m 2 ls [])) d ?_ ?_ s.heap [] ls hw (lv_sub hl [1, 2, 0] rfl)
  · intro i hi kk H locs ls hw hl
    refine lv_iload_n hx hb dX2_pass__2 rfl (lv_at hl 2 rfl) ?_
    refine lv_iload_n hx hb dX2_pass__3 rfl (lv_at hl 1 rfl) ?_
    refine lv_icmp_ge (tgt := 17) hx hb dX2_pass__4 (by decide) (fun z => absurd z (nI_ge hi (by omega))) (fun _ => ?_)
    refine lv_aload_n hx hb dX2_pass__7 rfl (lv_at hl 0 rfl) ?_
    refine g_callV0 (n := 0) hc hw (k_X2_day l D cI cZ cL hd5 hd4 hd30 (hin i hi)) gX2_pass__X2_pass rfl (by decide +kernel) ⟨Nat.le_of_ble_eq_true rfl, Nat.le_of_ble_eq_true rfl⟩ 0 s_H rfl rfl rfl (rest := []) rfl hl.1 (Nat.le_of_ble_eq_true rfl) (st1 := []) rfl dX2_pass__8 (k2 := 5 * i + 5) (s2 := 150 * i + 150) rfl rfl ⟨Nat.le_trans (show 5 * i + 5 ≤ 100 by omega) (Nat.le_of_ble_eq_true rfl), Nat.le_trans (show 150 * i + 150 ≤ 3000 by omega) (Nat.le_of_ble_eq_true rfl)⟩ (fun H locs hw => ?_)
    refine lv_iinc (v := (nI (i + 1))) (lv' := [(2, .int (nI (i + 1))), (0, .ref (zh Z)), (1, .int (nI d))]) hx hb dX2_pass__11 hl (k := 2) rfl (inc_n i) (by decide) rfl (fun ls hl => ?_)
    refine lv_goto (tgt := 2) hx hb dX2_pass__14 (by decide) ?_
    exact W.widen (show 5 * i + 5 ≤ 5 * (i + 1) by omega) (show 150 * i + 150 ≤ 150 * (i + 1) by omega) (kk H locs ls hw (lv_sub hl [1, 2, 0] rfl))
  · intro H locs ls hw hl
    refine lv_iload_n hx hb dX2_pass__2 rfl (lv_at hl 2 rfl) ?_
    refine lv_iload_n hx hb dX2_pass__3 rfl (lv_at hl 1 rfl) ?_
    refine lv_icmp_ge (tgt := 17) hx hb dX2_pass__4 (by decide) (fun _ => ?_) (fun z => absurd (nI_le (Nat.le_refl _) (by omega)) z)
    exact g_vret hc hw rfl (Nat.le_trans (show 5 * d ≤ 100 by omega) (Nat.le_of_ble_eq_true rfl)) (Nat.le_trans (show 150 * d ≤ 3000 by omega) (Nat.le_of_ble_eq_true rfl)) dX2_pass__17
