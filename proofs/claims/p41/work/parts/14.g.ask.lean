/-! 14.g: pure: what is asked: the class's answers in words of the town, and its contracts so -/
section PG
def ob (T : ct_T) (i : Nat) : Nat → Bool := fun q => decide (ct_wh T q = 0 ∧ ct_nu T q = nI i)
def fI (T : ct_T) (i n : Nat) : Int32 := sI (fun q => if iw T i q = true then ct_fe T q else 0) n
def hT (T : ct_T) (i n : Nat) : Int32 := lpf (fun j a => if ob T i j = true then (if a < ct_fe T j then ct_fe T j else a) else a) n 0 0
def ch (T : ct_T) (z : Int32) (n : Nat) : Nat := cn (fun q => decide (ct_wh T q = z)) n
theorem ckW {w b n : Nat} {T : ct_T} {w2 b2 n2 : Nat} {T2 : ct_T} {i : Nat} (hw : w ≤ 5) (hi : i < w) : e_X1_checkWard w b n T w2 b2 n2 T2 (nI i) = 0 := by
  unfold e_X1_checkWard
  rw [if_neg (nI_pos (by omega)), if_pos ((nI_ltI (by omega) (by omega)).mpr hi)]
theorem ckB {w b n : Nat} {T : ct_T} {w2 b2 n2 : Nat} {T2 : ct_T} {i : Nat} (hb : b ≤ 4) (hi : i < b) : e_X1_checkBarge w b n T w2 b2 n2 T2 (nI i) = 0 := by
  unfold e_X1_checkBarge
  rw [if_neg (nI_pos (by omega)), if_pos ((nI_ltI (by omega) (by omega)).mpr hi)]
theorem ckP {w b n : Nat} {T : ct_T} {w2 b2 n2 : Nat} {T2 : ct_T} {i : Nat} (hn : n ≤ 30) (hi : i < n) : e_X1_checkPerson w b n T w2 b2 n2 T2 (nI i) = 0 := by
  unfold e_X1_checkPerson
  rw [if_neg (nI_pos (by omega)), if_pos ((nI_ltI (by omega) (by omega)).mpr hi)]
theorem ckD {d : Nat} (h1 : 1 ≤ d) (h2 : d ≤ 40) : e_X1_checkDays (nI d) = 0 := by
  unfold e_X1_checkDays
  rw [if_neg (show ¬ nI d < 1 from fun z => absurd ((nI_ltI (a := d) (b := 1) (by omega) (by decide)).mp z) (by omega)), if_pos (show nI d ≤ 40 from (nI_leI (a := d) (b := 40) (by omega) (by decide)).mpr h2)]
theorem v_count {w b n : Nat} {T : ct_T} (hn : n ≤ 30) (z : Int32) : r_X0_count w b n T z = nI (ch T z n) := by
  unfold r_X0_count ch
  refine lpf_cn (fun j a hj => ?_)
  unfold f_X0_count_4
  rw [cl (show j < 30 by omega)]
  by_cases h1 : ct_wh T j = z
  · rw [if_pos h1, if_pos (decide_eq_true h1)]
  · rw [if_neg h1, if_neg (fun q => h1 (of_decide_eq_true q))]
theorem v_on {w b n : Nat} {T : ct_T} (hn : n ≤ 30) (i : Nat) : r_X0_countAt w b n T 0 (nI i) = nI (cn (ob T i) n) := by
  unfold r_X0_countAt
  refine lpf_cn (fun j a hj => ?_)
  unfold f_X0_countAt_5
  rw [ite_at (show j < 30 by omega)]
  by_cases h1 : ct_wh T j = 0 ∧ ct_nu T j = nI i
  · rw [if_pos h1, if_pos (show ob T i j = true from decide_eq_true h1)]
  · rw [if_neg h1, if_neg (show ¬ ob T i j = true from fun z => h1 (of_decide_eq_true z))]
theorem v_fi {w b n : Nat} {T : ct_T} (hn : n ≤ 30) (i : Nat) : r_X0_feversInWard w b n T (nI i) = fI T i n := by
  unfold r_X0_feversInWard fI
  refine lpf_sI (fun j a hj => ?_)
  unfold f_X0_feversInWard_4
  rw [ite_at (show j < 30 by omega), cl (show j < 30 by omega)]
  by_cases h1 : ct_wh T j = 1 ∧ ct_nu T j = nI i
  · rw [if_pos h1, if_pos (show iw T i j = true from decide_eq_true h1)]
  · rw [if_neg h1, if_neg (show ¬ iw T i j = true from fun z => h1 (of_decide_eq_true z))]; exact (Int32.add_zero a).symm
theorem v_hi {w b n : Nat} {T : ct_T} (hn : n ≤ 30) (i : Nat) : r_X0_highestFeverAboard w b n T (nI i) = hT T i n := by
  unfold r_X0_highestFeverAboard hT
  refine lpf_congr _ _ n 0 (fun j a hj => ?_)
  unfold f_X0_highestFeverAboard_4
  rw [ite_at (show j < 30 by omega), cl (show j < 30 by omega)]
  by_cases h1 : ct_wh T j = 0 ∧ ct_nu T j = nI i
  · rw [if_pos h1, if_pos (show ob T i j = true from decide_eq_true h1)]
  · rw [if_neg h1, if_neg (show ¬ ob T i j = true from fun z => h1 (of_decide_eq_true z))]
theorem v_nw {w b n : Nat} {T : ct_T} {W B P : Nat → Nat → Int32} (hn : n ≤ 30) (hX : RX w b n T W B P) {p : Nat} (hp : p < n) : r_X0_numberOf w b n T (nI p) 1 = P p 1 := by
  unfold r_X0_numberOf
  rw [cl (show p < 30 by omega)]
  rcases (hX.2.2 p hp).2.2 with ⟨e, k, -, e1, e2, -⟩ | ⟨e, k, -, e1, e2, -⟩ | ⟨e, e2, -⟩ | ⟨e, e2, -⟩
  · rw [if_pos e, e1, e2]
  · rw [if_neg (by rw [e]; decide), e2]
  · rw [if_neg (by rw [e]; decide), e2]
  · rw [if_neg (by rw [e]; decide), e2]
theorem v_nb {w b n : Nat} {T : ct_T} {W B P : Nat → Nat → Int32} (hn : n ≤ 30) (hX : RX w b n T W B P) {p : Nat} (hp : p < n) : r_X0_numberOf w b n T (nI p) 0 = P p 2 := by
  unfold r_X0_numberOf
  rw [cl (show p < 30 by omega)]
  rcases (hX.2.2 p hp).2.2 with ⟨e, k, -, e1, e2, e3, -⟩ | ⟨e, k, -, e1, e2, e3, -⟩ | ⟨e, e2, e3, -⟩ | ⟨e, e2, e3, -⟩
  · rw [if_neg (by rw [e]; decide), e3]
  · rw [if_pos e, e1, e3]
  · rw [if_neg (by rw [e]; decide), e3]
  · rw [if_neg (by rw [e]; decide), e3]
theorem v_nh {w b n : Nat} {T : ct_T} {W B P : Nat → Nat → Int32} (hX : RX w b n T W B P) {p : Nat} (hp : p < n) : (if ct_wh T p = 2 then (1 : Int32) else 0) = P p 3 := by
  have h := PL_home (hX.2.2 p hp).2.2
  by_cases h1 : ct_wh T p = 2
  · rw [if_pos h1, h.1.mp h1]
  · rw [if_neg h1, h.2.resolve_left h1]
theorem v_ng {w b n : Nat} {T : ct_T} {W B P : Nat → Nat → Int32} (hX : RX w b n T W B P) {p : Nat} (hp : p < n) : (if ct_wh T p = 3 then (1 : Int32) else 0) = P p 4 := by
  have h := PL_gh (hX.2.2 p hp).2.2
  by_cases h1 : ct_wh T p = 3
  · rw [if_pos h1, h.1.mp h1]
  · rw [if_neg h1, h.2.resolve_left h1]
theorem v_free {w b n : Nat} {T : ct_T} {w2 b2 n2 : Nat} {T2 : ct_T} (hw : w ≤ 5) (hn : n ≤ 30) : r_X1_freePlaces w b n T w2 b2 n2 T2 = sI (ct_pl T) w - sI (fun i => nI (cn (iw T i) n)) w := by
  unfold r_X1_freePlaces
  rw [← sI_sub]
  refine lpf_sI (fun j a hj => ?_)
  unfold f_X1_freePlaces_4 r_X0_freeIn
  rw [cl (show j < 30 by omega), r_countAt hn]
theorem i_max0 {a c : Nat} (ha : a ≤ 60) (hc : c ≤ 60) : (if (0 : Int32) < nI a - nI c then nI a - nI c else 0) = nI (a - c) := by
  rcases Nat.le_total c a with h | h
  · rw [i_sub h]
    by_cases h0 : a - c = 0
    · rw [h0]; decide
    · rw [if_pos]
      rw [← nI_0]; exact (nI_ltI (by decide) (by omega)).mpr (by omega)
  · have e : a - c = 0 := by omega
    rw [e, if_neg, nI_0]
    intro z
    have h1 : nI a - nI c = 0 - nI (c - a) := by
      rw [← i_sub h]; grind
    rw [h1] at z
    by_cases h0 : c - a = 0
    · rw [h0] at z; exact absurd z (by decide)
    · have : ∀ m, m < 61 → ¬ (0 : Int32) < 0 - nI m := by decide +kernel
      exact this (c - a) (by omega) z
theorem i_min {a c : Nat} (ha : a ≤ 60) (hc : c ≤ 60) : (if nI c < nI a then nI c else nI a) = nI (min a c) := by
  by_cases h : c < a
  · rw [if_pos ((nI_ltI (by omega) (by omega)).mpr h), show min a c = c by omega]
  · rw [if_neg (fun z => h ((nI_ltI (by omega) (by omega)).mp z)), show min a c = a by omega]
theorem ch_le (T : ct_T) (z : Int32) (n : Nat) : ch T z n ≤ n := cn_le _ n
theorem n_placesOf {l : Launch} (hst : l.stackTraces = false) (D : va_G) (cI cZ cL : ClassId) (h : Nat) (a a2 : Nat → Nat) {w b n : Nat} {T : ct_T} {w2 b2 n2 : Nat} {T2 : ct_T} (hd5 : w ≤ 5) (hd4 : b ≤ 4) (hd30 : n ≤ 30) (he5 : w2 ≤ 5) (he4 : b2 ≤ 4) (he30 : n2 ≤ 30) {i : Nat} (hi : i < w) : TX l yX1_placesOf wsX1_placesOf rm_X1_placesOf D cI cZ cL [.ref h, .int (nI i)] (wb_c h a a2 cI cZ w b n T w2 b2 n2 T2) 0 (some (.int (ct_pl T i))) (wb_c h a a2 cI cZ w b n T w2 b2 n2 T2) := by
  refine (k_X1_placesOf hst D cI cZ cL h a a2 w b n T w2 b2 n2 T2 hd5 hd4 hd30 he5 he4 he30 (nI i)).to ?_ (congrArg (fun v : Int32 => some (Value.int v)) ?_)
  · unfold e_X1_placesOf; rw [ckW hd5 hi, if_pos rfl]
  · unfold r_X1_placesOf; rw [ckW hd5 hi, if_pos rfl]; rw [cl (show i < 30 by omega)]
theorem n_peopleIn {l : Launch} (hst : l.stackTraces = false) (D : va_G) (cI cZ cL : ClassId) (h : Nat) (a a2 : Nat → Nat) {w b n : Nat} {T : ct_T} {w2 b2 n2 : Nat} {T2 : ct_T} (hd5 : w ≤ 5) (hd4 : b ≤ 4) (hd30 : n ≤ 30) (he5 : w2 ≤ 5) (he4 : b2 ≤ 4) (he30 : n2 ≤ 30) {i : Nat} (hi : i < w) : TX l yX1_peopleIn wsX1_peopleIn rm_X1_peopleIn D cI cZ cL [.ref h, .int (nI i)] (wb_c h a a2 cI cZ w b n T w2 b2 n2 T2) 0 (some (.int (nI (cn (iw T i) n)))) (wb_c h a a2 cI cZ w b n T w2 b2 n2 T2) := by
  refine (k_X1_peopleIn hst D cI cZ cL h a a2 w b n T w2 b2 n2 T2 hd5 hd4 hd30 he5 he4 he30 (nI i)).to ?_ (congrArg (fun v : Int32 => some (Value.int v)) ?_)
  · unfold e_X1_peopleIn; rw [ckW hd5 hi, if_pos rfl]
  · unfold r_X1_peopleIn; rw [ckW hd5 hi, if_pos rfl]; exact r_countAt hd30
theorem n_strawOf {l : Launch} (hst : l.stackTraces = false) (D : va_G) (cI cZ cL : ClassId) (h : Nat) (a a2 : Nat → Nat) {w b n : Nat} {T : ct_T} {w2 b2 n2 : Nat} {T2 : ct_T} (hd5 : w ≤ 5) (hd4 : b ≤ 4) (hd30 : n ≤ 30) (he5 : w2 ≤ 5) (he4 : b2 ≤ 4) (he30 : n2 ≤ 30) {i : Nat} (hi : i < w) : TX l yX1_strawOf wsX1_strawOf rm_X1_strawOf D cI cZ cL [.ref h, .int (nI i)] (wb_c h a a2 cI cZ w b n T w2 b2 n2 T2) 0 (some (.int (ct_st T i))) (wb_c h a a2 cI cZ w b n T w2 b2 n2 T2) := by
  refine (k_X1_strawOf hst D cI cZ cL h a a2 w b n T w2 b2 n2 T2 hd5 hd4 hd30 he5 he4 he30 (nI i)).to ?_ (congrArg (fun v : Int32 => some (Value.int v)) ?_)
  · unfold e_X1_strawOf; rw [ckW hd5 hi, if_pos rfl]
  · unfold r_X1_strawOf; rw [ckW hd5 hi, if_pos rfl]; rw [cl (show i < 30 by omega)]
theorem n_feversIn {l : Launch} (hst : l.stackTraces = false) (D : va_G) (cI cZ cL : ClassId) (h : Nat) (a a2 : Nat → Nat) {w b n : Nat} {T : ct_T} {w2 b2 n2 : Nat} {T2 : ct_T} (hd5 : w ≤ 5) (hd4 : b ≤ 4) (hd30 : n ≤ 30) (he5 : w2 ≤ 5) (he4 : b2 ≤ 4) (he30 : n2 ≤ 30) {i : Nat} (hi : i < w) : TX l yX1_feversIn wsX1_feversIn rm_X1_feversIn D cI cZ cL [.ref h, .int (nI i)] (wb_c h a a2 cI cZ w b n T w2 b2 n2 T2) 0 (some (.int (fI T i n))) (wb_c h a a2 cI cZ w b n T w2 b2 n2 T2) := by
  refine (k_X1_feversIn hst D cI cZ cL h a a2 w b n T w2 b2 n2 T2 hd5 hd4 hd30 he5 he4 he30 (nI i)).to ?_ (congrArg (fun v : Int32 => some (Value.int v)) ?_)
  · unfold e_X1_feversIn; rw [ckW hd5 hi, if_pos rfl]
  · unfold r_X1_feversIn; rw [ckW hd5 hi, if_pos rfl]; exact v_fi hd30 i
theorem n_daysToGo {l : Launch} (hst : l.stackTraces = false) (D : va_G) (cI cZ cL : ClassId) (h : Nat) (a a2 : Nat → Nat) {w b n : Nat} {T : ct_T} {w2 b2 n2 : Nat} {T2 : ct_T} (hd5 : w ≤ 5) (hd4 : b ≤ 4) (hd30 : n ≤ 30) (he5 : w2 ≤ 5) (he4 : b2 ≤ 4) (he30 : n2 ≤ 30) {i : Nat} (hi : i < b) : TX l yX1_daysToGo wsX1_daysToGo rm_X1_daysToGo D cI cZ cL [.ref h, .int (nI i)] (wb_c h a a2 cI cZ w b n T w2 b2 n2 T2) 0 (some (.int (ct_to T i))) (wb_c h a a2 cI cZ w b n T w2 b2 n2 T2) := by
  refine (k_X1_daysToGo hst D cI cZ cL h a a2 w b n T w2 b2 n2 T2 hd5 hd4 hd30 he5 he4 he30 (nI i)).to ?_ (congrArg (fun v : Int32 => some (Value.int v)) ?_)
  · unfold e_X1_daysToGo; rw [ckB hd4 hi, if_pos rfl]
  · unfold r_X1_daysToGo; rw [ckB hd4 hi, if_pos rfl]; rw [cl (show i < 30 by omega)]
theorem n_keptFor {l : Launch} (hst : l.stackTraces = false) (D : va_G) (cI cZ cL : ClassId) (h : Nat) (a a2 : Nat → Nat) {w b n : Nat} {T : ct_T} {w2 b2 n2 : Nat} {T2 : ct_T} (hd5 : w ≤ 5) (hd4 : b ≤ 4) (hd30 : n ≤ 30) (he5 : w2 ≤ 5) (he4 : b2 ≤ 4) (he30 : n2 ≤ 30) {i : Nat} (hi : i < b) : TX l yX1_keptFor wsX1_keptFor rm_X1_keptFor D cI cZ cL [.ref h, .int (nI i)] (wb_c h a a2 cI cZ w b n T w2 b2 n2 T2) 0 (some (.int (ct_ke T i))) (wb_c h a a2 cI cZ w b n T w2 b2 n2 T2) := by
  refine (k_X1_keptFor hst D cI cZ cL h a a2 w b n T w2 b2 n2 T2 hd5 hd4 hd30 he5 he4 he30 (nI i)).to ?_ (congrArg (fun v : Int32 => some (Value.int v)) ?_)
  · unfold e_X1_keptFor; rw [ckB hd4 hi, if_pos rfl]
  · unfold r_X1_keptFor; rw [ckB hd4 hi, if_pos rfl]; rw [cl (show i < 30 by omega)]
theorem n_peopleOn {l : Launch} (hst : l.stackTraces = false) (D : va_G) (cI cZ cL : ClassId) (h : Nat) (a a2 : Nat → Nat) {w b n : Nat} {T : ct_T} {w2 b2 n2 : Nat} {T2 : ct_T} (hd5 : w ≤ 5) (hd4 : b ≤ 4) (hd30 : n ≤ 30) (he5 : w2 ≤ 5) (he4 : b2 ≤ 4) (he30 : n2 ≤ 30) {i : Nat} (hi : i < b) : TX l yX1_peopleOn wsX1_peopleOn rm_X1_peopleOn D cI cZ cL [.ref h, .int (nI i)] (wb_c h a a2 cI cZ w b n T w2 b2 n2 T2) 0 (some (.int (nI (cn (ob T i) n)))) (wb_c h a a2 cI cZ w b n T w2 b2 n2 T2) := by
  refine (k_X1_peopleOn hst D cI cZ cL h a a2 w b n T w2 b2 n2 T2 hd5 hd4 hd30 he5 he4 he30 (nI i)).to ?_ (congrArg (fun v : Int32 => some (Value.int v)) ?_)
  · unfold e_X1_peopleOn; rw [ckB hd4 hi, if_pos rfl]
  · unfold r_X1_peopleOn; rw [ckB hd4 hi, if_pos rfl]; exact v_on hd30 i
theorem n_highestFeverOn {l : Launch} (hst : l.stackTraces = false) (D : va_G) (cI cZ cL : ClassId) (h : Nat) (a a2 : Nat → Nat) {w b n : Nat} {T : ct_T} {w2 b2 n2 : Nat} {T2 : ct_T} (hd5 : w ≤ 5) (hd4 : b ≤ 4) (hd30 : n ≤ 30) (he5 : w2 ≤ 5) (he4 : b2 ≤ 4) (he30 : n2 ≤ 30) {i : Nat} (hi : i < b) : TX l yX1_highestFeverOn wsX1_highestFeverOn rm_X1_highestFeverOn D cI cZ cL [.ref h, .int (nI i)] (wb_c h a a2 cI cZ w b n T w2 b2 n2 T2) 0 (some (.int (hT T i n))) (wb_c h a a2 cI cZ w b n T w2 b2 n2 T2) := by
  refine (k_X1_highestFeverOn hst D cI cZ cL h a a2 w b n T w2 b2 n2 T2 hd5 hd4 hd30 he5 he4 he30 (nI i)).to ?_ (congrArg (fun v : Int32 => some (Value.int v)) ?_)
  · unfold e_X1_highestFeverOn; rw [ckB hd4 hi, if_pos rfl]
  · unfold r_X1_highestFeverOn; rw [ckB hd4 hi, if_pos rfl]; exact v_hi hd30 i
theorem n_feverOf {l : Launch} (hst : l.stackTraces = false) (D : va_G) (cI cZ cL : ClassId) (h : Nat) (a a2 : Nat → Nat) {w b n : Nat} {T : ct_T} {w2 b2 n2 : Nat} {T2 : ct_T} (hd5 : w ≤ 5) (hd4 : b ≤ 4) (hd30 : n ≤ 30) (he5 : w2 ≤ 5) (he4 : b2 ≤ 4) (he30 : n2 ≤ 30) {i : Nat} (hi : i < n) : TX l yX1_feverOf wsX1_feverOf rm_X1_feverOf D cI cZ cL [.ref h, .int (nI i)] (wb_c h a a2 cI cZ w b n T w2 b2 n2 T2) 0 (some (.int (ct_fe T i))) (wb_c h a a2 cI cZ w b n T w2 b2 n2 T2) := by
  refine (k_X1_feverOf hst D cI cZ cL h a a2 w b n T w2 b2 n2 T2 hd5 hd4 hd30 he5 he4 he30 (nI i)).to ?_ (congrArg (fun v : Int32 => some (Value.int v)) ?_)
  · unfold e_X1_feverOf; rw [ckP hd30 hi, if_pos rfl]
  · unfold r_X1_feverOf; rw [ckP hd30 hi, if_pos rfl]; rw [cl (show i < 30 by omega)]
theorem n_hungryDaysOf {l : Launch} (hst : l.stackTraces = false) (D : va_G) (cI cZ cL : ClassId) (h : Nat) (a a2 : Nat → Nat) {w b n : Nat} {T : ct_T} {w2 b2 n2 : Nat} {T2 : ct_T} (hd5 : w ≤ 5) (hd4 : b ≤ 4) (hd30 : n ≤ 30) (he5 : w2 ≤ 5) (he4 : b2 ≤ 4) (he30 : n2 ≤ 30) {i : Nat} (hi : i < n) : TX l yX1_hungryDaysOf wsX1_hungryDaysOf rm_X1_hungryDaysOf D cI cZ cL [.ref h, .int (nI i)] (wb_c h a a2 cI cZ w b n T w2 b2 n2 T2) 0 (some (.int (ct_hd T i))) (wb_c h a a2 cI cZ w b n T w2 b2 n2 T2) := by
  refine (k_X1_hungryDaysOf hst D cI cZ cL h a a2 w b n T w2 b2 n2 T2 hd5 hd4 hd30 he5 he4 he30 (nI i)).to ?_ (congrArg (fun v : Int32 => some (Value.int v)) ?_)
  · unfold e_X1_hungryDaysOf; rw [ckP hd30 hi, if_pos rfl]
  · unfold r_X1_hungryDaysOf; rw [ckP hd30 hi, if_pos rfl]; rw [cl (show i < 30 by omega)]
theorem n_wardOf {l : Launch} (hst : l.stackTraces = false) (D : va_G) (cI cZ cL : ClassId) (h : Nat) (a a2 : Nat → Nat) {w b n : Nat} {T : ct_T} {w2 b2 n2 : Nat} {T2 : ct_T} (hd5 : w ≤ 5) (hd4 : b ≤ 4) (hd30 : n ≤ 30) (he5 : w2 ≤ 5) (he4 : b2 ≤ 4) (he30 : n2 ≤ 30) {i : Nat} (hi : i < n) {W B P : Nat → Nat → Int32} (hX : RX w b n T W B P) : TX l yX1_wardOf wsX1_wardOf rm_X1_wardOf D cI cZ cL [.ref h, .int (nI i)] (wb_c h a a2 cI cZ w b n T w2 b2 n2 T2) 0 (some (.int (P i 1))) (wb_c h a a2 cI cZ w b n T w2 b2 n2 T2) := by
  refine (k_X1_wardOf hst D cI cZ cL h a a2 w b n T w2 b2 n2 T2 hd5 hd4 hd30 he5 he4 he30 (nI i)).to ?_ (congrArg (fun v : Int32 => some (Value.int v)) ?_)
  · unfold e_X1_wardOf; rw [ckP hd30 hi, if_pos rfl]
  · unfold r_X1_wardOf; rw [ckP hd30 hi, if_pos rfl]; exact v_nw hd30 hX hi
theorem n_bargeOf {l : Launch} (hst : l.stackTraces = false) (D : va_G) (cI cZ cL : ClassId) (h : Nat) (a a2 : Nat → Nat) {w b n : Nat} {T : ct_T} {w2 b2 n2 : Nat} {T2 : ct_T} (hd5 : w ≤ 5) (hd4 : b ≤ 4) (hd30 : n ≤ 30) (he5 : w2 ≤ 5) (he4 : b2 ≤ 4) (he30 : n2 ≤ 30) {i : Nat} (hi : i < n) {W B P : Nat → Nat → Int32} (hX : RX w b n T W B P) : TX l yX1_bargeOf wsX1_bargeOf rm_X1_bargeOf D cI cZ cL [.ref h, .int (nI i)] (wb_c h a a2 cI cZ w b n T w2 b2 n2 T2) 0 (some (.int (P i 2))) (wb_c h a a2 cI cZ w b n T w2 b2 n2 T2) := by
  refine (k_X1_bargeOf hst D cI cZ cL h a a2 w b n T w2 b2 n2 T2 hd5 hd4 hd30 he5 he4 he30 (nI i)).to ?_ (congrArg (fun v : Int32 => some (Value.int v)) ?_)
  · unfold e_X1_bargeOf; rw [ckP hd30 hi, if_pos rfl]
  · unfold r_X1_bargeOf; rw [ckP hd30 hi, if_pos rfl]; exact v_nb hd30 hX hi
theorem n_isHome {l : Launch} (hst : l.stackTraces = false) (D : va_G) (cI cZ cL : ClassId) (h : Nat) (a a2 : Nat → Nat) {w b n : Nat} {T : ct_T} {w2 b2 n2 : Nat} {T2 : ct_T} (hd5 : w ≤ 5) (hd4 : b ≤ 4) (hd30 : n ≤ 30) (he5 : w2 ≤ 5) (he4 : b2 ≤ 4) (he30 : n2 ≤ 30) {i : Nat} (hi : i < n) {W B P : Nat → Nat → Int32} (hX : RX w b n T W B P) : TX l yX1_isHome wsX1_isHome rm_X1_isHome D cI cZ cL [.ref h, .int (nI i)] (wb_c h a a2 cI cZ w b n T w2 b2 n2 T2) 0 (some (.int (P i 3))) (wb_c h a a2 cI cZ w b n T w2 b2 n2 T2) := by
  refine (k_X1_isHome hst D cI cZ cL h a a2 w b n T w2 b2 n2 T2 hd5 hd4 hd30 he5 he4 he30 (nI i)).to ?_ (congrArg (fun v : Int32 => some (Value.int v)) ?_)
  · unfold e_X1_isHome; rw [ckP hd30 hi, if_pos rfl]; split <;> rfl
  · unfold r_X1_isHome; rw [ckP hd30 hi, if_pos rfl]; rw [cl (show i < 30 by omega)]; exact v_nh hX hi
theorem n_isInGreatHouse {l : Launch} (hst : l.stackTraces = false) (D : va_G) (cI cZ cL : ClassId) (h : Nat) (a a2 : Nat → Nat) {w b n : Nat} {T : ct_T} {w2 b2 n2 : Nat} {T2 : ct_T} (hd5 : w ≤ 5) (hd4 : b ≤ 4) (hd30 : n ≤ 30) (he5 : w2 ≤ 5) (he4 : b2 ≤ 4) (he30 : n2 ≤ 30) {i : Nat} (hi : i < n) {W B P : Nat → Nat → Int32} (hX : RX w b n T W B P) : TX l yX1_isInGreatHouse wsX1_isInGreatHouse rm_X1_isInGreatHouse D cI cZ cL [.ref h, .int (nI i)] (wb_c h a a2 cI cZ w b n T w2 b2 n2 T2) 0 (some (.int (P i 4))) (wb_c h a a2 cI cZ w b n T w2 b2 n2 T2) := by
  refine (k_X1_isInGreatHouse hst D cI cZ cL h a a2 w b n T w2 b2 n2 T2 hd5 hd4 hd30 he5 he4 he30 (nI i)).to ?_ (congrArg (fun v : Int32 => some (Value.int v)) ?_)
  · unfold e_X1_isInGreatHouse; rw [ckP hd30 hi, if_pos rfl]; split <;> rfl
  · unfold r_X1_isInGreatHouse; rw [ckP hd30 hi, if_pos rfl]; rw [cl (show i < 30 by omega)]; exact v_ng hX hi
theorem n_day (l : Launch) (D : va_G) (cI cZ cL : ClassId) (h : Nat) (a a2 : Nat → Nat) {w b n : Nat} {T : ct_T} {w2 b2 n2 : Nat} {T2 : ct_T} (hd5 : w ≤ 5) (hd4 : b ≤ 4) (hd30 : n ≤ 30) (he5 : w2 ≤ 5) (he4 : b2 ≤ 4) (he30 : n2 ≤ 30) : MX l yX1_day wsX1_day rm_X1_day D cI cZ cL [.ref h] (wb_c h a a2 cI cZ w b n T w2 b2 n2 T2) (some (.int (ct_day T))) (wb_c h a a2 cI cZ w b n T w2 b2 n2 T2) := (k_X1_day l D cI cZ cL h a a2 w b n T w2 b2 n2 T2 hd5 hd4 hd30 he5 he4 he30).tx (congrArg (fun v => some (Value.int v)) (rfl))
theorem n_wards (l : Launch) (D : va_G) (cI cZ cL : ClassId) (h : Nat) (a a2 : Nat → Nat) {w b n : Nat} {T : ct_T} {w2 b2 n2 : Nat} {T2 : ct_T} (hd5 : w ≤ 5) (hd4 : b ≤ 4) (hd30 : n ≤ 30) (he5 : w2 ≤ 5) (he4 : b2 ≤ 4) (he30 : n2 ≤ 30) : MX l yX1_wards wsX1_wards rm_X1_wards D cI cZ cL [.ref h] (wb_c h a a2 cI cZ w b n T w2 b2 n2 T2) (some (.int (nI w))) (wb_c h a a2 cI cZ w b n T w2 b2 n2 T2) := (k_X1_wards l D cI cZ cL h a a2 w b n T w2 b2 n2 T2 hd5 hd4 hd30 he5 he4 he30).tx (congrArg (fun v => some (Value.int v)) (rfl))
theorem n_barges (l : Launch) (D : va_G) (cI cZ cL : ClassId) (h : Nat) (a a2 : Nat → Nat) {w b n : Nat} {T : ct_T} {w2 b2 n2 : Nat} {T2 : ct_T} (hd5 : w ≤ 5) (hd4 : b ≤ 4) (hd30 : n ≤ 30) (he5 : w2 ≤ 5) (he4 : b2 ≤ 4) (he30 : n2 ≤ 30) : MX l yX1_barges wsX1_barges rm_X1_barges D cI cZ cL [.ref h] (wb_c h a a2 cI cZ w b n T w2 b2 n2 T2) (some (.int (nI b))) (wb_c h a a2 cI cZ w b n T w2 b2 n2 T2) := (k_X1_barges l D cI cZ cL h a a2 w b n T w2 b2 n2 T2 hd5 hd4 hd30 he5 he4 he30).tx (congrArg (fun v => some (Value.int v)) (rfl))
theorem n_people (l : Launch) (D : va_G) (cI cZ cL : ClassId) (h : Nat) (a a2 : Nat → Nat) {w b n : Nat} {T : ct_T} {w2 b2 n2 : Nat} {T2 : ct_T} (hd5 : w ≤ 5) (hd4 : b ≤ 4) (hd30 : n ≤ 30) (he5 : w2 ≤ 5) (he4 : b2 ≤ 4) (he30 : n2 ≤ 30) : MX l yX1_people wsX1_people rm_X1_people D cI cZ cL [.ref h] (wb_c h a a2 cI cZ w b n T w2 b2 n2 T2) (some (.int (nI n))) (wb_c h a a2 cI cZ w b n T w2 b2 n2 T2) := (k_X1_people l D cI cZ cL h a a2 w b n T w2 b2 n2 T2 hd5 hd4 hd30 he5 he4 he30).tx (congrArg (fun v => some (Value.int v)) (rfl))
theorem n_bowlsEaten (l : Launch) (D : va_G) (cI cZ cL : ClassId) (h : Nat) (a a2 : Nat → Nat) {w b n : Nat} {T : ct_T} {w2 b2 n2 : Nat} {T2 : ct_T} (hd5 : w ≤ 5) (hd4 : b ≤ 4) (hd30 : n ≤ 30) (he5 : w2 ≤ 5) (he4 : b2 ≤ 4) (he30 : n2 ≤ 30) : MX l yX1_bowlsEaten wsX1_bowlsEaten rm_X1_bowlsEaten D cI cZ cL [.ref h] (wb_c h a a2 cI cZ w b n T w2 b2 n2 T2) (some (.int (ct_ea T))) (wb_c h a a2 cI cZ w b n T w2 b2 n2 T2) := (k_X1_bowlsEaten l D cI cZ cL h a a2 w b n T w2 b2 n2 T2 hd5 hd4 hd30 he5 he4 he30).tx (congrArg (fun v => some (Value.int v)) (rfl))
theorem n_bowls (l : Launch) (D : va_G) (cI cZ cL : ClassId) (h : Nat) (a a2 : Nat → Nat) {w b n : Nat} {T : ct_T} {w2 b2 n2 : Nat} {T2 : ct_T} (hd5 : w ≤ 5) (hd4 : b ≤ 4) (hd30 : n ≤ 30) (he5 : w2 ≤ 5) (he4 : b2 ≤ 4) (he30 : n2 ≤ 30) {k : Nat} (hbo : ct_bo T = nI k) : MX l yX1_bowls wsX1_bowls rm_X1_bowls D cI cZ cL [.ref h] (wb_c h a a2 cI cZ w b n T w2 b2 n2 T2) (some (.int (nI k))) (wb_c h a a2 cI cZ w b n T w2 b2 n2 T2) := (k_X1_bowls l D cI cZ cL h a a2 w b n T w2 b2 n2 T2 hd5 hd4 hd30 he5 he4 he30).tx (congrArg (fun v => some (Value.int v)) (hbo))
theorem n_freePlaces (l : Launch) (D : va_G) (cI cZ cL : ClassId) (h : Nat) (a a2 : Nat → Nat) {w b n : Nat} {T : ct_T} {w2 b2 n2 : Nat} {T2 : ct_T} (hd5 : w ≤ 5) (hd4 : b ≤ 4) (hd30 : n ≤ 30) (he5 : w2 ≤ 5) (he4 : b2 ≤ 4) (he30 : n2 ≤ 30) : MX l yX1_freePlaces wsX1_freePlaces rm_X1_freePlaces D cI cZ cL [.ref h] (wb_c h a a2 cI cZ w b n T w2 b2 n2 T2) (some (.int (sI (ct_pl T) w - sI (fun i => nI (cn (iw T i) n)) w))) (wb_c h a a2 cI cZ w b n T w2 b2 n2 T2) := (k_X1_freePlaces l D cI cZ cL h a a2 w b n T w2 b2 n2 T2 hd5 hd4 hd30 he5 he4 he30).tx (congrArg (fun v => some (Value.int v)) (v_free hd5 hd30))
theorem n_bowlsNeeded (l : Launch) (D : va_G) (cI cZ cL : ClassId) (h : Nat) (a a2 : Nat → Nat) {w b n : Nat} {T : ct_T} {w2 b2 n2 : Nat} {T2 : ct_T} (hd5 : w ≤ 5) (hd4 : b ≤ 4) (hd30 : n ≤ 30) (he5 : w2 ≤ 5) (he4 : b2 ≤ 4) (he30 : n2 ≤ 30) : MX l yX1_bowlsNeeded wsX1_bowlsNeeded rm_X1_bowlsNeeded D cI cZ cL [.ref h] (wb_c h a a2 cI cZ w b n T w2 b2 n2 T2) (some (.int (nI (ch T 1 n)))) (wb_c h a a2 cI cZ w b n T w2 b2 n2 T2) := (k_X1_bowlsNeeded l D cI cZ cL h a a2 w b n T w2 b2 n2 T2 hd5 hd4 hd30 he5 he4 he30).tx (congrArg (fun v => some (Value.int v)) (v_count hd30 1))
theorem n_peopleHome (l : Launch) (D : va_G) (cI cZ cL : ClassId) (h : Nat) (a a2 : Nat → Nat) {w b n : Nat} {T : ct_T} {w2 b2 n2 : Nat} {T2 : ct_T} (hd5 : w ≤ 5) (hd4 : b ≤ 4) (hd30 : n ≤ 30) (he5 : w2 ≤ 5) (he4 : b2 ≤ 4) (he30 : n2 ≤ 30) : MX l yX1_peopleHome wsX1_peopleHome rm_X1_peopleHome D cI cZ cL [.ref h] (wb_c h a a2 cI cZ w b n T w2 b2 n2 T2) (some (.int (nI (ch T 2 n)))) (wb_c h a a2 cI cZ w b n T w2 b2 n2 T2) := (k_X1_peopleHome l D cI cZ cL h a a2 w b n T w2 b2 n2 T2 hd5 hd4 hd30 he5 he4 he30).tx (congrArg (fun v => some (Value.int v)) (v_count hd30 2))
theorem n_peopleInGreatHouse (l : Launch) (D : va_G) (cI cZ cL : ClassId) (h : Nat) (a a2 : Nat → Nat) {w b n : Nat} {T : ct_T} {w2 b2 n2 : Nat} {T2 : ct_T} (hd5 : w ≤ 5) (hd4 : b ≤ 4) (hd30 : n ≤ 30) (he5 : w2 ≤ 5) (he4 : b2 ≤ 4) (he30 : n2 ≤ 30) : MX l yX1_peopleInGreatHouse wsX1_peopleInGreatHouse rm_X1_peopleInGreatHouse D cI cZ cL [.ref h] (wb_c h a a2 cI cZ w b n T w2 b2 n2 T2) (some (.int (nI (ch T 3 n)))) (wb_c h a a2 cI cZ w b n T w2 b2 n2 T2) := (k_X1_peopleInGreatHouse l D cI cZ cL h a a2 w b n T w2 b2 n2 T2 hd5 hd4 hd30 he5 he4 he30).tx (congrArg (fun v => some (Value.int v)) (v_count hd30 3))
theorem n_bowlsShort (l : Launch) (D : va_G) (cI cZ cL : ClassId) (h : Nat) (a a2 : Nat → Nat) {w b n : Nat} {T : ct_T} {w2 b2 n2 : Nat} {T2 : ct_T} (hd5 : w ≤ 5) (hd4 : b ≤ 4) (hd30 : n ≤ 30) (he5 : w2 ≤ 5) (he4 : b2 ≤ 4) (he30 : n2 ≤ 30) {k : Nat} (hbo : ct_bo T = nI k) (hk : k ≤ 60) : MX l yX1_bowlsShort wsX1_bowlsShort rm_X1_bowlsShort D cI cZ cL [.ref h] (wb_c h a a2 cI cZ w b n T w2 b2 n2 T2) (some (.int (nI (ch T 1 n - k)))) (wb_c h a a2 cI cZ w b n T w2 b2 n2 T2) := (k_X1_bowlsShort l D cI cZ cL h a a2 w b n T w2 b2 n2 T2 hd5 hd4 hd30 he5 he4 he30).tx (congrArg (fun v => some (Value.int v)) (by unfold r_X1_bowlsShort; rw [v_count hd30 1, hbo]; exact i_max0 (Nat.le_trans (ch_le T 1 n) (by omega)) hk))
theorem n_digest (l : Launch) (D : va_G) (cI cZ cL : ClassId) (h : Nat) (a a2 : Nat → Nat) {w b n : Nat} {T : ct_T} {w2 b2 n2 : Nat} {T2 : ct_T} (hd5 : w ≤ 5) (hd4 : b ≤ 4) (hd30 : n ≤ 30) (he5 : w2 ≤ 5) (he4 : b2 ≤ 4) (he30 : n2 ≤ 30) : MX l yX1_digest wsX1_digest rm_X1_digest D cI cZ cL [.ref h] (wb_c h a a2 cI cZ w b n T w2 b2 n2 T2) (some (.long (r_X1_digest w b n T w2 b2 n2 T2))) (wb_c h a a2 cI cZ w b n T w2 b2 n2 T2) := (k_X1_digest l D cI cZ cL h a a2 w b n T w2 b2 n2 T2 hd5 hd4 hd30 he5 he4 he30).tx (congrArg (fun v => some (Value.long v)) (rfl))
theorem n_meanFever (l : Launch) (D : va_G) (cI cZ cL : ClassId) (h : Nat) (a a2 : Nat → Nat) {w b n : Nat} {T : ct_T} {w2 b2 n2 : Nat} {T2 : ct_T} (hd5 : w ≤ 5) (hd4 : b ≤ 4) (hd30 : n ≤ 30) (he5 : w2 ≤ 5) (he4 : b2 ≤ 4) (he30 : n2 ≤ 30) : MX l yX1_meanFever wsX1_meanFever rm_X1_meanFever D cI cZ cL [.ref h] (wb_c h a a2 cI cZ w b n T w2 b2 n2 T2) (some (.double (r_X1_meanFever w b n T w2 b2 n2 T2))) (wb_c h a a2 cI cZ w b n T w2 b2 n2 T2) := (k_X1_meanFever l D cI cZ cL h a a2 w b n T w2 b2 n2 T2 hd5 hd4 hd30 he5 he4 he30).tx (congrArg (fun v => some (Value.double v)) (rfl))
end PG
