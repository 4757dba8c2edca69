/-! 05.world: the two kinds of towns as worlds -/
abbrev ct_T : Type := Int32 × Int32 × Int32 × (Nat → Int32) × (Nat → Int32) × (Nat → Int32) × (Nat → Int32) × (Nat → Int32) × (Nat → Int32) × (Nat → Int32) × (Nat → Int32) × (Nat → Int32) × (Nat → Int32)
def ct_day (T : ct_T) : Int32 := T.1
def ct_bo (T : ct_T) : Int32 := T.2.1
def ct_ea (T : ct_T) : Int32 := T.2.2.1
def ct_pl (T : ct_T) : Nat → Int32 := T.2.2.2.1
def ct_st (T : ct_T) : Nat → Int32 := T.2.2.2.2.1
def ct_ke (T : ct_T) : Nat → Int32 := T.2.2.2.2.2.1
def ct_to (T : ct_T) : Nat → Int32 := T.2.2.2.2.2.2.1
def ct_fe (T : ct_T) : Nat → Int32 := T.2.2.2.2.2.2.2.1
def ct_wh (T : ct_T) : Nat → Int32 := T.2.2.2.2.2.2.2.2.1
def ct_nu (T : ct_T) : Nat → Int32 := T.2.2.2.2.2.2.2.2.2.1
def ct_hd (T : ct_T) : Nat → Int32 := T.2.2.2.2.2.2.2.2.2.2.1
def ct_ht (T : ct_T) : Nat → Int32 := T.2.2.2.2.2.2.2.2.2.2.2.1
def ct_fr (T : ct_T) : Nat → Int32 := T.2.2.2.2.2.2.2.2.2.2.2.2
def cs_day (T : ct_T) (v : Int32) : ct_T := (v, T.2.1, T.2.2.1, T.2.2.2.1, T.2.2.2.2.1, T.2.2.2.2.2.1, T.2.2.2.2.2.2.1, T.2.2.2.2.2.2.2.1, T.2.2.2.2.2.2.2.2.1, T.2.2.2.2.2.2.2.2.2.1, T.2.2.2.2.2.2.2.2.2.2.1, T.2.2.2.2.2.2.2.2.2.2.2.1, T.2.2.2.2.2.2.2.2.2.2.2.2)
def cs_bo (T : ct_T) (v : Int32) : ct_T := (T.1, v, T.2.2.1, T.2.2.2.1, T.2.2.2.2.1, T.2.2.2.2.2.1, T.2.2.2.2.2.2.1, T.2.2.2.2.2.2.2.1, T.2.2.2.2.2.2.2.2.1, T.2.2.2.2.2.2.2.2.2.1, T.2.2.2.2.2.2.2.2.2.2.1, T.2.2.2.2.2.2.2.2.2.2.2.1, T.2.2.2.2.2.2.2.2.2.2.2.2)
def cs_ea (T : ct_T) (v : Int32) : ct_T := (T.1, T.2.1, v, T.2.2.2.1, T.2.2.2.2.1, T.2.2.2.2.2.1, T.2.2.2.2.2.2.1, T.2.2.2.2.2.2.2.1, T.2.2.2.2.2.2.2.2.1, T.2.2.2.2.2.2.2.2.2.1, T.2.2.2.2.2.2.2.2.2.2.1, T.2.2.2.2.2.2.2.2.2.2.2.1, T.2.2.2.2.2.2.2.2.2.2.2.2)
def cs_pl (T : ct_T) (v : Nat → Int32) : ct_T := (T.1, T.2.1, T.2.2.1, v, T.2.2.2.2.1, T.2.2.2.2.2.1, T.2.2.2.2.2.2.1, T.2.2.2.2.2.2.2.1, T.2.2.2.2.2.2.2.2.1, T.2.2.2.2.2.2.2.2.2.1, T.2.2.2.2.2.2.2.2.2.2.1, T.2.2.2.2.2.2.2.2.2.2.2.1, T.2.2.2.2.2.2.2.2.2.2.2.2)
def cs_st (T : ct_T) (v : Nat → Int32) : ct_T := (T.1, T.2.1, T.2.2.1, T.2.2.2.1, v, T.2.2.2.2.2.1, T.2.2.2.2.2.2.1, T.2.2.2.2.2.2.2.1, T.2.2.2.2.2.2.2.2.1, T.2.2.2.2.2.2.2.2.2.1, T.2.2.2.2.2.2.2.2.2.2.1, T.2.2.2.2.2.2.2.2.2.2.2.1, T.2.2.2.2.2.2.2.2.2.2.2.2)
def cs_ke (T : ct_T) (v : Nat → Int32) : ct_T := (T.1, T.2.1, T.2.2.1, T.2.2.2.1, T.2.2.2.2.1, v, T.2.2.2.2.2.2.1, T.2.2.2.2.2.2.2.1, T.2.2.2.2.2.2.2.2.1, T.2.2.2.2.2.2.2.2.2.1, T.2.2.2.2.2.2.2.2.2.2.1, T.2.2.2.2.2.2.2.2.2.2.2.1, T.2.2.2.2.2.2.2.2.2.2.2.2)
def cs_to (T : ct_T) (v : Nat → Int32) : ct_T := (T.1, T.2.1, T.2.2.1, T.2.2.2.1, T.2.2.2.2.1, T.2.2.2.2.2.1, v, T.2.2.2.2.2.2.2.1, T.2.2.2.2.2.2.2.2.1, T.2.2.2.2.2.2.2.2.2.1, T.2.2.2.2.2.2.2.2.2.2.1, T.2.2.2.2.2.2.2.2.2.2.2.1, T.2.2.2.2.2.2.2.2.2.2.2.2)
def cs_fe (T : ct_T) (v : Nat → Int32) : ct_T := (T.1, T.2.1, T.2.2.1, T.2.2.2.1, T.2.2.2.2.1, T.2.2.2.2.2.1, T.2.2.2.2.2.2.1, v, T.2.2.2.2.2.2.2.2.1, T.2.2.2.2.2.2.2.2.2.1, T.2.2.2.2.2.2.2.2.2.2.1, T.2.2.2.2.2.2.2.2.2.2.2.1, T.2.2.2.2.2.2.2.2.2.2.2.2)
def cs_wh (T : ct_T) (v : Nat → Int32) : ct_T := (T.1, T.2.1, T.2.2.1, T.2.2.2.1, T.2.2.2.2.1, T.2.2.2.2.2.1, T.2.2.2.2.2.2.1, T.2.2.2.2.2.2.2.1, v, T.2.2.2.2.2.2.2.2.2.1, T.2.2.2.2.2.2.2.2.2.2.1, T.2.2.2.2.2.2.2.2.2.2.2.1, T.2.2.2.2.2.2.2.2.2.2.2.2)
def cs_nu (T : ct_T) (v : Nat → Int32) : ct_T := (T.1, T.2.1, T.2.2.1, T.2.2.2.1, T.2.2.2.2.1, T.2.2.2.2.2.1, T.2.2.2.2.2.2.1, T.2.2.2.2.2.2.2.1, T.2.2.2.2.2.2.2.2.1, v, T.2.2.2.2.2.2.2.2.2.2.1, T.2.2.2.2.2.2.2.2.2.2.2.1, T.2.2.2.2.2.2.2.2.2.2.2.2)
def cs_hd (T : ct_T) (v : Nat → Int32) : ct_T := (T.1, T.2.1, T.2.2.1, T.2.2.2.1, T.2.2.2.2.1, T.2.2.2.2.2.1, T.2.2.2.2.2.2.1, T.2.2.2.2.2.2.2.1, T.2.2.2.2.2.2.2.2.1, T.2.2.2.2.2.2.2.2.2.1, v, T.2.2.2.2.2.2.2.2.2.2.2.1, T.2.2.2.2.2.2.2.2.2.2.2.2)
def cs_ht (T : ct_T) (v : Nat → Int32) : ct_T := (T.1, T.2.1, T.2.2.1, T.2.2.2.1, T.2.2.2.2.1, T.2.2.2.2.2.1, T.2.2.2.2.2.2.1, T.2.2.2.2.2.2.2.1, T.2.2.2.2.2.2.2.2.1, T.2.2.2.2.2.2.2.2.2.1, T.2.2.2.2.2.2.2.2.2.2.1, v, T.2.2.2.2.2.2.2.2.2.2.2.2)
def cs_fr (T : ct_T) (v : Nat → Int32) : ct_T := (T.1, T.2.1, T.2.2.1, T.2.2.2.1, T.2.2.2.2.1, T.2.2.2.2.2.1, T.2.2.2.2.2.2.1, T.2.2.2.2.2.2.2.1, T.2.2.2.2.2.2.2.2.1, T.2.2.2.2.2.2.2.2.2.1, T.2.2.2.2.2.2.2.2.2.2.1, T.2.2.2.2.2.2.2.2.2.2.2.1, v)
def wf_c (a : Nat → Nat) (w b n : Nat) (T : ct_T) : List Value := [.int (ct_day T), .int (ct_bo T), .int (ct_ea T), .int (nI w), .ref (a 4), .ref (a 5), .int (nI b), .ref (a 7), .ref (a 8), .int (nI n), .ref (a 10), .ref (a 11), .ref (a 12), .ref (a 13), .ref (a 14), .ref (a 15)]
def wt_c (a : Nat → Nat) (cI cZ : ClassId) (w b n : Nat) (T : ct_T) : va_W := [(a 0, .inr (0, wf_c a w b n T)), (a 4, .inl (cI, 5, .inl (ct_pl T))), (a 5, .inl (cI, 5, .inl (ct_st T))), (a 7, .inl (cI, 4, .inl (ct_ke T))), (a 8, .inl (cI, 4, .inl (ct_to T))), (a 10, .inl (cI, 30, .inl (ct_fe T))), (a 11, .inl (cI, 30, .inl (ct_wh T))), (a 12, .inl (cI, 30, .inl (ct_nu T))), (a 13, .inl (cI, 30, .inl (ct_hd T))), (a 14, .inl (cZ, 30, .inl (ct_ht T))), (a 15, .inl (cI, 5, .inl (ct_fr T)))]
def wb_c0 (h : Nat) (a a2 : Nat → Nat) : Nat × va_E := (h, .inr (1, [.ref (a 0), .ref (a2 0)]))
def wb_c (h : Nat) (a a2 : Nat → Nat) (cI cZ : ClassId) (w b n : Nat) (T : ct_T) (w2 b2 n2 : Nat) (T2 : ct_T) : va_W := wb_c0 h a a2 :: (wt_c a cI cZ w b n T ++ wt_c a2 cI cZ w2 b2 n2 T2)
theorem wo_X0_T (a : Nat → Nat) (cI cZ : ClassId) (w b n : Nat) (T : ct_T) : (wt_c a cI cZ w b n T)[0]? = some (a 0, .inr (0, (wf_c a w b n T))) := rfl
theorem wp_X0_T_0 (a : Nat → Nat) (cI cZ : ClassId) (w b n : Nat) (T : ct_T) (v : Int32) : (wt_c a cI cZ w b n T).set 0 (a 0, .inr (0, (wf_c a w b n T).set 0 (.int v))) = (wt_c a cI cZ w b n (cs_day T v)) := rfl
theorem wv_X0_T_0 (a : Nat → Nat) (w b n : Nat) (T : ct_T) : (wf_c a w b n T)[0]? = some (.int (ct_day T)) := rfl
theorem wp_X0_T_1 (a : Nat → Nat) (cI cZ : ClassId) (w b n : Nat) (T : ct_T) (v : Int32) : (wt_c a cI cZ w b n T).set 0 (a 0, .inr (0, (wf_c a w b n T).set 1 (.int v))) = (wt_c a cI cZ w b n (cs_bo T v)) := rfl
theorem wv_X0_T_1 (a : Nat → Nat) (w b n : Nat) (T : ct_T) : (wf_c a w b n T)[1]? = some (.int (ct_bo T)) := rfl
theorem wp_X0_T_2 (a : Nat → Nat) (cI cZ : ClassId) (w b n : Nat) (T : ct_T) (v : Int32) : (wt_c a cI cZ w b n T).set 0 (a 0, .inr (0, (wf_c a w b n T).set 2 (.int v))) = (wt_c a cI cZ w b n (cs_ea T v)) := rfl
theorem wv_X0_T_2 (a : Nat → Nat) (w b n : Nat) (T : ct_T) : (wf_c a w b n T)[2]? = some (.int (ct_ea T)) := rfl
theorem wp_X0_T_3 (a : Nat → Nat) (cI cZ : ClassId) (w b n : Nat) (T : ct_T) (v : Nat) : (wt_c a cI cZ w b n T).set 0 (a 0, .inr (0, (wf_c a w b n T).set 3 (.int (nI v)))) = (wt_c a cI cZ v b n T) := rfl
theorem wv_X0_T_3 (a : Nat → Nat) (w b n : Nat) (T : ct_T) : (wf_c a w b n T)[3]? = some (.int (nI w)) := rfl
theorem wr_X0_T_4 (a : Nat → Nat) (cI cZ : ClassId) (w b n : Nat) (T : ct_T) : (wt_c a cI cZ w b n T)[1]? = some (a 4, .inl (cI, 5, .inl (ct_pl T))) := rfl
theorem wu_X0_T_4 (a : Nat → Nat) (cI cZ : ClassId) (w b n : Nat) (T : ct_T) (f : Nat → Int32) : (wt_c a cI cZ w b n T).set 1 (a 4, .inl (cI, 5, .inl f)) = (wt_c a cI cZ w b n (cs_pl T f)) := rfl
theorem wv_X0_T_4 (a : Nat → Nat) (w b n : Nat) (T : ct_T) : (wf_c a w b n T)[4]? = some (.ref (a 4)) := rfl
theorem wr_X0_T_5 (a : Nat → Nat) (cI cZ : ClassId) (w b n : Nat) (T : ct_T) : (wt_c a cI cZ w b n T)[2]? = some (a 5, .inl (cI, 5, .inl (ct_st T))) := rfl
theorem wu_X0_T_5 (a : Nat → Nat) (cI cZ : ClassId) (w b n : Nat) (T : ct_T) (f : Nat → Int32) : (wt_c a cI cZ w b n T).set 2 (a 5, .inl (cI, 5, .inl f)) = (wt_c a cI cZ w b n (cs_st T f)) := rfl
theorem wv_X0_T_5 (a : Nat → Nat) (w b n : Nat) (T : ct_T) : (wf_c a w b n T)[5]? = some (.ref (a 5)) := rfl
theorem wp_X0_T_6 (a : Nat → Nat) (cI cZ : ClassId) (w b n : Nat) (T : ct_T) (v : Nat) : (wt_c a cI cZ w b n T).set 0 (a 0, .inr (0, (wf_c a w b n T).set 6 (.int (nI v)))) = (wt_c a cI cZ w v n T) := rfl
theorem wv_X0_T_6 (a : Nat → Nat) (w b n : Nat) (T : ct_T) : (wf_c a w b n T)[6]? = some (.int (nI b)) := rfl
theorem wr_X0_T_7 (a : Nat → Nat) (cI cZ : ClassId) (w b n : Nat) (T : ct_T) : (wt_c a cI cZ w b n T)[3]? = some (a 7, .inl (cI, 4, .inl (ct_ke T))) := rfl
theorem wu_X0_T_7 (a : Nat → Nat) (cI cZ : ClassId) (w b n : Nat) (T : ct_T) (f : Nat → Int32) : (wt_c a cI cZ w b n T).set 3 (a 7, .inl (cI, 4, .inl f)) = (wt_c a cI cZ w b n (cs_ke T f)) := rfl
theorem wv_X0_T_7 (a : Nat → Nat) (w b n : Nat) (T : ct_T) : (wf_c a w b n T)[7]? = some (.ref (a 7)) := rfl
theorem wr_X0_T_8 (a : Nat → Nat) (cI cZ : ClassId) (w b n : Nat) (T : ct_T) : (wt_c a cI cZ w b n T)[4]? = some (a 8, .inl (cI, 4, .inl (ct_to T))) := rfl
theorem wu_X0_T_8 (a : Nat → Nat) (cI cZ : ClassId) (w b n : Nat) (T : ct_T) (f : Nat → Int32) : (wt_c a cI cZ w b n T).set 4 (a 8, .inl (cI, 4, .inl f)) = (wt_c a cI cZ w b n (cs_to T f)) := rfl
theorem wv_X0_T_8 (a : Nat → Nat) (w b n : Nat) (T : ct_T) : (wf_c a w b n T)[8]? = some (.ref (a 8)) := rfl
theorem wp_X0_T_9 (a : Nat → Nat) (cI cZ : ClassId) (w b n : Nat) (T : ct_T) (v : Nat) : (wt_c a cI cZ w b n T).set 0 (a 0, .inr (0, (wf_c a w b n T).set 9 (.int (nI v)))) = (wt_c a cI cZ w b v T) := rfl
theorem wv_X0_T_9 (a : Nat → Nat) (w b n : Nat) (T : ct_T) : (wf_c a w b n T)[9]? = some (.int (nI n)) := rfl
theorem wr_X0_T_10 (a : Nat → Nat) (cI cZ : ClassId) (w b n : Nat) (T : ct_T) : (wt_c a cI cZ w b n T)[5]? = some (a 10, .inl (cI, 30, .inl (ct_fe T))) := rfl
theorem wu_X0_T_10 (a : Nat → Nat) (cI cZ : ClassId) (w b n : Nat) (T : ct_T) (f : Nat → Int32) : (wt_c a cI cZ w b n T).set 5 (a 10, .inl (cI, 30, .inl f)) = (wt_c a cI cZ w b n (cs_fe T f)) := rfl
theorem wv_X0_T_10 (a : Nat → Nat) (w b n : Nat) (T : ct_T) : (wf_c a w b n T)[10]? = some (.ref (a 10)) := rfl
theorem wr_X0_T_11 (a : Nat → Nat) (cI cZ : ClassId) (w b n : Nat) (T : ct_T) : (wt_c a cI cZ w b n T)[6]? = some (a 11, .inl (cI, 30, .inl (ct_wh T))) := rfl
theorem wu_X0_T_11 (a : Nat → Nat) (cI cZ : ClassId) (w b n : Nat) (T : ct_T) (f : Nat → Int32) : (wt_c a cI cZ w b n T).set 6 (a 11, .inl (cI, 30, .inl f)) = (wt_c a cI cZ w b n (cs_wh T f)) := rfl
theorem wv_X0_T_11 (a : Nat → Nat) (w b n : Nat) (T : ct_T) : (wf_c a w b n T)[11]? = some (.ref (a 11)) := rfl
theorem wr_X0_T_12 (a : Nat → Nat) (cI cZ : ClassId) (w b n : Nat) (T : ct_T) : (wt_c a cI cZ w b n T)[7]? = some (a 12, .inl (cI, 30, .inl (ct_nu T))) := rfl
theorem wu_X0_T_12 (a : Nat → Nat) (cI cZ : ClassId) (w b n : Nat) (T : ct_T) (f : Nat → Int32) : (wt_c a cI cZ w b n T).set 7 (a 12, .inl (cI, 30, .inl f)) = (wt_c a cI cZ w b n (cs_nu T f)) := rfl
theorem wv_X0_T_12 (a : Nat → Nat) (w b n : Nat) (T : ct_T) : (wf_c a w b n T)[12]? = some (.ref (a 12)) := rfl
theorem wr_X0_T_13 (a : Nat → Nat) (cI cZ : ClassId) (w b n : Nat) (T : ct_T) : (wt_c a cI cZ w b n T)[8]? = some (a 13, .inl (cI, 30, .inl (ct_hd T))) := rfl
theorem wu_X0_T_13 (a : Nat → Nat) (cI cZ : ClassId) (w b n : Nat) (T : ct_T) (f : Nat → Int32) : (wt_c a cI cZ w b n T).set 8 (a 13, .inl (cI, 30, .inl f)) = (wt_c a cI cZ w b n (cs_hd T f)) := rfl
theorem wv_X0_T_13 (a : Nat → Nat) (w b n : Nat) (T : ct_T) : (wf_c a w b n T)[13]? = some (.ref (a 13)) := rfl
theorem wr_X0_T_14 (a : Nat → Nat) (cI cZ : ClassId) (w b n : Nat) (T : ct_T) : (wt_c a cI cZ w b n T)[9]? = some (a 14, .inl (cZ, 30, .inl (ct_ht T))) := rfl
theorem wu_X0_T_14 (a : Nat → Nat) (cI cZ : ClassId) (w b n : Nat) (T : ct_T) (f : Nat → Int32) : (wt_c a cI cZ w b n T).set 9 (a 14, .inl (cZ, 30, .inl f)) = (wt_c a cI cZ w b n (cs_ht T f)) := rfl
theorem wv_X0_T_14 (a : Nat → Nat) (w b n : Nat) (T : ct_T) : (wf_c a w b n T)[14]? = some (.ref (a 14)) := rfl
theorem wr_X0_T_15 (a : Nat → Nat) (cI cZ : ClassId) (w b n : Nat) (T : ct_T) : (wt_c a cI cZ w b n T)[10]? = some (a 15, .inl (cI, 5, .inl (ct_fr T))) := rfl
theorem wu_X0_T_15 (a : Nat → Nat) (cI cZ : ClassId) (w b n : Nat) (T : ct_T) (f : Nat → Int32) : (wt_c a cI cZ w b n T).set 10 (a 15, .inl (cI, 5, .inl f)) = (wt_c a cI cZ w b n (cs_fr T f)) := rfl
theorem wv_X0_T_15 (a : Nat → Nat) (w b n : Nat) (T : ct_T) : (wf_c a w b n T)[15]? = some (.ref (a 15)) := rfl
theorem wo_X1_T (h : Nat) (a a2 : Nat → Nat) (cI cZ : ClassId) (w b n : Nat) (T : ct_T) (w2 b2 n2 : Nat) (T2 : ct_T) : (wb_c h a a2 cI cZ w b n T w2 b2 n2 T2)[1]? = some (a 0, .inr (0, (wf_c a w b n T))) := rfl
theorem wp_X1_T_0 (h : Nat) (a a2 : Nat → Nat) (cI cZ : ClassId) (w b n : Nat) (T : ct_T) (w2 b2 n2 : Nat) (T2 : ct_T) (v : Int32) : (wb_c h a a2 cI cZ w b n T w2 b2 n2 T2).set 1 (a 0, .inr (0, (wf_c a w b n T).set 0 (.int v))) = (wb_c h a a2 cI cZ w b n (cs_day T v) w2 b2 n2 T2) := rfl
theorem wv_X1_T_0 (a : Nat → Nat) (w b n : Nat) (T : ct_T) : (wf_c a w b n T)[0]? = some (.int (ct_day T)) := rfl
theorem wp_X1_T_1 (h : Nat) (a a2 : Nat → Nat) (cI cZ : ClassId) (w b n : Nat) (T : ct_T) (w2 b2 n2 : Nat) (T2 : ct_T) (v : Int32) : (wb_c h a a2 cI cZ w b n T w2 b2 n2 T2).set 1 (a 0, .inr (0, (wf_c a w b n T).set 1 (.int v))) = (wb_c h a a2 cI cZ w b n (cs_bo T v) w2 b2 n2 T2) := rfl
theorem wv_X1_T_1 (a : Nat → Nat) (w b n : Nat) (T : ct_T) : (wf_c a w b n T)[1]? = some (.int (ct_bo T)) := rfl
theorem wp_X1_T_2 (h : Nat) (a a2 : Nat → Nat) (cI cZ : ClassId) (w b n : Nat) (T : ct_T) (w2 b2 n2 : Nat) (T2 : ct_T) (v : Int32) : (wb_c h a a2 cI cZ w b n T w2 b2 n2 T2).set 1 (a 0, .inr (0, (wf_c a w b n T).set 2 (.int v))) = (wb_c h a a2 cI cZ w b n (cs_ea T v) w2 b2 n2 T2) := rfl
theorem wv_X1_T_2 (a : Nat → Nat) (w b n : Nat) (T : ct_T) : (wf_c a w b n T)[2]? = some (.int (ct_ea T)) := rfl
theorem wp_X1_T_3 (h : Nat) (a a2 : Nat → Nat) (cI cZ : ClassId) (w b n : Nat) (T : ct_T) (w2 b2 n2 : Nat) (T2 : ct_T) (v : Nat) : (wb_c h a a2 cI cZ w b n T w2 b2 n2 T2).set 1 (a 0, .inr (0, (wf_c a w b n T).set 3 (.int (nI v)))) = (wb_c h a a2 cI cZ v b n T w2 b2 n2 T2) := rfl
theorem wv_X1_T_3 (a : Nat → Nat) (w b n : Nat) (T : ct_T) : (wf_c a w b n T)[3]? = some (.int (nI w)) := rfl
theorem wr_X1_T_4 (h : Nat) (a a2 : Nat → Nat) (cI cZ : ClassId) (w b n : Nat) (T : ct_T) (w2 b2 n2 : Nat) (T2 : ct_T) : (wb_c h a a2 cI cZ w b n T w2 b2 n2 T2)[2]? = some (a 4, .inl (cI, 5, .inl (ct_pl T))) := rfl
theorem wu_X1_T_4 (h : Nat) (a a2 : Nat → Nat) (cI cZ : ClassId) (w b n : Nat) (T : ct_T) (w2 b2 n2 : Nat) (T2 : ct_T) (f : Nat → Int32) : (wb_c h a a2 cI cZ w b n T w2 b2 n2 T2).set 2 (a 4, .inl (cI, 5, .inl f)) = (wb_c h a a2 cI cZ w b n (cs_pl T f) w2 b2 n2 T2) := rfl
theorem wv_X1_T_4 (a : Nat → Nat) (w b n : Nat) (T : ct_T) : (wf_c a w b n T)[4]? = some (.ref (a 4)) := rfl
theorem wr_X1_T_5 (h : Nat) (a a2 : Nat → Nat) (cI cZ : ClassId) (w b n : Nat) (T : ct_T) (w2 b2 n2 : Nat) (T2 : ct_T) : (wb_c h a a2 cI cZ w b n T w2 b2 n2 T2)[3]? = some (a 5, .inl (cI, 5, .inl (ct_st T))) := rfl
theorem wu_X1_T_5 (h : Nat) (a a2 : Nat → Nat) (cI cZ : ClassId) (w b n : Nat) (T : ct_T) (w2 b2 n2 : Nat) (T2 : ct_T) (f : Nat → Int32) : (wb_c h a a2 cI cZ w b n T w2 b2 n2 T2).set 3 (a 5, .inl (cI, 5, .inl f)) = (wb_c h a a2 cI cZ w b n (cs_st T f) w2 b2 n2 T2) := rfl
theorem wv_X1_T_5 (a : Nat → Nat) (w b n : Nat) (T : ct_T) : (wf_c a w b n T)[5]? = some (.ref (a 5)) := rfl
theorem wp_X1_T_6 (h : Nat) (a a2 : Nat → Nat) (cI cZ : ClassId) (w b n : Nat) (T : ct_T) (w2 b2 n2 : Nat) (T2 : ct_T) (v : Nat) : (wb_c h a a2 cI cZ w b n T w2 b2 n2 T2).set 1 (a 0, .inr (0, (wf_c a w b n T).set 6 (.int (nI v)))) = (wb_c h a a2 cI cZ w v n T w2 b2 n2 T2) := rfl
theorem wv_X1_T_6 (a : Nat → Nat) (w b n : Nat) (T : ct_T) : (wf_c a w b n T)[6]? = some (.int (nI b)) := rfl
theorem wr_X1_T_7 (h : Nat) (a a2 : Nat → Nat) (cI cZ : ClassId) (w b n : Nat) (T : ct_T) (w2 b2 n2 : Nat) (T2 : ct_T) : (wb_c h a a2 cI cZ w b n T w2 b2 n2 T2)[4]? = some (a 7, .inl (cI, 4, .inl (ct_ke T))) := rfl
theorem wu_X1_T_7 (h : Nat) (a a2 : Nat → Nat) (cI cZ : ClassId) (w b n : Nat) (T : ct_T) (w2 b2 n2 : Nat) (T2 : ct_T) (f : Nat → Int32) : (wb_c h a a2 cI cZ w b n T w2 b2 n2 T2).set 4 (a 7, .inl (cI, 4, .inl f)) = (wb_c h a a2 cI cZ w b n (cs_ke T f) w2 b2 n2 T2) := rfl
theorem wv_X1_T_7 (a : Nat → Nat) (w b n : Nat) (T : ct_T) : (wf_c a w b n T)[7]? = some (.ref (a 7)) := rfl
theorem wr_X1_T_8 (h : Nat) (a a2 : Nat → Nat) (cI cZ : ClassId) (w b n : Nat) (T : ct_T) (w2 b2 n2 : Nat) (T2 : ct_T) : (wb_c h a a2 cI cZ w b n T w2 b2 n2 T2)[5]? = some (a 8, .inl (cI, 4, .inl (ct_to T))) := rfl
theorem wu_X1_T_8 (h : Nat) (a a2 : Nat → Nat) (cI cZ : ClassId) (w b n : Nat) (T : ct_T) (w2 b2 n2 : Nat) (T2 : ct_T) (f : Nat → Int32) : (wb_c h a a2 cI cZ w b n T w2 b2 n2 T2).set 5 (a 8, .inl (cI, 4, .inl f)) = (wb_c h a a2 cI cZ w b n (cs_to T f) w2 b2 n2 T2) := rfl
theorem wv_X1_T_8 (a : Nat → Nat) (w b n : Nat) (T : ct_T) : (wf_c a w b n T)[8]? = some (.ref (a 8)) := rfl
theorem wp_X1_T_9 (h : Nat) (a a2 : Nat → Nat) (cI cZ : ClassId) (w b n : Nat) (T : ct_T) (w2 b2 n2 : Nat) (T2 : ct_T) (v : Nat) : (wb_c h a a2 cI cZ w b n T w2 b2 n2 T2).set 1 (a 0, .inr (0, (wf_c a w b n T).set 9 (.int (nI v)))) = (wb_c h a a2 cI cZ w b v T w2 b2 n2 T2) := rfl
theorem wv_X1_T_9 (a : Nat → Nat) (w b n : Nat) (T : ct_T) : (wf_c a w b n T)[9]? = some (.int (nI n)) := rfl
theorem wr_X1_T_10 (h : Nat) (a a2 : Nat → Nat) (cI cZ : ClassId) (w b n : Nat) (T : ct_T) (w2 b2 n2 : Nat) (T2 : ct_T) : (wb_c h a a2 cI cZ w b n T w2 b2 n2 T2)[6]? = some (a 10, .inl (cI, 30, .inl (ct_fe T))) := rfl
theorem wu_X1_T_10 (h : Nat) (a a2 : Nat → Nat) (cI cZ : ClassId) (w b n : Nat) (T : ct_T) (w2 b2 n2 : Nat) (T2 : ct_T) (f : Nat → Int32) : (wb_c h a a2 cI cZ w b n T w2 b2 n2 T2).set 6 (a 10, .inl (cI, 30, .inl f)) = (wb_c h a a2 cI cZ w b n (cs_fe T f) w2 b2 n2 T2) := rfl
theorem wv_X1_T_10 (a : Nat → Nat) (w b n : Nat) (T : ct_T) : (wf_c a w b n T)[10]? = some (.ref (a 10)) := rfl
theorem wr_X1_T_11 (h : Nat) (a a2 : Nat → Nat) (cI cZ : ClassId) (w b n : Nat) (T : ct_T) (w2 b2 n2 : Nat) (T2 : ct_T) : (wb_c h a a2 cI cZ w b n T w2 b2 n2 T2)[7]? = some (a 11, .inl (cI, 30, .inl (ct_wh T))) := rfl
theorem wu_X1_T_11 (h : Nat) (a a2 : Nat → Nat) (cI cZ : ClassId) (w b n : Nat) (T : ct_T) (w2 b2 n2 : Nat) (T2 : ct_T) (f : Nat → Int32) : (wb_c h a a2 cI cZ w b n T w2 b2 n2 T2).set 7 (a 11, .inl (cI, 30, .inl f)) = (wb_c h a a2 cI cZ w b n (cs_wh T f) w2 b2 n2 T2) := rfl
theorem wv_X1_T_11 (a : Nat → Nat) (w b n : Nat) (T : ct_T) : (wf_c a w b n T)[11]? = some (.ref (a 11)) := rfl
theorem wr_X1_T_12 (h : Nat) (a a2 : Nat → Nat) (cI cZ : ClassId) (w b n : Nat) (T : ct_T) (w2 b2 n2 : Nat) (T2 : ct_T) : (wb_c h a a2 cI cZ w b n T w2 b2 n2 T2)[8]? = some (a 12, .inl (cI, 30, .inl (ct_nu T))) := rfl
theorem wu_X1_T_12 (h : Nat) (a a2 : Nat → Nat) (cI cZ : ClassId) (w b n : Nat) (T : ct_T) (w2 b2 n2 : Nat) (T2 : ct_T) (f : Nat → Int32) : (wb_c h a a2 cI cZ w b n T w2 b2 n2 T2).set 8 (a 12, .inl (cI, 30, .inl f)) = (wb_c h a a2 cI cZ w b n (cs_nu T f) w2 b2 n2 T2) := rfl
theorem wv_X1_T_12 (a : Nat → Nat) (w b n : Nat) (T : ct_T) : (wf_c a w b n T)[12]? = some (.ref (a 12)) := rfl
theorem wr_X1_T_13 (h : Nat) (a a2 : Nat → Nat) (cI cZ : ClassId) (w b n : Nat) (T : ct_T) (w2 b2 n2 : Nat) (T2 : ct_T) : (wb_c h a a2 cI cZ w b n T w2 b2 n2 T2)[9]? = some (a 13, .inl (cI, 30, .inl (ct_hd T))) := rfl
theorem wu_X1_T_13 (h : Nat) (a a2 : Nat → Nat) (cI cZ : ClassId) (w b n : Nat) (T : ct_T) (w2 b2 n2 : Nat) (T2 : ct_T) (f : Nat → Int32) : (wb_c h a a2 cI cZ w b n T w2 b2 n2 T2).set 9 (a 13, .inl (cI, 30, .inl f)) = (wb_c h a a2 cI cZ w b n (cs_hd T f) w2 b2 n2 T2) := rfl
theorem wv_X1_T_13 (a : Nat → Nat) (w b n : Nat) (T : ct_T) : (wf_c a w b n T)[13]? = some (.ref (a 13)) := rfl
theorem wr_X1_T_14 (h : Nat) (a a2 : Nat → Nat) (cI cZ : ClassId) (w b n : Nat) (T : ct_T) (w2 b2 n2 : Nat) (T2 : ct_T) : (wb_c h a a2 cI cZ w b n T w2 b2 n2 T2)[10]? = some (a 14, .inl (cZ, 30, .inl (ct_ht T))) := rfl
theorem wu_X1_T_14 (h : Nat) (a a2 : Nat → Nat) (cI cZ : ClassId) (w b n : Nat) (T : ct_T) (w2 b2 n2 : Nat) (T2 : ct_T) (f : Nat → Int32) : (wb_c h a a2 cI cZ w b n T w2 b2 n2 T2).set 10 (a 14, .inl (cZ, 30, .inl f)) = (wb_c h a a2 cI cZ w b n (cs_ht T f) w2 b2 n2 T2) := rfl
theorem wv_X1_T_14 (a : Nat → Nat) (w b n : Nat) (T : ct_T) : (wf_c a w b n T)[14]? = some (.ref (a 14)) := rfl
theorem wr_X1_T_15 (h : Nat) (a a2 : Nat → Nat) (cI cZ : ClassId) (w b n : Nat) (T : ct_T) (w2 b2 n2 : Nat) (T2 : ct_T) : (wb_c h a a2 cI cZ w b n T w2 b2 n2 T2)[11]? = some (a 15, .inl (cI, 5, .inl (ct_fr T))) := rfl
theorem wu_X1_T_15 (h : Nat) (a a2 : Nat → Nat) (cI cZ : ClassId) (w b n : Nat) (T : ct_T) (w2 b2 n2 : Nat) (T2 : ct_T) (f : Nat → Int32) : (wb_c h a a2 cI cZ w b n T w2 b2 n2 T2).set 11 (a 15, .inl (cI, 5, .inl f)) = (wb_c h a a2 cI cZ w b n (cs_fr T f) w2 b2 n2 T2) := rfl
theorem wv_X1_T_15 (a : Nat → Nat) (w b n : Nat) (T : ct_T) : (wf_c a w b n T)[15]? = some (.ref (a 15)) := rfl
theorem wo_X1_T2 (h : Nat) (a a2 : Nat → Nat) (cI cZ : ClassId) (w b n : Nat) (T : ct_T) (w2 b2 n2 : Nat) (T2 : ct_T) : (wb_c h a a2 cI cZ w b n T w2 b2 n2 T2)[12]? = some (a2 0, .inr (0, (wf_c a2 w2 b2 n2 T2))) := rfl
theorem wp_X1_T2_0 (h : Nat) (a a2 : Nat → Nat) (cI cZ : ClassId) (w b n : Nat) (T : ct_T) (w2 b2 n2 : Nat) (T2 : ct_T) (v : Int32) : (wb_c h a a2 cI cZ w b n T w2 b2 n2 T2).set 12 (a2 0, .inr (0, (wf_c a2 w2 b2 n2 T2).set 0 (.int v))) = (wb_c h a a2 cI cZ w b n T w2 b2 n2 (cs_day T2 v)) := rfl
theorem wv_X1_T2_0 (a2 : Nat → Nat) (w2 b2 n2 : Nat) (T2 : ct_T) : (wf_c a2 w2 b2 n2 T2)[0]? = some (.int (ct_day T2)) := rfl
theorem wp_X1_T2_1 (h : Nat) (a a2 : Nat → Nat) (cI cZ : ClassId) (w b n : Nat) (T : ct_T) (w2 b2 n2 : Nat) (T2 : ct_T) (v : Int32) : (wb_c h a a2 cI cZ w b n T w2 b2 n2 T2).set 12 (a2 0, .inr (0, (wf_c a2 w2 b2 n2 T2).set 1 (.int v))) = (wb_c h a a2 cI cZ w b n T w2 b2 n2 (cs_bo T2 v)) := rfl
theorem wv_X1_T2_1 (a2 : Nat → Nat) (w2 b2 n2 : Nat) (T2 : ct_T) : (wf_c a2 w2 b2 n2 T2)[1]? = some (.int (ct_bo T2)) := rfl
theorem wp_X1_T2_2 (h : Nat) (a a2 : Nat → Nat) (cI cZ : ClassId) (w b n : Nat) (T : ct_T) (w2 b2 n2 : Nat) (T2 : ct_T) (v : Int32) : (wb_c h a a2 cI cZ w b n T w2 b2 n2 T2).set 12 (a2 0, .inr (0, (wf_c a2 w2 b2 n2 T2).set 2 (.int v))) = (wb_c h a a2 cI cZ w b n T w2 b2 n2 (cs_ea T2 v)) := rfl
theorem wv_X1_T2_2 (a2 : Nat → Nat) (w2 b2 n2 : Nat) (T2 : ct_T) : (wf_c a2 w2 b2 n2 T2)[2]? = some (.int (ct_ea T2)) := rfl
theorem wp_X1_T2_3 (h : Nat) (a a2 : Nat → Nat) (cI cZ : ClassId) (w b n : Nat) (T : ct_T) (w2 b2 n2 : Nat) (T2 : ct_T) (v : Nat) : (wb_c h a a2 cI cZ w b n T w2 b2 n2 T2).set 12 (a2 0, .inr (0, (wf_c a2 w2 b2 n2 T2).set 3 (.int (nI v)))) = (wb_c h a a2 cI cZ w b n T v b2 n2 T2) := rfl
theorem wv_X1_T2_3 (a2 : Nat → Nat) (w2 b2 n2 : Nat) (T2 : ct_T) : (wf_c a2 w2 b2 n2 T2)[3]? = some (.int (nI w2)) := rfl
theorem wr_X1_T2_4 (h : Nat) (a a2 : Nat → Nat) (cI cZ : ClassId) (w b n : Nat) (T : ct_T) (w2 b2 n2 : Nat) (T2 : ct_T) : (wb_c h a a2 cI cZ w b n T w2 b2 n2 T2)[13]? = some (a2 4, .inl (cI, 5, .inl (ct_pl T2))) := rfl
theorem wu_X1_T2_4 (h : Nat) (a a2 : Nat → Nat) (cI cZ : ClassId) (w b n : Nat) (T : ct_T) (w2 b2 n2 : Nat) (T2 : ct_T) (f : Nat → Int32) : (wb_c h a a2 cI cZ w b n T w2 b2 n2 T2).set 13 (a2 4, .inl (cI, 5, .inl f)) = (wb_c h a a2 cI cZ w b n T w2 b2 n2 (cs_pl T2 f)) := rfl
theorem wv_X1_T2_4 (a2 : Nat → Nat) (w2 b2 n2 : Nat) (T2 : ct_T) : (wf_c a2 w2 b2 n2 T2)[4]? = some (.ref (a2 4)) := rfl
theorem wr_X1_T2_5 (h : Nat) (a a2 : Nat → Nat) (cI cZ : ClassId) (w b n : Nat) (T : ct_T) (w2 b2 n2 : Nat) (T2 : ct_T) : (wb_c h a a2 cI cZ w b n T w2 b2 n2 T2)[14]? = some (a2 5, .inl (cI, 5, .inl (ct_st T2))) := rfl
theorem wu_X1_T2_5 (h : Nat) (a a2 : Nat → Nat) (cI cZ : ClassId) (w b n : Nat) (T : ct_T) (w2 b2 n2 : Nat) (T2 : ct_T) (f : Nat → Int32) : (wb_c h a a2 cI cZ w b n T w2 b2 n2 T2).set 14 (a2 5, .inl (cI, 5, .inl f)) = (wb_c h a a2 cI cZ w b n T w2 b2 n2 (cs_st T2 f)) := rfl
theorem wv_X1_T2_5 (a2 : Nat → Nat) (w2 b2 n2 : Nat) (T2 : ct_T) : (wf_c a2 w2 b2 n2 T2)[5]? = some (.ref (a2 5)) := rfl
theorem wp_X1_T2_6 (h : Nat) (a a2 : Nat → Nat) (cI cZ : ClassId) (w b n : Nat) (T : ct_T) (w2 b2 n2 : Nat) (T2 : ct_T) (v : Nat) : (wb_c h a a2 cI cZ w b n T w2 b2 n2 T2).set 12 (a2 0, .inr (0, (wf_c a2 w2 b2 n2 T2).set 6 (.int (nI v)))) = (wb_c h a a2 cI cZ w b n T w2 v n2 T2) := rfl
theorem wv_X1_T2_6 (a2 : Nat → Nat) (w2 b2 n2 : Nat) (T2 : ct_T) : (wf_c a2 w2 b2 n2 T2)[6]? = some (.int (nI b2)) := rfl
theorem wr_X1_T2_7 (h : Nat) (a a2 : Nat → Nat) (cI cZ : ClassId) (w b n : Nat) (T : ct_T) (w2 b2 n2 : Nat) (T2 : ct_T) : (wb_c h a a2 cI cZ w b n T w2 b2 n2 T2)[15]? = some (a2 7, .inl (cI, 4, .inl (ct_ke T2))) := rfl
theorem wu_X1_T2_7 (h : Nat) (a a2 : Nat → Nat) (cI cZ : ClassId) (w b n : Nat) (T : ct_T) (w2 b2 n2 : Nat) (T2 : ct_T) (f : Nat → Int32) : (wb_c h a a2 cI cZ w b n T w2 b2 n2 T2).set 15 (a2 7, .inl (cI, 4, .inl f)) = (wb_c h a a2 cI cZ w b n T w2 b2 n2 (cs_ke T2 f)) := rfl
theorem wv_X1_T2_7 (a2 : Nat → Nat) (w2 b2 n2 : Nat) (T2 : ct_T) : (wf_c a2 w2 b2 n2 T2)[7]? = some (.ref (a2 7)) := rfl
theorem wr_X1_T2_8 (h : Nat) (a a2 : Nat → Nat) (cI cZ : ClassId) (w b n : Nat) (T : ct_T) (w2 b2 n2 : Nat) (T2 : ct_T) : (wb_c h a a2 cI cZ w b n T w2 b2 n2 T2)[16]? = some (a2 8, .inl (cI, 4, .inl (ct_to T2))) := rfl
theorem wu_X1_T2_8 (h : Nat) (a a2 : Nat → Nat) (cI cZ : ClassId) (w b n : Nat) (T : ct_T) (w2 b2 n2 : Nat) (T2 : ct_T) (f : Nat → Int32) : (wb_c h a a2 cI cZ w b n T w2 b2 n2 T2).set 16 (a2 8, .inl (cI, 4, .inl f)) = (wb_c h a a2 cI cZ w b n T w2 b2 n2 (cs_to T2 f)) := rfl
theorem wv_X1_T2_8 (a2 : Nat → Nat) (w2 b2 n2 : Nat) (T2 : ct_T) : (wf_c a2 w2 b2 n2 T2)[8]? = some (.ref (a2 8)) := rfl
theorem wp_X1_T2_9 (h : Nat) (a a2 : Nat → Nat) (cI cZ : ClassId) (w b n : Nat) (T : ct_T) (w2 b2 n2 : Nat) (T2 : ct_T) (v : Nat) : (wb_c h a a2 cI cZ w b n T w2 b2 n2 T2).set 12 (a2 0, .inr (0, (wf_c a2 w2 b2 n2 T2).set 9 (.int (nI v)))) = (wb_c h a a2 cI cZ w b n T w2 b2 v T2) := rfl
theorem wv_X1_T2_9 (a2 : Nat → Nat) (w2 b2 n2 : Nat) (T2 : ct_T) : (wf_c a2 w2 b2 n2 T2)[9]? = some (.int (nI n2)) := rfl
theorem wr_X1_T2_10 (h : Nat) (a a2 : Nat → Nat) (cI cZ : ClassId) (w b n : Nat) (T : ct_T) (w2 b2 n2 : Nat) (T2 : ct_T) : (wb_c h a a2 cI cZ w b n T w2 b2 n2 T2)[17]? = some (a2 10, .inl (cI, 30, .inl (ct_fe T2))) := rfl
theorem wu_X1_T2_10 (h : Nat) (a a2 : Nat → Nat) (cI cZ : ClassId) (w b n : Nat) (T : ct_T) (w2 b2 n2 : Nat) (T2 : ct_T) (f : Nat → Int32) : (wb_c h a a2 cI cZ w b n T w2 b2 n2 T2).set 17 (a2 10, .inl (cI, 30, .inl f)) = (wb_c h a a2 cI cZ w b n T w2 b2 n2 (cs_fe T2 f)) := rfl
theorem wv_X1_T2_10 (a2 : Nat → Nat) (w2 b2 n2 : Nat) (T2 : ct_T) : (wf_c a2 w2 b2 n2 T2)[10]? = some (.ref (a2 10)) := rfl
theorem wr_X1_T2_11 (h : Nat) (a a2 : Nat → Nat) (cI cZ : ClassId) (w b n : Nat) (T : ct_T) (w2 b2 n2 : Nat) (T2 : ct_T) : (wb_c h a a2 cI cZ w b n T w2 b2 n2 T2)[18]? = some (a2 11, .inl (cI, 30, .inl (ct_wh T2))) := rfl
theorem wu_X1_T2_11 (h : Nat) (a a2 : Nat → Nat) (cI cZ : ClassId) (w b n : Nat) (T : ct_T) (w2 b2 n2 : Nat) (T2 : ct_T) (f : Nat → Int32) : (wb_c h a a2 cI cZ w b n T w2 b2 n2 T2).set 18 (a2 11, .inl (cI, 30, .inl f)) = (wb_c h a a2 cI cZ w b n T w2 b2 n2 (cs_wh T2 f)) := rfl
theorem wv_X1_T2_11 (a2 : Nat → Nat) (w2 b2 n2 : Nat) (T2 : ct_T) : (wf_c a2 w2 b2 n2 T2)[11]? = some (.ref (a2 11)) := rfl
theorem wr_X1_T2_12 (h : Nat) (a a2 : Nat → Nat) (cI cZ : ClassId) (w b n : Nat) (T : ct_T) (w2 b2 n2 : Nat) (T2 : ct_T) : (wb_c h a a2 cI cZ w b n T w2 b2 n2 T2)[19]? = some (a2 12, .inl (cI, 30, .inl (ct_nu T2))) := rfl
theorem wu_X1_T2_12 (h : Nat) (a a2 : Nat → Nat) (cI cZ : ClassId) (w b n : Nat) (T : ct_T) (w2 b2 n2 : Nat) (T2 : ct_T) (f : Nat → Int32) : (wb_c h a a2 cI cZ w b n T w2 b2 n2 T2).set 19 (a2 12, .inl (cI, 30, .inl f)) = (wb_c h a a2 cI cZ w b n T w2 b2 n2 (cs_nu T2 f)) := rfl
theorem wv_X1_T2_12 (a2 : Nat → Nat) (w2 b2 n2 : Nat) (T2 : ct_T) : (wf_c a2 w2 b2 n2 T2)[12]? = some (.ref (a2 12)) := rfl
theorem wr_X1_T2_13 (h : Nat) (a a2 : Nat → Nat) (cI cZ : ClassId) (w b n : Nat) (T : ct_T) (w2 b2 n2 : Nat) (T2 : ct_T) : (wb_c h a a2 cI cZ w b n T w2 b2 n2 T2)[20]? = some (a2 13, .inl (cI, 30, .inl (ct_hd T2))) := rfl
theorem wu_X1_T2_13 (h : Nat) (a a2 : Nat → Nat) (cI cZ : ClassId) (w b n : Nat) (T : ct_T) (w2 b2 n2 : Nat) (T2 : ct_T) (f : Nat → Int32) : (wb_c h a a2 cI cZ w b n T w2 b2 n2 T2).set 20 (a2 13, .inl (cI, 30, .inl f)) = (wb_c h a a2 cI cZ w b n T w2 b2 n2 (cs_hd T2 f)) := rfl
theorem wv_X1_T2_13 (a2 : Nat → Nat) (w2 b2 n2 : Nat) (T2 : ct_T) : (wf_c a2 w2 b2 n2 T2)[13]? = some (.ref (a2 13)) := rfl
theorem wr_X1_T2_14 (h : Nat) (a a2 : Nat → Nat) (cI cZ : ClassId) (w b n : Nat) (T : ct_T) (w2 b2 n2 : Nat) (T2 : ct_T) : (wb_c h a a2 cI cZ w b n T w2 b2 n2 T2)[21]? = some (a2 14, .inl (cZ, 30, .inl (ct_ht T2))) := rfl
theorem wu_X1_T2_14 (h : Nat) (a a2 : Nat → Nat) (cI cZ : ClassId) (w b n : Nat) (T : ct_T) (w2 b2 n2 : Nat) (T2 : ct_T) (f : Nat → Int32) : (wb_c h a a2 cI cZ w b n T w2 b2 n2 T2).set 21 (a2 14, .inl (cZ, 30, .inl f)) = (wb_c h a a2 cI cZ w b n T w2 b2 n2 (cs_ht T2 f)) := rfl
theorem wv_X1_T2_14 (a2 : Nat → Nat) (w2 b2 n2 : Nat) (T2 : ct_T) : (wf_c a2 w2 b2 n2 T2)[14]? = some (.ref (a2 14)) := rfl
theorem wr_X1_T2_15 (h : Nat) (a a2 : Nat → Nat) (cI cZ : ClassId) (w b n : Nat) (T : ct_T) (w2 b2 n2 : Nat) (T2 : ct_T) : (wb_c h a a2 cI cZ w b n T w2 b2 n2 T2)[22]? = some (a2 15, .inl (cI, 5, .inl (ct_fr T2))) := rfl
theorem wu_X1_T2_15 (h : Nat) (a a2 : Nat → Nat) (cI cZ : ClassId) (w b n : Nat) (T : ct_T) (w2 b2 n2 : Nat) (T2 : ct_T) (f : Nat → Int32) : (wb_c h a a2 cI cZ w b n T w2 b2 n2 T2).set 22 (a2 15, .inl (cI, 5, .inl f)) = (wb_c h a a2 cI cZ w b n T w2 b2 n2 (cs_fr T2 f)) := rfl
theorem wv_X1_T2_15 (a2 : Nat → Nat) (w2 b2 n2 : Nat) (T2 : ct_T) : (wf_c a2 w2 b2 n2 T2)[15]? = some (.ref (a2 15)) := rfl
theorem wo_X1_H (h : Nat) (a a2 : Nat → Nat) (cI cZ : ClassId) (w b n : Nat) (T : ct_T) (w2 b2 n2 : Nat) (T2 : ct_T) : (wb_c h a a2 cI cZ w b n T w2 b2 n2 T2)[0]? = some (h, .inr (1, [.ref (a 0), .ref (a2 0)])) := rfl
theorem wv_X1_H_0 (a a2 : Nat → Nat) : ([.ref (a 0), .ref (a2 0)] : List Value)[0]? = some (.ref (a 0)) := rfl
theorem wv_X1_H_1 (a a2 : Nat → Nat) : ([.ref (a 0), .ref (a2 0)] : List Value)[1]? = some (.ref (a2 0)) := rfl
theorem wpC_X1_T (h : Nat) (a a2 : Nat → Nat) (cI cZ : ClassId) (w b n : Nat) (T : ct_T) (w2 b2 n2 : Nat) (T2 : ct_T) : ([1, 2, 3, 4, 5, 6, 7, 8, 9, 10, 11] : List Nat).map (fun i => (wb_c h a a2 cI cZ w b n T w2 b2 n2 T2)[i]?) = (wt_c a cI cZ w b n T).map some := rfl
theorem wpR_X1_T (h : Nat) (a a2 : Nat → Nat) (cI cZ : ClassId) (w b n : Nat) (T : ct_T) (w2 b2 n2 : Nat) (T2 : ct_T) : ([0, 12, 13, 14, 15, 16, 17, 18, 19, 20, 21, 22] : List Nat).map (fun i => (wb_c h a a2 cI cZ w b n T w2 b2 n2 T2)[i]?) = (wb_c0 h a a2 :: wt_c a2 cI cZ w2 b2 n2 T2).map some := rfl
theorem wpJ_X1_T (h : Nat) (a a2 : Nat → Nat) (cI cZ : ClassId) (w b n : Nat) (T : ct_T) (w2 b2 n2 : Nat) (T2 : ct_T) : ([0, 12, 13, 14, 15, 16, 17, 18, 19, 20, 21, 22, 1, 2, 3, 4, 5, 6, 7, 8, 9, 10, 11] : List Nat).map (fun i => ((wb_c0 h a a2 :: wt_c a2 cI cZ w2 b2 n2 T2) ++ (wt_c a cI cZ w b n T))[i]?) = (wb_c h a a2 cI cZ w b n T w2 b2 n2 T2).map some := rfl
theorem wpC_X1_T2 (h : Nat) (a a2 : Nat → Nat) (cI cZ : ClassId) (w b n : Nat) (T : ct_T) (w2 b2 n2 : Nat) (T2 : ct_T) : ([12, 13, 14, 15, 16, 17, 18, 19, 20, 21, 22] : List Nat).map (fun i => (wb_c h a a2 cI cZ w b n T w2 b2 n2 T2)[i]?) = (wt_c a2 cI cZ w2 b2 n2 T2).map some := rfl
theorem wpR_X1_T2 (h : Nat) (a a2 : Nat → Nat) (cI cZ : ClassId) (w b n : Nat) (T : ct_T) (w2 b2 n2 : Nat) (T2 : ct_T) : ([0, 1, 2, 3, 4, 5, 6, 7, 8, 9, 10, 11] : List Nat).map (fun i => (wb_c h a a2 cI cZ w b n T w2 b2 n2 T2)[i]?) = (wb_c0 h a a2 :: wt_c a cI cZ w b n T).map some := rfl
theorem wpJ_X1_T2 (h : Nat) (a a2 : Nat → Nat) (cI cZ : ClassId) (w b n : Nat) (T : ct_T) (w2 b2 n2 : Nat) (T2 : ct_T) : ([0, 1, 2, 3, 4, 5, 6, 7, 8, 9, 10, 11, 12, 13, 14, 15, 16, 17, 18, 19, 20, 21, 22] : List Nat).map (fun i => ((wb_c0 h a a2 :: wt_c a cI cZ w b n T) ++ (wt_c a2 cI cZ w2 b2 n2 T2))[i]?) = (wb_c h a a2 cI cZ w b n T w2 b2 n2 T2).map some := rfl
