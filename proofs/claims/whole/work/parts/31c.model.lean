/-! StreamMarksModel, on; written by wip/tools/model.py -/
def fn_Md_step_43 (w : wd) (x1 : Int32) (x2 : Int32) (x3 : Int32) (s0 : Bool) (s1 : Bool) : Option (wd) := (if (fn_Md_refuse w s1 s0).1 = true then some (fn_Md_refuse w s1 s0).2 else (if 0 ≤ (((97 : Int32) * x1) + x2).toInt ∧ (((97 : Int32) * x1) + x2).toInt < 1552 then some (up2 (fn_Md_refuse w s1 s0).2 9 ((((97 : Int32) * x1) + x2).toInt.toNat) x3) else none))
set_option maxHeartbeats 1600000 in
set_option maxRecDepth 100000 in
theorem w_Md_step_43 {G : sm_G} {b : Nat} {M0 : sm_M} {bc bs : Nat} {R : wd} : ∀ (M : sm_M) (w : wd) (x1 : Int32) (x2 : Int32) (x3 : Int32) (s0 : Bool) (s1 : Bool), lo_in G md_L b M0 M w → fn_Md_step_43 w x1 x2 x3 s0 s1 = some R → sm_W G mf_Md_step 43 [(0, .ref (b + 0)), (1, .int x1), (2, .int x2), (3, .int x3)] [.int (bi s0), .int (bi s1), .ref (b + 0)] M bc bs (wd_Q G md_L b M0 none R) := by
  intro M w x1 x2 x3 s0 s1 hI  hf
  unfold fn_Md_step_43 at hf
  refine lo_callVm d_Md_step_43 cs_Md_step_106 rfl hI ml_0 (As := [.int (bi s1), .int (bi s0)]) rfl rfl (Nat.le_of_ble_eq_true rfl) (c_Md_refuse hI s1 s0) (fun M3 hI4 => ?_)
  refine sm_if_eq (tgt := 50) d_Md_step_46 (by decide) (fun h5 => ?_) (fun h5 => ?_)
  · rw [if_neg (bi0 h5)] at hf
    refine sm_aload_n d_Md_step_50 rfl (j := 0) rfl ?_
    refine lo_get (v := .ref (b + 9)) d_Md_step_51 fg_Md_38 hI4 ml_0 rfl ?_
    refine sm_bipush (v := 97) d_Md_step_54 (by decide) ?_
    refine sm_iload_n d_Md_step_56 rfl (j := 1) rfl ?_
    refine sm_imul d_Md_step_57 ?_
    refine sm_iload_n d_Md_step_58 rfl (j := 2) rfl ?_
    refine sm_iadd d_Md_step_59 ?_
    refine sm_iload_n d_Md_step_60 rfl (j := 3) rfl ?_
    obtain ⟨h6, hf⟩ := lo_chk hf
    refine lo_ast (j := (((97 : Int32) * x1) + x2).toInt.toNat) d_Md_step_61 hI4 ml_9 h6 rfl (fun M7 hI8 => ?_)
    cases hf
    refine sm_return d_Md_step_62 rfl ?_
    exact ⟨rfl, hI8⟩
  · rw [if_pos (bi1 h5)] at hf
    cases hf
    refine sm_return d_Md_step_49 rfl ?_
    exact ⟨rfl, hI4⟩

def fn_Md_step_38 (w : wd) (x1 : Int32) (x2 : Int32) (x3 : Int32) (s0 : Bool) : Option (wd) := fn_Md_step_43 w x1 x2 x3 true s0
set_option maxHeartbeats 1600000 in
set_option maxRecDepth 100000 in
theorem w_Md_step_38 {G : sm_G} {b : Nat} {M0 : sm_M} {bc bs : Nat} {R : wd} : ∀ (M : sm_M) (w : wd) (x1 : Int32) (x2 : Int32) (x3 : Int32) (s0 : Bool), lo_in G md_L b M0 M w → fn_Md_step_38 w x1 x2 x3 s0 = some R → sm_W G mf_Md_step 38 [(0, .ref (b + 0)), (1, .int x1), (2, .int x2), (3, .int x3)] [.int (bi s0), .ref (b + 0)] M bc bs (wd_Q G md_L b M0 none R) := by
  intro M w x1 x2 x3 s0 hI  hf
  unfold fn_Md_step_38 at hf
  refine sm_iconst (v := 1) d_Md_step_38 (by decide) ?_
  refine sm_goto (tgt := 43) d_Md_step_39 (by decide) ?_
  exact sm_pick [0, 1, 2, 3] (w_Md_step_43 _ _ _ _ _ _ _ hI hf) rfl

def fn_Md_step_14 (w : wd) (x1 : Int32) (x2 : Int32) (x3 : Int32) (s0 : Bool) : Option (wd) := (if (fn_Md_in x2.toInt64 (0 : Int64) (96 : Int64)) = true then (if (fn_Md_in x3.toInt64 (0 : Int64) (65535 : Int64)) = true then fn_Md_step_43 w x1 x2 x3 false s0 else fn_Md_step_38 w x1 x2 x3 s0) else fn_Md_step_38 w x1 x2 x3 s0)
set_option maxHeartbeats 1600000 in
set_option maxRecDepth 100000 in
theorem w_Md_step_14 {G : sm_G} {b : Nat} {M0 : sm_M} {bc bs : Nat} {R : wd} : ∀ (M : sm_M) (w : wd) (x1 : Int32) (x2 : Int32) (x3 : Int32) (s0 : Bool), lo_in G md_L b M0 M w → fn_Md_step_14 w x1 x2 x3 s0 = some R → sm_W G mf_Md_step 14 [(0, .ref (b + 0)), (1, .int x1), (2, .int x2), (3, .int x3)] [.int (bi s0), .ref (b + 0)] M bc bs (wd_Q G md_L b M0 none R) := by
  intro M w x1 x2 x3 s0 hI  hf
  unfold fn_Md_step_14 at hf
  refine sm_iload_n d_Md_step_14 rfl (j := 2) rfl ?_
  refine sm_i2l d_Md_step_15 ?_
  refine sm_lconst (v := 0) d_Md_step_16 (by decide) ?_
  refine sm_ldc2 (v := 96) d_Md_step_17 mw_1381 ?_
  refine sm_callSp d_Md_step_20 cs_Md_step_122 rfl (As := [.long x2.toInt64, .long (0 : Int64), .long (96 : Int64)]) rfl rfl (Nat.le_of_ble_eq_true rfl) (c_Md_in x2.toInt64 (0 : Int64) (96 : Int64)) ?_
  refine sm_if_eq (tgt := 38) d_Md_step_23 (by decide) (fun h2 => ?_) (fun h2 => ?_)
  · rw [if_neg (bi0 h2)] at hf
    exact sm_pick [0, 1, 2, 3] (w_Md_step_38 _ _ _ _ _ _ hI hf) rfl
  · rw [if_pos (bi1 h2)] at hf
    refine sm_iload_n d_Md_step_26 rfl (j := 3) rfl ?_
    refine sm_i2l d_Md_step_27 ?_
    refine sm_lconst (v := 0) d_Md_step_28 (by decide) ?_
    refine sm_ldc2 (v := 65535) d_Md_step_29 mw_1382 ?_
    refine sm_callSp d_Md_step_32 cs_Md_step_122 rfl (As := [.long x3.toInt64, .long (0 : Int64), .long (65535 : Int64)]) rfl rfl (Nat.le_of_ble_eq_true rfl) (c_Md_in x3.toInt64 (0 : Int64) (65535 : Int64)) ?_
    refine sm_if_ne (tgt := 42) d_Md_step_35 (by decide) (fun h9 => ?_) (fun h9 => ?_)
    · rw [if_pos (bi1 h9)] at hf
      refine sm_iconst (v := 0) d_Md_step_42 (by decide) ?_
      exact sm_pick [0, 1, 2, 3] (w_Md_step_43 _ _ _ _ _ _ _ hI hf) rfl
    · rw [if_neg (bi0 h9)] at hf
      exact sm_pick [0, 1, 2, 3] (w_Md_step_38 _ _ _ _ _ _ hI hf) rfl

def fn_Md_step (w : wd) (x1 : Int32) (x2 : Int32) (x3 : Int32) : Option (wd) := (if (fn_Md_isComponent w x1) = true then fn_Md_step_14 w x1 x2 x3 false else fn_Md_step_14 w x1 x2 x3 true)
set_option maxHeartbeats 1600000 in
set_option maxRecDepth 100000 in
theorem c_Md_step {G : sm_G} {b : Nat} {M0 M : sm_M}  {w : wd}  (hI : lo_in G md_L b M0 M w)  (x1 : Int32) (x2 : Int32) (x3 : Int32)  {R : wd} (hf : fn_Md_step w x1 x2 x3 = some R) : sm_C G mf_Md_step [.ref (b + 0), .int x1, .int x2, .int x3] M 0 0 (wd_Q G md_L b M none R) := by
  unfold fn_Md_step at hf
  have hI := hI.here
  refine sm_ofW rfl (Nat.le_of_ble_eq_true rfl) ?_
  refine sm_aload_n d_Md_step_0 rfl (j := 0) rfl ?_
  refine sm_aload_n d_Md_step_1 rfl (j := 0) rfl ?_
  refine sm_iload_n d_Md_step_2 rfl (j := 1) rfl ?_
  refine lo_callV d_Md_step_3 cs_Md_step_134 rfl hI ml_0 (As := [.int x1]) rfl rfl (Nat.le_of_ble_eq_true rfl) (c_Md_isComponent hI x1) ?_
  refine sm_if_ne (tgt := 13) d_Md_step_6 (by decide) (fun h1 => ?_) (fun h1 => ?_)
  · rw [if_pos (bi1 h1)] at hf
    refine sm_iconst (v := 0) d_Md_step_13 (by decide) ?_
    exact sm_pick [0, 1, 2, 3] (w_Md_step_14 _ _ _ _ _ _ hI hf) rfl
  · rw [if_neg (bi0 h1)] at hf
    refine sm_iconst (v := 1) d_Md_step_9 (by decide) ?_
    refine sm_goto (tgt := 14) d_Md_step_10 (by decide) ?_
    exact sm_pick [0, 1, 2, 3] (w_Md_step_14 _ _ _ _ _ _ hI hf) rfl

def fn_Md_turn (w : wd) (x1 : Int32) (x2 : Int32) (x3 : Int32) (x4 : Int32) (x5 : Int32) (x6 : Int32) : Option (wd) := (if 0 ≤ ((6 : Int32) * (w 0 17)).toInt ∧ ((6 : Int32) * (w 0 17)).toInt < 192 then (if 0 ≤ (((6 : Int32) * (w 0 17)) + (1 : Int32)).toInt ∧ (((6 : Int32) * (w 0 17)) + (1 : Int32)).toInt < 192 then (if 0 ≤ (((6 : Int32) * (w 0 17)) + (2 : Int32)).toInt ∧ (((6 : Int32) * (w 0 17)) + (2 : Int32)).toInt < 192 then (if 0 ≤ (((6 : Int32) * (w 0 17)) + (3 : Int32)).toInt ∧ (((6 : Int32) * (w 0 17)) + (3 : Int32)).toInt < 192 then (if 0 ≤ (((6 : Int32) * (w 0 17)) + (4 : Int32)).toInt ∧ (((6 : Int32) * (w 0 17)) + (4 : Int32)).toInt < 192 then (if 0 ≤ (((6 : Int32) * (w 0 17)) + (5 : Int32)).toInt ∧ (((6 : Int32) * (w 0 17)) + (5 : Int32)).toInt < 192 then some (up2 (up2 (up2 (up2 (up2 (up2 (up2 w 10 (((6 : Int32) * (w 0 17)).toInt.toNat) x1) 10 ((((6 : Int32) * (w 0 17)) + (1 : Int32)).toInt.toNat) x2) 10 ((((6 : Int32) * (w 0 17)) + (2 : Int32)).toInt.toNat) x3) 10 ((((6 : Int32) * (w 0 17)) + (3 : Int32)).toInt.toNat) x4) 10 ((((6 : Int32) * (w 0 17)) + (4 : Int32)).toInt.toNat) x5) 10 ((((6 : Int32) * (w 0 17)) + (5 : Int32)).toInt.toNat) x6) 0 17 (((up2 (up2 (up2 (up2 (up2 (up2 w 10 (((6 : Int32) * (w 0 17)).toInt.toNat) x1) 10 ((((6 : Int32) * (w 0 17)) + (1 : Int32)).toInt.toNat) x2) 10 ((((6 : Int32) * (w 0 17)) + (2 : Int32)).toInt.toNat) x3) 10 ((((6 : Int32) * (w 0 17)) + (3 : Int32)).toInt.toNat) x4) 10 ((((6 : Int32) * (w 0 17)) + (4 : Int32)).toInt.toNat) x5) 10 ((((6 : Int32) * (w 0 17)) + (5 : Int32)).toInt.toNat) x6) 0 17) + (1 : Int32))) else none) else none) else none) else none) else none) else none)
set_option maxHeartbeats 1600000 in
set_option maxRecDepth 100000 in
theorem c_Md_turn {G : sm_G} {b : Nat} {M0 M : sm_M}  {w : wd}  (hI : lo_in G md_L b M0 M w)  (x1 : Int32) (x2 : Int32) (x3 : Int32) (x4 : Int32) (x5 : Int32) (x6 : Int32)  {R : wd} (hf : fn_Md_turn w x1 x2 x3 x4 x5 x6 = some R) : sm_C G mf_Md_turn [.ref (b + 0), .int x1, .int x2, .int x3, .int x4, .int x5, .int x6] M 0 0 (wd_Q G md_L b M none R) := by
  unfold fn_Md_turn at hf
  have hI := hI.here
  refine sm_ofW rfl (Nat.le_of_ble_eq_true rfl) ?_
  refine sm_bipush (v := 6) d_Md_turn_0 (by decide) ?_
  refine sm_aload_n d_Md_turn_2 rfl (j := 0) rfl ?_
  refine lo_get (v := .int (w 0 17)) d_Md_turn_3 fg_Md_103 hI ml_0 rfl ?_
  refine sm_imul d_Md_turn_6 ?_
  refine sm_istore d_Md_turn_7 (by decide) rfl ?_
  refine sm_aload_n d_Md_turn_9 rfl (j := 1) rfl ?_
  refine lo_get (v := .ref (b + 10)) d_Md_turn_10 fg_Md_41 hI ml_0 rfl ?_
  refine sm_iload d_Md_turn_13 (j := 0) rfl ?_
  refine sm_iload_n d_Md_turn_15 rfl (j := 2) rfl ?_
  obtain ⟨h1, hf⟩ := lo_chk hf
  refine lo_ast (j := ((6 : Int32) * (w 0 17)).toInt.toNat) d_Md_turn_16 hI ml_10 h1 rfl (fun M2 hI3 => ?_)
  refine sm_aload_n d_Md_turn_17 rfl (j := 1) rfl ?_
  refine lo_get (v := .ref (b + 10)) d_Md_turn_18 fg_Md_41 hI3 ml_0 rfl ?_
  refine sm_iload d_Md_turn_21 (j := 0) rfl ?_
  refine sm_iconst (v := 1) d_Md_turn_23 (by decide) ?_
  refine sm_iadd d_Md_turn_24 ?_
  refine sm_iload_n d_Md_turn_25 rfl (j := 3) rfl ?_
  obtain ⟨h4, hf⟩ := lo_chk hf
  refine lo_ast (j := (((6 : Int32) * (w 0 17)) + (1 : Int32)).toInt.toNat) d_Md_turn_26 hI3 ml_10 h4 rfl (fun M5 hI6 => ?_)
  refine sm_aload_n d_Md_turn_27 rfl (j := 1) rfl ?_
  refine lo_get (v := .ref (b + 10)) d_Md_turn_28 fg_Md_41 hI6 ml_0 rfl ?_
  refine sm_iload d_Md_turn_31 (j := 0) rfl ?_
  refine sm_iconst (v := 2) d_Md_turn_33 (by decide) ?_
  refine sm_iadd d_Md_turn_34 ?_
  refine sm_iload_n d_Md_turn_35 rfl (j := 4) rfl ?_
  obtain ⟨h7, hf⟩ := lo_chk hf
  refine lo_ast (j := (((6 : Int32) * (w 0 17)) + (2 : Int32)).toInt.toNat) d_Md_turn_36 hI6 ml_10 h7 rfl (fun M8 hI9 => ?_)
  refine sm_aload_n d_Md_turn_37 rfl (j := 1) rfl ?_
  refine lo_get (v := .ref (b + 10)) d_Md_turn_38 fg_Md_41 hI9 ml_0 rfl ?_
  refine sm_iload d_Md_turn_41 (j := 0) rfl ?_
  refine sm_iconst (v := 3) d_Md_turn_43 (by decide) ?_
  refine sm_iadd d_Md_turn_44 ?_
  refine sm_iload d_Md_turn_45 (j := 5) rfl ?_
  obtain ⟨h10, hf⟩ := lo_chk hf
  refine lo_ast (j := (((6 : Int32) * (w 0 17)) + (3 : Int32)).toInt.toNat) d_Md_turn_47 hI9 ml_10 h10 rfl (fun M11 hI12 => ?_)
  refine sm_aload_n d_Md_turn_48 rfl (j := 1) rfl ?_
  refine lo_get (v := .ref (b + 10)) d_Md_turn_49 fg_Md_41 hI12 ml_0 rfl ?_
  refine sm_iload d_Md_turn_52 (j := 0) rfl ?_
  refine sm_iconst (v := 4) d_Md_turn_54 (by decide) ?_
  refine sm_iadd d_Md_turn_55 ?_
  refine sm_iload d_Md_turn_56 (j := 6) rfl ?_
  obtain ⟨h13, hf⟩ := lo_chk hf
  refine lo_ast (j := (((6 : Int32) * (w 0 17)) + (4 : Int32)).toInt.toNat) d_Md_turn_58 hI12 ml_10 h13 rfl (fun M14 hI15 => ?_)
  refine sm_aload_n d_Md_turn_59 rfl (j := 1) rfl ?_
  refine lo_get (v := .ref (b + 10)) d_Md_turn_60 fg_Md_41 hI15 ml_0 rfl ?_
  refine sm_iload d_Md_turn_63 (j := 0) rfl ?_
  refine sm_iconst (v := 5) d_Md_turn_65 (by decide) ?_
  refine sm_iadd d_Md_turn_66 ?_
  refine sm_iload d_Md_turn_67 (j := 7) rfl ?_
  obtain ⟨h16, hf⟩ := lo_chk hf
  refine lo_ast (j := (((6 : Int32) * (w 0 17)) + (5 : Int32)).toInt.toNat) d_Md_turn_69 hI15 ml_10 h16 rfl (fun M17 hI18 => ?_)
  refine sm_aload_n d_Md_turn_70 rfl (j := 1) rfl ?_
  refine sm_dup d_Md_turn_71 rfl ?_
  refine lo_get (v := .int ((up2 (up2 (up2 (up2 (up2 (up2 w 10 (((6 : Int32) * (w 0 17)).toInt.toNat) x1) 10 ((((6 : Int32) * (w 0 17)) + (1 : Int32)).toInt.toNat) x2) 10 ((((6 : Int32) * (w 0 17)) + (2 : Int32)).toInt.toNat) x3) 10 ((((6 : Int32) * (w 0 17)) + (3 : Int32)).toInt.toNat) x4) 10 ((((6 : Int32) * (w 0 17)) + (4 : Int32)).toInt.toNat) x5) 10 ((((6 : Int32) * (w 0 17)) + (5 : Int32)).toInt.toNat) x6) 0 17)) d_Md_turn_72 fg_Md_103 hI18 ml_0 rfl ?_
  refine sm_iconst (v := 1) d_Md_turn_75 (by decide) ?_
  refine sm_iadd d_Md_turn_76 ?_
  refine lo_put d_Md_turn_77 fp_Md_103 (by decide) hI18 ml_0 rfl (by rfl) (by rfl) (fun M19 hI20 => ?_)
  cases hf
  refine sm_return d_Md_turn_80 rfl ?_
  exact ⟨rfl, hI20⟩

def fn_Md_change_99 (w : wd) (x1 : Int32) (x2 : Int32) (x3 : Int32) (x4 : Int32) (x5 : Int32) (x6 : Int32) (s0 : Bool) (s1 : Bool) : Option (Int32 × wd) := (if (fn_Md_refuse w s1 s0).1 = true then some ((0 : Int32), (fn_Md_refuse w s1 s0).2) else ((fn_Md_turn (fn_Md_refuse w s1 s0).2 x1 x2 x3 x4 x5 x6).bind fun r7 => some ((r7 0 17), r7)))
set_option maxHeartbeats 1600000 in
set_option maxRecDepth 100000 in
theorem w_Md_change_99 {G : sm_G} {b : Nat} {M0 : sm_M} {bc bs : Nat} {R : Int32 × wd} : ∀ (M : sm_M) (w : wd) (x1 : Int32) (x2 : Int32) (x3 : Int32) (x4 : Int32) (x5 : Int32) (x6 : Int32) (s0 : Bool) (s1 : Bool), lo_in G md_L b M0 M w → fn_Md_change_99 w x1 x2 x3 x4 x5 x6 s0 s1 = some R → sm_W G mf_Md_change 99 [(0, .ref (b + 0)), (1, .int x1), (2, .int x2), (3, .int x3), (4, .int x4), (5, .int x5), (6, .int x6)] [.int (bi s0), .int (bi s1), .ref (b + 0)] M bc bs (wd_Q G md_L b M0 (some (.int R.1)) R.2) := by
  intro M w x1 x2 x3 x4 x5 x6 s0 s1 hI  hf
  unfold fn_Md_change_99 at hf
  refine lo_callVm d_Md_change_99 cs_Md_change_106 rfl hI ml_0 (As := [.int (bi s1), .int (bi s0)]) rfl rfl (Nat.le_of_ble_eq_true rfl) (c_Md_refuse hI s1 s0) (fun M4 hI5 => ?_)
  refine sm_if_eq (tgt := 107) d_Md_change_102 (by decide) (fun h6 => ?_) (fun h6 => ?_)
  · rw [if_neg (bi0 h6)] at hf
    refine sm_aload_n d_Md_change_107 rfl (j := 0) rfl ?_
    refine sm_iload_n d_Md_change_108 rfl (j := 1) rfl ?_
    refine sm_iload_n d_Md_change_109 rfl (j := 2) rfl ?_
    refine sm_iload_n d_Md_change_110 rfl (j := 3) rfl ?_
    refine sm_iload d_Md_change_111 (j := 4) rfl ?_
    refine sm_iload d_Md_change_113 (j := 5) rfl ?_
    refine sm_iload d_Md_change_115 (j := 6) rfl ?_
    obtain ⟨r7, e8, hf⟩ := lo_bnd hf
    refine lo_callVm d_Md_change_117 cs_Md_change_156 rfl hI5 ml_0 (As := [.int x1, .int x2, .int x3, .int x4, .int x5, .int x6]) rfl rfl (Nat.le_of_ble_eq_true rfl) (c_Md_turn hI5 x1 x2 x3 x4 x5 x6 e8) (fun M9 hI10 => ?_)
    refine sm_aload_n d_Md_change_120 rfl (j := 0) rfl ?_
    refine lo_get (v := .int (r7 0 17)) d_Md_change_121 fg_Md_103 hI10 ml_0 rfl ?_
    cases hf
    refine sm_ireturn d_Md_change_124 rfl (by rfl) ?_
    exact ⟨rfl, hI10⟩
  · rw [if_pos (bi1 h6)] at hf
    refine sm_iconst (v := 0) d_Md_change_105 (by decide) ?_
    cases hf
    refine sm_ireturn d_Md_change_106 rfl (by rfl) ?_
    exact ⟨rfl, hI5⟩

def fn_Md_change_85 (w : wd) (x1 : Int32) (x2 : Int32) (x3 : Int32) (x4 : Int32) (x5 : Int32) (x6 : Int32) (s0 : Bool) : Option (Int32 × wd) := (if (w 0 17) = (32 : Int32) then fn_Md_change_99 w x1 x2 x3 x4 x5 x6 true s0 else fn_Md_change_99 w x1 x2 x3 x4 x5 x6 false s0)
set_option maxHeartbeats 1600000 in
set_option maxRecDepth 100000 in
theorem w_Md_change_85 {G : sm_G} {b : Nat} {M0 : sm_M} {bc bs : Nat} {R : Int32 × wd} : ∀ (M : sm_M) (w : wd) (x1 : Int32) (x2 : Int32) (x3 : Int32) (x4 : Int32) (x5 : Int32) (x6 : Int32) (s0 : Bool), lo_in G md_L b M0 M w → fn_Md_change_85 w x1 x2 x3 x4 x5 x6 s0 = some R → sm_W G mf_Md_change 85 [(0, .ref (b + 0)), (1, .int x1), (2, .int x2), (3, .int x3), (4, .int x4), (5, .int x5), (6, .int x6)] [.int (bi s0), .ref (b + 0)] M bc bs (wd_Q G md_L b M0 (some (.int R.1)) R.2) := by
  intro M w x1 x2 x3 x4 x5 x6 s0 hI  hf
  unfold fn_Md_change_85 at hf
  refine sm_aload_n d_Md_change_85 rfl (j := 0) rfl ?_
  refine lo_get (v := .int (w 0 17)) d_Md_change_86 fg_Md_103 hI ml_0 rfl ?_
  refine sm_bipush (v := 32) d_Md_change_89 (by decide) ?_
  refine sm_icmp_ne (tgt := 98) d_Md_change_91 (by decide) (fun h3 => ?_) (fun h3 => ?_)
  · rw [if_neg h3] at hf
    refine sm_iconst (v := 0) d_Md_change_98 (by decide) ?_
    exact sm_pick [0, 1, 2, 3, 4, 5, 6] (w_Md_change_99 _ _ _ _ _ _ _ _ _ _ hI hf) rfl
  · rw [if_pos h3] at hf
    refine sm_iconst (v := 1) d_Md_change_94 (by decide) ?_
    refine sm_goto (tgt := 99) d_Md_change_95 (by decide) ?_
    exact sm_pick [0, 1, 2, 3, 4, 5, 6] (w_Md_change_99 _ _ _ _ _ _ _ _ _ _ hI hf) rfl

def fn_Md_change_72 (w : wd) (x1 : Int32) (x2 : Int32) (x3 : Int32) (x4 : Int32) (x5 : Int32) (x6 : Int32) (s0 : Bool) : Option (Int32 × wd) := (if s0 = true then fn_Md_change_85 w x1 x2 x3 x4 x5 x6 false else fn_Md_change_85 w x1 x2 x3 x4 x5 x6 true)
set_option maxHeartbeats 1600000 in
set_option maxRecDepth 100000 in
theorem w_Md_change_72 {G : sm_G} {b : Nat} {M0 : sm_M} {bc bs : Nat} {R : Int32 × wd} : ∀ (M : sm_M) (w : wd) (x1 : Int32) (x2 : Int32) (x3 : Int32) (x4 : Int32) (x5 : Int32) (x6 : Int32) (s0 : Bool), lo_in G md_L b M0 M w → fn_Md_change_72 w x1 x2 x3 x4 x5 x6 s0 = some R → sm_W G mf_Md_change 72 [(0, .ref (b + 0)), (1, .int x1), (2, .int x2), (3, .int x3), (4, .int x4), (5, .int x5), (6, .int x6)] [.int (bi s0)] M bc bs (wd_Q G md_L b M0 (some (.int R.1)) R.2) := by
  intro M w x1 x2 x3 x4 x5 x6 s0 hI  hf
  unfold fn_Md_change_72 at hf
  refine sm_istore d_Md_change_72 (by decide) rfl ?_
  refine sm_aload_n d_Md_change_74 rfl (j := 1) rfl ?_
  refine sm_iload d_Md_change_75 (j := 0) rfl ?_
  refine sm_if_ne (tgt := 84) d_Md_change_77 (by decide) (fun h2 => ?_) (fun h2 => ?_)
  · rw [if_pos (bi1 h2)] at hf
    refine sm_iconst (v := 0) d_Md_change_84 (by decide) ?_
    exact sm_pick [1, 2, 3, 4, 5, 6, 7] (w_Md_change_85 _ _ _ _ _ _ _ _ _ hI hf) rfl
  · rw [if_neg (bi0 h2)] at hf
    refine sm_iconst (v := 1) d_Md_change_80 (by decide) ?_
    refine sm_goto (tgt := 85) d_Md_change_81 (by decide) ?_
    exact sm_pick [1, 2, 3, 4, 5, 6, 7] (w_Md_change_85 _ _ _ _ _ _ _ _ _ hI hf) rfl

def fn_Md_change_71 (w : wd) (x1 : Int32) (x2 : Int32) (x3 : Int32) (x4 : Int32) (x5 : Int32) (x6 : Int32) : Option (Int32 × wd) := fn_Md_change_72 w x1 x2 x3 x4 x5 x6 false
set_option maxHeartbeats 1600000 in
set_option maxRecDepth 100000 in
theorem w_Md_change_71 {G : sm_G} {b : Nat} {M0 : sm_M} {bc bs : Nat} {R : Int32 × wd} : ∀ (M : sm_M) (w : wd) (x1 : Int32) (x2 : Int32) (x3 : Int32) (x4 : Int32) (x5 : Int32) (x6 : Int32), lo_in G md_L b M0 M w → fn_Md_change_71 w x1 x2 x3 x4 x5 x6 = some R → sm_W G mf_Md_change 71 [(0, .ref (b + 0)), (1, .int x1), (2, .int x2), (3, .int x3), (4, .int x4), (5, .int x5), (6, .int x6)] [] M bc bs (wd_Q G md_L b M0 (some (.int R.1)) R.2) := by
  intro M w x1 x2 x3 x4 x5 x6 hI  hf
  unfold fn_Md_change_71 at hf
  refine sm_iconst (v := 0) d_Md_change_71 (by decide) ?_
  exact sm_pick [0, 1, 2, 3, 4, 5, 6] (w_Md_change_72 _ _ _ _ _ _ _ _ _ hI hf) rfl

def fn_Md_change (w : wd) (x1 : Int32) (x2 : Int32) (x3 : Int32) (x4 : Int32) (x5 : Int32) (x6 : Int32) : Option (Int32 × wd) := (if x1 < 0 then fn_Md_change_71 w x1 x2 x3 x4 x5 x6 else (if x4 ≤ x1 then fn_Md_change_71 w x1 x2 x3 x4 x5 x6 else (if (33 : Int32) < x4 then fn_Md_change_71 w x1 x2 x3 x4 x5 x6 else (if (fn_Md_in x2.toInt64 (0 : Int64) (15 : Int64)) = true then (if x5 ≤ x2 then fn_Md_change_71 w x1 x2 x3 x4 x5 x6 else (if (16 : Int32) < x5 then fn_Md_change_71 w x1 x2 x3 x4 x5 x6 else (if (fn_Md_in x3.toInt64 (1 : Int64) (255 : Int64)) = true then (if (fn_Md_in x6.toInt64 (0 : Int64) (4 : Int64)) = true then fn_Md_change_72 w x1 x2 x3 x4 x5 x6 true else fn_Md_change_71 w x1 x2 x3 x4 x5 x6) else fn_Md_change_71 w x1 x2 x3 x4 x5 x6))) else fn_Md_change_71 w x1 x2 x3 x4 x5 x6))))
set_option maxHeartbeats 1600000 in
set_option maxRecDepth 100000 in
theorem c_Md_change {G : sm_G} {b : Nat} {M0 M : sm_M}  {w : wd}  (hI : lo_in G md_L b M0 M w)  (x1 : Int32) (x2 : Int32) (x3 : Int32) (x4 : Int32) (x5 : Int32) (x6 : Int32)  {R : Int32 × wd} (hf : fn_Md_change w x1 x2 x3 x4 x5 x6 = some R) : sm_C G mf_Md_change [.ref (b + 0), .int x1, .int x2, .int x3, .int x4, .int x5, .int x6] M 0 0 (wd_Q G md_L b M (some (.int R.1)) R.2) := by
  unfold fn_Md_change at hf
  have hI := hI.here
  refine sm_ofW rfl (Nat.le_of_ble_eq_true rfl) ?_
  refine sm_iload_n d_Md_change_0 rfl (j := 1) rfl ?_
  refine sm_if_lt (tgt := 71) d_Md_change_1 (by decide) (fun h1 => ?_) (fun h1 => ?_)
  · rw [if_pos h1] at hf
    exact sm_pick [0, 1, 2, 3, 4, 5, 6] (w_Md_change_71 _ _ _ _ _ _ _ _ hI hf) rfl
  · rw [if_neg h1] at hf
    refine sm_iload d_Md_change_4 (j := 4) rfl ?_
    refine sm_iload_n d_Md_change_6 rfl (j := 1) rfl ?_
    refine sm_icmp_le (tgt := 71) d_Md_change_7 (by decide) (fun h11 => ?_) (fun h11 => ?_)
    · rw [if_pos h11] at hf
      exact sm_pick [0, 1, 2, 3, 4, 5, 6] (w_Md_change_71 _ _ _ _ _ _ _ _ hI hf) rfl
    · rw [if_neg h11] at hf
      refine sm_iload d_Md_change_10 (j := 4) rfl ?_
      refine sm_bipush (v := 33) d_Md_change_12 (by decide) ?_
      refine sm_icmp_gt (tgt := 71) d_Md_change_14 (by decide) (fun h12 => ?_) (fun h12 => ?_)
      · rw [if_pos h12] at hf
        exact sm_pick [0, 1, 2, 3, 4, 5, 6] (w_Md_change_71 _ _ _ _ _ _ _ _ hI hf) rfl
      · rw [if_neg h12] at hf
        refine sm_iload_n d_Md_change_17 rfl (j := 2) rfl ?_
        refine sm_i2l d_Md_change_18 ?_
        refine sm_lconst (v := 0) d_Md_change_19 (by decide) ?_
        refine sm_ldc2 (v := 15) d_Md_change_20 mw_1370 ?_
        refine sm_callSp d_Md_change_23 cs_Md_change_122 rfl (As := [.long x2.toInt64, .long (0 : Int64), .long (15 : Int64)]) rfl rfl (Nat.le_of_ble_eq_true rfl) (c_Md_in x2.toInt64 (0 : Int64) (15 : Int64)) ?_
        refine sm_if_eq (tgt := 71) d_Md_change_26 (by decide) (fun h13 => ?_) (fun h13 => ?_)
        · rw [if_neg (bi0 h13)] at hf
          exact sm_pick [0, 1, 2, 3, 4, 5, 6] (w_Md_change_71 _ _ _ _ _ _ _ _ hI hf) rfl
        · rw [if_pos (bi1 h13)] at hf
          refine sm_iload d_Md_change_29 (j := 5) rfl ?_
          refine sm_iload_n d_Md_change_31 rfl (j := 2) rfl ?_
          refine sm_icmp_le (tgt := 71) d_Md_change_32 (by decide) (fun h14 => ?_) (fun h14 => ?_)
          · rw [if_pos h14] at hf
            exact sm_pick [0, 1, 2, 3, 4, 5, 6] (w_Md_change_71 _ _ _ _ _ _ _ _ hI hf) rfl
          · rw [if_neg h14] at hf
            refine sm_iload d_Md_change_35 (j := 5) rfl ?_
            refine sm_bipush (v := 16) d_Md_change_37 (by decide) ?_
            refine sm_icmp_gt (tgt := 71) d_Md_change_39 (by decide) (fun h15 => ?_) (fun h15 => ?_)
            · rw [if_pos h15] at hf
              exact sm_pick [0, 1, 2, 3, 4, 5, 6] (w_Md_change_71 _ _ _ _ _ _ _ _ hI hf) rfl
            · rw [if_neg h15] at hf
              refine sm_iload_n d_Md_change_42 rfl (j := 3) rfl ?_
              refine sm_i2l d_Md_change_43 ?_
              refine sm_lconst (v := 1) d_Md_change_44 (by decide) ?_
              refine sm_ldc2 (v := 255) d_Md_change_45 mw_1344 ?_
              refine sm_callSp d_Md_change_48 cs_Md_change_122 rfl (As := [.long x3.toInt64, .long (1 : Int64), .long (255 : Int64)]) rfl rfl (Nat.le_of_ble_eq_true rfl) (c_Md_in x3.toInt64 (1 : Int64) (255 : Int64)) ?_
              refine sm_if_eq (tgt := 71) d_Md_change_51 (by decide) (fun h16 => ?_) (fun h16 => ?_)
              · rw [if_neg (bi0 h16)] at hf
                exact sm_pick [0, 1, 2, 3, 4, 5, 6] (w_Md_change_71 _ _ _ _ _ _ _ _ hI hf) rfl
              · rw [if_pos (bi1 h16)] at hf
                refine sm_iload d_Md_change_54 (j := 6) rfl ?_
                refine sm_i2l d_Md_change_56 ?_
                refine sm_lconst (v := 0) d_Md_change_57 (by decide) ?_
                refine sm_ldc2 (v := 4) d_Md_change_58 mw_1353 ?_
                refine sm_callSp d_Md_change_61 cs_Md_change_122 rfl (As := [.long x6.toInt64, .long (0 : Int64), .long (4 : Int64)]) rfl rfl (Nat.le_of_ble_eq_true rfl) (c_Md_in x6.toInt64 (0 : Int64) (4 : Int64)) ?_
                refine sm_if_eq (tgt := 71) d_Md_change_64 (by decide) (fun h17 => ?_) (fun h17 => ?_)
                · rw [if_neg (bi0 h17)] at hf
                  exact sm_pick [0, 1, 2, 3, 4, 5, 6] (w_Md_change_71 _ _ _ _ _ _ _ _ hI hf) rfl
                · rw [if_pos (bi1 h17)] at hf
                  refine sm_iconst (v := 1) d_Md_change_67 (by decide) ?_
                  refine sm_goto (tgt := 72) d_Md_change_68 (by decide) ?_
                  exact sm_pick [0, 1, 2, 3, 4, 5, 6] (w_Md_change_72 _ _ _ _ _ _ _ _ _ hI hf) rfl

def fn_Md_ofComponent (w : wd) (x1 : Int32) (x2 : Int32) (x3 : Int32) : Option (Int32) := (if x1 = 20 then (if 0 ≤ x2.toInt ∧ x2.toInt < 16 then some (w 2 x2.toInt.toNat) else none) else (if x1 = 21 then (if 0 ≤ x2.toInt ∧ x2.toInt < 16 then some (w 3 x2.toInt.toNat) else none) else (if x1 = 22 then (if 0 ≤ x2.toInt ∧ x2.toInt < 16 then some (w 4 x2.toInt.toNat) else none) else (if x1 = 23 then (if 0 ≤ x2.toInt ∧ x2.toInt < 16 then some (w 5 x2.toInt.toNat) else none) else (if x1 = 24 ∨ x1 = 25 ∨ x1 = 26 ∨ x1 = 27 ∨ x1 = 28 ∨ x1 = 29 ∨ x1 = 30 ∨ x1 = 31 then (if 0 ≤ ((((8 : Int32) * x2) + x1) - (24 : Int32)).toInt ∧ ((((8 : Int32) * x2) + x1) - (24 : Int32)).toInt < 128 then some (w 6 (((((8 : Int32) * x2) + x1) - (24 : Int32)).toInt.toNat)) else none) else (if x1 = 32 then (if 0 ≤ (((33 : Int32) * x2) + x3).toInt ∧ (((33 : Int32) * x2) + x3).toInt < 528 then some (w 7 ((((33 : Int32) * x2) + x3).toInt.toNat)) else none) else (if x1 = 33 then (if 0 ≤ (((33 : Int32) * x2) + x3).toInt ∧ (((33 : Int32) * x2) + x3).toInt < 528 then some (w 8 ((((33 : Int32) * x2) + x3).toInt.toNat)) else none) else (if x1 = 34 then (if 0 ≤ (((97 : Int32) * x2) + x3).toInt ∧ (((97 : Int32) * x2) + x3).toInt < 1552 then some (w 9 ((((97 : Int32) * x2) + x3).toInt.toNat)) else none) else (if 0 ≤ ((((8 : Int32) * x2) + x1) - (24 : Int32)).toInt ∧ ((((8 : Int32) * x2) + x1) - (24 : Int32)).toInt < 128 then some (w 6 (((((8 : Int32) * x2) + x1) - (24 : Int32)).toInt.toNat)) else none)))))))))
set_option maxHeartbeats 1600000 in
set_option maxRecDepth 100000 in
theorem c_Md_ofComponent {G : sm_G} {b : Nat} {M0 M : sm_M}  {w : wd}  (hI : lo_in G md_L b M0 M w)  (x1 : Int32) (x2 : Int32) (x3 : Int32)  {R : Int32} (hf : fn_Md_ofComponent w x1 x2 x3 = some R) : sm_C G mf_Md_ofComponent [.ref (b + 0), .int x1, .int x2, .int x3] M 0 0 (sm_pu M (.int R)) := by
  unfold fn_Md_ofComponent at hf
  have hI := hI.here
  refine sm_ofW rfl (Nat.le_of_ble_eq_true rfl) ?_
  refine sm_iload_n d_Md_ofComponent_0 rfl (j := 1) rfl ?_
  by_cases h1 : x1 = 20
  · rw [if_pos h1] at hf
    refine sm_tableIn (tgt := 76) d_Md_ofComponent_1 (by rw [h1] <;> decide) (by rw [h1] <;> decide) (by rw [h1] <;> rfl) (by decide) ?_
    refine sm_aload_n d_Md_ofComponent_76 rfl (j := 0) rfl ?_
    refine lo_get (v := .ref (b + 2)) d_Md_ofComponent_77 fg_Md_13 hI ml_0 rfl ?_
    refine sm_iload_n d_Md_ofComponent_80 rfl (j := 2) rfl ?_
    obtain ⟨h2, hf⟩ := lo_chk hf
    refine lo_ald (j := x2.toInt.toNat) d_Md_ofComponent_81 hI ml_2 h2 rfl ?_
    cases hf
    refine sm_ireturn d_Md_ofComponent_82 rfl (by rfl) ?_
    exact ⟨rfl, rfl⟩
  · rw [if_neg h1] at hf
    by_cases h3 : x1 = 21
    · rw [if_pos h3] at hf
      refine sm_tableIn (tgt := 83) d_Md_ofComponent_1 (by rw [h3] <;> decide) (by rw [h3] <;> decide) (by rw [h3] <;> rfl) (by decide) ?_
      refine sm_aload_n d_Md_ofComponent_83 rfl (j := 0) rfl ?_
      refine lo_get (v := .ref (b + 3)) d_Md_ofComponent_84 fg_Md_16 hI ml_0 rfl ?_
      refine sm_iload_n d_Md_ofComponent_87 rfl (j := 2) rfl ?_
      obtain ⟨h4, hf⟩ := lo_chk hf
      refine lo_ald (j := x2.toInt.toNat) d_Md_ofComponent_88 hI ml_3 h4 rfl ?_
      cases hf
      refine sm_ireturn d_Md_ofComponent_89 rfl (by rfl) ?_
      exact ⟨rfl, rfl⟩
    · rw [if_neg h3] at hf
      by_cases h5 : x1 = 22
      · rw [if_pos h5] at hf
        refine sm_tableIn (tgt := 90) d_Md_ofComponent_1 (by rw [h5] <;> decide) (by rw [h5] <;> decide) (by rw [h5] <;> rfl) (by decide) ?_
        refine sm_aload_n d_Md_ofComponent_90 rfl (j := 0) rfl ?_
        refine lo_get (v := .ref (b + 4)) d_Md_ofComponent_91 fg_Md_19 hI ml_0 rfl ?_
        refine sm_iload_n d_Md_ofComponent_94 rfl (j := 2) rfl ?_
        obtain ⟨h6, hf⟩ := lo_chk hf
        refine lo_ald (j := x2.toInt.toNat) d_Md_ofComponent_95 hI ml_4 h6 rfl ?_
        cases hf
        refine sm_ireturn d_Md_ofComponent_96 rfl (by rfl) ?_
        exact ⟨rfl, rfl⟩
      · rw [if_neg h5] at hf
        by_cases h7 : x1 = 23
        · rw [if_pos h7] at hf
          refine sm_tableIn (tgt := 97) d_Md_ofComponent_1 (by rw [h7] <;> decide) (by rw [h7] <;> decide) (by rw [h7] <;> rfl) (by decide) ?_
          refine sm_aload_n d_Md_ofComponent_97 rfl (j := 0) rfl ?_
          refine lo_get (v := .ref (b + 5)) d_Md_ofComponent_98 fg_Md_22 hI ml_0 rfl ?_
          refine sm_iload_n d_Md_ofComponent_101 rfl (j := 2) rfl ?_
          obtain ⟨h8, hf⟩ := lo_chk hf
          refine lo_ald (j := x2.toInt.toNat) d_Md_ofComponent_102 hI ml_5 h8 rfl ?_
          cases hf
          refine sm_ireturn d_Md_ofComponent_103 rfl (by rfl) ?_
          exact ⟨rfl, rfl⟩
        · rw [if_neg h7] at hf
          by_cases h9 : x1 = 24 ∨ x1 = 25 ∨ x1 = 26 ∨ x1 = 27 ∨ x1 = 28 ∨ x1 = 29 ∨ x1 = 30 ∨ x1 = 31
          · rw [if_pos h9] at hf
            rcases h9 with h9 | h9 | h9 | h9 | h9 | h9 | h9 | h9
            · refine sm_tableIn (tgt := 140) d_Md_ofComponent_1 (by rw [h9] <;> decide) (by rw [h9] <;> decide) (by rw [h9] <;> rfl) (by decide) ?_
              refine sm_aload_n d_Md_ofComponent_140 rfl (j := 0) rfl ?_
              refine lo_get (v := .ref (b + 6)) d_Md_ofComponent_141 fg_Md_29 hI ml_0 rfl ?_
              refine sm_bipush (v := 8) d_Md_ofComponent_144 (by decide) ?_
              refine sm_iload_n d_Md_ofComponent_146 rfl (j := 2) rfl ?_
              refine sm_imul d_Md_ofComponent_147 ?_
              refine sm_iload_n d_Md_ofComponent_148 rfl (j := 1) rfl ?_
              refine sm_iadd d_Md_ofComponent_149 ?_
              refine sm_bipush (v := 24) d_Md_ofComponent_150 (by decide) ?_
              refine sm_isub d_Md_ofComponent_152 ?_
              obtain ⟨h10, hf⟩ := lo_chk hf
              refine lo_ald (j := ((((8 : Int32) * x2) + x1) - (24 : Int32)).toInt.toNat) d_Md_ofComponent_153 hI ml_6 h10 rfl ?_
              cases hf
              refine sm_ireturn d_Md_ofComponent_154 rfl (by rfl) ?_
              exact ⟨rfl, rfl⟩
            · refine sm_tableIn (tgt := 140) d_Md_ofComponent_1 (by rw [h9] <;> decide) (by rw [h9] <;> decide) (by rw [h9] <;> rfl) (by decide) ?_
              refine sm_aload_n d_Md_ofComponent_140 rfl (j := 0) rfl ?_
              refine lo_get (v := .ref (b + 6)) d_Md_ofComponent_141 fg_Md_29 hI ml_0 rfl ?_
              refine sm_bipush (v := 8) d_Md_ofComponent_144 (by decide) ?_
              refine sm_iload_n d_Md_ofComponent_146 rfl (j := 2) rfl ?_
              refine sm_imul d_Md_ofComponent_147 ?_
              refine sm_iload_n d_Md_ofComponent_148 rfl (j := 1) rfl ?_
              refine sm_iadd d_Md_ofComponent_149 ?_
              refine sm_bipush (v := 24) d_Md_ofComponent_150 (by decide) ?_
              refine sm_isub d_Md_ofComponent_152 ?_
              obtain ⟨h10, hf⟩ := lo_chk hf
              refine lo_ald (j := ((((8 : Int32) * x2) + x1) - (24 : Int32)).toInt.toNat) d_Md_ofComponent_153 hI ml_6 h10 rfl ?_
              cases hf
              refine sm_ireturn d_Md_ofComponent_154 rfl (by rfl) ?_
              exact ⟨rfl, rfl⟩
            · refine sm_tableIn (tgt := 140) d_Md_ofComponent_1 (by rw [h9] <;> decide) (by rw [h9] <;> decide) (by rw [h9] <;> rfl) (by decide) ?_
              refine sm_aload_n d_Md_ofComponent_140 rfl (j := 0) rfl ?_
              refine lo_get (v := .ref (b + 6)) d_Md_ofComponent_141 fg_Md_29 hI ml_0 rfl ?_
              refine sm_bipush (v := 8) d_Md_ofComponent_144 (by decide) ?_
              refine sm_iload_n d_Md_ofComponent_146 rfl (j := 2) rfl ?_
              refine sm_imul d_Md_ofComponent_147 ?_
              refine sm_iload_n d_Md_ofComponent_148 rfl (j := 1) rfl ?_
              refine sm_iadd d_Md_ofComponent_149 ?_
              refine sm_bipush (v := 24) d_Md_ofComponent_150 (by decide) ?_
              refine sm_isub d_Md_ofComponent_152 ?_
              obtain ⟨h10, hf⟩ := lo_chk hf
              refine lo_ald (j := ((((8 : Int32) * x2) + x1) - (24 : Int32)).toInt.toNat) d_Md_ofComponent_153 hI ml_6 h10 rfl ?_
              cases hf
              refine sm_ireturn d_Md_ofComponent_154 rfl (by rfl) ?_
              exact ⟨rfl, rfl⟩
            · refine sm_tableIn (tgt := 140) d_Md_ofComponent_1 (by rw [h9] <;> decide) (by rw [h9] <;> decide) (by rw [h9] <;> rfl) (by decide) ?_
              refine sm_aload_n d_Md_ofComponent_140 rfl (j := 0) rfl ?_
              refine lo_get (v := .ref (b + 6)) d_Md_ofComponent_141 fg_Md_29 hI ml_0 rfl ?_
              refine sm_bipush (v := 8) d_Md_ofComponent_144 (by decide) ?_
              refine sm_iload_n d_Md_ofComponent_146 rfl (j := 2) rfl ?_
              refine sm_imul d_Md_ofComponent_147 ?_
              refine sm_iload_n d_Md_ofComponent_148 rfl (j := 1) rfl ?_
              refine sm_iadd d_Md_ofComponent_149 ?_
              refine sm_bipush (v := 24) d_Md_ofComponent_150 (by decide) ?_
              refine sm_isub d_Md_ofComponent_152 ?_
              obtain ⟨h10, hf⟩ := lo_chk hf
              refine lo_ald (j := ((((8 : Int32) * x2) + x1) - (24 : Int32)).toInt.toNat) d_Md_ofComponent_153 hI ml_6 h10 rfl ?_
              cases hf
              refine sm_ireturn d_Md_ofComponent_154 rfl (by rfl) ?_
              exact ⟨rfl, rfl⟩
            · refine sm_tableIn (tgt := 140) d_Md_ofComponent_1 (by rw [h9] <;> decide) (by rw [h9] <;> decide) (by rw [h9] <;> rfl) (by decide) ?_
              refine sm_aload_n d_Md_ofComponent_140 rfl (j := 0) rfl ?_
              refine lo_get (v := .ref (b + 6)) d_Md_ofComponent_141 fg_Md_29 hI ml_0 rfl ?_
              refine sm_bipush (v := 8) d_Md_ofComponent_144 (by decide) ?_
              refine sm_iload_n d_Md_ofComponent_146 rfl (j := 2) rfl ?_
              refine sm_imul d_Md_ofComponent_147 ?_
              refine sm_iload_n d_Md_ofComponent_148 rfl (j := 1) rfl ?_
              refine sm_iadd d_Md_ofComponent_149 ?_
              refine sm_bipush (v := 24) d_Md_ofComponent_150 (by decide) ?_
              refine sm_isub d_Md_ofComponent_152 ?_
              obtain ⟨h10, hf⟩ := lo_chk hf
              refine lo_ald (j := ((((8 : Int32) * x2) + x1) - (24 : Int32)).toInt.toNat) d_Md_ofComponent_153 hI ml_6 h10 rfl ?_
              cases hf
              refine sm_ireturn d_Md_ofComponent_154 rfl (by rfl) ?_
              exact ⟨rfl, rfl⟩
            · refine sm_tableIn (tgt := 140) d_Md_ofComponent_1 (by rw [h9] <;> decide) (by rw [h9] <;> decide) (by rw [h9] <;> rfl) (by decide) ?_
              refine sm_aload_n d_Md_ofComponent_140 rfl (j := 0) rfl ?_
              refine lo_get (v := .ref (b + 6)) d_Md_ofComponent_141 fg_Md_29 hI ml_0 rfl ?_
              refine sm_bipush (v := 8) d_Md_ofComponent_144 (by decide) ?_
              refine sm_iload_n d_Md_ofComponent_146 rfl (j := 2) rfl ?_
              refine sm_imul d_Md_ofComponent_147 ?_
              refine sm_iload_n d_Md_ofComponent_148 rfl (j := 1) rfl ?_
              refine sm_iadd d_Md_ofComponent_149 ?_
              refine sm_bipush (v := 24) d_Md_ofComponent_150 (by decide) ?_
              refine sm_isub d_Md_ofComponent_152 ?_
              obtain ⟨h10, hf⟩ := lo_chk hf
              refine lo_ald (j := ((((8 : Int32) * x2) + x1) - (24 : Int32)).toInt.toNat) d_Md_ofComponent_153 hI ml_6 h10 rfl ?_
              cases hf
              refine sm_ireturn d_Md_ofComponent_154 rfl (by rfl) ?_
              exact ⟨rfl, rfl⟩
            · refine sm_tableIn (tgt := 140) d_Md_ofComponent_1 (by rw [h9] <;> decide) (by rw [h9] <;> decide) (by rw [h9] <;> rfl) (by decide) ?_
              refine sm_aload_n d_Md_ofComponent_140 rfl (j := 0) rfl ?_
              refine lo_get (v := .ref (b + 6)) d_Md_ofComponent_141 fg_Md_29 hI ml_0 rfl ?_
              refine sm_bipush (v := 8) d_Md_ofComponent_144 (by decide) ?_
              refine sm_iload_n d_Md_ofComponent_146 rfl (j := 2) rfl ?_
              refine sm_imul d_Md_ofComponent_147 ?_
              refine sm_iload_n d_Md_ofComponent_148 rfl (j := 1) rfl ?_
              refine sm_iadd d_Md_ofComponent_149 ?_
              refine sm_bipush (v := 24) d_Md_ofComponent_150 (by decide) ?_
              refine sm_isub d_Md_ofComponent_152 ?_
              obtain ⟨h10, hf⟩ := lo_chk hf
              refine lo_ald (j := ((((8 : Int32) * x2) + x1) - (24 : Int32)).toInt.toNat) d_Md_ofComponent_153 hI ml_6 h10 rfl ?_
              cases hf
              refine sm_ireturn d_Md_ofComponent_154 rfl (by rfl) ?_
              exact ⟨rfl, rfl⟩
            · refine sm_tableIn (tgt := 140) d_Md_ofComponent_1 (by rw [h9] <;> decide) (by rw [h9] <;> decide) (by rw [h9] <;> rfl) (by decide) ?_
              refine sm_aload_n d_Md_ofComponent_140 rfl (j := 0) rfl ?_
              refine lo_get (v := .ref (b + 6)) d_Md_ofComponent_141 fg_Md_29 hI ml_0 rfl ?_
              refine sm_bipush (v := 8) d_Md_ofComponent_144 (by decide) ?_
              refine sm_iload_n d_Md_ofComponent_146 rfl (j := 2) rfl ?_
              refine sm_imul d_Md_ofComponent_147 ?_
              refine sm_iload_n d_Md_ofComponent_148 rfl (j := 1) rfl ?_
              refine sm_iadd d_Md_ofComponent_149 ?_
              refine sm_bipush (v := 24) d_Md_ofComponent_150 (by decide) ?_
              refine sm_isub d_Md_ofComponent_152 ?_
              obtain ⟨h10, hf⟩ := lo_chk hf
              refine lo_ald (j := ((((8 : Int32) * x2) + x1) - (24 : Int32)).toInt.toNat) d_Md_ofComponent_153 hI ml_6 h10 rfl ?_
              cases hf
              refine sm_ireturn d_Md_ofComponent_154 rfl (by rfl) ?_
              exact ⟨rfl, rfl⟩
          · rw [if_neg h9] at hf
            by_cases h11 : x1 = 32
            · rw [if_pos h11] at hf
              refine sm_tableIn (tgt := 104) d_Md_ofComponent_1 (by rw [h11] <;> decide) (by rw [h11] <;> decide) (by rw [h11] <;> rfl) (by decide) ?_
              refine sm_aload_n d_Md_ofComponent_104 rfl (j := 0) rfl ?_
              refine lo_get (v := .ref (b + 7)) d_Md_ofComponent_105 fg_Md_32 hI ml_0 rfl ?_
              refine sm_bipush (v := 33) d_Md_ofComponent_108 (by decide) ?_
              refine sm_iload_n d_Md_ofComponent_110 rfl (j := 2) rfl ?_
              refine sm_imul d_Md_ofComponent_111 ?_
              refine sm_iload_n d_Md_ofComponent_112 rfl (j := 3) rfl ?_
              refine sm_iadd d_Md_ofComponent_113 ?_
              obtain ⟨h12, hf⟩ := lo_chk hf
              refine lo_ald (j := (((33 : Int32) * x2) + x3).toInt.toNat) d_Md_ofComponent_114 hI ml_7 h12 rfl ?_
              cases hf
              refine sm_ireturn d_Md_ofComponent_115 rfl (by rfl) ?_
              exact ⟨rfl, rfl⟩
            · rw [if_neg h11] at hf
              by_cases h13 : x1 = 33
              · rw [if_pos h13] at hf
                refine sm_tableIn (tgt := 116) d_Md_ofComponent_1 (by rw [h13] <;> decide) (by rw [h13] <;> decide) (by rw [h13] <;> rfl) (by decide) ?_
                refine sm_aload_n d_Md_ofComponent_116 rfl (j := 0) rfl ?_
                refine lo_get (v := .ref (b + 8)) d_Md_ofComponent_117 fg_Md_35 hI ml_0 rfl ?_
                refine sm_bipush (v := 33) d_Md_ofComponent_120 (by decide) ?_
                refine sm_iload_n d_Md_ofComponent_122 rfl (j := 2) rfl ?_
                refine sm_imul d_Md_ofComponent_123 ?_
                refine sm_iload_n d_Md_ofComponent_124 rfl (j := 3) rfl ?_
                refine sm_iadd d_Md_ofComponent_125 ?_
                obtain ⟨h14, hf⟩ := lo_chk hf
                refine lo_ald (j := (((33 : Int32) * x2) + x3).toInt.toNat) d_Md_ofComponent_126 hI ml_8 h14 rfl ?_
                cases hf
                refine sm_ireturn d_Md_ofComponent_127 rfl (by rfl) ?_
                exact ⟨rfl, rfl⟩
              · rw [if_neg h13] at hf
                by_cases h15 : x1 = 34
                · rw [if_pos h15] at hf
                  refine sm_tableIn (tgt := 128) d_Md_ofComponent_1 (by rw [h15] <;> decide) (by rw [h15] <;> decide) (by rw [h15] <;> rfl) (by decide) ?_
                  refine sm_aload_n d_Md_ofComponent_128 rfl (j := 0) rfl ?_
                  refine lo_get (v := .ref (b + 9)) d_Md_ofComponent_129 fg_Md_38 hI ml_0 rfl ?_
                  refine sm_bipush (v := 97) d_Md_ofComponent_132 (by decide) ?_
                  refine sm_iload_n d_Md_ofComponent_134 rfl (j := 2) rfl ?_
                  refine sm_imul d_Md_ofComponent_135 ?_
                  refine sm_iload_n d_Md_ofComponent_136 rfl (j := 3) rfl ?_
                  refine sm_iadd d_Md_ofComponent_137 ?_
                  obtain ⟨h16, hf⟩ := lo_chk hf
                  refine lo_ald (j := (((97 : Int32) * x2) + x3).toInt.toNat) d_Md_ofComponent_138 hI ml_9 h16 rfl ?_
                  cases hf
                  refine sm_ireturn d_Md_ofComponent_139 rfl (by rfl) ?_
                  exact ⟨rfl, rfl⟩
                · rw [if_neg h15] at hf
                  refine sm_tableOut (tgt := 140) d_Md_ofComponent_1 (by have := (mt sm_eqI.mpr h1); rw [show ((20 : Int32)).toInt = 20 by decide] at this; have := (mt sm_eqI.mpr h3); rw [show ((21 : Int32)).toInt = 21 by decide] at this; have := (mt sm_eqI.mpr h5); rw [show ((22 : Int32)).toInt = 22 by decide] at this; have := (mt sm_eqI.mpr h7); rw [show ((23 : Int32)).toInt = 23 by decide] at this; have := (mt sm_eqI.mpr (fun e8 => h9 (Or.inl e8))); rw [show ((24 : Int32)).toInt = 24 by decide] at this; have := (mt sm_eqI.mpr (fun e8 => h9 (Or.inr (Or.inl e8)))); rw [show ((25 : Int32)).toInt = 25 by decide] at this; have := (mt sm_eqI.mpr (fun e8 => h9 (Or.inr (Or.inr (Or.inl e8))))); rw [show ((26 : Int32)).toInt = 26 by decide] at this; have := (mt sm_eqI.mpr (fun e8 => h9 (Or.inr (Or.inr (Or.inr (Or.inl e8)))))); rw [show ((27 : Int32)).toInt = 27 by decide] at this; have := (mt sm_eqI.mpr (fun e8 => h9 (Or.inr (Or.inr (Or.inr (Or.inr (Or.inl e8))))))); rw [show ((28 : Int32)).toInt = 28 by decide] at this; have := (mt sm_eqI.mpr (fun e8 => h9 (Or.inr (Or.inr (Or.inr (Or.inr (Or.inr (Or.inl e8)))))))); rw [show ((29 : Int32)).toInt = 29 by decide] at this; have := (mt sm_eqI.mpr (fun e8 => h9 (Or.inr (Or.inr (Or.inr (Or.inr (Or.inr (Or.inr (Or.inl e8))))))))); rw [show ((30 : Int32)).toInt = 30 by decide] at this; have := (mt sm_eqI.mpr (fun e8 => h9 (Or.inr (Or.inr (Or.inr (Or.inr (Or.inr (Or.inr (Or.inr e8))))))))); rw [show ((31 : Int32)).toInt = 31 by decide] at this; have := (mt sm_eqI.mpr h11); rw [show ((32 : Int32)).toInt = 32 by decide] at this; have := (mt sm_eqI.mpr h13); rw [show ((33 : Int32)).toInt = 33 by decide] at this; have := (mt sm_eqI.mpr h15); rw [show ((34 : Int32)).toInt = 34 by decide] at this; omega) (by decide) ?_
                  refine sm_aload_n d_Md_ofComponent_140 rfl (j := 0) rfl ?_
                  refine lo_get (v := .ref (b + 6)) d_Md_ofComponent_141 fg_Md_29 hI ml_0 rfl ?_
                  refine sm_bipush (v := 8) d_Md_ofComponent_144 (by decide) ?_
                  refine sm_iload_n d_Md_ofComponent_146 rfl (j := 2) rfl ?_
                  refine sm_imul d_Md_ofComponent_147 ?_
                  refine sm_iload_n d_Md_ofComponent_148 rfl (j := 1) rfl ?_
                  refine sm_iadd d_Md_ofComponent_149 ?_
                  refine sm_bipush (v := 24) d_Md_ofComponent_150 (by decide) ?_
                  refine sm_isub d_Md_ofComponent_152 ?_
                  obtain ⟨h17, hf⟩ := lo_chk hf
                  refine lo_ald (j := ((((8 : Int32) * x2) + x1) - (24 : Int32)).toInt.toNat) d_Md_ofComponent_153 hI ml_6 h17 rfl ?_
                  cases hf
                  refine sm_ireturn d_Md_ofComponent_154 rfl (by rfl) ?_
                  exact ⟨rfl, rfl⟩

