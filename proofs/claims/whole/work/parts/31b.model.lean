/-! StreamMarksModel, on; written by wip/tools/model.py -/
def fn_Md_component_92 (F : Nat) (w : wd) (x3 : Int32) (x4 : Int32) (s0 : Bool) (s1 : Int32) : Option (Int32 × wd) := (if 0 ≤ s1.toInt ∧ s1.toInt < 16 then (if 0 ≤ ((up2 w 3 s1.toInt.toNat (bi s0)) 0 3).toInt ∧ ((up2 w 3 s1.toInt.toNat (bi s0)) 0 3).toInt < 16 then (if 0 ≤ ((up2 (up2 w 3 s1.toInt.toNat (bi s0)) 4 (((up2 w 3 s1.toInt.toNat (bi s0)) 0 3).toInt.toNat) x3) 0 3).toInt ∧ ((up2 (up2 w 3 s1.toInt.toNat (bi s0)) 4 (((up2 w 3 s1.toInt.toNat (bi s0)) 0 3).toInt.toNat) x3) 0 3).toInt < 16 then ((fn_Md_fresh F (up2 (up2 (up2 w 3 s1.toInt.toNat (bi s0)) 4 (((up2 w 3 s1.toInt.toNat (bi s0)) 0 3).toInt.toNat) x3) 5 (((up2 (up2 w 3 s1.toInt.toNat (bi s0)) 4 (((up2 w 3 s1.toInt.toNat (bi s0)) 0 3).toInt.toNat) x3) 0 3).toInt.toNat) x4) ((up2 (up2 (up2 w 3 s1.toInt.toNat (bi s0)) 4 (((up2 w 3 s1.toInt.toNat (bi s0)) 0 3).toInt.toNat) x3) 5 (((up2 (up2 w 3 s1.toInt.toNat (bi s0)) 4 (((up2 w 3 s1.toInt.toNat (bi s0)) 0 3).toInt.toNat) x3) 0 3).toInt.toNat) x4) 0 3)).bind fun r19 => some ((((up2 r19 0 3 ((r19 0 3) + (1 : Int32))) 0 3) - (1 : Int32)), (up2 r19 0 3 ((r19 0 3) + (1 : Int32))))) else none) else none) else none)
set_option maxHeartbeats 1600000 in
set_option maxRecDepth 100000 in
theorem w_Md_component_92 {G : sm_G} {b : Nat} {M0 : sm_M} {bc bs : Nat} {R : Int32 × wd} {F : Nat} : ∀ (M : sm_M) (w : wd) (x3 : Int32) (x4 : Int32) (s0 : Bool) (s1 : Int32), lo_in G md_L b M0 M w → fn_Md_component_92 F w x3 x4 s0 s1 = some R → sm_W G mf_Md_component 92 [(0, .ref (b + 0)), (3, .int x3), (4, .int x4)] [.int (bi s0), .int s1, .ref (b + 3)] M bc bs (wd_Q G md_L b M0 (some (.int R.1)) R.2) := by
  intro M w x3 x4 s0 s1 hI  hf
  unfold fn_Md_component_92 at hf
  obtain ⟨h10, hf⟩ := lo_chk hf
  refine lo_ast (j := s1.toInt.toNat) d_Md_component_92 hI ml_3 h10 rfl (fun M11 hI12 => ?_)
  refine sm_aload_n d_Md_component_93 rfl (j := 0) rfl ?_
  refine lo_get (v := .ref (b + 4)) d_Md_component_94 fg_Md_19 hI12 ml_0 rfl ?_
  refine sm_aload_n d_Md_component_97 rfl (j := 0) rfl ?_
  refine lo_get (v := .int ((up2 w 3 s1.toInt.toNat (bi s0)) 0 3)) d_Md_component_98 fg_Md_88 hI12 ml_0 rfl ?_
  refine sm_iload_n d_Md_component_101 rfl (j := 1) rfl ?_
  obtain ⟨h13, hf⟩ := lo_chk hf
  refine lo_ast (j := ((up2 w 3 s1.toInt.toNat (bi s0)) 0 3).toInt.toNat) d_Md_component_102 hI12 ml_4 h13 rfl (fun M14 hI15 => ?_)
  refine sm_aload_n d_Md_component_103 rfl (j := 0) rfl ?_
  refine lo_get (v := .ref (b + 5)) d_Md_component_104 fg_Md_22 hI15 ml_0 rfl ?_
  refine sm_aload_n d_Md_component_107 rfl (j := 0) rfl ?_
  refine lo_get (v := .int ((up2 (up2 w 3 s1.toInt.toNat (bi s0)) 4 (((up2 w 3 s1.toInt.toNat (bi s0)) 0 3).toInt.toNat) x3) 0 3)) d_Md_component_108 fg_Md_88 hI15 ml_0 rfl ?_
  refine sm_iload d_Md_component_111 (j := 2) rfl ?_
  obtain ⟨h16, hf⟩ := lo_chk hf
  refine lo_ast (j := ((up2 (up2 w 3 s1.toInt.toNat (bi s0)) 4 (((up2 w 3 s1.toInt.toNat (bi s0)) 0 3).toInt.toNat) x3) 0 3).toInt.toNat) d_Md_component_113 hI15 ml_5 h16 rfl (fun M17 hI18 => ?_)
  refine sm_aload_n d_Md_component_114 rfl (j := 0) rfl ?_
  refine sm_aload_n d_Md_component_115 rfl (j := 0) rfl ?_
  refine lo_get (v := .int ((up2 (up2 (up2 w 3 s1.toInt.toNat (bi s0)) 4 (((up2 w 3 s1.toInt.toNat (bi s0)) 0 3).toInt.toNat) x3) 5 (((up2 (up2 w 3 s1.toInt.toNat (bi s0)) 4 (((up2 w 3 s1.toInt.toNat (bi s0)) 0 3).toInt.toNat) x3) 0 3).toInt.toNat) x4) 0 3)) d_Md_component_116 fg_Md_88 hI18 ml_0 rfl ?_
  obtain ⟨r19, e20, hf⟩ := lo_bnd hf
  refine lo_callVm d_Md_component_119 cs_Md_component_128 rfl hI18 ml_0 (As := [.int ((up2 (up2 (up2 w 3 s1.toInt.toNat (bi s0)) 4 (((up2 w 3 s1.toInt.toNat (bi s0)) 0 3).toInt.toNat) x3) 5 (((up2 (up2 w 3 s1.toInt.toNat (bi s0)) 4 (((up2 w 3 s1.toInt.toNat (bi s0)) 0 3).toInt.toNat) x3) 0 3).toInt.toNat) x4) 0 3)]) rfl rfl (Nat.le_of_ble_eq_true rfl) (c_Md_fresh hI18 ((up2 (up2 (up2 w 3 s1.toInt.toNat (bi s0)) 4 (((up2 w 3 s1.toInt.toNat (bi s0)) 0 3).toInt.toNat) x3) 5 (((up2 (up2 w 3 s1.toInt.toNat (bi s0)) 4 (((up2 w 3 s1.toInt.toNat (bi s0)) 0 3).toInt.toNat) x3) 0 3).toInt.toNat) x4) 0 3) e20) (fun M21 hI22 => ?_)
  refine sm_aload_n d_Md_component_122 rfl (j := 0) rfl ?_
  refine sm_dup d_Md_component_123 rfl ?_
  refine lo_get (v := .int (r19 0 3)) d_Md_component_124 fg_Md_88 hI22 ml_0 rfl ?_
  refine sm_iconst (v := 1) d_Md_component_127 (by decide) ?_
  refine sm_iadd d_Md_component_128 ?_
  refine lo_put d_Md_component_129 fp_Md_88 (by decide) hI22 ml_0 rfl (by rfl) (by rfl) (fun M23 hI24 => ?_)
  refine sm_aload_n d_Md_component_132 rfl (j := 0) rfl ?_
  refine lo_get (v := .int ((up2 r19 0 3 ((r19 0 3) + (1 : Int32))) 0 3)) d_Md_component_133 fg_Md_88 hI24 ml_0 rfl ?_
  refine sm_iconst (v := 1) d_Md_component_136 (by decide) ?_
  refine sm_isub d_Md_component_137 ?_
  cases hf
  refine sm_ireturn d_Md_component_138 rfl (by rfl) ?_
  exact ⟨rfl, hI24⟩

def fn_Md_component_57 (F : Nat) (w : wd) (x1 : Int32) (x2 : Bool) (x3 : Int32) (x4 : Int32) (s0 : Bool) (s1 : Bool) : Option (Int32 × wd) := (if (fn_Md_refuse w s1 s0).1 = true then some ((0 : Int32), (fn_Md_refuse w s1 s0).2) else (if 0 ≤ ((fn_Md_refuse w s1 s0).2 0 3).toInt ∧ ((fn_Md_refuse w s1 s0).2 0 3).toInt < 16 then (if x2 = true then fn_Md_component_92 F (up2 (fn_Md_refuse w s1 s0).2 2 (((fn_Md_refuse w s1 s0).2 0 3).toInt.toNat) x1) x3 x4 true ((up2 (fn_Md_refuse w s1 s0).2 2 (((fn_Md_refuse w s1 s0).2 0 3).toInt.toNat) x1) 0 3) else fn_Md_component_92 F (up2 (fn_Md_refuse w s1 s0).2 2 (((fn_Md_refuse w s1 s0).2 0 3).toInt.toNat) x1) x3 x4 false ((up2 (fn_Md_refuse w s1 s0).2 2 (((fn_Md_refuse w s1 s0).2 0 3).toInt.toNat) x1) 0 3)) else none))
set_option maxHeartbeats 1600000 in
set_option maxRecDepth 100000 in
theorem w_Md_component_57 {G : sm_G} {b : Nat} {M0 : sm_M} {bc bs : Nat} {R : Int32 × wd} {F : Nat} : ∀ (M : sm_M) (w : wd) (x1 : Int32) (x2 : Bool) (x3 : Int32) (x4 : Int32) (s0 : Bool) (s1 : Bool), lo_in G md_L b M0 M w → fn_Md_component_57 F w x1 x2 x3 x4 s0 s1 = some R → sm_W G mf_Md_component 57 [(0, .ref (b + 0)), (1, .int x1), (2, .int (bi x2)), (3, .int x3), (4, .int x4)] [.int (bi s0), .int (bi s1), .ref (b + 0)] M bc bs (wd_Q G md_L b M0 (some (.int R.1)) R.2) := by
  intro M w x1 x2 x3 x4 s0 s1 hI  hf
  unfold fn_Md_component_57 at hf
  refine lo_callVm d_Md_component_57 cs_Md_component_106 rfl hI ml_0 (As := [.int (bi s1), .int (bi s0)]) rfl rfl (Nat.le_of_ble_eq_true rfl) (c_Md_refuse hI s1 s0) (fun M3 hI4 => ?_)
  refine sm_if_eq (tgt := 65) d_Md_component_60 (by decide) (fun h5 => ?_) (fun h5 => ?_)
  · rw [if_neg (bi0 h5)] at hf
    refine sm_aload_n d_Md_component_65 rfl (j := 0) rfl ?_
    refine lo_get (v := .ref (b + 2)) d_Md_component_66 fg_Md_13 hI4 ml_0 rfl ?_
    refine sm_aload_n d_Md_component_69 rfl (j := 0) rfl ?_
    refine lo_get (v := .int ((fn_Md_refuse w s1 s0).2 0 3)) d_Md_component_70 fg_Md_88 hI4 ml_0 rfl ?_
    refine sm_iload_n d_Md_component_73 rfl (j := 1) rfl ?_
    obtain ⟨h6, hf⟩ := lo_chk hf
    refine lo_ast (j := ((fn_Md_refuse w s1 s0).2 0 3).toInt.toNat) d_Md_component_74 hI4 ml_2 h6 rfl (fun M7 hI8 => ?_)
    refine sm_aload_n d_Md_component_75 rfl (j := 0) rfl ?_
    refine lo_get (v := .ref (b + 3)) d_Md_component_76 fg_Md_16 hI8 ml_0 rfl ?_
    refine sm_aload_n d_Md_component_79 rfl (j := 0) rfl ?_
    refine lo_get (v := .int ((up2 (fn_Md_refuse w s1 s0).2 2 (((fn_Md_refuse w s1 s0).2 0 3).toInt.toNat) x1) 0 3)) d_Md_component_80 fg_Md_88 hI8 ml_0 rfl ?_
    refine sm_iload_n d_Md_component_83 rfl (j := 2) rfl ?_
    refine sm_if_eq (tgt := 91) d_Md_component_84 (by decide) (fun h9 => ?_) (fun h9 => ?_)
    · rw [if_neg (bi0 h9)] at hf
      refine sm_iconst (v := 0) d_Md_component_91 (by decide) ?_
      exact sm_pick [0, 3, 4] (w_Md_component_92 _ _ _ _ _ _ hI8 hf) rfl
    · rw [if_pos (bi1 h9)] at hf
      refine sm_iconst (v := 1) d_Md_component_87 (by decide) ?_
      refine sm_goto (tgt := 92) d_Md_component_88 (by decide) ?_
      exact sm_pick [0, 3, 4] (w_Md_component_92 _ _ _ _ _ _ hI8 hf) rfl
  · rw [if_pos (bi1 h5)] at hf
    refine sm_iconst (v := 0) d_Md_component_63 (by decide) ?_
    cases hf
    refine sm_ireturn d_Md_component_64 rfl (by rfl) ?_
    exact ⟨rfl, hI4⟩

def fn_Md_component_43 (F : Nat) (w : wd) (x1 : Int32) (x2 : Bool) (x3 : Int32) (x4 : Int32) (s0 : Bool) : Option (Int32 × wd) := (if (w 0 3) = (16 : Int32) then fn_Md_component_57 F w x1 x2 x3 x4 true s0 else fn_Md_component_57 F w x1 x2 x3 x4 false s0)
set_option maxHeartbeats 1600000 in
set_option maxRecDepth 100000 in
theorem w_Md_component_43 {G : sm_G} {b : Nat} {M0 : sm_M} {bc bs : Nat} {R : Int32 × wd} {F : Nat} : ∀ (M : sm_M) (w : wd) (x1 : Int32) (x2 : Bool) (x3 : Int32) (x4 : Int32) (s0 : Bool), lo_in G md_L b M0 M w → fn_Md_component_43 F w x1 x2 x3 x4 s0 = some R → sm_W G mf_Md_component 43 [(0, .ref (b + 0)), (1, .int x1), (2, .int (bi x2)), (3, .int x3), (4, .int x4)] [.int (bi s0), .ref (b + 0)] M bc bs (wd_Q G md_L b M0 (some (.int R.1)) R.2) := by
  intro M w x1 x2 x3 x4 s0 hI  hf
  unfold fn_Md_component_43 at hf
  refine sm_aload_n d_Md_component_43 rfl (j := 0) rfl ?_
  refine lo_get (v := .int (w 0 3)) d_Md_component_44 fg_Md_88 hI ml_0 rfl ?_
  refine sm_bipush (v := 16) d_Md_component_47 (by decide) ?_
  refine sm_icmp_ne (tgt := 56) d_Md_component_49 (by decide) (fun h2 => ?_) (fun h2 => ?_)
  · rw [if_neg h2] at hf
    refine sm_iconst (v := 0) d_Md_component_56 (by decide) ?_
    exact sm_pick [0, 1, 2, 3, 4] (w_Md_component_57 _ _ _ _ _ _ _ _ hI hf) rfl
  · rw [if_pos h2] at hf
    refine sm_iconst (v := 1) d_Md_component_52 (by decide) ?_
    refine sm_goto (tgt := 57) d_Md_component_53 (by decide) ?_
    exact sm_pick [0, 1, 2, 3, 4] (w_Md_component_57 _ _ _ _ _ _ _ _ hI hf) rfl

def fn_Md_component_38 (F : Nat) (w : wd) (x1 : Int32) (x2 : Bool) (x3 : Int32) (x4 : Int32) : Option (Int32 × wd) := fn_Md_component_43 F w x1 x2 x3 x4 true
set_option maxHeartbeats 1600000 in
set_option maxRecDepth 100000 in
theorem w_Md_component_38 {G : sm_G} {b : Nat} {M0 : sm_M} {bc bs : Nat} {R : Int32 × wd} {F : Nat} : ∀ (M : sm_M) (w : wd) (x1 : Int32) (x2 : Bool) (x3 : Int32) (x4 : Int32), lo_in G md_L b M0 M w → fn_Md_component_38 F w x1 x2 x3 x4 = some R → sm_W G mf_Md_component 38 [(0, .ref (b + 0)), (1, .int x1), (2, .int (bi x2)), (3, .int x3), (4, .int x4)] [.ref (b + 0)] M bc bs (wd_Q G md_L b M0 (some (.int R.1)) R.2) := by
  intro M w x1 x2 x3 x4 hI  hf
  unfold fn_Md_component_38 at hf
  refine sm_iconst (v := 1) d_Md_component_38 (by decide) ?_
  refine sm_goto (tgt := 43) d_Md_component_39 (by decide) ?_
  exact sm_pick [0, 1, 2, 3, 4] (w_Md_component_43 _ _ _ _ _ _ _ hI hf) rfl

def fn_Md_component (F : Nat) (w : wd) (x1 : Int32) (x2 : Bool) (x3 : Int32) (x4 : Int32) : Option (Int32 × wd) := (if (fn_Md_in x1.toInt64 (1 : Int64) (38 : Int64)) = true then (if (fn_Md_in x3.toInt64 (1 : Int64) (255 : Int64)) = true then (if (fn_Md_in x4.toInt64 (1 : Int64) (255 : Int64)) = true then fn_Md_component_43 F w x1 x2 x3 x4 false else fn_Md_component_38 F w x1 x2 x3 x4) else fn_Md_component_38 F w x1 x2 x3 x4) else fn_Md_component_38 F w x1 x2 x3 x4)
set_option maxHeartbeats 1600000 in
set_option maxRecDepth 100000 in
theorem c_Md_component {G : sm_G} {b : Nat} {M0 M : sm_M}  {w : wd} {F : Nat} (hI : lo_in G md_L b M0 M w)  (x1 : Int32) (x2 : Bool) (x3 : Int32) (x4 : Int32)  {R : Int32 × wd} (hf : fn_Md_component F w x1 x2 x3 x4 = some R) : sm_C G mf_Md_component [.ref (b + 0), .int x1, .int (bi x2), .int x3, .int x4] M 0 0 (wd_Q G md_L b M (some (.int R.1)) R.2) := by
  unfold fn_Md_component at hf
  have hI := hI.here
  refine sm_ofW rfl (Nat.le_of_ble_eq_true rfl) ?_
  refine sm_aload_n d_Md_component_0 rfl (j := 0) rfl ?_
  refine sm_iload_n d_Md_component_1 rfl (j := 1) rfl ?_
  refine sm_i2l d_Md_component_2 ?_
  refine sm_lconst (v := 1) d_Md_component_3 (by decide) ?_
  refine sm_ldc2 (v := 38) d_Md_component_4 mw_1340 ?_
  refine sm_callSp d_Md_component_7 cs_Md_component_122 rfl (As := [.long x1.toInt64, .long (1 : Int64), .long (38 : Int64)]) rfl rfl (Nat.le_of_ble_eq_true rfl) (c_Md_in x1.toInt64 (1 : Int64) (38 : Int64)) ?_
  refine sm_if_eq (tgt := 38) d_Md_component_10 (by decide) (fun h1 => ?_) (fun h1 => ?_)
  · rw [if_neg (bi0 h1)] at hf
    exact sm_pick [0, 1, 2, 3, 4] (w_Md_component_38 _ _ _ _ _ _ hI hf) rfl
  · rw [if_pos (bi1 h1)] at hf
    refine sm_iload_n d_Md_component_13 rfl (j := 3) rfl ?_
    refine sm_i2l d_Md_component_14 ?_
    refine sm_lconst (v := 1) d_Md_component_15 (by decide) ?_
    refine sm_ldc2 (v := 255) d_Md_component_16 mw_1344 ?_
    refine sm_callSp d_Md_component_19 cs_Md_component_122 rfl (As := [.long x3.toInt64, .long (1 : Int64), .long (255 : Int64)]) rfl rfl (Nat.le_of_ble_eq_true rfl) (c_Md_in x3.toInt64 (1 : Int64) (255 : Int64)) ?_
    refine sm_if_eq (tgt := 38) d_Md_component_22 (by decide) (fun h25 => ?_) (fun h25 => ?_)
    · rw [if_neg (bi0 h25)] at hf
      exact sm_pick [0, 1, 2, 3, 4] (w_Md_component_38 _ _ _ _ _ _ hI hf) rfl
    · rw [if_pos (bi1 h25)] at hf
      refine sm_iload d_Md_component_25 (j := 4) rfl ?_
      refine sm_i2l d_Md_component_27 ?_
      refine sm_lconst (v := 1) d_Md_component_28 (by decide) ?_
      refine sm_ldc2 (v := 255) d_Md_component_29 mw_1344 ?_
      refine sm_callSp d_Md_component_32 cs_Md_component_122 rfl (As := [.long x4.toInt64, .long (1 : Int64), .long (255 : Int64)]) rfl rfl (Nat.le_of_ble_eq_true rfl) (c_Md_in x4.toInt64 (1 : Int64) (255 : Int64)) ?_
      refine sm_if_ne (tgt := 42) d_Md_component_35 (by decide) (fun h26 => ?_) (fun h26 => ?_)
      · rw [if_pos (bi1 h26)] at hf
        refine sm_iconst (v := 0) d_Md_component_42 (by decide) ?_
        exact sm_pick [0, 1, 2, 3, 4] (w_Md_component_43 _ _ _ _ _ _ _ hI hf) rfl
      · rw [if_neg (bi0 h26)] at hf
        exact sm_pick [0, 1, 2, 3, 4] (w_Md_component_38 _ _ _ _ _ _ hI hf) rfl

def fn_Md_general_72 (w : wd) (x5 : Bool) (s0 : Bool) : wd := (if x5 = true then (up2 (up2 w 0 11 (bi s0)) 0 12 (1 : Int32)) else (up2 (up2 w 0 11 (bi s0)) 0 12 (0 : Int32)))
set_option maxHeartbeats 1600000 in
set_option maxRecDepth 100000 in
theorem w_Md_general_72 {G : sm_G} {b : Nat} {M0 : sm_M} {bc bs : Nat} {R : wd} : ∀ (M : sm_M) (w : wd) (x5 : Bool) (s0 : Bool), lo_in G md_L b M0 M w → fn_Md_general_72 w x5 s0 = R → sm_W G mf_Md_general 72 [(0, .ref (b + 0)), (5, .int (bi x5))] [.int (bi s0), .ref (b + 0)] M bc bs (wd_Q G md_L b M0 none R) := by
  intro M w x5 s0 hI  hf
  unfold fn_Md_general_72 at hf
  refine lo_put d_Md_general_72 fp_Md_97 (by decide) hI ml_0 rfl (by rfl) (by rfl) (fun M13 hI14 => ?_)
  refine sm_aload_n d_Md_general_75 rfl (j := 0) rfl ?_
  refine sm_iload d_Md_general_76 (j := 1) rfl ?_
  refine sm_if_eq (tgt := 85) d_Md_general_78 (by decide) (fun h15 => ?_) (fun h15 => ?_)
  · rw [if_neg (bi0 h15)] at hf
    refine sm_iconst (v := 0) d_Md_general_85 (by decide) ?_
    refine lo_put d_Md_general_86 fp_Md_100 (by decide) hI14 ml_0 rfl (by rfl) (by rfl) (fun M16 hI17 => ?_)
    subst hf
    refine sm_return d_Md_general_89 rfl ?_
    exact ⟨rfl, hI17⟩
  · rw [if_pos (bi1 h15)] at hf
    refine sm_iconst (v := 1) d_Md_general_81 (by decide) ?_
    refine sm_goto (tgt := 86) d_Md_general_82 (by decide) ?_
    refine lo_put d_Md_general_86 fp_Md_100 (by decide) hI14 ml_0 rfl (by rfl) (by rfl) (fun M18 hI19 => ?_)
    subst hf
    refine sm_return d_Md_general_89 rfl ?_
    exact ⟨rfl, hI19⟩

def fn_Md_general_58 (w : wd) (x4 : Bool) (x5 : Bool) (s0 : Bool) : wd := (if x4 = true then fn_Md_general_72 (up2 w 0 10 (bi s0)) x5 true else fn_Md_general_72 (up2 w 0 10 (bi s0)) x5 false)
set_option maxHeartbeats 1600000 in
set_option maxRecDepth 100000 in
theorem w_Md_general_58 {G : sm_G} {b : Nat} {M0 : sm_M} {bc bs : Nat} {R : wd} : ∀ (M : sm_M) (w : wd) (x4 : Bool) (x5 : Bool) (s0 : Bool), lo_in G md_L b M0 M w → fn_Md_general_58 w x4 x5 s0 = R → sm_W G mf_Md_general 58 [(0, .ref (b + 0)), (4, .int (bi x4)), (5, .int (bi x5))] [.int (bi s0), .ref (b + 0)] M bc bs (wd_Q G md_L b M0 none R) := by
  intro M w x4 x5 s0 hI  hf
  unfold fn_Md_general_58 at hf
  refine lo_put d_Md_general_58 fp_Md_94 (by decide) hI ml_0 rfl (by rfl) (by rfl) (fun M10 hI11 => ?_)
  refine sm_aload_n d_Md_general_61 rfl (j := 0) rfl ?_
  refine sm_iload d_Md_general_62 (j := 1) rfl ?_
  refine sm_if_eq (tgt := 71) d_Md_general_64 (by decide) (fun h12 => ?_) (fun h12 => ?_)
  · rw [if_neg (bi0 h12)] at hf
    refine sm_iconst (v := 0) d_Md_general_71 (by decide) ?_
    exact sm_pick [0, 2] (w_Md_general_72 _ _ _ _ hI11 hf) rfl
  · rw [if_pos (bi1 h12)] at hf
    refine sm_iconst (v := 1) d_Md_general_67 (by decide) ?_
    refine sm_goto (tgt := 72) d_Md_general_68 (by decide) ?_
    exact sm_pick [0, 2] (w_Md_general_72 _ _ _ _ hI11 hf) rfl

def fn_Md_general_30 (w : wd) (x1 : Int32) (x2 : Int32) (x3 : Bool) (x4 : Bool) (x5 : Bool) (s0 : Bool) : wd := (if (fn_Md_refuse w s0 false).1 = true then (fn_Md_refuse w s0 false).2 else (if x3 = true then fn_Md_general_58 (up2 (up2 (fn_Md_refuse w s0 false).2 0 8 x1) 0 9 x2) x4 x5 true else fn_Md_general_58 (up2 (up2 (fn_Md_refuse w s0 false).2 0 8 x1) 0 9 x2) x4 x5 false))
set_option maxHeartbeats 1600000 in
set_option maxRecDepth 100000 in
theorem w_Md_general_30 {G : sm_G} {b : Nat} {M0 : sm_M} {bc bs : Nat} {R : wd} : ∀ (M : sm_M) (w : wd) (x1 : Int32) (x2 : Int32) (x3 : Bool) (x4 : Bool) (x5 : Bool) (s0 : Bool), lo_in G md_L b M0 M w → fn_Md_general_30 w x1 x2 x3 x4 x5 s0 = R → sm_W G mf_Md_general 30 [(0, .ref (b + 0)), (1, .int x1), (2, .int x2), (3, .int (bi x3)), (4, .int (bi x4)), (5, .int (bi x5))] [.int (bi s0), .ref (b + 0)] M bc bs (wd_Q G md_L b M0 none R) := by
  intro M w x1 x2 x3 x4 x5 s0 hI  hf
  unfold fn_Md_general_30 at hf
  refine sm_iconst (v := 0) d_Md_general_30 (by decide) ?_
  refine lo_callVm d_Md_general_31 cs_Md_general_106 rfl hI ml_0 (As := [.int (bi s0), .int (0 : Int32)]) rfl rfl (Nat.le_of_ble_eq_true rfl) (c_Md_refuse hI s0 false) (fun M2 hI3 => ?_)
  refine sm_if_eq (tgt := 38) d_Md_general_34 (by decide) (fun h4 => ?_) (fun h4 => ?_)
  · rw [if_neg (bi0 h4)] at hf
    refine sm_aload_n d_Md_general_38 rfl (j := 0) rfl ?_
    refine sm_iload_n d_Md_general_39 rfl (j := 1) rfl ?_
    refine lo_put d_Md_general_40 fp_Md_91 (by decide) hI3 ml_0 rfl (by rfl) (by rfl) (fun M5 hI6 => ?_)
    refine sm_aload_n d_Md_general_43 rfl (j := 0) rfl ?_
    refine sm_iload_n d_Md_general_44 rfl (j := 2) rfl ?_
    refine lo_put d_Md_general_45 fp_Md_25 (by decide) hI6 ml_0 rfl (by rfl) (by rfl) (fun M7 hI8 => ?_)
    refine sm_aload_n d_Md_general_48 rfl (j := 0) rfl ?_
    refine sm_iload_n d_Md_general_49 rfl (j := 3) rfl ?_
    refine sm_if_eq (tgt := 57) d_Md_general_50 (by decide) (fun h9 => ?_) (fun h9 => ?_)
    · rw [if_neg (bi0 h9)] at hf
      refine sm_iconst (v := 0) d_Md_general_57 (by decide) ?_
      exact sm_pick [0, 4, 5] (w_Md_general_58 _ _ _ _ _ hI8 hf) rfl
    · rw [if_pos (bi1 h9)] at hf
      refine sm_iconst (v := 1) d_Md_general_53 (by decide) ?_
      refine sm_goto (tgt := 58) d_Md_general_54 (by decide) ?_
      exact sm_pick [0, 4, 5] (w_Md_general_58 _ _ _ _ _ hI8 hf) rfl
  · rw [if_pos (bi1 h4)] at hf
    subst hf
    refine sm_return d_Md_general_37 rfl ?_
    exact ⟨rfl, hI3⟩

def fn_Md_general_25 (w : wd) (x1 : Int32) (x2 : Int32) (x3 : Bool) (x4 : Bool) (x5 : Bool) : wd := fn_Md_general_30 w x1 x2 x3 x4 x5 true
set_option maxHeartbeats 1600000 in
set_option maxRecDepth 100000 in
theorem w_Md_general_25 {G : sm_G} {b : Nat} {M0 : sm_M} {bc bs : Nat} {R : wd} : ∀ (M : sm_M) (w : wd) (x1 : Int32) (x2 : Int32) (x3 : Bool) (x4 : Bool) (x5 : Bool), lo_in G md_L b M0 M w → fn_Md_general_25 w x1 x2 x3 x4 x5 = R → sm_W G mf_Md_general 25 [(0, .ref (b + 0)), (1, .int x1), (2, .int x2), (3, .int (bi x3)), (4, .int (bi x4)), (5, .int (bi x5))] [.ref (b + 0)] M bc bs (wd_Q G md_L b M0 none R) := by
  intro M w x1 x2 x3 x4 x5 hI  hf
  unfold fn_Md_general_25 at hf
  refine sm_iconst (v := 1) d_Md_general_25 (by decide) ?_
  refine sm_goto (tgt := 30) d_Md_general_26 (by decide) ?_
  exact sm_pick [0, 1, 2, 3, 4, 5] (w_Md_general_30 _ _ _ _ _ _ _ _ hI hf) rfl

def fn_Md_general (w : wd) (x1 : Int32) (x2 : Int32) (x3 : Bool) (x4 : Bool) (x5 : Bool) : wd := (if (fn_Md_in x1.toInt64 (0 : Int64) (4 : Int64)) = true then (if (fn_Md_in x2.toInt64 (1 : Int64) (255 : Int64)) = true then fn_Md_general_30 w x1 x2 x3 x4 x5 false else fn_Md_general_25 w x1 x2 x3 x4 x5) else fn_Md_general_25 w x1 x2 x3 x4 x5)
set_option maxHeartbeats 1600000 in
set_option maxRecDepth 100000 in
theorem c_Md_general {G : sm_G} {b : Nat} {M0 M : sm_M}  {w : wd}  (hI : lo_in G md_L b M0 M w)  (x1 : Int32) (x2 : Int32) (x3 : Bool) (x4 : Bool) (x5 : Bool)  : sm_C G mf_Md_general [.ref (b + 0), .int x1, .int x2, .int (bi x3), .int (bi x4), .int (bi x5)] M 0 0 (wd_Q G md_L b M none (fn_Md_general w x1 x2 x3 x4 x5)) := by
  obtain ⟨R, hf⟩ : ∃ R, fn_Md_general w x1 x2 x3 x4 x5 = R := ⟨_, rfl⟩
  rw [hf]
  unfold fn_Md_general at hf
  have hI := hI.here
  refine sm_ofW rfl (Nat.le_of_ble_eq_true rfl) ?_
  refine sm_aload_n d_Md_general_0 rfl (j := 0) rfl ?_
  refine sm_iload_n d_Md_general_1 rfl (j := 1) rfl ?_
  refine sm_i2l d_Md_general_2 ?_
  refine sm_lconst (v := 0) d_Md_general_3 (by decide) ?_
  refine sm_ldc2 (v := 4) d_Md_general_4 mw_1353 ?_
  refine sm_callSp d_Md_general_7 cs_Md_general_122 rfl (As := [.long x1.toInt64, .long (0 : Int64), .long (4 : Int64)]) rfl rfl (Nat.le_of_ble_eq_true rfl) (c_Md_in x1.toInt64 (0 : Int64) (4 : Int64)) ?_
  refine sm_if_eq (tgt := 25) d_Md_general_10 (by decide) (fun h1 => ?_) (fun h1 => ?_)
  · rw [if_neg (bi0 h1)] at hf
    exact sm_pick [0, 1, 2, 3, 4, 5] (w_Md_general_25 _ _ _ _ _ _ _ hI hf) rfl
  · rw [if_pos (bi1 h1)] at hf
    refine sm_iload_n d_Md_general_13 rfl (j := 2) rfl ?_
    refine sm_i2l d_Md_general_14 ?_
    refine sm_lconst (v := 1) d_Md_general_15 (by decide) ?_
    refine sm_ldc2 (v := 255) d_Md_general_16 mw_1344 ?_
    refine sm_callSp d_Md_general_19 cs_Md_general_122 rfl (As := [.long x2.toInt64, .long (1 : Int64), .long (255 : Int64)]) rfl rfl (Nat.le_of_ble_eq_true rfl) (c_Md_in x2.toInt64 (1 : Int64) (255 : Int64)) ?_
    refine sm_if_ne (tgt := 29) d_Md_general_22 (by decide) (fun h20 => ?_) (fun h20 => ?_)
    · rw [if_pos (bi1 h20)] at hf
      refine sm_iconst (v := 0) d_Md_general_29 (by decide) ?_
      exact sm_pick [0, 1, 2, 3, 4, 5] (w_Md_general_30 _ _ _ _ _ _ _ _ hI hf) rfl
    · rw [if_neg (bi0 h20)] at hf
      exact sm_pick [0, 1, 2, 3, 4, 5] (w_Md_general_25 _ _ _ _ _ _ _ hI hf) rfl

def fn_Md_isComponent (w : wd) (x1 : Int32) : Bool := (if x1 < 0 then false else (if (w 0 3) ≤ x1 then false else true))
set_option maxHeartbeats 1600000 in
set_option maxRecDepth 100000 in
theorem c_Md_isComponent {G : sm_G} {b : Nat} {M0 M : sm_M}  {w : wd}  (hI : lo_in G md_L b M0 M w)  (x1 : Int32)  : sm_C G mf_Md_isComponent [.ref (b + 0), .int x1] M 0 0 (sm_pu M (.int (bi (fn_Md_isComponent w x1)))) := by
  obtain ⟨R, hf⟩ : ∃ R, fn_Md_isComponent w x1 = R := ⟨_, rfl⟩
  rw [hf]
  unfold fn_Md_isComponent at hf
  have hI := hI.here
  refine sm_ofW rfl (Nat.le_of_ble_eq_true rfl) ?_
  refine sm_iload_n d_Md_isComponent_0 rfl (j := 1) rfl ?_
  refine sm_if_lt (tgt := 16) d_Md_isComponent_1 (by decide) (fun h1 => ?_) (fun h1 => ?_)
  · rw [if_pos h1] at hf
    refine sm_iconst (v := 0) d_Md_isComponent_16 (by decide) ?_
    subst hf
    refine sm_ireturn d_Md_isComponent_17 rfl (by rfl) ?_
    exact ⟨rfl, rfl⟩
  · rw [if_neg h1] at hf
    refine sm_iload_n d_Md_isComponent_4 rfl (j := 1) rfl ?_
    refine sm_aload_n d_Md_isComponent_5 rfl (j := 0) rfl ?_
    refine lo_get (v := .int (w 0 3)) d_Md_isComponent_6 fg_Md_88 hI ml_0 rfl ?_
    refine sm_icmp_ge (tgt := 16) d_Md_isComponent_9 (by decide) (fun h2 => ?_) (fun h2 => ?_)
    · rw [if_pos h2] at hf
      refine sm_iconst (v := 0) d_Md_isComponent_16 (by decide) ?_
      subst hf
      refine sm_ireturn d_Md_isComponent_17 rfl (by rfl) ?_
      exact ⟨rfl, rfl⟩
    · rw [if_neg h2] at hf
      refine sm_iconst (v := 1) d_Md_isComponent_12 (by decide) ?_
      refine sm_goto (tgt := 17) d_Md_isComponent_13 (by decide) ?_
      subst hf
      refine sm_ireturn d_Md_isComponent_17 rfl (by rfl) ?_
      exact ⟨rfl, rfl⟩

def fn_Md_coding_82 (w : wd) (x1 : Int32) (x2 : Int32) (x3 : Int32) (x4 : Int32) (x5 : Int32) (x6 : Bool) (s0 : Bool) (s1 : Bool) : Option (wd) := (if (fn_Md_refuse w s1 s0).1 = true then some (fn_Md_refuse w s1 s0).2 else (if 0 ≤ ((8 : Int32) * x1).toInt ∧ ((8 : Int32) * x1).toInt < 128 then (if 0 ≤ (((8 : Int32) * x1) + (1 : Int32)).toInt ∧ (((8 : Int32) * x1) + (1 : Int32)).toInt < 128 then (if 0 ≤ (((8 : Int32) * x1) + (2 : Int32)).toInt ∧ (((8 : Int32) * x1) + (2 : Int32)).toInt < 128 then (if 0 ≤ (((8 : Int32) * x1) + (3 : Int32)).toInt ∧ (((8 : Int32) * x1) + (3 : Int32)).toInt < 128 then (if x6 = true then (if 0 ≤ (((8 : Int32) * x1) + (4 : Int32)).toInt ∧ (((8 : Int32) * x1) + (4 : Int32)).toInt < 128 then some (up2 (up2 (up2 (up2 (up2 (fn_Md_refuse w s1 s0).2 6 (((8 : Int32) * x1).toInt.toNat) x2) 6 ((((8 : Int32) * x1) + (1 : Int32)).toInt.toNat) x3) 6 ((((8 : Int32) * x1) + (2 : Int32)).toInt.toNat) x4) 6 ((((8 : Int32) * x1) + (3 : Int32)).toInt.toNat) x5) 6 ((((8 : Int32) * x1) + (4 : Int32)).toInt.toNat) (1 : Int32)) else none) else (if 0 ≤ (((8 : Int32) * x1) + (4 : Int32)).toInt ∧ (((8 : Int32) * x1) + (4 : Int32)).toInt < 128 then some (up2 (up2 (up2 (up2 (up2 (fn_Md_refuse w s1 s0).2 6 (((8 : Int32) * x1).toInt.toNat) x2) 6 ((((8 : Int32) * x1) + (1 : Int32)).toInt.toNat) x3) 6 ((((8 : Int32) * x1) + (2 : Int32)).toInt.toNat) x4) 6 ((((8 : Int32) * x1) + (3 : Int32)).toInt.toNat) x5) 6 ((((8 : Int32) * x1) + (4 : Int32)).toInt.toNat) (0 : Int32)) else none)) else none) else none) else none) else none))
set_option maxHeartbeats 1600000 in
set_option maxRecDepth 100000 in
theorem w_Md_coding_82 {G : sm_G} {b : Nat} {M0 : sm_M} {bc bs : Nat} {R : wd} : ∀ (M : sm_M) (w : wd) (x1 : Int32) (x2 : Int32) (x3 : Int32) (x4 : Int32) (x5 : Int32) (x6 : Bool) (s0 : Bool) (s1 : Bool), lo_in G md_L b M0 M w → fn_Md_coding_82 w x1 x2 x3 x4 x5 x6 s0 s1 = some R → sm_W G mf_Md_coding 82 [(0, .ref (b + 0)), (1, .int x1), (2, .int x2), (3, .int x3), (4, .int x4), (5, .int x5), (6, .int (bi x6))] [.int (bi s0), .int (bi s1), .ref (b + 0)] M bc bs (wd_Q G md_L b M0 none R) := by
  intro M w x1 x2 x3 x4 x5 x6 s0 s1 hI  hf
  unfold fn_Md_coding_82 at hf
  refine lo_callVm d_Md_coding_82 cs_Md_coding_106 rfl hI ml_0 (As := [.int (bi s1), .int (bi s0)]) rfl rfl (Nat.le_of_ble_eq_true rfl) (c_Md_refuse hI s1 s0) (fun M3 hI4 => ?_)
  refine sm_if_eq (tgt := 89) d_Md_coding_85 (by decide) (fun h5 => ?_) (fun h5 => ?_)
  · rw [if_neg (bi0 h5)] at hf
    refine sm_aload_n d_Md_coding_89 rfl (j := 0) rfl ?_
    refine lo_get (v := .ref (b + 6)) d_Md_coding_90 fg_Md_29 hI4 ml_0 rfl ?_
    refine sm_bipush (v := 8) d_Md_coding_93 (by decide) ?_
    refine sm_iload_n d_Md_coding_95 rfl (j := 1) rfl ?_
    refine sm_imul d_Md_coding_96 ?_
    refine sm_iload_n d_Md_coding_97 rfl (j := 2) rfl ?_
    obtain ⟨h6, hf⟩ := lo_chk hf
    refine lo_ast (j := ((8 : Int32) * x1).toInt.toNat) d_Md_coding_98 hI4 ml_6 h6 rfl (fun M7 hI8 => ?_)
    refine sm_aload_n d_Md_coding_99 rfl (j := 0) rfl ?_
    refine lo_get (v := .ref (b + 6)) d_Md_coding_100 fg_Md_29 hI8 ml_0 rfl ?_
    refine sm_bipush (v := 8) d_Md_coding_103 (by decide) ?_
    refine sm_iload_n d_Md_coding_105 rfl (j := 1) rfl ?_
    refine sm_imul d_Md_coding_106 ?_
    refine sm_iconst (v := 1) d_Md_coding_107 (by decide) ?_
    refine sm_iadd d_Md_coding_108 ?_
    refine sm_iload_n d_Md_coding_109 rfl (j := 3) rfl ?_
    obtain ⟨h9, hf⟩ := lo_chk hf
    refine lo_ast (j := (((8 : Int32) * x1) + (1 : Int32)).toInt.toNat) d_Md_coding_110 hI8 ml_6 h9 rfl (fun M10 hI11 => ?_)
    refine sm_aload_n d_Md_coding_111 rfl (j := 0) rfl ?_
    refine lo_get (v := .ref (b + 6)) d_Md_coding_112 fg_Md_29 hI11 ml_0 rfl ?_
    refine sm_bipush (v := 8) d_Md_coding_115 (by decide) ?_
    refine sm_iload_n d_Md_coding_117 rfl (j := 1) rfl ?_
    refine sm_imul d_Md_coding_118 ?_
    refine sm_iconst (v := 2) d_Md_coding_119 (by decide) ?_
    refine sm_iadd d_Md_coding_120 ?_
    refine sm_iload d_Md_coding_121 (j := 4) rfl ?_
    obtain ⟨h12, hf⟩ := lo_chk hf
    refine lo_ast (j := (((8 : Int32) * x1) + (2 : Int32)).toInt.toNat) d_Md_coding_123 hI11 ml_6 h12 rfl (fun M13 hI14 => ?_)
    refine sm_aload_n d_Md_coding_124 rfl (j := 0) rfl ?_
    refine lo_get (v := .ref (b + 6)) d_Md_coding_125 fg_Md_29 hI14 ml_0 rfl ?_
    refine sm_bipush (v := 8) d_Md_coding_128 (by decide) ?_
    refine sm_iload_n d_Md_coding_130 rfl (j := 1) rfl ?_
    refine sm_imul d_Md_coding_131 ?_
    refine sm_iconst (v := 3) d_Md_coding_132 (by decide) ?_
    refine sm_iadd d_Md_coding_133 ?_
    refine sm_iload d_Md_coding_134 (j := 5) rfl ?_
    obtain ⟨h15, hf⟩ := lo_chk hf
    refine lo_ast (j := (((8 : Int32) * x1) + (3 : Int32)).toInt.toNat) d_Md_coding_136 hI14 ml_6 h15 rfl (fun M16 hI17 => ?_)
    refine sm_aload_n d_Md_coding_137 rfl (j := 0) rfl ?_
    refine lo_get (v := .ref (b + 6)) d_Md_coding_138 fg_Md_29 hI17 ml_0 rfl ?_
    refine sm_bipush (v := 8) d_Md_coding_141 (by decide) ?_
    refine sm_iload_n d_Md_coding_143 rfl (j := 1) rfl ?_
    refine sm_imul d_Md_coding_144 ?_
    refine sm_iconst (v := 4) d_Md_coding_145 (by decide) ?_
    refine sm_iadd d_Md_coding_146 ?_
    refine sm_iload d_Md_coding_147 (j := 6) rfl ?_
    refine sm_if_eq (tgt := 156) d_Md_coding_149 (by decide) (fun h18 => ?_) (fun h18 => ?_)
    · rw [if_neg (bi0 h18)] at hf
      refine sm_iconst (v := 0) d_Md_coding_156 (by decide) ?_
      obtain ⟨h19, hf⟩ := lo_chk hf
      refine lo_ast (j := (((8 : Int32) * x1) + (4 : Int32)).toInt.toNat) d_Md_coding_157 hI17 ml_6 h19 rfl (fun M20 hI21 => ?_)
      cases hf
      refine sm_return d_Md_coding_158 rfl ?_
      exact ⟨rfl, hI21⟩
    · rw [if_pos (bi1 h18)] at hf
      refine sm_iconst (v := 1) d_Md_coding_152 (by decide) ?_
      refine sm_goto (tgt := 157) d_Md_coding_153 (by decide) ?_
      obtain ⟨h22, hf⟩ := lo_chk hf
      refine lo_ast (j := (((8 : Int32) * x1) + (4 : Int32)).toInt.toNat) d_Md_coding_157 hI17 ml_6 h22 rfl (fun M23 hI24 => ?_)
      cases hf
      refine sm_return d_Md_coding_158 rfl ?_
      exact ⟨rfl, hI24⟩
  · rw [if_pos (bi1 h5)] at hf
    cases hf
    refine sm_return d_Md_coding_88 rfl ?_
    exact ⟨rfl, hI4⟩

def fn_Md_coding_77 (w : wd) (x1 : Int32) (x2 : Int32) (x3 : Int32) (x4 : Int32) (x5 : Int32) (x6 : Bool) (s0 : Bool) : Option (wd) := fn_Md_coding_82 w x1 x2 x3 x4 x5 x6 true s0
set_option maxHeartbeats 1600000 in
set_option maxRecDepth 100000 in
theorem w_Md_coding_77 {G : sm_G} {b : Nat} {M0 : sm_M} {bc bs : Nat} {R : wd} : ∀ (M : sm_M) (w : wd) (x1 : Int32) (x2 : Int32) (x3 : Int32) (x4 : Int32) (x5 : Int32) (x6 : Bool) (s0 : Bool), lo_in G md_L b M0 M w → fn_Md_coding_77 w x1 x2 x3 x4 x5 x6 s0 = some R → sm_W G mf_Md_coding 77 [(0, .ref (b + 0)), (1, .int x1), (2, .int x2), (3, .int x3), (4, .int x4), (5, .int x5), (6, .int (bi x6))] [.int (bi s0), .ref (b + 0)] M bc bs (wd_Q G md_L b M0 none R) := by
  intro M w x1 x2 x3 x4 x5 x6 s0 hI  hf
  unfold fn_Md_coding_77 at hf
  refine sm_iconst (v := 1) d_Md_coding_77 (by decide) ?_
  refine sm_goto (tgt := 82) d_Md_coding_78 (by decide) ?_
  exact sm_pick [0, 1, 2, 3, 4, 5, 6] (w_Md_coding_82 _ _ _ _ _ _ _ _ _ _ hI hf) rfl

def fn_Md_coding_14 (w : wd) (x1 : Int32) (x2 : Int32) (x3 : Int32) (x4 : Int32) (x5 : Int32) (x6 : Bool) (s0 : Bool) : Option (wd) := (if (fn_Md_in x2.toInt64 (0 : Int64) (32 : Int64)) = true then (if (fn_Md_in x3.toInt64 (2 : Int64) (10 : Int64)) = true then (if (fn_Md_in x4.toInt64 (2 : Int64) (10 : Int64)) = true then (if (12 : Int32) < (x3 + x4) then fn_Md_coding_77 w x1 x2 x3 x4 x5 x6 s0 else (if (fn_Md_in x5.toInt64 (0 : Int64) (63 : Int64)) = true then fn_Md_coding_82 w x1 x2 x3 x4 x5 x6 false s0 else fn_Md_coding_77 w x1 x2 x3 x4 x5 x6 s0)) else fn_Md_coding_77 w x1 x2 x3 x4 x5 x6 s0) else fn_Md_coding_77 w x1 x2 x3 x4 x5 x6 s0) else fn_Md_coding_77 w x1 x2 x3 x4 x5 x6 s0)
set_option maxHeartbeats 1600000 in
set_option maxRecDepth 100000 in
theorem w_Md_coding_14 {G : sm_G} {b : Nat} {M0 : sm_M} {bc bs : Nat} {R : wd} : ∀ (M : sm_M) (w : wd) (x1 : Int32) (x2 : Int32) (x3 : Int32) (x4 : Int32) (x5 : Int32) (x6 : Bool) (s0 : Bool), lo_in G md_L b M0 M w → fn_Md_coding_14 w x1 x2 x3 x4 x5 x6 s0 = some R → sm_W G mf_Md_coding 14 [(0, .ref (b + 0)), (1, .int x1), (2, .int x2), (3, .int x3), (4, .int x4), (5, .int x5), (6, .int (bi x6))] [.int (bi s0), .ref (b + 0)] M bc bs (wd_Q G md_L b M0 none R) := by
  intro M w x1 x2 x3 x4 x5 x6 s0 hI  hf
  unfold fn_Md_coding_14 at hf
  refine sm_iload_n d_Md_coding_14 rfl (j := 2) rfl ?_
  refine sm_i2l d_Md_coding_15 ?_
  refine sm_lconst (v := 0) d_Md_coding_16 (by decide) ?_
  refine sm_ldc2 (v := 32) d_Md_coding_17 mw_1362 ?_
  refine sm_callSp d_Md_coding_20 cs_Md_coding_122 rfl (As := [.long x2.toInt64, .long (0 : Int64), .long (32 : Int64)]) rfl rfl (Nat.le_of_ble_eq_true rfl) (c_Md_in x2.toInt64 (0 : Int64) (32 : Int64)) ?_
  refine sm_if_eq (tgt := 77) d_Md_coding_23 (by decide) (fun h2 => ?_) (fun h2 => ?_)
  · rw [if_neg (bi0 h2)] at hf
    exact sm_pick [0, 1, 2, 3, 4, 5, 6] (w_Md_coding_77 _ _ _ _ _ _ _ _ _ hI hf) rfl
  · rw [if_pos (bi1 h2)] at hf
    refine sm_iload_n d_Md_coding_26 rfl (j := 3) rfl ?_
    refine sm_i2l d_Md_coding_27 ?_
    refine sm_ldc2 (v := 2) d_Md_coding_28 mw_1363 ?_
    refine sm_ldc2 (v := 10) d_Md_coding_31 mw_1364 ?_
    refine sm_callSp d_Md_coding_34 cs_Md_coding_122 rfl (As := [.long x3.toInt64, .long (2 : Int64), .long (10 : Int64)]) rfl rfl (Nat.le_of_ble_eq_true rfl) (c_Md_in x3.toInt64 (2 : Int64) (10 : Int64)) ?_
    refine sm_if_eq (tgt := 77) d_Md_coding_37 (by decide) (fun h25 => ?_) (fun h25 => ?_)
    · rw [if_neg (bi0 h25)] at hf
      exact sm_pick [0, 1, 2, 3, 4, 5, 6] (w_Md_coding_77 _ _ _ _ _ _ _ _ _ hI hf) rfl
    · rw [if_pos (bi1 h25)] at hf
      refine sm_iload d_Md_coding_40 (j := 4) rfl ?_
      refine sm_i2l d_Md_coding_42 ?_
      refine sm_ldc2 (v := 2) d_Md_coding_43 mw_1363 ?_
      refine sm_ldc2 (v := 10) d_Md_coding_46 mw_1364 ?_
      refine sm_callSp d_Md_coding_49 cs_Md_coding_122 rfl (As := [.long x4.toInt64, .long (2 : Int64), .long (10 : Int64)]) rfl rfl (Nat.le_of_ble_eq_true rfl) (c_Md_in x4.toInt64 (2 : Int64) (10 : Int64)) ?_
      refine sm_if_eq (tgt := 77) d_Md_coding_52 (by decide) (fun h26 => ?_) (fun h26 => ?_)
      · rw [if_neg (bi0 h26)] at hf
        exact sm_pick [0, 1, 2, 3, 4, 5, 6] (w_Md_coding_77 _ _ _ _ _ _ _ _ _ hI hf) rfl
      · rw [if_pos (bi1 h26)] at hf
        refine sm_iload_n d_Md_coding_55 rfl (j := 3) rfl ?_
        refine sm_iload d_Md_coding_56 (j := 4) rfl ?_
        refine sm_iadd d_Md_coding_58 ?_
        refine sm_bipush (v := 12) d_Md_coding_59 (by decide) ?_
        refine sm_icmp_gt (tgt := 77) d_Md_coding_61 (by decide) (fun h27 => ?_) (fun h27 => ?_)
        · rw [if_pos h27] at hf
          exact sm_pick [0, 1, 2, 3, 4, 5, 6] (w_Md_coding_77 _ _ _ _ _ _ _ _ _ hI hf) rfl
        · rw [if_neg h27] at hf
          refine sm_iload d_Md_coding_64 (j := 5) rfl ?_
          refine sm_i2l d_Md_coding_66 ?_
          refine sm_lconst (v := 0) d_Md_coding_67 (by decide) ?_
          refine sm_ldc2 (v := 63) d_Md_coding_68 mw_1365 ?_
          refine sm_callSp d_Md_coding_71 cs_Md_coding_122 rfl (As := [.long x5.toInt64, .long (0 : Int64), .long (63 : Int64)]) rfl rfl (Nat.le_of_ble_eq_true rfl) (c_Md_in x5.toInt64 (0 : Int64) (63 : Int64)) ?_
          refine sm_if_ne (tgt := 81) d_Md_coding_74 (by decide) (fun h28 => ?_) (fun h28 => ?_)
          · rw [if_pos (bi1 h28)] at hf
            refine sm_iconst (v := 0) d_Md_coding_81 (by decide) ?_
            exact sm_pick [0, 1, 2, 3, 4, 5, 6] (w_Md_coding_82 _ _ _ _ _ _ _ _ _ _ hI hf) rfl
          · rw [if_neg (bi0 h28)] at hf
            exact sm_pick [0, 1, 2, 3, 4, 5, 6] (w_Md_coding_77 _ _ _ _ _ _ _ _ _ hI hf) rfl

def fn_Md_coding (w : wd) (x1 : Int32) (x2 : Int32) (x3 : Int32) (x4 : Int32) (x5 : Int32) (x6 : Bool) : Option (wd) := (if (fn_Md_isComponent w x1) = true then fn_Md_coding_14 w x1 x2 x3 x4 x5 x6 false else fn_Md_coding_14 w x1 x2 x3 x4 x5 x6 true)
set_option maxHeartbeats 1600000 in
set_option maxRecDepth 100000 in
theorem c_Md_coding {G : sm_G} {b : Nat} {M0 M : sm_M}  {w : wd}  (hI : lo_in G md_L b M0 M w)  (x1 : Int32) (x2 : Int32) (x3 : Int32) (x4 : Int32) (x5 : Int32) (x6 : Bool)  {R : wd} (hf : fn_Md_coding w x1 x2 x3 x4 x5 x6 = some R) : sm_C G mf_Md_coding [.ref (b + 0), .int x1, .int x2, .int x3, .int x4, .int x5, .int (bi x6)] M 0 0 (wd_Q G md_L b M none R) := by
  unfold fn_Md_coding at hf
  have hI := hI.here
  refine sm_ofW rfl (Nat.le_of_ble_eq_true rfl) ?_
  refine sm_aload_n d_Md_coding_0 rfl (j := 0) rfl ?_
  refine sm_aload_n d_Md_coding_1 rfl (j := 0) rfl ?_
  refine sm_iload_n d_Md_coding_2 rfl (j := 1) rfl ?_
  refine lo_callV d_Md_coding_3 cs_Md_coding_134 rfl hI ml_0 (As := [.int x1]) rfl rfl (Nat.le_of_ble_eq_true rfl) (c_Md_isComponent hI x1) ?_
  refine sm_if_ne (tgt := 13) d_Md_coding_6 (by decide) (fun h1 => ?_) (fun h1 => ?_)
  · rw [if_pos (bi1 h1)] at hf
    refine sm_iconst (v := 0) d_Md_coding_13 (by decide) ?_
    exact sm_pick [0, 1, 2, 3, 4, 5, 6] (w_Md_coding_14 _ _ _ _ _ _ _ _ _ hI hf) rfl
  · rw [if_neg (bi0 h1)] at hf
    refine sm_iconst (v := 1) d_Md_coding_9 (by decide) ?_
    refine sm_goto (tgt := 14) d_Md_coding_10 (by decide) ?_
    exact sm_pick [0, 1, 2, 3, 4, 5, 6] (w_Md_coding_14 _ _ _ _ _ _ _ _ _ hI hf) rfl

def fn_Md_precincts_81 (w : wd) (x1 : Int32) (x2 : Int32) (x3 : Int32) (x4 : Int32) (s0 : Bool) (s1 : Bool) : Option (wd) := (if (fn_Md_refuse w s1 s0).1 = true then some (fn_Md_refuse w s1 s0).2 else (if 0 ≤ (((33 : Int32) * x1) + x2).toInt ∧ (((33 : Int32) * x1) + x2).toInt < 528 then (if 0 ≤ (((33 : Int32) * x1) + x2).toInt ∧ (((33 : Int32) * x1) + x2).toInt < 528 then some (up2 (up2 (fn_Md_refuse w s1 s0).2 7 ((((33 : Int32) * x1) + x2).toInt.toNat) x3) 8 ((((33 : Int32) * x1) + x2).toInt.toNat) x4) else none) else none))
set_option maxHeartbeats 1600000 in
set_option maxRecDepth 100000 in
theorem w_Md_precincts_81 {G : sm_G} {b : Nat} {M0 : sm_M} {bc bs : Nat} {R : wd} : ∀ (M : sm_M) (w : wd) (x1 : Int32) (x2 : Int32) (x3 : Int32) (x4 : Int32) (s0 : Bool) (s1 : Bool), lo_in G md_L b M0 M w → fn_Md_precincts_81 w x1 x2 x3 x4 s0 s1 = some R → sm_W G mf_Md_precincts 81 [(0, .ref (b + 0)), (1, .int x1), (2, .int x2), (3, .int x3), (4, .int x4)] [.int (bi s0), .int (bi s1), .ref (b + 0)] M bc bs (wd_Q G md_L b M0 none R) := by
  intro M w x1 x2 x3 x4 s0 s1 hI  hf
  unfold fn_Md_precincts_81 at hf
  refine lo_callVm d_Md_precincts_81 cs_Md_precincts_106 rfl hI ml_0 (As := [.int (bi s1), .int (bi s0)]) rfl rfl (Nat.le_of_ble_eq_true rfl) (c_Md_refuse hI s1 s0) (fun M4 hI5 => ?_)
  refine sm_if_eq (tgt := 88) d_Md_precincts_84 (by decide) (fun h6 => ?_) (fun h6 => ?_)
  · rw [if_neg (bi0 h6)] at hf
    refine sm_aload_n d_Md_precincts_88 rfl (j := 0) rfl ?_
    refine lo_get (v := .ref (b + 7)) d_Md_precincts_89 fg_Md_32 hI5 ml_0 rfl ?_
    refine sm_bipush (v := 33) d_Md_precincts_92 (by decide) ?_
    refine sm_iload_n d_Md_precincts_94 rfl (j := 1) rfl ?_
    refine sm_imul d_Md_precincts_95 ?_
    refine sm_iload_n d_Md_precincts_96 rfl (j := 2) rfl ?_
    refine sm_iadd d_Md_precincts_97 ?_
    refine sm_iload_n d_Md_precincts_98 rfl (j := 3) rfl ?_
    obtain ⟨h7, hf⟩ := lo_chk hf
    refine lo_ast (j := (((33 : Int32) * x1) + x2).toInt.toNat) d_Md_precincts_99 hI5 ml_7 h7 rfl (fun M8 hI9 => ?_)
    refine sm_aload_n d_Md_precincts_100 rfl (j := 0) rfl ?_
    refine lo_get (v := .ref (b + 8)) d_Md_precincts_101 fg_Md_35 hI9 ml_0 rfl ?_
    refine sm_bipush (v := 33) d_Md_precincts_104 (by decide) ?_
    refine sm_iload_n d_Md_precincts_106 rfl (j := 1) rfl ?_
    refine sm_imul d_Md_precincts_107 ?_
    refine sm_iload_n d_Md_precincts_108 rfl (j := 2) rfl ?_
    refine sm_iadd d_Md_precincts_109 ?_
    refine sm_iload d_Md_precincts_110 (j := 4) rfl ?_
    obtain ⟨h10, hf⟩ := lo_chk hf
    refine lo_ast (j := (((33 : Int32) * x1) + x2).toInt.toNat) d_Md_precincts_112 hI9 ml_8 h10 rfl (fun M11 hI12 => ?_)
    cases hf
    refine sm_return d_Md_precincts_113 rfl ?_
    exact ⟨rfl, hI12⟩
  · rw [if_pos (bi1 h6)] at hf
    cases hf
    refine sm_return d_Md_precincts_87 rfl ?_
    exact ⟨rfl, hI5⟩

def fn_Md_precincts_71 (w : wd) (x1 : Int32) (x2 : Int32) (x3 : Int32) (x4 : Int32) (x5 : Bool) (s0 : Bool) : Option (wd) := (if x5 = true then fn_Md_precincts_81 w x1 x2 x3 x4 false s0 else fn_Md_precincts_81 w x1 x2 x3 x4 true s0)
set_option maxHeartbeats 1600000 in
set_option maxRecDepth 100000 in
theorem w_Md_precincts_71 {G : sm_G} {b : Nat} {M0 : sm_M} {bc bs : Nat} {R : wd} : ∀ (M : sm_M) (w : wd) (x1 : Int32) (x2 : Int32) (x3 : Int32) (x4 : Int32) (x5 : Bool) (s0 : Bool), lo_in G md_L b M0 M w → fn_Md_precincts_71 w x1 x2 x3 x4 x5 s0 = some R → sm_W G mf_Md_precincts 71 [(0, .ref (b + 0)), (1, .int x1), (2, .int x2), (3, .int x3), (4, .int x4), (5, .int (bi x5))] [.int (bi s0), .ref (b + 0)] M bc bs (wd_Q G md_L b M0 none R) := by
  intro M w x1 x2 x3 x4 x5 s0 hI  hf
  unfold fn_Md_precincts_71 at hf
  refine sm_iload d_Md_precincts_71 (j := 5) rfl ?_
  refine sm_if_ne (tgt := 80) d_Md_precincts_73 (by decide) (fun h3 => ?_) (fun h3 => ?_)
  · rw [if_pos (bi1 h3)] at hf
    refine sm_iconst (v := 0) d_Md_precincts_80 (by decide) ?_
    exact sm_pick [0, 1, 2, 3, 4] (w_Md_precincts_81 _ _ _ _ _ _ _ _ hI hf) rfl
  · rw [if_neg (bi0 h3)] at hf
    refine sm_iconst (v := 1) d_Md_precincts_76 (by decide) ?_
    refine sm_goto (tgt := 81) d_Md_precincts_77 (by decide) ?_
    exact sm_pick [0, 1, 2, 3, 4] (w_Md_precincts_81 _ _ _ _ _ _ _ _ hI hf) rfl

def fn_Md_precincts_55 (w : wd) (x1 : Int32) (x2 : Int32) (x3 : Int32) (x4 : Int32) (s0 : Bool) : Option (wd) := (if (fn_Md_isComponent w x1) = true then fn_Md_precincts_71 w x1 x2 x3 x4 s0 false else fn_Md_precincts_71 w x1 x2 x3 x4 s0 true)
set_option maxHeartbeats 1600000 in
set_option maxRecDepth 100000 in
theorem w_Md_precincts_55 {G : sm_G} {b : Nat} {M0 : sm_M} {bc bs : Nat} {R : wd} : ∀ (M : sm_M) (w : wd) (x1 : Int32) (x2 : Int32) (x3 : Int32) (x4 : Int32) (s0 : Bool), lo_in G md_L b M0 M w → fn_Md_precincts_55 w x1 x2 x3 x4 s0 = some R → sm_W G mf_Md_precincts 55 [(0, .ref (b + 0)), (1, .int x1), (2, .int x2), (3, .int x3), (4, .int x4)] [.int (bi s0)] M bc bs (wd_Q G md_L b M0 none R) := by
  intro M w x1 x2 x3 x4 s0 hI  hf
  unfold fn_Md_precincts_55 at hf
  refine sm_istore d_Md_precincts_55 (by decide) rfl ?_
  refine sm_aload_n d_Md_precincts_57 rfl (j := 1) rfl ?_
  refine sm_aload_n d_Md_precincts_58 rfl (j := 1) rfl ?_
  refine sm_iload_n d_Md_precincts_59 rfl (j := 2) rfl ?_
  refine lo_callV d_Md_precincts_60 cs_Md_precincts_134 rfl hI ml_0 (As := [.int x1]) rfl rfl (Nat.le_of_ble_eq_true rfl) (c_Md_isComponent hI x1) ?_
  refine sm_if_ne (tgt := 70) d_Md_precincts_63 (by decide) (fun h2 => ?_) (fun h2 => ?_)
  · rw [if_pos (bi1 h2)] at hf
    refine sm_iconst (v := 0) d_Md_precincts_70 (by decide) ?_
    exact sm_pick [1, 2, 3, 4, 5, 0] (w_Md_precincts_71 _ _ _ _ _ _ _ _ hI hf) rfl
  · rw [if_neg (bi0 h2)] at hf
    refine sm_iconst (v := 1) d_Md_precincts_66 (by decide) ?_
    refine sm_goto (tgt := 71) d_Md_precincts_67 (by decide) ?_
    exact sm_pick [1, 2, 3, 4, 5, 0] (w_Md_precincts_71 _ _ _ _ _ _ _ _ hI hf) rfl

def fn_Md_precincts_54 (w : wd) (x1 : Int32) (x2 : Int32) (x3 : Int32) (x4 : Int32) : Option (wd) := fn_Md_precincts_55 w x1 x2 x3 x4 false
set_option maxHeartbeats 1600000 in
set_option maxRecDepth 100000 in
theorem w_Md_precincts_54 {G : sm_G} {b : Nat} {M0 : sm_M} {bc bs : Nat} {R : wd} : ∀ (M : sm_M) (w : wd) (x1 : Int32) (x2 : Int32) (x3 : Int32) (x4 : Int32), lo_in G md_L b M0 M w → fn_Md_precincts_54 w x1 x2 x3 x4 = some R → sm_W G mf_Md_precincts 54 [(0, .ref (b + 0)), (1, .int x1), (2, .int x2), (3, .int x3), (4, .int x4)] [] M bc bs (wd_Q G md_L b M0 none R) := by
  intro M w x1 x2 x3 x4 hI  hf
  unfold fn_Md_precincts_54 at hf
  refine sm_iconst (v := 0) d_Md_precincts_54 (by decide) ?_
  exact sm_pick [0, 1, 2, 3, 4] (w_Md_precincts_55 _ _ _ _ _ _ _ hI hf) rfl

def fn_Md_precincts_50 (w : wd) (x1 : Int32) (x2 : Int32) (x3 : Int32) (x4 : Int32) : Option (wd) := fn_Md_precincts_55 w x1 x2 x3 x4 true
set_option maxHeartbeats 1600000 in
set_option maxRecDepth 100000 in
theorem w_Md_precincts_50 {G : sm_G} {b : Nat} {M0 : sm_M} {bc bs : Nat} {R : wd} : ∀ (M : sm_M) (w : wd) (x1 : Int32) (x2 : Int32) (x3 : Int32) (x4 : Int32), lo_in G md_L b M0 M w → fn_Md_precincts_50 w x1 x2 x3 x4 = some R → sm_W G mf_Md_precincts 50 [(0, .ref (b + 0)), (1, .int x1), (2, .int x2), (3, .int x3), (4, .int x4)] [] M bc bs (wd_Q G md_L b M0 none R) := by
  intro M w x1 x2 x3 x4 hI  hf
  unfold fn_Md_precincts_50 at hf
  refine sm_iconst (v := 1) d_Md_precincts_50 (by decide) ?_
  refine sm_goto (tgt := 55) d_Md_precincts_51 (by decide) ?_
  exact sm_pick [0, 1, 2, 3, 4] (w_Md_precincts_55 _ _ _ _ _ _ _ hI hf) rfl

def fn_Md_precincts (w : wd) (x1 : Int32) (x2 : Int32) (x3 : Int32) (x4 : Int32) : Option (wd) := (if (fn_Md_in x2.toInt64 (0 : Int64) (32 : Int64)) = true then (if (fn_Md_in x3.toInt64 (0 : Int64) (15 : Int64)) = true then (if (fn_Md_in x4.toInt64 (0 : Int64) (15 : Int64)) = true then (if x2 = 0 then fn_Md_precincts_50 w x1 x2 x3 x4 else (if x3 ≤ 0 then fn_Md_precincts_54 w x1 x2 x3 x4 else (if x4 ≤ 0 then fn_Md_precincts_54 w x1 x2 x3 x4 else fn_Md_precincts_50 w x1 x2 x3 x4))) else fn_Md_precincts_54 w x1 x2 x3 x4) else fn_Md_precincts_54 w x1 x2 x3 x4) else fn_Md_precincts_54 w x1 x2 x3 x4)
set_option maxHeartbeats 1600000 in
set_option maxRecDepth 100000 in
theorem c_Md_precincts {G : sm_G} {b : Nat} {M0 M : sm_M}  {w : wd}  (hI : lo_in G md_L b M0 M w)  (x1 : Int32) (x2 : Int32) (x3 : Int32) (x4 : Int32)  {R : wd} (hf : fn_Md_precincts w x1 x2 x3 x4 = some R) : sm_C G mf_Md_precincts [.ref (b + 0), .int x1, .int x2, .int x3, .int x4] M 0 0 (wd_Q G md_L b M none R) := by
  unfold fn_Md_precincts at hf
  have hI := hI.here
  refine sm_ofW rfl (Nat.le_of_ble_eq_true rfl) ?_
  refine sm_iload_n d_Md_precincts_0 rfl (j := 2) rfl ?_
  refine sm_i2l d_Md_precincts_1 ?_
  refine sm_lconst (v := 0) d_Md_precincts_2 (by decide) ?_
  refine sm_ldc2 (v := 32) d_Md_precincts_3 mw_1362 ?_
  refine sm_callSp d_Md_precincts_6 cs_Md_precincts_122 rfl (As := [.long x2.toInt64, .long (0 : Int64), .long (32 : Int64)]) rfl rfl (Nat.le_of_ble_eq_true rfl) (c_Md_in x2.toInt64 (0 : Int64) (32 : Int64)) ?_
  refine sm_if_eq (tgt := 54) d_Md_precincts_9 (by decide) (fun h1 => ?_) (fun h1 => ?_)
  · rw [if_neg (bi0 h1)] at hf
    exact sm_pick [0, 1, 2, 3, 4] (w_Md_precincts_54 _ _ _ _ _ _ hI hf) rfl
  · rw [if_pos (bi1 h1)] at hf
    refine sm_iload_n d_Md_precincts_12 rfl (j := 3) rfl ?_
    refine sm_i2l d_Md_precincts_13 ?_
    refine sm_lconst (v := 0) d_Md_precincts_14 (by decide) ?_
    refine sm_ldc2 (v := 15) d_Md_precincts_15 mw_1370 ?_
    refine sm_callSp d_Md_precincts_18 cs_Md_precincts_122 rfl (As := [.long x3.toInt64, .long (0 : Int64), .long (15 : Int64)]) rfl rfl (Nat.le_of_ble_eq_true rfl) (c_Md_in x3.toInt64 (0 : Int64) (15 : Int64)) ?_
    refine sm_if_eq (tgt := 54) d_Md_precincts_21 (by decide) (fun h13 => ?_) (fun h13 => ?_)
    · rw [if_neg (bi0 h13)] at hf
      exact sm_pick [0, 1, 2, 3, 4] (w_Md_precincts_54 _ _ _ _ _ _ hI hf) rfl
    · rw [if_pos (bi1 h13)] at hf
      refine sm_iload d_Md_precincts_24 (j := 4) rfl ?_
      refine sm_i2l d_Md_precincts_26 ?_
      refine sm_lconst (v := 0) d_Md_precincts_27 (by decide) ?_
      refine sm_ldc2 (v := 15) d_Md_precincts_28 mw_1370 ?_
      refine sm_callSp d_Md_precincts_31 cs_Md_precincts_122 rfl (As := [.long x4.toInt64, .long (0 : Int64), .long (15 : Int64)]) rfl rfl (Nat.le_of_ble_eq_true rfl) (c_Md_in x4.toInt64 (0 : Int64) (15 : Int64)) ?_
      refine sm_if_eq (tgt := 54) d_Md_precincts_34 (by decide) (fun h14 => ?_) (fun h14 => ?_)
      · rw [if_neg (bi0 h14)] at hf
        exact sm_pick [0, 1, 2, 3, 4] (w_Md_precincts_54 _ _ _ _ _ _ hI hf) rfl
      · rw [if_pos (bi1 h14)] at hf
        refine sm_iload_n d_Md_precincts_37 rfl (j := 2) rfl ?_
        refine sm_if_eq (tgt := 50) d_Md_precincts_38 (by decide) (fun h15 => ?_) (fun h15 => ?_)
        · rw [if_pos h15] at hf
          exact sm_pick [0, 1, 2, 3, 4] (w_Md_precincts_50 _ _ _ _ _ _ hI hf) rfl
        · rw [if_neg h15] at hf
          refine sm_iload_n d_Md_precincts_41 rfl (j := 3) rfl ?_
          refine sm_if_le (tgt := 54) d_Md_precincts_42 (by decide) (fun h16 => ?_) (fun h16 => ?_)
          · rw [if_pos h16] at hf
            exact sm_pick [0, 1, 2, 3, 4] (w_Md_precincts_54 _ _ _ _ _ _ hI hf) rfl
          · rw [if_neg h16] at hf
            refine sm_iload d_Md_precincts_45 (j := 4) rfl ?_
            refine sm_if_le (tgt := 54) d_Md_precincts_47 (by decide) (fun h17 => ?_) (fun h17 => ?_)
            · rw [if_pos h17] at hf
              exact sm_pick [0, 1, 2, 3, 4] (w_Md_precincts_54 _ _ _ _ _ _ hI hf) rfl
            · rw [if_neg h17] at hf
              exact sm_pick [0, 1, 2, 3, 4] (w_Md_precincts_50 _ _ _ _ _ _ hI hf) rfl

def fn_Md_steps_56 (w : wd) (x1 : Int32) (x2 : Int32) (x3 : Int32) (x4 : Int32) (s0 : Bool) (s1 : Bool) : Option (wd) := (if (fn_Md_refuse w s1 s0).1 = true then some (fn_Md_refuse w s1 s0).2 else (if 0 ≤ (((8 : Int32) * x1) + (5 : Int32)).toInt ∧ (((8 : Int32) * x1) + (5 : Int32)).toInt < 128 then (if 0 ≤ (((8 : Int32) * x1) + (6 : Int32)).toInt ∧ (((8 : Int32) * x1) + (6 : Int32)).toInt < 128 then (if 0 ≤ (((8 : Int32) * x1) + (7 : Int32)).toInt ∧ (((8 : Int32) * x1) + (7 : Int32)).toInt < 128 then some (up2 (up2 (up2 (fn_Md_refuse w s1 s0).2 6 ((((8 : Int32) * x1) + (5 : Int32)).toInt.toNat) x2) 6 ((((8 : Int32) * x1) + (6 : Int32)).toInt.toNat) x3) 6 ((((8 : Int32) * x1) + (7 : Int32)).toInt.toNat) x4) else none) else none) else none))
set_option maxHeartbeats 1600000 in
set_option maxRecDepth 100000 in
theorem w_Md_steps_56 {G : sm_G} {b : Nat} {M0 : sm_M} {bc bs : Nat} {R : wd} : ∀ (M : sm_M) (w : wd) (x1 : Int32) (x2 : Int32) (x3 : Int32) (x4 : Int32) (s0 : Bool) (s1 : Bool), lo_in G md_L b M0 M w → fn_Md_steps_56 w x1 x2 x3 x4 s0 s1 = some R → sm_W G mf_Md_steps 56 [(0, .ref (b + 0)), (1, .int x1), (2, .int x2), (3, .int x3), (4, .int x4)] [.int (bi s0), .int (bi s1), .ref (b + 0)] M bc bs (wd_Q G md_L b M0 none R) := by
  intro M w x1 x2 x3 x4 s0 s1 hI  hf
  unfold fn_Md_steps_56 at hf
  refine lo_callVm d_Md_steps_56 cs_Md_steps_106 rfl hI ml_0 (As := [.int (bi s1), .int (bi s0)]) rfl rfl (Nat.le_of_ble_eq_true rfl) (c_Md_refuse hI s1 s0) (fun M3 hI4 => ?_)
  refine sm_if_eq (tgt := 63) d_Md_steps_59 (by decide) (fun h5 => ?_) (fun h5 => ?_)
  · rw [if_neg (bi0 h5)] at hf
    refine sm_aload_n d_Md_steps_63 rfl (j := 0) rfl ?_
    refine lo_get (v := .ref (b + 6)) d_Md_steps_64 fg_Md_29 hI4 ml_0 rfl ?_
    refine sm_bipush (v := 8) d_Md_steps_67 (by decide) ?_
    refine sm_iload_n d_Md_steps_69 rfl (j := 1) rfl ?_
    refine sm_imul d_Md_steps_70 ?_
    refine sm_iconst (v := 5) d_Md_steps_71 (by decide) ?_
    refine sm_iadd d_Md_steps_72 ?_
    refine sm_iload_n d_Md_steps_73 rfl (j := 2) rfl ?_
    obtain ⟨h6, hf⟩ := lo_chk hf
    refine lo_ast (j := (((8 : Int32) * x1) + (5 : Int32)).toInt.toNat) d_Md_steps_74 hI4 ml_6 h6 rfl (fun M7 hI8 => ?_)
    refine sm_aload_n d_Md_steps_75 rfl (j := 0) rfl ?_
    refine lo_get (v := .ref (b + 6)) d_Md_steps_76 fg_Md_29 hI8 ml_0 rfl ?_
    refine sm_bipush (v := 8) d_Md_steps_79 (by decide) ?_
    refine sm_iload_n d_Md_steps_81 rfl (j := 1) rfl ?_
    refine sm_imul d_Md_steps_82 ?_
    refine sm_bipush (v := 6) d_Md_steps_83 (by decide) ?_
    refine sm_iadd d_Md_steps_85 ?_
    refine sm_iload_n d_Md_steps_86 rfl (j := 3) rfl ?_
    obtain ⟨h9, hf⟩ := lo_chk hf
    refine lo_ast (j := (((8 : Int32) * x1) + (6 : Int32)).toInt.toNat) d_Md_steps_87 hI8 ml_6 h9 rfl (fun M10 hI11 => ?_)
    refine sm_aload_n d_Md_steps_88 rfl (j := 0) rfl ?_
    refine lo_get (v := .ref (b + 6)) d_Md_steps_89 fg_Md_29 hI11 ml_0 rfl ?_
    refine sm_bipush (v := 8) d_Md_steps_92 (by decide) ?_
    refine sm_iload_n d_Md_steps_94 rfl (j := 1) rfl ?_
    refine sm_imul d_Md_steps_95 ?_
    refine sm_bipush (v := 7) d_Md_steps_96 (by decide) ?_
    refine sm_iadd d_Md_steps_98 ?_
    refine sm_iload d_Md_steps_99 (j := 4) rfl ?_
    obtain ⟨h12, hf⟩ := lo_chk hf
    refine lo_ast (j := (((8 : Int32) * x1) + (7 : Int32)).toInt.toNat) d_Md_steps_101 hI11 ml_6 h12 rfl (fun M13 hI14 => ?_)
    cases hf
    refine sm_return d_Md_steps_102 rfl ?_
    exact ⟨rfl, hI14⟩
  · rw [if_pos (bi1 h5)] at hf
    cases hf
    refine sm_return d_Md_steps_62 rfl ?_
    exact ⟨rfl, hI4⟩

def fn_Md_steps_51 (w : wd) (x1 : Int32) (x2 : Int32) (x3 : Int32) (x4 : Int32) (s0 : Bool) : Option (wd) := fn_Md_steps_56 w x1 x2 x3 x4 true s0
set_option maxHeartbeats 1600000 in
set_option maxRecDepth 100000 in
theorem w_Md_steps_51 {G : sm_G} {b : Nat} {M0 : sm_M} {bc bs : Nat} {R : wd} : ∀ (M : sm_M) (w : wd) (x1 : Int32) (x2 : Int32) (x3 : Int32) (x4 : Int32) (s0 : Bool), lo_in G md_L b M0 M w → fn_Md_steps_51 w x1 x2 x3 x4 s0 = some R → sm_W G mf_Md_steps 51 [(0, .ref (b + 0)), (1, .int x1), (2, .int x2), (3, .int x3), (4, .int x4)] [.int (bi s0), .ref (b + 0)] M bc bs (wd_Q G md_L b M0 none R) := by
  intro M w x1 x2 x3 x4 s0 hI  hf
  unfold fn_Md_steps_51 at hf
  refine sm_iconst (v := 1) d_Md_steps_51 (by decide) ?_
  refine sm_goto (tgt := 56) d_Md_steps_52 (by decide) ?_
  exact sm_pick [0, 1, 2, 3, 4] (w_Md_steps_56 _ _ _ _ _ _ _ _ hI hf) rfl

def fn_Md_steps_14 (w : wd) (x1 : Int32) (x2 : Int32) (x3 : Int32) (x4 : Int32) (s0 : Bool) : Option (wd) := (if (fn_Md_in x2.toInt64 (0 : Int64) (2 : Int64)) = true then (if (fn_Md_in x3.toInt64 (0 : Int64) (7 : Int64)) = true then (if (fn_Md_in x4.toInt64 (0 : Int64) (37 : Int64)) = true then fn_Md_steps_56 w x1 x2 x3 x4 false s0 else fn_Md_steps_51 w x1 x2 x3 x4 s0) else fn_Md_steps_51 w x1 x2 x3 x4 s0) else fn_Md_steps_51 w x1 x2 x3 x4 s0)
set_option maxHeartbeats 1600000 in
set_option maxRecDepth 100000 in
theorem w_Md_steps_14 {G : sm_G} {b : Nat} {M0 : sm_M} {bc bs : Nat} {R : wd} : ∀ (M : sm_M) (w : wd) (x1 : Int32) (x2 : Int32) (x3 : Int32) (x4 : Int32) (s0 : Bool), lo_in G md_L b M0 M w → fn_Md_steps_14 w x1 x2 x3 x4 s0 = some R → sm_W G mf_Md_steps 14 [(0, .ref (b + 0)), (1, .int x1), (2, .int x2), (3, .int x3), (4, .int x4)] [.int (bi s0), .ref (b + 0)] M bc bs (wd_Q G md_L b M0 none R) := by
  intro M w x1 x2 x3 x4 s0 hI  hf
  unfold fn_Md_steps_14 at hf
  refine sm_iload_n d_Md_steps_14 rfl (j := 2) rfl ?_
  refine sm_i2l d_Md_steps_15 ?_
  refine sm_lconst (v := 0) d_Md_steps_16 (by decide) ?_
  refine sm_ldc2 (v := 2) d_Md_steps_17 mw_1363 ?_
  refine sm_callSp d_Md_steps_20 cs_Md_steps_122 rfl (As := [.long x2.toInt64, .long (0 : Int64), .long (2 : Int64)]) rfl rfl (Nat.le_of_ble_eq_true rfl) (c_Md_in x2.toInt64 (0 : Int64) (2 : Int64)) ?_
  refine sm_if_eq (tgt := 51) d_Md_steps_23 (by decide) (fun h2 => ?_) (fun h2 => ?_)
  · rw [if_neg (bi0 h2)] at hf
    exact sm_pick [0, 1, 2, 3, 4] (w_Md_steps_51 _ _ _ _ _ _ _ hI hf) rfl
  · rw [if_pos (bi1 h2)] at hf
    refine sm_iload_n d_Md_steps_26 rfl (j := 3) rfl ?_
    refine sm_i2l d_Md_steps_27 ?_
    refine sm_lconst (v := 0) d_Md_steps_28 (by decide) ?_
    refine sm_ldc2 (v := 7) d_Md_steps_29 mw_1375 ?_
    refine sm_callSp d_Md_steps_32 cs_Md_steps_122 rfl (As := [.long x3.toInt64, .long (0 : Int64), .long (7 : Int64)]) rfl rfl (Nat.le_of_ble_eq_true rfl) (c_Md_in x3.toInt64 (0 : Int64) (7 : Int64)) ?_
    refine sm_if_eq (tgt := 51) d_Md_steps_35 (by decide) (fun h15 => ?_) (fun h15 => ?_)
    · rw [if_neg (bi0 h15)] at hf
      exact sm_pick [0, 1, 2, 3, 4] (w_Md_steps_51 _ _ _ _ _ _ _ hI hf) rfl
    · rw [if_pos (bi1 h15)] at hf
      refine sm_iload d_Md_steps_38 (j := 4) rfl ?_
      refine sm_i2l d_Md_steps_40 ?_
      refine sm_lconst (v := 0) d_Md_steps_41 (by decide) ?_
      refine sm_ldc2 (v := 37) d_Md_steps_42 mw_1376 ?_
      refine sm_callSp d_Md_steps_45 cs_Md_steps_122 rfl (As := [.long x4.toInt64, .long (0 : Int64), .long (37 : Int64)]) rfl rfl (Nat.le_of_ble_eq_true rfl) (c_Md_in x4.toInt64 (0 : Int64) (37 : Int64)) ?_
      refine sm_if_ne (tgt := 55) d_Md_steps_48 (by decide) (fun h16 => ?_) (fun h16 => ?_)
      · rw [if_pos (bi1 h16)] at hf
        refine sm_iconst (v := 0) d_Md_steps_55 (by decide) ?_
        exact sm_pick [0, 1, 2, 3, 4] (w_Md_steps_56 _ _ _ _ _ _ _ _ hI hf) rfl
      · rw [if_neg (bi0 h16)] at hf
        exact sm_pick [0, 1, 2, 3, 4] (w_Md_steps_51 _ _ _ _ _ _ _ hI hf) rfl

def fn_Md_steps (w : wd) (x1 : Int32) (x2 : Int32) (x3 : Int32) (x4 : Int32) : Option (wd) := (if (fn_Md_isComponent w x1) = true then fn_Md_steps_14 w x1 x2 x3 x4 false else fn_Md_steps_14 w x1 x2 x3 x4 true)
set_option maxHeartbeats 1600000 in
set_option maxRecDepth 100000 in
theorem c_Md_steps {G : sm_G} {b : Nat} {M0 M : sm_M}  {w : wd}  (hI : lo_in G md_L b M0 M w)  (x1 : Int32) (x2 : Int32) (x3 : Int32) (x4 : Int32)  {R : wd} (hf : fn_Md_steps w x1 x2 x3 x4 = some R) : sm_C G mf_Md_steps [.ref (b + 0), .int x1, .int x2, .int x3, .int x4] M 0 0 (wd_Q G md_L b M none R) := by
  unfold fn_Md_steps at hf
  have hI := hI.here
  refine sm_ofW rfl (Nat.le_of_ble_eq_true rfl) ?_
  refine sm_aload_n d_Md_steps_0 rfl (j := 0) rfl ?_
  refine sm_aload_n d_Md_steps_1 rfl (j := 0) rfl ?_
  refine sm_iload_n d_Md_steps_2 rfl (j := 1) rfl ?_
  refine lo_callV d_Md_steps_3 cs_Md_steps_134 rfl hI ml_0 (As := [.int x1]) rfl rfl (Nat.le_of_ble_eq_true rfl) (c_Md_isComponent hI x1) ?_
  refine sm_if_ne (tgt := 13) d_Md_steps_6 (by decide) (fun h1 => ?_) (fun h1 => ?_)
  · rw [if_pos (bi1 h1)] at hf
    refine sm_iconst (v := 0) d_Md_steps_13 (by decide) ?_
    exact sm_pick [0, 1, 2, 3, 4] (w_Md_steps_14 _ _ _ _ _ _ _ hI hf) rfl
  · rw [if_neg (bi0 h1)] at hf
    refine sm_iconst (v := 1) d_Md_steps_9 (by decide) ?_
    refine sm_goto (tgt := 14) d_Md_steps_10 (by decide) ?_
    exact sm_pick [0, 1, 2, 3, 4] (w_Md_steps_14 _ _ _ _ _ _ _ hI hf) rfl

