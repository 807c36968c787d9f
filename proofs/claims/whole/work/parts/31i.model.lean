/-! StreamMarksModel, on; written by wip/tools/model.py -/
def fn_Md_isGreat_160 (F : Nat) (w : wd) (x1 : Int32) (x2 : Int32) : Option (Bool) := (if x1 = (95 : Int32) then ((fn_Md_u2 w (x2 + (2 : Int32))).bind fun r4 => (if r4 ≤ (226 : Int32) then some false else some true)) else some false)
set_option maxHeartbeats 1600000 in
set_option maxRecDepth 100000 in
theorem w_Md_isGreat_160 {G : sm_G} {b : Nat} {M0 : sm_M} {bc bs : Nat} {R : Bool} {F : Nat} : ∀ (w : wd) (x1 : Int32) (x2 : Int32), lo_in G md_L b M0 M0 w → fn_Md_isGreat_160 F w x1 x2 = some R → sm_W G mf_Md_isGreat 160 [(0, .ref (b + 0)), (1, .int x1), (2, .int x2)] [] M0 bc bs (sm_pu M0 (.int (bi R))) := by
  intro w x1 x2 hI  hf
  unfold fn_Md_isGreat_160 at hf
  refine sm_iload_n d_Md_isGreat_160 rfl (j := 1) rfl ?_
  refine sm_bipush (v := 95) d_Md_isGreat_161 (by decide) ?_
  refine sm_icmp_ne (tgt := 183) d_Md_isGreat_163 (by decide) (fun h3 => ?_) (fun h3 => ?_)
  · rw [if_neg h3] at hf
    refine sm_iconst (v := 0) d_Md_isGreat_183 (by decide) ?_
    cases hf
    refine sm_ireturn d_Md_isGreat_184 rfl (by rfl) ?_
    exact ⟨rfl, rfl⟩
  · rw [if_pos h3] at hf
    refine sm_aload_n d_Md_isGreat_166 rfl (j := 0) rfl ?_
    refine sm_iload_n d_Md_isGreat_167 rfl (j := 2) rfl ?_
    refine sm_iconst (v := 2) d_Md_isGreat_168 (by decide) ?_
    refine sm_iadd d_Md_isGreat_169 ?_
    obtain ⟨r4, e5, hf⟩ := lo_bnd hf
    refine lo_callV d_Md_isGreat_170 cs_Md_isGreat_230 rfl hI ml_0 (As := [.int (x2 + (2 : Int32))]) rfl rfl (Nat.le_of_ble_eq_true rfl) (c_Md_u2 hI (x2 + (2 : Int32)) e5) ?_
    refine sm_sipush (v := 226) d_Md_isGreat_173 (by decide) ?_
    refine sm_icmp_le (tgt := 183) d_Md_isGreat_176 (by decide) (fun h6 => ?_) (fun h6 => ?_)
    · rw [if_pos h6] at hf
      refine sm_iconst (v := 0) d_Md_isGreat_183 (by decide) ?_
      cases hf
      refine sm_ireturn d_Md_isGreat_184 rfl (by rfl) ?_
      exact ⟨rfl, rfl⟩
    · rw [if_neg h6] at hf
      refine sm_iconst (v := 1) d_Md_isGreat_179 (by decide) ?_
      refine sm_goto (tgt := 184) d_Md_isGreat_180 (by decide) ?_
      cases hf
      refine sm_ireturn d_Md_isGreat_184 rfl (by rfl) ?_
      exact ⟨rfl, rfl⟩

def fn_Md_isGreat_90 (F : Nat) (w : wd) (x3 : Int32) (x5 : Int64) (s0 : Int64) : Option (Bool) := ((fn_Md_u2 w (x3 + (34 : Int32))).bind fun r14 => (if (16 : Int32) < r14 then some true else (if (64 : Int64) < x5 then some true else (if (64 : Int64) < s0 then some true else (if (x5 * s0) ≤ (64 : Int64) then some false else some true)))))
set_option maxHeartbeats 1600000 in
set_option maxRecDepth 100000 in
theorem w_Md_isGreat_90 {G : sm_G} {b : Nat} {M0 : sm_M} {bc bs : Nat} {R : Bool} {F : Nat} : ∀ (w : wd) (x3 : Int32) (x5 : Int64) (s0 : Int64), lo_in G md_L b M0 M0 w → fn_Md_isGreat_90 F w x3 x5 s0 = some R → sm_W G mf_Md_isGreat 90 [(0, .ref (b + 0)), (3, .int x3), (5, .long x5)] [.long s0] M0 bc bs (sm_pu M0 (.int (bi R))) := by
  intro w x3 x5 s0 hI  hf
  unfold fn_Md_isGreat_90 at hf
  refine sm_lstore d_Md_isGreat_90 (by decide) rfl ?_
  refine sm_aload_n d_Md_isGreat_92 rfl (j := 1) rfl ?_
  refine sm_iload_n d_Md_isGreat_93 rfl (j := 2) rfl ?_
  refine sm_bipush (v := 34) d_Md_isGreat_94 (by decide) ?_
  refine sm_iadd d_Md_isGreat_96 ?_
  obtain ⟨r14, e15, hf⟩ := lo_bnd hf
  refine lo_callV d_Md_isGreat_97 cs_Md_isGreat_230 rfl hI ml_0 (As := [.int (x3 + (34 : Int32))]) rfl rfl (Nat.le_of_ble_eq_true rfl) (c_Md_u2 hI (x3 + (34 : Int32)) e15) ?_
  refine sm_bipush (v := 16) d_Md_isGreat_100 (by decide) ?_
  refine sm_icmp_gt (tgt := 135) d_Md_isGreat_102 (by decide) (fun h16 => ?_) (fun h16 => ?_)
  · rw [if_pos h16] at hf
    refine sm_iconst (v := 1) d_Md_isGreat_135 (by decide) ?_
    refine sm_goto (tgt := 140) d_Md_isGreat_136 (by decide) ?_
    cases hf
    refine sm_ireturn d_Md_isGreat_140 rfl (by rfl) ?_
    exact ⟨rfl, rfl⟩
  · rw [if_neg h16] at hf
    refine sm_lload d_Md_isGreat_105 (j := 3) rfl ?_
    refine sm_ldc2 (v := 64) d_Md_isGreat_107 mw_1335 ?_
    refine sm_lcmp d_Md_isGreat_110 ?_
    refine sm_if_gt (tgt := 135) d_Md_isGreat_111 (by decide) (fun h17 => ?_) (fun h17 => ?_)
    · rw [if_pos ((lg_cmp_gt _ _).mp h17)] at hf
      refine sm_iconst (v := 1) d_Md_isGreat_135 (by decide) ?_
      refine sm_goto (tgt := 140) d_Md_isGreat_136 (by decide) ?_
      cases hf
      refine sm_ireturn d_Md_isGreat_140 rfl (by rfl) ?_
      exact ⟨rfl, rfl⟩
    · rw [if_neg (mt (lg_cmp_gt _ _).mpr h17)] at hf
      refine sm_lload d_Md_isGreat_114 (j := 0) rfl ?_
      refine sm_ldc2 (v := 64) d_Md_isGreat_116 mw_1335 ?_
      refine sm_lcmp d_Md_isGreat_119 ?_
      refine sm_if_gt (tgt := 135) d_Md_isGreat_120 (by decide) (fun h18 => ?_) (fun h18 => ?_)
      · rw [if_pos ((lg_cmp_gt _ _).mp h18)] at hf
        refine sm_iconst (v := 1) d_Md_isGreat_135 (by decide) ?_
        refine sm_goto (tgt := 140) d_Md_isGreat_136 (by decide) ?_
        cases hf
        refine sm_ireturn d_Md_isGreat_140 rfl (by rfl) ?_
        exact ⟨rfl, rfl⟩
      · rw [if_neg (mt (lg_cmp_gt _ _).mpr h18)] at hf
        refine sm_lload d_Md_isGreat_123 (j := 3) rfl ?_
        refine sm_lload d_Md_isGreat_125 (j := 0) rfl ?_
        refine sm_lmul d_Md_isGreat_127 ?_
        refine sm_ldc2 (v := 64) d_Md_isGreat_128 mw_1335 ?_
        refine sm_lcmp d_Md_isGreat_131 ?_
        refine sm_if_le (tgt := 139) d_Md_isGreat_132 (by decide) (fun h19 => ?_) (fun h19 => ?_)
        · rw [if_pos ((lg_cmp_le _ _).mp h19)] at hf
          refine sm_iconst (v := 0) d_Md_isGreat_139 (by decide) ?_
          cases hf
          refine sm_ireturn d_Md_isGreat_140 rfl (by rfl) ?_
          exact ⟨rfl, rfl⟩
        · rw [if_neg (mt (lg_cmp_le _ _).mpr h19)] at hf
          refine sm_iconst (v := 1) d_Md_isGreat_135 (by decide) ?_
          refine sm_goto (tgt := 140) d_Md_isGreat_136 (by decide) ?_
          cases hf
          refine sm_ireturn d_Md_isGreat_140 rfl (by rfl) ?_
          exact ⟨rfl, rfl⟩

def fn_Md_isGreat_52 (F : Nat) (w : wd) (x3 : Int32) (x4 : Bool) (s0 : Int64) : Option (Bool) := (if x4 = true then ((fn_Md_u4 w (x3 + (30 : Int32))).bind fun r20 => ((fn_Md_u4 w (x3 + (6 : Int32))).bind fun r22 => ((fn_Md_u4 w (x3 + (22 : Int32))).bind fun r24 => ((fn_Md_across r20 r22 r24).bind fun r26 => fn_Md_isGreat_90 F w x3 s0 r26)))) else fn_Md_isGreat_90 F w x3 s0 (0 : Int64))
set_option maxHeartbeats 1600000 in
set_option maxRecDepth 100000 in
theorem w_Md_isGreat_52 {G : sm_G} {b : Nat} {M0 : sm_M} {bc bs : Nat} {R : Bool} {F : Nat} : ∀ (w : wd) (x3 : Int32) (x4 : Bool) (s0 : Int64), lo_in G md_L b M0 M0 w → fn_Md_isGreat_52 F w x3 x4 s0 = some R → sm_W G mf_Md_isGreat 52 [(0, .ref (b + 0)), (3, .int x3), (4, .int (bi x4))] [.long s0] M0 bc bs (sm_pu M0 (.int (bi R))) := by
  intro w x3 x4 s0 hI  hf
  unfold fn_Md_isGreat_52 at hf
  refine sm_lstore d_Md_isGreat_52 (by decide) rfl ?_
  refine sm_iload d_Md_isGreat_54 (j := 3) rfl ?_
  refine sm_if_eq (tgt := 89) d_Md_isGreat_56 (by decide) (fun h13 => ?_) (fun h13 => ?_)
  · rw [if_neg (bi0 h13)] at hf
    refine sm_lconst (v := 0) d_Md_isGreat_89 (by decide) ?_
    exact sm_pick [1, 2, 0] (w_Md_isGreat_90 _ _ _ _ hI hf) rfl
  · rw [if_pos (bi1 h13)] at hf
    refine sm_aload_n d_Md_isGreat_59 rfl (j := 1) rfl ?_
    refine sm_iload_n d_Md_isGreat_60 rfl (j := 2) rfl ?_
    refine sm_bipush (v := 30) d_Md_isGreat_61 (by decide) ?_
    refine sm_iadd d_Md_isGreat_63 ?_
    obtain ⟨r20, e21, hf⟩ := lo_bnd hf
    refine lo_callV d_Md_isGreat_64 cs_Md_isGreat_253 rfl hI ml_0 (As := [.int (x3 + (30 : Int32))]) rfl rfl (Nat.le_of_ble_eq_true rfl) (c_Md_u4 hI (x3 + (30 : Int32)) e21) ?_
    refine sm_aload_n d_Md_isGreat_67 rfl (j := 1) rfl ?_
    refine sm_iload_n d_Md_isGreat_68 rfl (j := 2) rfl ?_
    refine sm_bipush (v := 6) d_Md_isGreat_69 (by decide) ?_
    refine sm_iadd d_Md_isGreat_71 ?_
    obtain ⟨r22, e23, hf⟩ := lo_bnd hf
    refine lo_callV d_Md_isGreat_72 cs_Md_isGreat_253 rfl hI ml_0 (As := [.int (x3 + (6 : Int32))]) rfl rfl (Nat.le_of_ble_eq_true rfl) (c_Md_u4 hI (x3 + (6 : Int32)) e23) ?_
    refine sm_aload_n d_Md_isGreat_75 rfl (j := 1) rfl ?_
    refine sm_iload_n d_Md_isGreat_76 rfl (j := 2) rfl ?_
    refine sm_bipush (v := 22) d_Md_isGreat_77 (by decide) ?_
    refine sm_iadd d_Md_isGreat_79 ?_
    obtain ⟨r24, e25, hf⟩ := lo_bnd hf
    refine lo_callV d_Md_isGreat_80 cs_Md_isGreat_253 rfl hI ml_0 (As := [.int (x3 + (22 : Int32))]) rfl rfl (Nat.le_of_ble_eq_true rfl) (c_Md_u4 hI (x3 + (22 : Int32)) e25) ?_
    obtain ⟨r26, e27, hf⟩ := lo_bnd hf
    refine sm_callSp d_Md_isGreat_83 cs_Md_isGreat_114 rfl (As := [.long r20, .long r22, .long r24]) rfl rfl (Nat.le_of_ble_eq_true rfl) (c_Md_across r20 r22 r24 e27) ?_
    refine sm_goto (tgt := 90) d_Md_isGreat_86 (by decide) ?_
    exact sm_pick [1, 2, 0] (w_Md_isGreat_90 _ _ _ _ hI hf) rfl

def fn_Md_isGreat (F : Nat) (w : wd) (x1 : Int32) (x2 : Int32) : Option (Bool) := (if x1 = (81 : Int32) then ((fn_Md_isPicture F w (x2 + (4 : Int32))).bind fun r10 => (if r10 = true then ((fn_Md_u4 w ((x2 + (4 : Int32)) + (26 : Int32))).bind fun r28 => ((fn_Md_u4 w ((x2 + (4 : Int32)) + (2 : Int32))).bind fun r30 => ((fn_Md_u4 w ((x2 + (4 : Int32)) + (18 : Int32))).bind fun r32 => ((fn_Md_across r28 r30 r32).bind fun r34 => fn_Md_isGreat_52 F w (x2 + (4 : Int32)) r10 r34)))) else fn_Md_isGreat_52 F w (x2 + (4 : Int32)) r10 (0 : Int64))) else (if x1 = (82 : Int32) then ((fn_Md_u2 w ((x2 + (4 : Int32)) + (2 : Int32))).bind fun r7 => (if (255 : Int32) < r7 then some true else fn_Md_isGreat_160 F w x1 x2)) else fn_Md_isGreat_160 F w x1 x2))
set_option maxHeartbeats 1600000 in
set_option maxRecDepth 100000 in
theorem c_Md_isGreat {G : sm_G} {b : Nat} {M0 M : sm_M}  {w : wd} {F : Nat} (hI : lo_in G md_L b M0 M w)  (x1 : Int32) (x2 : Int32)  {R : Bool} (hf : fn_Md_isGreat F w x1 x2 = some R) : sm_C G mf_Md_isGreat [.ref (b + 0), .int x1, .int x2] M 0 0 (sm_pu M (.int (bi R))) := by
  unfold fn_Md_isGreat at hf
  have hI := hI.here
  refine sm_ofW rfl (Nat.le_of_ble_eq_true rfl) ?_
  refine sm_iload_n d_Md_isGreat_0 rfl (j := 2) rfl ?_
  refine sm_iconst (v := 4) d_Md_isGreat_1 (by decide) ?_
  refine sm_iadd d_Md_isGreat_2 ?_
  refine sm_istore_n d_Md_isGreat_3 rfl (by decide) rfl ?_
  refine sm_iload_n d_Md_isGreat_4 rfl (j := 2) rfl ?_
  refine sm_bipush (v := 81) d_Md_isGreat_5 (by decide) ?_
  refine sm_icmp_ne (tgt := 141) d_Md_isGreat_7 (by decide) (fun h1 => ?_) (fun h1 => ?_)
  · rw [if_neg h1] at hf
    refine sm_iload_n d_Md_isGreat_141 rfl (j := 2) rfl ?_
    refine sm_bipush (v := 82) d_Md_isGreat_142 (by decide) ?_
    refine sm_icmp_ne (tgt := 160) d_Md_isGreat_144 (by decide) (fun h2 => ?_) (fun h2 => ?_)
    · rw [if_neg h2] at hf
      exact sm_pick [1, 2, 3] (w_Md_isGreat_160 _ _ _ hI hf) rfl
    · rw [if_pos h2] at hf
      refine sm_aload_n d_Md_isGreat_147 rfl (j := 1) rfl ?_
      refine sm_iload_n d_Md_isGreat_148 rfl (j := 0) rfl ?_
      refine sm_iconst (v := 2) d_Md_isGreat_149 (by decide) ?_
      refine sm_iadd d_Md_isGreat_150 ?_
      obtain ⟨r7, e8, hf⟩ := lo_bnd hf
      refine lo_callV d_Md_isGreat_151 cs_Md_isGreat_230 rfl hI ml_0 (As := [.int ((x2 + (4 : Int32)) + (2 : Int32))]) rfl rfl (Nat.le_of_ble_eq_true rfl) (c_Md_u2 hI ((x2 + (4 : Int32)) + (2 : Int32)) e8) ?_
      refine sm_sipush (v := 255) d_Md_isGreat_154 (by decide) ?_
      refine sm_icmp_gt (tgt := 179) d_Md_isGreat_157 (by decide) (fun h9 => ?_) (fun h9 => ?_)
      · rw [if_pos h9] at hf
        refine sm_iconst (v := 1) d_Md_isGreat_179 (by decide) ?_
        refine sm_goto (tgt := 184) d_Md_isGreat_180 (by decide) ?_
        cases hf
        refine sm_ireturn d_Md_isGreat_184 rfl (by rfl) ?_
        exact ⟨rfl, rfl⟩
      · rw [if_neg h9] at hf
        exact sm_pick [1, 2, 3] (w_Md_isGreat_160 _ _ _ hI hf) rfl
  · rw [if_pos h1] at hf
    refine sm_aload_n d_Md_isGreat_10 rfl (j := 1) rfl ?_
    refine sm_iload_n d_Md_isGreat_11 rfl (j := 0) rfl ?_
    obtain ⟨r10, e11, hf⟩ := lo_bnd hf
    refine lo_callV d_Md_isGreat_12 cs_Md_isGreat_250 rfl hI ml_0 (As := [.int (x2 + (4 : Int32))]) rfl rfl (Nat.le_of_ble_eq_true rfl) (c_Md_isPicture hI (x2 + (4 : Int32)) e11) ?_
    refine sm_istore d_Md_isGreat_15 (by decide) rfl ?_
    refine sm_iload d_Md_isGreat_17 (j := 0) rfl ?_
    refine sm_if_eq (tgt := 51) d_Md_isGreat_19 (by decide) (fun h12 => ?_) (fun h12 => ?_)
    · rw [if_neg (bi0 h12)] at hf
      refine sm_lconst (v := 0) d_Md_isGreat_51 (by decide) ?_
      exact sm_pick [2, 1, 0] (w_Md_isGreat_52 _ _ _ _ hI hf) rfl
    · rw [if_pos (bi1 h12)] at hf
      refine sm_aload_n d_Md_isGreat_22 rfl (j := 2) rfl ?_
      refine sm_iload_n d_Md_isGreat_23 rfl (j := 1) rfl ?_
      refine sm_bipush (v := 26) d_Md_isGreat_24 (by decide) ?_
      refine sm_iadd d_Md_isGreat_26 ?_
      obtain ⟨r28, e29, hf⟩ := lo_bnd hf
      refine lo_callV d_Md_isGreat_27 cs_Md_isGreat_253 rfl hI ml_0 (As := [.int ((x2 + (4 : Int32)) + (26 : Int32))]) rfl rfl (Nat.le_of_ble_eq_true rfl) (c_Md_u4 hI ((x2 + (4 : Int32)) + (26 : Int32)) e29) ?_
      refine sm_aload_n d_Md_isGreat_30 rfl (j := 2) rfl ?_
      refine sm_iload_n d_Md_isGreat_31 rfl (j := 1) rfl ?_
      refine sm_iconst (v := 2) d_Md_isGreat_32 (by decide) ?_
      refine sm_iadd d_Md_isGreat_33 ?_
      obtain ⟨r30, e31, hf⟩ := lo_bnd hf
      refine lo_callV d_Md_isGreat_34 cs_Md_isGreat_253 rfl hI ml_0 (As := [.int ((x2 + (4 : Int32)) + (2 : Int32))]) rfl rfl (Nat.le_of_ble_eq_true rfl) (c_Md_u4 hI ((x2 + (4 : Int32)) + (2 : Int32)) e31) ?_
      refine sm_aload_n d_Md_isGreat_37 rfl (j := 2) rfl ?_
      refine sm_iload_n d_Md_isGreat_38 rfl (j := 1) rfl ?_
      refine sm_bipush (v := 18) d_Md_isGreat_39 (by decide) ?_
      refine sm_iadd d_Md_isGreat_41 ?_
      obtain ⟨r32, e33, hf⟩ := lo_bnd hf
      refine lo_callV d_Md_isGreat_42 cs_Md_isGreat_253 rfl hI ml_0 (As := [.int ((x2 + (4 : Int32)) + (18 : Int32))]) rfl rfl (Nat.le_of_ble_eq_true rfl) (c_Md_u4 hI ((x2 + (4 : Int32)) + (18 : Int32)) e33) ?_
      obtain ⟨r34, e35, hf⟩ := lo_bnd hf
      refine sm_callSp d_Md_isGreat_45 cs_Md_isGreat_114 rfl (As := [.long r28, .long r30, .long r32]) rfl rfl (Nat.le_of_ble_eq_true rfl) (c_Md_across r28 r30 r32 e35) ?_
      refine sm_goto (tgt := 52) d_Md_isGreat_48 (by decide) ?_
      exact sm_pick [2, 1, 0] (w_Md_isGreat_52 _ _ _ _ hI hf) rfl

def fn_Md_isSize_94 (k27 : wd → Int32 → Bool → Int32 → Option (Bool)) (F : Nat) (w : wd) (x1 : Int32) (x3 : Int32) (s0 : Bool) : Option (Bool) := k27 w x1 s0 (x3 + 1)
set_option maxHeartbeats 1600000 in
set_option maxRecDepth 100000 in
theorem w_Md_isSize_94 {G : sm_G} {b : Nat} {M0 : sm_M} {bc bs : Nat} {R : Bool} {F : Nat} {k27 : wd → Int32 → Bool → Int32 → Option (Bool)} (hk27 : ∀ (w : wd) (x1 : Int32) (x2 : Bool) (x3 : Int32), lo_in G md_L b M0 M0 w → k27 w x1 x2 x3 = some R → sm_W G mf_Md_isSize 27 [(0, .ref (b + 0)), (1, .int x1), (2, .int (bi x2)), (3, .int x3)] [] M0 bc bs (sm_pu M0 (.int (bi R)))) : ∀ (w : wd) (x1 : Int32) (x3 : Int32) (s0 : Bool), lo_in G md_L b M0 M0 w → fn_Md_isSize_94 k27 F w x1 x3 s0 = some R → sm_W G mf_Md_isSize 94 [(0, .ref (b + 0)), (1, .int x1), (3, .int x3)] [.int (bi s0)] M0 bc bs (sm_pu M0 (.int (bi R))) := by
  intro w x1 x3 s0 hI  hf
  unfold fn_Md_isSize_94 at hf
  refine sm_istore_n d_Md_isSize_94 rfl (by decide) rfl ?_
  refine sm_iinc (v := (x3 + 1)) d_Md_isSize_95 (j := 3) rfl rfl (by decide) rfl ?_
  refine sm_goto (tgt := 27) d_Md_isSize_98 (by decide) ?_
  exact sm_pick [2, 3, 1, 0] (hk27 _ _ _ _ hI hf) rfl

def fn_Md_isSize_93 (k27 : wd → Int32 → Bool → Int32 → Option (Bool)) (F : Nat) (w : wd) (x1 : Int32) (x3 : Int32) : Option (Bool) := fn_Md_isSize_94 k27 F w x1 x3 false
set_option maxHeartbeats 1600000 in
set_option maxRecDepth 100000 in
theorem w_Md_isSize_93 {G : sm_G} {b : Nat} {M0 : sm_M} {bc bs : Nat} {R : Bool} {F : Nat} {k27 : wd → Int32 → Bool → Int32 → Option (Bool)} (hk27 : ∀ (w : wd) (x1 : Int32) (x2 : Bool) (x3 : Int32), lo_in G md_L b M0 M0 w → k27 w x1 x2 x3 = some R → sm_W G mf_Md_isSize 27 [(0, .ref (b + 0)), (1, .int x1), (2, .int (bi x2)), (3, .int x3)] [] M0 bc bs (sm_pu M0 (.int (bi R)))) : ∀ (w : wd) (x1 : Int32) (x3 : Int32), lo_in G md_L b M0 M0 w → fn_Md_isSize_93 k27 F w x1 x3 = some R → sm_W G mf_Md_isSize 93 [(0, .ref (b + 0)), (1, .int x1), (3, .int x3)] [] M0 bc bs (sm_pu M0 (.int (bi R))) := by
  intro w x1 x3 hI  hf
  unfold fn_Md_isSize_93 at hf
  refine sm_iconst (v := 0) d_Md_isSize_93 (by decide) ?_
  exact sm_pick [0, 1, 2] (w_Md_isSize_94 hk27 _ _ _ _ hI hf) rfl

def fn_Md_isSize_27 (F : Nat) : Nat → wd → Int32 → Bool → Int32 → Option (Bool)
 | 0, _, _, _, _ => none
 | n9 + 1, w, x1, x2, x3 => ((fn_Md_u2 w (x1 + (34 : Int32))).bind fun r4 => (if r4 ≤ x3 then some x2 else (if x2 = true then ((fn_Md_u1 w ((x1 + (36 : Int32)) + ((3 : Int32) * x3))).bind fun r8 => (if (38 : Int32) ≤ (r8 &&& (127 : Int32)) then fn_Md_isSize_93 (fn_Md_isSize_27 F n9) F w x1 x3 else ((fn_Md_u1 w (((x1 + (36 : Int32)) + ((3 : Int32) * x3)) + (1 : Int32))).bind fun r11 => (if r11 ≤ 0 then fn_Md_isSize_93 (fn_Md_isSize_27 F n9) F w x1 x3 else ((fn_Md_u1 w (((x1 + (36 : Int32)) + ((3 : Int32) * x3)) + (2 : Int32))).bind fun r14 => (if r14 ≤ 0 then fn_Md_isSize_93 (fn_Md_isSize_27 F n9) F w x1 x3 else fn_Md_isSize_94 (fn_Md_isSize_27 F n9) F w x1 x3 true)))))) else some x2)))
set_option maxHeartbeats 1600000 in
set_option maxRecDepth 100000 in
theorem w_Md_isSize_27 {G : sm_G} {b : Nat} {M0 : sm_M} {bc bs : Nat} {R : Bool} {F : Nat} : ∀ (n9 : Nat), ∀ (w : wd) (x1 : Int32) (x2 : Bool) (x3 : Int32), lo_in G md_L b M0 M0 w → fn_Md_isSize_27 F n9 w x1 x2 x3 = some R → sm_W G mf_Md_isSize 27 [(0, .ref (b + 0)), (1, .int x1), (2, .int (bi x2)), (3, .int x3)] [] M0 bc bs (sm_pu M0 (.int (bi R))) := by
  intro n9
  induction n9 with
  | zero => intro w x1 x2 x3 hI  hf; cases hf
  | succ n9 ih =>
    intro w x1 x2 x3 hI  hf
    rw [fn_Md_isSize_27] at hf
    refine sm_iload_n d_Md_isSize_27 rfl (j := 3) rfl ?_
    refine sm_aload_n d_Md_isSize_28 rfl (j := 0) rfl ?_
    refine sm_iload_n d_Md_isSize_29 rfl (j := 1) rfl ?_
    refine sm_bipush (v := 34) d_Md_isSize_30 (by decide) ?_
    refine sm_iadd d_Md_isSize_32 ?_
    obtain ⟨r4, e5, hf⟩ := lo_bnd hf
    refine lo_callV d_Md_isSize_33 cs_Md_isSize_230 rfl hI ml_0 (As := [.int (x1 + (34 : Int32))]) rfl rfl (Nat.le_of_ble_eq_true rfl) (c_Md_u2 hI (x1 + (34 : Int32)) e5) ?_
    refine sm_icmp_ge (tgt := 101) d_Md_isSize_36 (by decide) (fun h6 => ?_) (fun h6 => ?_)
    · rw [if_pos h6] at hf
      refine sm_iload_n d_Md_isSize_101 rfl (j := 2) rfl ?_
      cases hf
      refine sm_ireturn d_Md_isSize_102 rfl (bi_n _) ?_
      exact ⟨rfl, rfl⟩
    · rw [if_neg h6] at hf
      refine sm_iload_n d_Md_isSize_39 rfl (j := 2) rfl ?_
      refine sm_if_eq (tgt := 101) d_Md_isSize_40 (by decide) (fun h7 => ?_) (fun h7 => ?_)
      · rw [if_neg (bi0 h7)] at hf
        refine sm_iload_n d_Md_isSize_101 rfl (j := 2) rfl ?_
        cases hf
        refine sm_ireturn d_Md_isSize_102 rfl (bi_n _) ?_
        exact ⟨rfl, rfl⟩
      · rw [if_pos (bi1 h7)] at hf
        refine sm_iload_n d_Md_isSize_43 rfl (j := 1) rfl ?_
        refine sm_bipush (v := 36) d_Md_isSize_44 (by decide) ?_
        refine sm_iadd d_Md_isSize_46 ?_
        refine sm_iconst (v := 3) d_Md_isSize_47 (by decide) ?_
        refine sm_iload_n d_Md_isSize_48 rfl (j := 3) rfl ?_
        refine sm_imul d_Md_isSize_49 ?_
        refine sm_iadd d_Md_isSize_50 ?_
        refine sm_istore d_Md_isSize_51 (by decide) rfl ?_
        refine sm_aload_n d_Md_isSize_53 rfl (j := 1) rfl ?_
        refine sm_iload d_Md_isSize_54 (j := 0) rfl ?_
        obtain ⟨r8, e9, hf⟩ := lo_bnd hf
        refine lo_callV d_Md_isSize_56 cs_Md_isSize_233 rfl hI ml_0 (As := [.int ((x1 + (36 : Int32)) + ((3 : Int32) * x3))]) rfl rfl (Nat.le_of_ble_eq_true rfl) (c_Md_u1 hI ((x1 + (36 : Int32)) + ((3 : Int32) * x3)) e9) ?_
        refine sm_bipush (v := 127) d_Md_isSize_59 (by decide) ?_
        refine sm_iand d_Md_isSize_61 ?_
        refine sm_bipush (v := 38) d_Md_isSize_62 (by decide) ?_
        refine sm_icmp_ge (tgt := 93) d_Md_isSize_64 (by decide) (fun h10 => ?_) (fun h10 => ?_)
        · rw [if_pos h10] at hf
          exact sm_pick [1, 2, 4] (w_Md_isSize_93 ih _ _ _ hI hf) rfl
        · rw [if_neg h10] at hf
          refine sm_aload_n d_Md_isSize_67 rfl (j := 1) rfl ?_
          refine sm_iload d_Md_isSize_68 (j := 0) rfl ?_
          refine sm_iconst (v := 1) d_Md_isSize_70 (by decide) ?_
          refine sm_iadd d_Md_isSize_71 ?_
          obtain ⟨r11, e12, hf⟩ := lo_bnd hf
          refine lo_callV d_Md_isSize_72 cs_Md_isSize_233 rfl hI ml_0 (As := [.int (((x1 + (36 : Int32)) + ((3 : Int32) * x3)) + (1 : Int32))]) rfl rfl (Nat.le_of_ble_eq_true rfl) (c_Md_u1 hI (((x1 + (36 : Int32)) + ((3 : Int32) * x3)) + (1 : Int32)) e12) ?_
          refine sm_if_le (tgt := 93) d_Md_isSize_75 (by decide) (fun h13 => ?_) (fun h13 => ?_)
          · rw [if_pos h13] at hf
            exact sm_pick [1, 2, 4] (w_Md_isSize_93 ih _ _ _ hI hf) rfl
          · rw [if_neg h13] at hf
            refine sm_aload_n d_Md_isSize_78 rfl (j := 1) rfl ?_
            refine sm_iload d_Md_isSize_79 (j := 0) rfl ?_
            refine sm_iconst (v := 2) d_Md_isSize_81 (by decide) ?_
            refine sm_iadd d_Md_isSize_82 ?_
            obtain ⟨r14, e15, hf⟩ := lo_bnd hf
            refine lo_callV d_Md_isSize_83 cs_Md_isSize_233 rfl hI ml_0 (As := [.int (((x1 + (36 : Int32)) + ((3 : Int32) * x3)) + (2 : Int32))]) rfl rfl (Nat.le_of_ble_eq_true rfl) (c_Md_u1 hI (((x1 + (36 : Int32)) + ((3 : Int32) * x3)) + (2 : Int32)) e15) ?_
            refine sm_if_le (tgt := 93) d_Md_isSize_86 (by decide) (fun h16 => ?_) (fun h16 => ?_)
            · rw [if_pos h16] at hf
              exact sm_pick [1, 2, 4] (w_Md_isSize_93 ih _ _ _ hI hf) rfl
            · rw [if_neg h16] at hf
              refine sm_iconst (v := 1) d_Md_isSize_89 (by decide) ?_
              refine sm_goto (tgt := 94) d_Md_isSize_90 (by decide) ?_
              exact sm_pick [1, 2, 4] (w_Md_isSize_94 ih _ _ _ _ hI hf) rfl

def fn_Md_isSize_24 (F : Nat) (w : wd) (x1 : Int32) (s0 : Bool) : Option (Bool) := fn_Md_isSize_27 F F w x1 s0 (0 : Int32)
set_option maxHeartbeats 1600000 in
set_option maxRecDepth 100000 in
theorem w_Md_isSize_24 {G : sm_G} {b : Nat} {M0 : sm_M} {bc bs : Nat} {R : Bool} {F : Nat} : ∀ (w : wd) (x1 : Int32) (s0 : Bool), lo_in G md_L b M0 M0 w → fn_Md_isSize_24 F w x1 s0 = some R → sm_W G mf_Md_isSize 24 [(0, .ref (b + 0)), (1, .int x1)] [.int (bi s0)] M0 bc bs (sm_pu M0 (.int (bi R))) := by
  intro w x1 s0 hI  hf
  unfold fn_Md_isSize_24 at hf
  refine sm_istore_n d_Md_isSize_24 rfl (by decide) rfl ?_
  refine sm_iconst (v := 0) d_Md_isSize_25 (by decide) ?_
  refine sm_istore_n d_Md_isSize_26 rfl (by decide) rfl ?_
  exact sm_pick [2, 3, 1, 0] (w_Md_isSize_27 _ _ _ _ _ hI hf) rfl

def fn_Md_isSize_23 (F : Nat) (w : wd) (x1 : Int32) : Option (Bool) := fn_Md_isSize_24 F w x1 false
set_option maxHeartbeats 1600000 in
set_option maxRecDepth 100000 in
theorem w_Md_isSize_23 {G : sm_G} {b : Nat} {M0 : sm_M} {bc bs : Nat} {R : Bool} {F : Nat} : ∀ (w : wd) (x1 : Int32), lo_in G md_L b M0 M0 w → fn_Md_isSize_23 F w x1 = some R → sm_W G mf_Md_isSize 23 [(0, .ref (b + 0)), (1, .int x1)] [] M0 bc bs (sm_pu M0 (.int (bi R))) := by
  intro w x1 hI  hf
  unfold fn_Md_isSize_23 at hf
  refine sm_iconst (v := 0) d_Md_isSize_23 (by decide) ?_
  exact sm_pick [0, 1] (w_Md_isSize_24 _ _ _ hI hf) rfl

def fn_Md_isSize (F : Nat) (w : wd) (x1 : Int32) : Option (Bool) := ((fn_Md_isPicture F w x1).bind fun r1 => (if r1 = true then ((fn_Md_u2 w (x1 + (34 : Int32))).bind fun r17 => (if r17 ≤ 0 then fn_Md_isSize_23 F w x1 else fn_Md_isSize_24 F w x1 true)) else fn_Md_isSize_23 F w x1))
set_option maxHeartbeats 1600000 in
set_option maxRecDepth 100000 in
theorem c_Md_isSize {G : sm_G} {b : Nat} {M0 M : sm_M}  {w : wd} {F : Nat} (hI : lo_in G md_L b M0 M w)  (x1 : Int32)  {R : Bool} (hf : fn_Md_isSize F w x1 = some R) : sm_C G mf_Md_isSize [.ref (b + 0), .int x1] M 0 0 (sm_pu M (.int (bi R))) := by
  unfold fn_Md_isSize at hf
  have hI := hI.here
  refine sm_ofW rfl (Nat.le_of_ble_eq_true rfl) ?_
  refine sm_aload_n d_Md_isSize_0 rfl (j := 0) rfl ?_
  refine sm_iload_n d_Md_isSize_1 rfl (j := 1) rfl ?_
  obtain ⟨r1, e2, hf⟩ := lo_bnd hf
  refine lo_callV d_Md_isSize_2 cs_Md_isSize_250 rfl hI ml_0 (As := [.int x1]) rfl rfl (Nat.le_of_ble_eq_true rfl) (c_Md_isPicture hI x1 e2) ?_
  refine sm_if_eq (tgt := 23) d_Md_isSize_5 (by decide) (fun h3 => ?_) (fun h3 => ?_)
  · rw [if_neg (bi0 h3)] at hf
    exact sm_pick [0, 1] (w_Md_isSize_23 _ _ hI hf) rfl
  · rw [if_pos (bi1 h3)] at hf
    refine sm_aload_n d_Md_isSize_8 rfl (j := 0) rfl ?_
    refine sm_iload_n d_Md_isSize_9 rfl (j := 1) rfl ?_
    refine sm_bipush (v := 34) d_Md_isSize_10 (by decide) ?_
    refine sm_iadd d_Md_isSize_12 ?_
    obtain ⟨r17, e18, hf⟩ := lo_bnd hf
    refine lo_callV d_Md_isSize_13 cs_Md_isSize_230 rfl hI ml_0 (As := [.int (x1 + (34 : Int32))]) rfl rfl (Nat.le_of_ble_eq_true rfl) (c_Md_u2 hI (x1 + (34 : Int32)) e18) ?_
    refine sm_if_le (tgt := 23) d_Md_isSize_16 (by decide) (fun h19 => ?_) (fun h19 => ?_)
    · rw [if_pos h19] at hf
      exact sm_pick [0, 1] (w_Md_isSize_23 _ _ hI hf) rfl
    · rw [if_neg h19] at hf
      refine sm_iconst (v := 1) d_Md_isSize_19 (by decide) ?_
      refine sm_goto (tgt := 24) d_Md_isSize_20 (by decide) ?_
      exact sm_pick [0, 1] (w_Md_isSize_24 _ _ _ hI hf) rfl

def fn_Md_isBody_141 (k86 : wd → Int32 → Bool → Bool → Int32 → Option (Bool)) (F : Nat) (w : wd) (x1 : Int32) (x2 : Bool) (x4 : Int32) (s0 : Bool) : Option (Bool) := k86 w x1 x2 s0 (x4 + 1)
set_option maxHeartbeats 1600000 in
set_option maxRecDepth 100000 in
theorem w_Md_isBody_141 {G : sm_G} {b : Nat} {M0 : sm_M} {bc bs : Nat} {R : Bool} {F : Nat} {k86 : wd → Int32 → Bool → Bool → Int32 → Option (Bool)} (hk86 : ∀ (w : wd) (x1 : Int32) (x2 : Bool) (x3 : Bool) (x4 : Int32), lo_in G md_L b M0 M0 w → k86 w x1 x2 x3 x4 = some R → sm_W G mf_Md_isBody 86 [(0, .ref (b + 0)), (1, .int x1), (2, .int (bi x2)), (3, .int (bi x3)), (4, .int x4)] [] M0 bc bs (sm_pu M0 (.int (bi R)))) : ∀ (w : wd) (x1 : Int32) (x2 : Bool) (x4 : Int32) (s0 : Bool), lo_in G md_L b M0 M0 w → fn_Md_isBody_141 k86 F w x1 x2 x4 s0 = some R → sm_W G mf_Md_isBody 141 [(0, .ref (b + 0)), (1, .int x1), (2, .int (bi x2)), (4, .int x4)] [.int (bi s0)] M0 bc bs (sm_pu M0 (.int (bi R))) := by
  intro w x1 x2 x4 s0 hI  hf
  unfold fn_Md_isBody_141 at hf
  refine sm_istore_n d_Md_isBody_141 rfl (by decide) rfl ?_
  refine sm_iinc (v := (x4 + 1)) d_Md_isBody_142 (j := 4) rfl rfl (by decide) rfl ?_
  refine sm_goto (tgt := 86) d_Md_isBody_145 (by decide) ?_
  exact sm_pick [2, 3, 4, 1, 0] (hk86 _ _ _ _ _ hI hf) rfl

def fn_Md_isBody_140 (k86 : wd → Int32 → Bool → Bool → Int32 → Option (Bool)) (F : Nat) (w : wd) (x1 : Int32) (x2 : Bool) (x4 : Int32) : Option (Bool) := fn_Md_isBody_141 k86 F w x1 x2 x4 false
set_option maxHeartbeats 1600000 in
set_option maxRecDepth 100000 in
theorem w_Md_isBody_140 {G : sm_G} {b : Nat} {M0 : sm_M} {bc bs : Nat} {R : Bool} {F : Nat} {k86 : wd → Int32 → Bool → Bool → Int32 → Option (Bool)} (hk86 : ∀ (w : wd) (x1 : Int32) (x2 : Bool) (x3 : Bool) (x4 : Int32), lo_in G md_L b M0 M0 w → k86 w x1 x2 x3 x4 = some R → sm_W G mf_Md_isBody 86 [(0, .ref (b + 0)), (1, .int x1), (2, .int (bi x2)), (3, .int (bi x3)), (4, .int x4)] [] M0 bc bs (sm_pu M0 (.int (bi R)))) : ∀ (w : wd) (x1 : Int32) (x2 : Bool) (x4 : Int32), lo_in G md_L b M0 M0 w → fn_Md_isBody_140 k86 F w x1 x2 x4 = some R → sm_W G mf_Md_isBody 140 [(0, .ref (b + 0)), (1, .int x1), (2, .int (bi x2)), (4, .int x4)] [] M0 bc bs (sm_pu M0 (.int (bi R))) := by
  intro w x1 x2 x4 hI  hf
  unfold fn_Md_isBody_140 at hf
  refine sm_iconst (v := 0) d_Md_isBody_140 (by decide) ?_
  exact sm_pick [0, 1, 2, 3] (w_Md_isBody_141 hk86 _ _ _ _ _ hI hf) rfl

def fn_Md_isBody_86 (F : Nat) : Nat → wd → Int32 → Bool → Bool → Int32 → Option (Bool)
 | 0, _, _, _, _, _ => none
 | n9 + 1, w, x1, x2, x3, x4 => ((fn_Md_u1 w x1).bind fun r4 => (if r4 < x4 then some x3 else (if x2 = true then (if x3 = true then ((fn_Md_u1 w ((x1 + (5 : Int32)) + x4)).bind fun r9 => (if (r9 - r9 / (16 : Int32) * (16 : Int32)) ≤ 0 then fn_Md_isBody_140 (fn_Md_isBody_86 F n9) F w x1 x2 x4 else ((fn_Md_u1 w ((x1 + (5 : Int32)) + x4)).bind fun r12 => (if (r12 / (16 : Int32)) ≤ 0 then fn_Md_isBody_140 (fn_Md_isBody_86 F n9) F w x1 x2 x4 else fn_Md_isBody_141 (fn_Md_isBody_86 F n9) F w x1 x2 x4 true)))) else some x3) else some x3)))
set_option maxHeartbeats 1600000 in
set_option maxRecDepth 100000 in
theorem w_Md_isBody_86 {G : sm_G} {b : Nat} {M0 : sm_M} {bc bs : Nat} {R : Bool} {F : Nat} : ∀ (n9 : Nat), ∀ (w : wd) (x1 : Int32) (x2 : Bool) (x3 : Bool) (x4 : Int32), lo_in G md_L b M0 M0 w → fn_Md_isBody_86 F n9 w x1 x2 x3 x4 = some R → sm_W G mf_Md_isBody 86 [(0, .ref (b + 0)), (1, .int x1), (2, .int (bi x2)), (3, .int (bi x3)), (4, .int x4)] [] M0 bc bs (sm_pu M0 (.int (bi R))) := by
  intro n9
  induction n9 with
  | zero => intro w x1 x2 x3 x4 hI  hf; cases hf
  | succ n9 ih =>
    intro w x1 x2 x3 x4 hI  hf
    rw [fn_Md_isBody_86] at hf
    refine sm_iload d_Md_isBody_86 (j := 4) rfl ?_
    refine sm_aload_n d_Md_isBody_88 rfl (j := 0) rfl ?_
    refine sm_iload_n d_Md_isBody_89 rfl (j := 1) rfl ?_
    obtain ⟨r4, e5, hf⟩ := lo_bnd hf
    refine lo_callV d_Md_isBody_90 cs_Md_isBody_233 rfl hI ml_0 (As := [.int x1]) rfl rfl (Nat.le_of_ble_eq_true rfl) (c_Md_u1 hI x1 e5) ?_
    refine sm_icmp_gt (tgt := 148) d_Md_isBody_93 (by decide) (fun h6 => ?_) (fun h6 => ?_)
    · rw [if_pos h6] at hf
      refine sm_iload_n d_Md_isBody_148 rfl (j := 3) rfl ?_
      cases hf
      refine sm_ireturn d_Md_isBody_149 rfl (bi_n _) ?_
      exact ⟨rfl, rfl⟩
    · rw [if_neg h6] at hf
      refine sm_iload_n d_Md_isBody_96 rfl (j := 2) rfl ?_
      refine sm_if_eq (tgt := 148) d_Md_isBody_97 (by decide) (fun h7 => ?_) (fun h7 => ?_)
      · rw [if_neg (bi0 h7)] at hf
        refine sm_iload_n d_Md_isBody_148 rfl (j := 3) rfl ?_
        cases hf
        refine sm_ireturn d_Md_isBody_149 rfl (bi_n _) ?_
        exact ⟨rfl, rfl⟩
      · rw [if_pos (bi1 h7)] at hf
        refine sm_iload_n d_Md_isBody_100 rfl (j := 3) rfl ?_
        refine sm_if_eq (tgt := 148) d_Md_isBody_101 (by decide) (fun h8 => ?_) (fun h8 => ?_)
        · rw [if_neg (bi0 h8)] at hf
          refine sm_iload_n d_Md_isBody_148 rfl (j := 3) rfl ?_
          cases hf
          refine sm_ireturn d_Md_isBody_149 rfl (bi_n _) ?_
          exact ⟨rfl, rfl⟩
        · rw [if_pos (bi1 h8)] at hf
          refine sm_aload_n d_Md_isBody_104 rfl (j := 0) rfl ?_
          refine sm_iload_n d_Md_isBody_105 rfl (j := 1) rfl ?_
          refine sm_iconst (v := 5) d_Md_isBody_106 (by decide) ?_
          refine sm_iadd d_Md_isBody_107 ?_
          refine sm_iload d_Md_isBody_108 (j := 4) rfl ?_
          refine sm_iadd d_Md_isBody_110 ?_
          obtain ⟨r9, e10, hf⟩ := lo_bnd hf
          refine lo_callV d_Md_isBody_111 cs_Md_isBody_233 rfl hI ml_0 (As := [.int ((x1 + (5 : Int32)) + x4)]) rfl rfl (Nat.le_of_ble_eq_true rfl) (c_Md_u1 hI ((x1 + (5 : Int32)) + x4) e10) ?_
          refine sm_bipush (v := 16) d_Md_isBody_114 (by decide) ?_
          refine sm_irem d_Md_isBody_116 (by decide) ?_
          refine sm_if_le (tgt := 140) d_Md_isBody_117 (by decide) (fun h11 => ?_) (fun h11 => ?_)
          · rw [if_pos h11] at hf
            exact sm_pick [0, 1, 2, 4] (w_Md_isBody_140 ih _ _ _ _ hI hf) rfl
          · rw [if_neg h11] at hf
            refine sm_aload_n d_Md_isBody_120 rfl (j := 0) rfl ?_
            refine sm_iload_n d_Md_isBody_121 rfl (j := 1) rfl ?_
            refine sm_iconst (v := 5) d_Md_isBody_122 (by decide) ?_
            refine sm_iadd d_Md_isBody_123 ?_
            refine sm_iload d_Md_isBody_124 (j := 4) rfl ?_
            refine sm_iadd d_Md_isBody_126 ?_
            obtain ⟨r12, e13, hf⟩ := lo_bnd hf
            refine lo_callV d_Md_isBody_127 cs_Md_isBody_233 rfl hI ml_0 (As := [.int ((x1 + (5 : Int32)) + x4)]) rfl rfl (Nat.le_of_ble_eq_true rfl) (c_Md_u1 hI ((x1 + (5 : Int32)) + x4) e13) ?_
            refine sm_bipush (v := 16) d_Md_isBody_130 (by decide) ?_
            refine sm_idiv d_Md_isBody_132 (by decide) ?_
            refine sm_if_le (tgt := 140) d_Md_isBody_133 (by decide) (fun h14 => ?_) (fun h14 => ?_)
            · rw [if_pos h14] at hf
              exact sm_pick [0, 1, 2, 4] (w_Md_isBody_140 ih _ _ _ _ hI hf) rfl
            · rw [if_neg h14] at hf
              refine sm_iconst (v := 1) d_Md_isBody_136 (by decide) ?_
              refine sm_goto (tgt := 141) d_Md_isBody_137 (by decide) ?_
              exact sm_pick [0, 1, 2, 4] (w_Md_isBody_141 ih _ _ _ _ _ hI hf) rfl

def fn_Md_isBody_82 (F : Nat) (w : wd) (x1 : Int32) (x2 : Bool) (s0 : Bool) : Option (Bool) := fn_Md_isBody_86 F F w x1 x2 s0 (1 : Int32)
set_option maxHeartbeats 1600000 in
set_option maxRecDepth 100000 in
theorem w_Md_isBody_82 {G : sm_G} {b : Nat} {M0 : sm_M} {bc bs : Nat} {R : Bool} {F : Nat} : ∀ (w : wd) (x1 : Int32) (x2 : Bool) (s0 : Bool), lo_in G md_L b M0 M0 w → fn_Md_isBody_82 F w x1 x2 s0 = some R → sm_W G mf_Md_isBody 82 [(0, .ref (b + 0)), (1, .int x1), (2, .int (bi x2))] [.int (bi s0)] M0 bc bs (sm_pu M0 (.int (bi R))) := by
  intro w x1 x2 s0 hI  hf
  unfold fn_Md_isBody_82 at hf
  refine sm_istore_n d_Md_isBody_82 rfl (by decide) rfl ?_
  refine sm_iconst (v := 1) d_Md_isBody_83 (by decide) ?_
  refine sm_istore d_Md_isBody_84 (by decide) rfl ?_
  exact sm_pick [2, 3, 4, 1, 0] (w_Md_isBody_86 _ _ _ _ _ _ hI hf) rfl

def fn_Md_isBody_81 (F : Nat) (w : wd) (x1 : Int32) (x2 : Bool) : Option (Bool) := fn_Md_isBody_82 F w x1 x2 false
set_option maxHeartbeats 1600000 in
set_option maxRecDepth 100000 in
theorem w_Md_isBody_81 {G : sm_G} {b : Nat} {M0 : sm_M} {bc bs : Nat} {R : Bool} {F : Nat} : ∀ (w : wd) (x1 : Int32) (x2 : Bool), lo_in G md_L b M0 M0 w → fn_Md_isBody_81 F w x1 x2 = some R → sm_W G mf_Md_isBody 81 [(0, .ref (b + 0)), (1, .int x1), (2, .int (bi x2))] [] M0 bc bs (sm_pu M0 (.int (bi R))) := by
  intro w x1 x2 hI  hf
  unfold fn_Md_isBody_81 at hf
  refine sm_iconst (v := 0) d_Md_isBody_81 (by decide) ?_
  exact sm_pick [0, 1, 2] (w_Md_isBody_82 _ _ _ _ hI hf) rfl

def fn_Md_isBody (F : Nat) (w : wd) (x1 : Int32) (x2 : Bool) : Option (Bool) := ((fn_Md_u1 w x1).bind fun r1 => (if (32 : Int32) < r1 then fn_Md_isBody_81 F w x1 x2 else ((fn_Md_u1 w (x1 + (1 : Int32))).bind fun r15 => (if (8 : Int32) < r15 then fn_Md_isBody_81 F w x1 x2 else ((fn_Md_u1 w (x1 + (2 : Int32))).bind fun r18 => (if (8 : Int32) < r18 then fn_Md_isBody_81 F w x1 x2 else ((fn_Md_u1 w (x1 + (1 : Int32))).bind fun r21 => ((fn_Md_u1 w (x1 + (2 : Int32))).bind fun r23 => (if (8 : Int32) < (r21 + r23) then fn_Md_isBody_81 F w x1 x2 else ((fn_Md_u1 w (x1 + (3 : Int32))).bind fun r26 => (if (64 : Int32) ≤ r26 then fn_Md_isBody_81 F w x1 x2 else ((fn_Md_u1 w (x1 + (4 : Int32))).bind fun r29 => (if (1 : Int32) < r29 then fn_Md_isBody_81 F w x1 x2 else fn_Md_isBody_82 F w x1 x2 true)))))))))))))
set_option maxHeartbeats 1600000 in
set_option maxRecDepth 100000 in
theorem c_Md_isBody {G : sm_G} {b : Nat} {M0 M : sm_M}  {w : wd} {F : Nat} (hI : lo_in G md_L b M0 M w)  (x1 : Int32) (x2 : Bool)  {R : Bool} (hf : fn_Md_isBody F w x1 x2 = some R) : sm_C G mf_Md_isBody [.ref (b + 0), .int x1, .int (bi x2)] M 0 0 (sm_pu M (.int (bi R))) := by
  unfold fn_Md_isBody at hf
  have hI := hI.here
  refine sm_ofW rfl (Nat.le_of_ble_eq_true rfl) ?_
  refine sm_aload_n d_Md_isBody_0 rfl (j := 0) rfl ?_
  refine sm_iload_n d_Md_isBody_1 rfl (j := 1) rfl ?_
  obtain ⟨r1, e2, hf⟩ := lo_bnd hf
  refine lo_callV d_Md_isBody_2 cs_Md_isBody_233 rfl hI ml_0 (As := [.int x1]) rfl rfl (Nat.le_of_ble_eq_true rfl) (c_Md_u1 hI x1 e2) ?_
  refine sm_bipush (v := 32) d_Md_isBody_5 (by decide) ?_
  refine sm_icmp_gt (tgt := 81) d_Md_isBody_7 (by decide) (fun h3 => ?_) (fun h3 => ?_)
  · rw [if_pos h3] at hf
    exact sm_pick [0, 1, 2] (w_Md_isBody_81 _ _ _ hI hf) rfl
  · rw [if_neg h3] at hf
    refine sm_aload_n d_Md_isBody_10 rfl (j := 0) rfl ?_
    refine sm_iload_n d_Md_isBody_11 rfl (j := 1) rfl ?_
    refine sm_iconst (v := 1) d_Md_isBody_12 (by decide) ?_
    refine sm_iadd d_Md_isBody_13 ?_
    obtain ⟨r15, e16, hf⟩ := lo_bnd hf
    refine lo_callV d_Md_isBody_14 cs_Md_isBody_233 rfl hI ml_0 (As := [.int (x1 + (1 : Int32))]) rfl rfl (Nat.le_of_ble_eq_true rfl) (c_Md_u1 hI (x1 + (1 : Int32)) e16) ?_
    refine sm_bipush (v := 8) d_Md_isBody_17 (by decide) ?_
    refine sm_icmp_gt (tgt := 81) d_Md_isBody_19 (by decide) (fun h17 => ?_) (fun h17 => ?_)
    · rw [if_pos h17] at hf
      exact sm_pick [0, 1, 2] (w_Md_isBody_81 _ _ _ hI hf) rfl
    · rw [if_neg h17] at hf
      refine sm_aload_n d_Md_isBody_22 rfl (j := 0) rfl ?_
      refine sm_iload_n d_Md_isBody_23 rfl (j := 1) rfl ?_
      refine sm_iconst (v := 2) d_Md_isBody_24 (by decide) ?_
      refine sm_iadd d_Md_isBody_25 ?_
      obtain ⟨r18, e19, hf⟩ := lo_bnd hf
      refine lo_callV d_Md_isBody_26 cs_Md_isBody_233 rfl hI ml_0 (As := [.int (x1 + (2 : Int32))]) rfl rfl (Nat.le_of_ble_eq_true rfl) (c_Md_u1 hI (x1 + (2 : Int32)) e19) ?_
      refine sm_bipush (v := 8) d_Md_isBody_29 (by decide) ?_
      refine sm_icmp_gt (tgt := 81) d_Md_isBody_31 (by decide) (fun h20 => ?_) (fun h20 => ?_)
      · rw [if_pos h20] at hf
        exact sm_pick [0, 1, 2] (w_Md_isBody_81 _ _ _ hI hf) rfl
      · rw [if_neg h20] at hf
        refine sm_aload_n d_Md_isBody_34 rfl (j := 0) rfl ?_
        refine sm_iload_n d_Md_isBody_35 rfl (j := 1) rfl ?_
        refine sm_iconst (v := 1) d_Md_isBody_36 (by decide) ?_
        refine sm_iadd d_Md_isBody_37 ?_
        obtain ⟨r21, e22, hf⟩ := lo_bnd hf
        refine lo_callV d_Md_isBody_38 cs_Md_isBody_233 rfl hI ml_0 (As := [.int (x1 + (1 : Int32))]) rfl rfl (Nat.le_of_ble_eq_true rfl) (c_Md_u1 hI (x1 + (1 : Int32)) e22) ?_
        refine sm_aload_n d_Md_isBody_41 rfl (j := 0) rfl ?_
        refine sm_iload_n d_Md_isBody_42 rfl (j := 1) rfl ?_
        refine sm_iconst (v := 2) d_Md_isBody_43 (by decide) ?_
        refine sm_iadd d_Md_isBody_44 ?_
        obtain ⟨r23, e24, hf⟩ := lo_bnd hf
        refine lo_callV d_Md_isBody_45 cs_Md_isBody_233 rfl hI ml_0 (As := [.int (x1 + (2 : Int32))]) rfl rfl (Nat.le_of_ble_eq_true rfl) (c_Md_u1 hI (x1 + (2 : Int32)) e24) ?_
        refine sm_iadd d_Md_isBody_48 ?_
        refine sm_bipush (v := 8) d_Md_isBody_49 (by decide) ?_
        refine sm_icmp_gt (tgt := 81) d_Md_isBody_51 (by decide) (fun h25 => ?_) (fun h25 => ?_)
        · rw [if_pos h25] at hf
          exact sm_pick [0, 1, 2] (w_Md_isBody_81 _ _ _ hI hf) rfl
        · rw [if_neg h25] at hf
          refine sm_aload_n d_Md_isBody_54 rfl (j := 0) rfl ?_
          refine sm_iload_n d_Md_isBody_55 rfl (j := 1) rfl ?_
          refine sm_iconst (v := 3) d_Md_isBody_56 (by decide) ?_
          refine sm_iadd d_Md_isBody_57 ?_
          obtain ⟨r26, e27, hf⟩ := lo_bnd hf
          refine lo_callV d_Md_isBody_58 cs_Md_isBody_233 rfl hI ml_0 (As := [.int (x1 + (3 : Int32))]) rfl rfl (Nat.le_of_ble_eq_true rfl) (c_Md_u1 hI (x1 + (3 : Int32)) e27) ?_
          refine sm_bipush (v := 64) d_Md_isBody_61 (by decide) ?_
          refine sm_icmp_ge (tgt := 81) d_Md_isBody_63 (by decide) (fun h28 => ?_) (fun h28 => ?_)
          · rw [if_pos h28] at hf
            exact sm_pick [0, 1, 2] (w_Md_isBody_81 _ _ _ hI hf) rfl
          · rw [if_neg h28] at hf
            refine sm_aload_n d_Md_isBody_66 rfl (j := 0) rfl ?_
            refine sm_iload_n d_Md_isBody_67 rfl (j := 1) rfl ?_
            refine sm_iconst (v := 4) d_Md_isBody_68 (by decide) ?_
            refine sm_iadd d_Md_isBody_69 ?_
            obtain ⟨r29, e30, hf⟩ := lo_bnd hf
            refine lo_callV d_Md_isBody_70 cs_Md_isBody_233 rfl hI ml_0 (As := [.int (x1 + (4 : Int32))]) rfl rfl (Nat.le_of_ble_eq_true rfl) (c_Md_u1 hI (x1 + (4 : Int32)) e30) ?_
            refine sm_iconst (v := 1) d_Md_isBody_73 (by decide) ?_
            refine sm_icmp_gt (tgt := 81) d_Md_isBody_74 (by decide) (fun h31 => ?_) (fun h31 => ?_)
            · rw [if_pos h31] at hf
              exact sm_pick [0, 1, 2] (w_Md_isBody_81 _ _ _ hI hf) rfl
            · rw [if_neg h31] at hf
              refine sm_iconst (v := 1) d_Md_isBody_77 (by decide) ?_
              refine sm_goto (tgt := 82) d_Md_isBody_78 (by decide) ?_
              exact sm_pick [0, 1, 2] (w_Md_isBody_82 _ _ _ _ hI hf) rfl

def fn_Md_areChanges_134 (k4 : wd → Int32 → Bool → Int32 → Option (Bool)) (F : Nat) (w : wd) (x1 : Int32) (x3 : Int32) (s0 : Bool) : Option (Bool) := k4 w x1 s0 (x3 + 1)
set_option maxHeartbeats 1600000 in
set_option maxRecDepth 100000 in
theorem w_Md_areChanges_134 {G : sm_G} {b : Nat} {M0 : sm_M} {bc bs : Nat} {R : Bool} {F : Nat} {k4 : wd → Int32 → Bool → Int32 → Option (Bool)} (hk4 : ∀ (w : wd) (x1 : Int32) (x2 : Bool) (x3 : Int32), lo_in G md_L b M0 M0 w → k4 w x1 x2 x3 = some R → sm_W G mf_Md_areChanges 4 [(0, .ref (b + 0)), (1, .int x1), (2, .int (bi x2)), (3, .int x3)] [] M0 bc bs (sm_pu M0 (.int (bi R)))) : ∀ (w : wd) (x1 : Int32) (x3 : Int32) (s0 : Bool), lo_in G md_L b M0 M0 w → fn_Md_areChanges_134 k4 F w x1 x3 s0 = some R → sm_W G mf_Md_areChanges 134 [(0, .ref (b + 0)), (1, .int x1), (3, .int x3)] [.int (bi s0)] M0 bc bs (sm_pu M0 (.int (bi R))) := by
  intro w x1 x3 s0 hI  hf
  unfold fn_Md_areChanges_134 at hf
  refine sm_istore_n d_Md_areChanges_134 rfl (by decide) rfl ?_
  refine sm_iinc (v := (x3 + 1)) d_Md_areChanges_135 (j := 3) rfl rfl (by decide) rfl ?_
  refine sm_goto (tgt := 4) d_Md_areChanges_138 (by decide) ?_
  exact sm_pick [2, 3, 1, 0] (hk4 _ _ _ _ hI hf) rfl

def fn_Md_areChanges_133 (k4 : wd → Int32 → Bool → Int32 → Option (Bool)) (F : Nat) (w : wd) (x1 : Int32) (x3 : Int32) : Option (Bool) := fn_Md_areChanges_134 k4 F w x1 x3 false
set_option maxHeartbeats 1600000 in
set_option maxRecDepth 100000 in
theorem w_Md_areChanges_133 {G : sm_G} {b : Nat} {M0 : sm_M} {bc bs : Nat} {R : Bool} {F : Nat} {k4 : wd → Int32 → Bool → Int32 → Option (Bool)} (hk4 : ∀ (w : wd) (x1 : Int32) (x2 : Bool) (x3 : Int32), lo_in G md_L b M0 M0 w → k4 w x1 x2 x3 = some R → sm_W G mf_Md_areChanges 4 [(0, .ref (b + 0)), (1, .int x1), (2, .int (bi x2)), (3, .int x3)] [] M0 bc bs (sm_pu M0 (.int (bi R)))) : ∀ (w : wd) (x1 : Int32) (x3 : Int32), lo_in G md_L b M0 M0 w → fn_Md_areChanges_133 k4 F w x1 x3 = some R → sm_W G mf_Md_areChanges 133 [(0, .ref (b + 0)), (1, .int x1), (3, .int x3)] [] M0 bc bs (sm_pu M0 (.int (bi R))) := by
  intro w x1 x3 hI  hf
  unfold fn_Md_areChanges_133 at hf
  refine sm_iconst (v := 0) d_Md_areChanges_133 (by decide) ?_
  exact sm_pick [0, 1, 2] (w_Md_areChanges_134 hk4 _ _ _ _ hI hf) rfl

def fn_Md_areChanges_59 (k4 : wd → Int32 → Bool → Int32 → Option (Bool)) (F : Nat) (w : wd) (x1 : Int32) (x3 : Int32) (x4 : Int32) (s0 : Int32) : Option (Bool) := ((fn_Md_u1 w (x4 + (4 : Int32))).bind fun r10 => ((fn_Md_u1 w x4).bind fun r12 => (if r10 ≤ r12 then fn_Md_areChanges_133 k4 F w x1 x3 else ((fn_Md_u1 w (x4 + (4 : Int32))).bind fun r15 => (if (33 : Int32) < r15 then fn_Md_areChanges_133 k4 F w x1 x3 else ((fn_Md_u1 w (x4 + (1 : Int32))).bind fun r18 => (if s0 ≤ r18 then fn_Md_areChanges_133 k4 F w x1 x3 else ((fn_Md_u2 w (x4 + (2 : Int32))).bind fun r21 => (if r21 < (1 : Int32) then fn_Md_areChanges_133 k4 F w x1 x3 else ((fn_Md_u1 w (x4 + (6 : Int32))).bind fun r24 => (if (4 : Int32) < r24 then fn_Md_areChanges_133 k4 F w x1 x3 else fn_Md_areChanges_134 k4 F w x1 x3 true)))))))))))
set_option maxHeartbeats 1600000 in
set_option maxRecDepth 100000 in
theorem w_Md_areChanges_59 {G : sm_G} {b : Nat} {M0 : sm_M} {bc bs : Nat} {R : Bool} {F : Nat} {k4 : wd → Int32 → Bool → Int32 → Option (Bool)} (hk4 : ∀ (w : wd) (x1 : Int32) (x2 : Bool) (x3 : Int32), lo_in G md_L b M0 M0 w → k4 w x1 x2 x3 = some R → sm_W G mf_Md_areChanges 4 [(0, .ref (b + 0)), (1, .int x1), (2, .int (bi x2)), (3, .int x3)] [] M0 bc bs (sm_pu M0 (.int (bi R)))) : ∀ (w : wd) (x1 : Int32) (x3 : Int32) (x4 : Int32) (s0 : Int32), lo_in G md_L b M0 M0 w → fn_Md_areChanges_59 k4 F w x1 x3 x4 s0 = some R → sm_W G mf_Md_areChanges 59 [(0, .ref (b + 0)), (1, .int x1), (3, .int x3), (4, .int x4)] [.int s0] M0 bc bs (sm_pu M0 (.int (bi R))) := by
  intro w x1 x3 x4 s0 hI  hf
  unfold fn_Md_areChanges_59 at hf
  refine sm_istore d_Md_areChanges_59 (by decide) rfl ?_
  refine sm_aload_n d_Md_areChanges_61 rfl (j := 1) rfl ?_
  refine sm_iload d_Md_areChanges_62 (j := 4) rfl ?_
  refine sm_iconst (v := 4) d_Md_areChanges_64 (by decide) ?_
  refine sm_iadd d_Md_areChanges_65 ?_
  obtain ⟨r10, e11, hf⟩ := lo_bnd hf
  refine lo_callV d_Md_areChanges_66 cs_Md_areChanges_233 rfl hI ml_0 (As := [.int (x4 + (4 : Int32))]) rfl rfl (Nat.le_of_ble_eq_true rfl) (c_Md_u1 hI (x4 + (4 : Int32)) e11) ?_
  refine sm_aload_n d_Md_areChanges_69 rfl (j := 1) rfl ?_
  refine sm_iload d_Md_areChanges_70 (j := 4) rfl ?_
  obtain ⟨r12, e13, hf⟩ := lo_bnd hf
  refine lo_callV d_Md_areChanges_72 cs_Md_areChanges_233 rfl hI ml_0 (As := [.int x4]) rfl rfl (Nat.le_of_ble_eq_true rfl) (c_Md_u1 hI x4 e13) ?_
  refine sm_icmp_le (tgt := 133) d_Md_areChanges_75 (by decide) (fun h14 => ?_) (fun h14 => ?_)
  · rw [if_pos h14] at hf
    exact sm_pick [1, 2, 3] (w_Md_areChanges_133 hk4 _ _ _ hI hf) rfl
  · rw [if_neg h14] at hf
    refine sm_aload_n d_Md_areChanges_78 rfl (j := 1) rfl ?_
    refine sm_iload d_Md_areChanges_79 (j := 4) rfl ?_
    refine sm_iconst (v := 4) d_Md_areChanges_81 (by decide) ?_
    refine sm_iadd d_Md_areChanges_82 ?_
    obtain ⟨r15, e16, hf⟩ := lo_bnd hf
    refine lo_callV d_Md_areChanges_83 cs_Md_areChanges_233 rfl hI ml_0 (As := [.int (x4 + (4 : Int32))]) rfl rfl (Nat.le_of_ble_eq_true rfl) (c_Md_u1 hI (x4 + (4 : Int32)) e16) ?_
    refine sm_bipush (v := 33) d_Md_areChanges_86 (by decide) ?_
    refine sm_icmp_gt (tgt := 133) d_Md_areChanges_88 (by decide) (fun h17 => ?_) (fun h17 => ?_)
    · rw [if_pos h17] at hf
      exact sm_pick [1, 2, 3] (w_Md_areChanges_133 hk4 _ _ _ hI hf) rfl
    · rw [if_neg h17] at hf
      refine sm_iload d_Md_areChanges_91 (j := 0) rfl ?_
      refine sm_aload_n d_Md_areChanges_93 rfl (j := 1) rfl ?_
      refine sm_iload d_Md_areChanges_94 (j := 4) rfl ?_
      refine sm_iconst (v := 1) d_Md_areChanges_96 (by decide) ?_
      refine sm_iadd d_Md_areChanges_97 ?_
      obtain ⟨r18, e19, hf⟩ := lo_bnd hf
      refine lo_callV d_Md_areChanges_98 cs_Md_areChanges_233 rfl hI ml_0 (As := [.int (x4 + (1 : Int32))]) rfl rfl (Nat.le_of_ble_eq_true rfl) (c_Md_u1 hI (x4 + (1 : Int32)) e19) ?_
      refine sm_icmp_le (tgt := 133) d_Md_areChanges_101 (by decide) (fun h20 => ?_) (fun h20 => ?_)
      · rw [if_pos h20] at hf
        exact sm_pick [1, 2, 3] (w_Md_areChanges_133 hk4 _ _ _ hI hf) rfl
      · rw [if_neg h20] at hf
        refine sm_aload_n d_Md_areChanges_104 rfl (j := 1) rfl ?_
        refine sm_iload d_Md_areChanges_105 (j := 4) rfl ?_
        refine sm_iconst (v := 2) d_Md_areChanges_107 (by decide) ?_
        refine sm_iadd d_Md_areChanges_108 ?_
        obtain ⟨r21, e22, hf⟩ := lo_bnd hf
        refine lo_callV d_Md_areChanges_109 cs_Md_areChanges_230 rfl hI ml_0 (As := [.int (x4 + (2 : Int32))]) rfl rfl (Nat.le_of_ble_eq_true rfl) (c_Md_u2 hI (x4 + (2 : Int32)) e22) ?_
        refine sm_iconst (v := 1) d_Md_areChanges_112 (by decide) ?_
        refine sm_icmp_lt (tgt := 133) d_Md_areChanges_113 (by decide) (fun h23 => ?_) (fun h23 => ?_)
        · rw [if_pos h23] at hf
          exact sm_pick [1, 2, 3] (w_Md_areChanges_133 hk4 _ _ _ hI hf) rfl
        · rw [if_neg h23] at hf
          refine sm_aload_n d_Md_areChanges_116 rfl (j := 1) rfl ?_
          refine sm_iload d_Md_areChanges_117 (j := 4) rfl ?_
          refine sm_bipush (v := 6) d_Md_areChanges_119 (by decide) ?_
          refine sm_iadd d_Md_areChanges_121 ?_
          obtain ⟨r24, e25, hf⟩ := lo_bnd hf
          refine lo_callV d_Md_areChanges_122 cs_Md_areChanges_233 rfl hI ml_0 (As := [.int (x4 + (6 : Int32))]) rfl rfl (Nat.le_of_ble_eq_true rfl) (c_Md_u1 hI (x4 + (6 : Int32)) e25) ?_
          refine sm_iconst (v := 4) d_Md_areChanges_125 (by decide) ?_
          refine sm_icmp_gt (tgt := 133) d_Md_areChanges_126 (by decide) (fun h26 => ?_) (fun h26 => ?_)
          · rw [if_pos h26] at hf
            exact sm_pick [1, 2, 3] (w_Md_areChanges_133 hk4 _ _ _ hI hf) rfl
          · rw [if_neg h26] at hf
            refine sm_iconst (v := 1) d_Md_areChanges_129 (by decide) ?_
            refine sm_goto (tgt := 134) d_Md_areChanges_130 (by decide) ?_
            exact sm_pick [1, 2, 3] (w_Md_areChanges_134 hk4 _ _ _ _ hI hf) rfl

def fn_Md_areChanges_4 (F : Nat) : Nat → wd → Int32 → Bool → Int32 → Option (Bool)
 | 0, _, _, _, _ => none
 | n9 + 1, w, x1, x2, x3 => ((fn_Md_u2 w (x1 + (2 : Int32))).bind fun r1 => (if ((r1 - (2 : Int32)) / (7 : Int32)) ≤ x3 then some x2 else (if x2 = true then ((fn_Md_u1 w (((x1 + (4 : Int32)) + ((7 : Int32) * x3)) + (5 : Int32))).bind fun r5 => (if r5 = 0 then fn_Md_areChanges_59 (fn_Md_areChanges_4 F n9) F w x1 x3 ((x1 + (4 : Int32)) + ((7 : Int32) * x3)) (256 : Int32) else ((fn_Md_u1 w (((x1 + (4 : Int32)) + ((7 : Int32) * x3)) + (5 : Int32))).bind fun r8 => fn_Md_areChanges_59 (fn_Md_areChanges_4 F n9) F w x1 x3 ((x1 + (4 : Int32)) + ((7 : Int32) * x3)) r8))) else some x2)))
set_option maxHeartbeats 1600000 in
set_option maxRecDepth 100000 in
theorem w_Md_areChanges_4 {G : sm_G} {b : Nat} {M0 : sm_M} {bc bs : Nat} {R : Bool} {F : Nat} : ∀ (n9 : Nat), ∀ (w : wd) (x1 : Int32) (x2 : Bool) (x3 : Int32), lo_in G md_L b M0 M0 w → fn_Md_areChanges_4 F n9 w x1 x2 x3 = some R → sm_W G mf_Md_areChanges 4 [(0, .ref (b + 0)), (1, .int x1), (2, .int (bi x2)), (3, .int x3)] [] M0 bc bs (sm_pu M0 (.int (bi R))) := by
  intro n9
  induction n9 with
  | zero => intro w x1 x2 x3 hI  hf; cases hf
  | succ n9 ih =>
    intro w x1 x2 x3 hI  hf
    rw [fn_Md_areChanges_4] at hf
    refine sm_iload_n d_Md_areChanges_4 rfl (j := 3) rfl ?_
    refine sm_aload_n d_Md_areChanges_5 rfl (j := 0) rfl ?_
    refine sm_iload_n d_Md_areChanges_6 rfl (j := 1) rfl ?_
    refine sm_iconst (v := 2) d_Md_areChanges_7 (by decide) ?_
    refine sm_iadd d_Md_areChanges_8 ?_
    obtain ⟨r1, e2, hf⟩ := lo_bnd hf
    refine lo_callV d_Md_areChanges_9 cs_Md_areChanges_230 rfl hI ml_0 (As := [.int (x1 + (2 : Int32))]) rfl rfl (Nat.le_of_ble_eq_true rfl) (c_Md_u2 hI (x1 + (2 : Int32)) e2) ?_
    refine sm_iconst (v := 2) d_Md_areChanges_12 (by decide) ?_
    refine sm_isub d_Md_areChanges_13 ?_
    refine sm_bipush (v := 7) d_Md_areChanges_14 (by decide) ?_
    refine sm_idiv d_Md_areChanges_16 (by decide) ?_
    refine sm_icmp_ge (tgt := 141) d_Md_areChanges_17 (by decide) (fun h3 => ?_) (fun h3 => ?_)
    · rw [if_pos h3] at hf
      refine sm_iload_n d_Md_areChanges_141 rfl (j := 2) rfl ?_
      cases hf
      refine sm_ireturn d_Md_areChanges_142 rfl (bi_n _) ?_
      exact ⟨rfl, rfl⟩
    · rw [if_neg h3] at hf
      refine sm_iload_n d_Md_areChanges_20 rfl (j := 2) rfl ?_
      refine sm_if_eq (tgt := 141) d_Md_areChanges_21 (by decide) (fun h4 => ?_) (fun h4 => ?_)
      · rw [if_neg (bi0 h4)] at hf
        refine sm_iload_n d_Md_areChanges_141 rfl (j := 2) rfl ?_
        cases hf
        refine sm_ireturn d_Md_areChanges_142 rfl (bi_n _) ?_
        exact ⟨rfl, rfl⟩
      · rw [if_pos (bi1 h4)] at hf
        refine sm_iload_n d_Md_areChanges_24 rfl (j := 1) rfl ?_
        refine sm_iconst (v := 4) d_Md_areChanges_25 (by decide) ?_
        refine sm_iadd d_Md_areChanges_26 ?_
        refine sm_bipush (v := 7) d_Md_areChanges_27 (by decide) ?_
        refine sm_iload_n d_Md_areChanges_29 rfl (j := 3) rfl ?_
        refine sm_imul d_Md_areChanges_30 ?_
        refine sm_iadd d_Md_areChanges_31 ?_
        refine sm_istore d_Md_areChanges_32 (by decide) rfl ?_
        refine sm_aload_n d_Md_areChanges_34 rfl (j := 1) rfl ?_
        refine sm_iload d_Md_areChanges_35 (j := 0) rfl ?_
        refine sm_iconst (v := 5) d_Md_areChanges_37 (by decide) ?_
        refine sm_iadd d_Md_areChanges_38 ?_
        obtain ⟨r5, e6, hf⟩ := lo_bnd hf
        refine lo_callV d_Md_areChanges_39 cs_Md_areChanges_233 rfl hI ml_0 (As := [.int (((x1 + (4 : Int32)) + ((7 : Int32) * x3)) + (5 : Int32))]) rfl rfl (Nat.le_of_ble_eq_true rfl) (c_Md_u1 hI (((x1 + (4 : Int32)) + ((7 : Int32) * x3)) + (5 : Int32)) e6) ?_
        refine sm_if_ne (tgt := 51) d_Md_areChanges_42 (by decide) (fun h7 => ?_) (fun h7 => ?_)
        · rw [if_neg h7] at hf
          refine sm_aload_n d_Md_areChanges_51 rfl (j := 1) rfl ?_
          refine sm_iload d_Md_areChanges_52 (j := 0) rfl ?_
          refine sm_iconst (v := 5) d_Md_areChanges_54 (by decide) ?_
          refine sm_iadd d_Md_areChanges_55 ?_
          obtain ⟨r8, e9, hf⟩ := lo_bnd hf
          refine lo_callV d_Md_areChanges_56 cs_Md_areChanges_233 rfl hI ml_0 (As := [.int (((x1 + (4 : Int32)) + ((7 : Int32) * x3)) + (5 : Int32))]) rfl rfl (Nat.le_of_ble_eq_true rfl) (c_Md_u1 hI (((x1 + (4 : Int32)) + ((7 : Int32) * x3)) + (5 : Int32)) e9) ?_
          exact sm_pick [1, 2, 4, 0] (w_Md_areChanges_59 ih _ _ _ _ _ hI hf) rfl
        · rw [if_pos h7] at hf
          refine sm_sipush (v := 256) d_Md_areChanges_45 (by decide) ?_
          refine sm_goto (tgt := 59) d_Md_areChanges_48 (by decide) ?_
          exact sm_pick [1, 2, 4, 0] (w_Md_areChanges_59 ih _ _ _ _ _ hI hf) rfl

def fn_Md_areChanges (F : Nat) (w : wd) (x1 : Int32) : Option (Bool) := fn_Md_areChanges_4 F F w x1 true (0 : Int32)
set_option maxHeartbeats 1600000 in
set_option maxRecDepth 100000 in
theorem c_Md_areChanges {G : sm_G} {b : Nat} {M0 M : sm_M}  {w : wd} {F : Nat} (hI : lo_in G md_L b M0 M w)  (x1 : Int32)  {R : Bool} (hf : fn_Md_areChanges F w x1 = some R) : sm_C G mf_Md_areChanges [.ref (b + 0), .int x1] M 0 0 (sm_pu M (.int (bi R))) := by
  unfold fn_Md_areChanges at hf
  have hI := hI.here
  refine sm_ofW rfl (Nat.le_of_ble_eq_true rfl) ?_
  refine sm_iconst (v := 1) d_Md_areChanges_0 (by decide) ?_
  refine sm_istore_n d_Md_areChanges_1 rfl (by decide) rfl ?_
  refine sm_iconst (v := 0) d_Md_areChanges_2 (by decide) ?_
  refine sm_istore_n d_Md_areChanges_3 rfl (by decide) rfl ?_
  exact sm_pick [2, 3, 1, 0] (w_Md_areChanges_4 _ _ _ _ _ hI hf) rfl

def fn_Md_isThere (w : wd) (x1 : Int32) : Bool := (if (w 0 35) ≤ x1 then false else true)
set_option maxHeartbeats 1600000 in
set_option maxRecDepth 100000 in
theorem c_Md_isThere {G : sm_G} {b : Nat} {M0 M : sm_M}  {w : wd}  (hI : lo_in G md_L b M0 M w)  (x1 : Int32)  : sm_C G mf_Md_isThere [.ref (b + 0), .int x1] M 0 0 (sm_pu M (.int (bi (fn_Md_isThere w x1)))) := by
  obtain ⟨R, hf⟩ : ∃ R, fn_Md_isThere w x1 = R := ⟨_, rfl⟩
  rw [hf]
  unfold fn_Md_isThere at hf
  have hI := hI.here
  refine sm_ofW rfl (Nat.le_of_ble_eq_true rfl) ?_
  refine sm_iload_n d_Md_isThere_0 rfl (j := 1) rfl ?_
  refine sm_aload_n d_Md_isThere_1 rfl (j := 0) rfl ?_
  refine lo_get (v := .int (w 0 35)) d_Md_isThere_2 fg_Md_259 hI ml_0 rfl ?_
  refine sm_icmp_ge (tgt := 12) d_Md_isThere_5 (by decide) (fun h1 => ?_) (fun h1 => ?_)
  · rw [if_pos h1] at hf
    refine sm_iconst (v := 0) d_Md_isThere_12 (by decide) ?_
    subst hf
    refine sm_ireturn d_Md_isThere_13 rfl (by rfl) ?_
    exact ⟨rfl, rfl⟩
  · rw [if_neg h1] at hf
    refine sm_iconst (v := 1) d_Md_isThere_8 (by decide) ?_
    refine sm_goto (tgt := 13) d_Md_isThere_9 (by decide) ?_
    subst hf
    refine sm_ireturn d_Md_isThere_13 rfl (by rfl) ?_
    exact ⟨rfl, rfl⟩

