/-! StreamMarksModel, on; written by wip/tools/model.py -/
def fn_Md_get_124 (w : wd) (x1 : Int32) (x2 : Int32) (x3 : Int32) (x5 : Bool) (x6 : Bool) (s0 : Bool) : Option (Int32 × wd) := (if (fn_Md_refuse w s0 false).1 = true then some ((0 : Int32), (fn_Md_refuse w s0 false).2) else (if x5 = true then ((fn_Md_ofComponent (fn_Md_refuse w s0 false).2 x1 x2 x3).bind fun r18 => some (r18, (fn_Md_refuse w s0 false).2)) else (if x6 = true then (if 0 ≤ ((((6 : Int32) * x2) + x1) - (40 : Int32)).toInt ∧ ((((6 : Int32) * x2) + x1) - (40 : Int32)).toInt < 192 then some (((fn_Md_refuse w s0 false).2 10 (((((6 : Int32) * x2) + x1) - (40 : Int32)).toInt.toNat)), (fn_Md_refuse w s0 false).2) else none) else (if (8 : Int32) ≤ x1 then (if x1 = 8 then some (((fn_Md_refuse w s0 false).2 0 3), (fn_Md_refuse w s0 false).2) else (if x1 = 9 then some (((fn_Md_refuse w s0 false).2 0 8), (fn_Md_refuse w s0 false).2) else (if x1 = 10 then some (((fn_Md_refuse w s0 false).2 0 9), (fn_Md_refuse w s0 false).2) else (if x1 = 11 then some (((fn_Md_refuse w s0 false).2 0 10), (fn_Md_refuse w s0 false).2) else (if x1 = 12 then some (((fn_Md_refuse w s0 false).2 0 11), (fn_Md_refuse w s0 false).2) else (if x1 = 13 then some (((fn_Md_refuse w s0 false).2 0 12), (fn_Md_refuse w s0 false).2) else some (((fn_Md_refuse w s0 false).2 0 17), (fn_Md_refuse w s0 false).2))))))) else (if 0 ≤ x1.toInt ∧ x1.toInt < 8 then some (((fn_Md_refuse w s0 false).2 1 x1.toInt.toNat), (fn_Md_refuse w s0 false).2) else none)))))
set_option maxHeartbeats 1600000 in
set_option maxRecDepth 100000 in
theorem w_Md_get_124 {G : sm_G} {b : Nat} {M0 : sm_M} {bc bs : Nat} {R : Int32 × wd} : ∀ (M : sm_M) (w : wd) (x1 : Int32) (x2 : Int32) (x3 : Int32) (x5 : Bool) (x6 : Bool) (s0 : Bool), lo_in G md_L b M0 M w → fn_Md_get_124 w x1 x2 x3 x5 x6 s0 = some R → sm_W G mf_Md_get 124 [(0, .ref (b + 0)), (1, .int x1), (2, .int x2), (3, .int x3), (5, .int (bi x5)), (6, .int (bi x6))] [.int (bi s0), .ref (b + 0)] M bc bs (wd_Q G md_L b M0 (some (.int R.1)) R.2) := by
  intro M w x1 x2 x3 x5 x6 s0 hI  hf
  unfold fn_Md_get_124 at hf
  refine sm_iconst (v := 0) d_Md_get_124 (by decide) ?_
  refine lo_callVm d_Md_get_125 cs_Md_get_106 rfl hI ml_0 (As := [.int (bi s0), .int (0 : Int32)]) rfl rfl (Nat.le_of_ble_eq_true rfl) (c_Md_refuse hI s0 false) (fun M4 hI5 => ?_)
  refine sm_if_eq (tgt := 133) d_Md_get_128 (by decide) (fun h6 => ?_) (fun h6 => ?_)
  · rw [if_neg (bi0 h6)] at hf
    refine sm_iload d_Md_get_133 (j := 4) rfl ?_
    refine sm_if_eq (tgt := 146) d_Md_get_135 (by decide) (fun h7 => ?_) (fun h7 => ?_)
    · rw [if_neg (bi0 h7)] at hf
      refine sm_iload d_Md_get_146 (j := 5) rfl ?_
      refine sm_if_eq (tgt := 166) d_Md_get_148 (by decide) (fun h8 => ?_) (fun h8 => ?_)
      · rw [if_neg (bi0 h8)] at hf
        refine sm_iload_n d_Md_get_166 rfl (j := 1) rfl ?_
        refine sm_bipush (v := 8) d_Md_get_167 (by decide) ?_
        refine sm_icmp_ge (tgt := 179) d_Md_get_169 (by decide) (fun h9 => ?_) (fun h9 => ?_)
        · rw [if_pos h9] at hf
          refine sm_iload_n d_Md_get_179 rfl (j := 1) rfl ?_
          by_cases h10 : x1 = 8
          · rw [if_pos h10] at hf
            refine sm_tableIn (tgt := 220) d_Md_get_180 (by rw [h10] <;> decide) (by rw [h10] <;> decide) (by rw [h10] <;> rfl) (by decide) ?_
            refine sm_aload_n d_Md_get_220 rfl (j := 0) rfl ?_
            refine lo_get (v := .int ((fn_Md_refuse w s0 false).2 0 3)) d_Md_get_221 fg_Md_88 hI5 ml_0 rfl ?_
            cases hf
            refine sm_ireturn d_Md_get_224 rfl (by rfl) ?_
            exact ⟨rfl, hI5⟩
          · rw [if_neg h10] at hf
            by_cases h11 : x1 = 9
            · rw [if_pos h11] at hf
              refine sm_tableIn (tgt := 225) d_Md_get_180 (by rw [h11] <;> decide) (by rw [h11] <;> decide) (by rw [h11] <;> rfl) (by decide) ?_
              refine sm_aload_n d_Md_get_225 rfl (j := 0) rfl ?_
              refine lo_get (v := .int ((fn_Md_refuse w s0 false).2 0 8)) d_Md_get_226 fg_Md_91 hI5 ml_0 rfl ?_
              cases hf
              refine sm_ireturn d_Md_get_229 rfl (by rfl) ?_
              exact ⟨rfl, hI5⟩
            · rw [if_neg h11] at hf
              by_cases h12 : x1 = 10
              · rw [if_pos h12] at hf
                refine sm_tableIn (tgt := 230) d_Md_get_180 (by rw [h12] <;> decide) (by rw [h12] <;> decide) (by rw [h12] <;> rfl) (by decide) ?_
                refine sm_aload_n d_Md_get_230 rfl (j := 0) rfl ?_
                refine lo_get (v := .int ((fn_Md_refuse w s0 false).2 0 9)) d_Md_get_231 fg_Md_25 hI5 ml_0 rfl ?_
                cases hf
                refine sm_ireturn d_Md_get_234 rfl (by rfl) ?_
                exact ⟨rfl, hI5⟩
              · rw [if_neg h12] at hf
                by_cases h13 : x1 = 11
                · rw [if_pos h13] at hf
                  refine sm_tableIn (tgt := 235) d_Md_get_180 (by rw [h13] <;> decide) (by rw [h13] <;> decide) (by rw [h13] <;> rfl) (by decide) ?_
                  refine sm_aload_n d_Md_get_235 rfl (j := 0) rfl ?_
                  refine lo_get (v := .int ((fn_Md_refuse w s0 false).2 0 10)) d_Md_get_236 fg_Md_94 hI5 ml_0 rfl ?_
                  cases hf
                  refine sm_ireturn d_Md_get_239 rfl (by rfl) ?_
                  exact ⟨rfl, hI5⟩
                · rw [if_neg h13] at hf
                  by_cases h14 : x1 = 12
                  · rw [if_pos h14] at hf
                    refine sm_tableIn (tgt := 240) d_Md_get_180 (by rw [h14] <;> decide) (by rw [h14] <;> decide) (by rw [h14] <;> rfl) (by decide) ?_
                    refine sm_aload_n d_Md_get_240 rfl (j := 0) rfl ?_
                    refine lo_get (v := .int ((fn_Md_refuse w s0 false).2 0 11)) d_Md_get_241 fg_Md_97 hI5 ml_0 rfl ?_
                    cases hf
                    refine sm_ireturn d_Md_get_244 rfl (by rfl) ?_
                    exact ⟨rfl, hI5⟩
                  · rw [if_neg h14] at hf
                    by_cases h15 : x1 = 13
                    · rw [if_pos h15] at hf
                      refine sm_tableIn (tgt := 245) d_Md_get_180 (by rw [h15] <;> decide) (by rw [h15] <;> decide) (by rw [h15] <;> rfl) (by decide) ?_
                      refine sm_aload_n d_Md_get_245 rfl (j := 0) rfl ?_
                      refine lo_get (v := .int ((fn_Md_refuse w s0 false).2 0 12)) d_Md_get_246 fg_Md_100 hI5 ml_0 rfl ?_
                      cases hf
                      refine sm_ireturn d_Md_get_249 rfl (by rfl) ?_
                      exact ⟨rfl, hI5⟩
                    · rw [if_neg h15] at hf
                      refine sm_tableOut (tgt := 250) d_Md_get_180 (by have := (mt sm_eqI.mpr h10); rw [show ((8 : Int32)).toInt = 8 by decide] at this; have := (mt sm_eqI.mpr h11); rw [show ((9 : Int32)).toInt = 9 by decide] at this; have := (mt sm_eqI.mpr h12); rw [show ((10 : Int32)).toInt = 10 by decide] at this; have := (mt sm_eqI.mpr h13); rw [show ((11 : Int32)).toInt = 11 by decide] at this; have := (mt sm_eqI.mpr h14); rw [show ((12 : Int32)).toInt = 12 by decide] at this; have := (mt sm_eqI.mpr h15); rw [show ((13 : Int32)).toInt = 13 by decide] at this; omega) (by decide) ?_
                      refine sm_aload_n d_Md_get_250 rfl (j := 0) rfl ?_
                      refine lo_get (v := .int ((fn_Md_refuse w s0 false).2 0 17)) d_Md_get_251 fg_Md_103 hI5 ml_0 rfl ?_
                      cases hf
                      refine sm_ireturn d_Md_get_254 rfl (by rfl) ?_
                      exact ⟨rfl, hI5⟩
        · rw [if_neg h9] at hf
          refine sm_aload_n d_Md_get_172 rfl (j := 0) rfl ?_
          refine lo_get (v := .ref (b + 1)) d_Md_get_173 fg_Md_7 hI5 ml_0 rfl ?_
          refine sm_iload_n d_Md_get_176 rfl (j := 1) rfl ?_
          obtain ⟨h16, hf⟩ := lo_chk hf
          refine lo_ald (j := x1.toInt.toNat) d_Md_get_177 hI5 ml_1 h16 rfl ?_
          cases hf
          refine sm_ireturn d_Md_get_178 rfl (by rfl) ?_
          exact ⟨rfl, hI5⟩
      · rw [if_pos (bi1 h8)] at hf
        refine sm_aload_n d_Md_get_151 rfl (j := 0) rfl ?_
        refine lo_get (v := .ref (b + 10)) d_Md_get_152 fg_Md_41 hI5 ml_0 rfl ?_
        refine sm_bipush (v := 6) d_Md_get_155 (by decide) ?_
        refine sm_iload_n d_Md_get_157 rfl (j := 2) rfl ?_
        refine sm_imul d_Md_get_158 ?_
        refine sm_iload_n d_Md_get_159 rfl (j := 1) rfl ?_
        refine sm_iadd d_Md_get_160 ?_
        refine sm_bipush (v := 40) d_Md_get_161 (by decide) ?_
        refine sm_isub d_Md_get_163 ?_
        obtain ⟨h17, hf⟩ := lo_chk hf
        refine lo_ald (j := ((((6 : Int32) * x2) + x1) - (40 : Int32)).toInt.toNat) d_Md_get_164 hI5 ml_10 h17 rfl ?_
        cases hf
        refine sm_ireturn d_Md_get_165 rfl (by rfl) ?_
        exact ⟨rfl, hI5⟩
    · rw [if_pos (bi1 h7)] at hf
      refine sm_aload_n d_Md_get_138 rfl (j := 0) rfl ?_
      refine sm_iload_n d_Md_get_139 rfl (j := 1) rfl ?_
      refine sm_iload_n d_Md_get_140 rfl (j := 2) rfl ?_
      refine sm_iload_n d_Md_get_141 rfl (j := 3) rfl ?_
      obtain ⟨r18, e19, hf⟩ := lo_bnd hf
      refine lo_callV d_Md_get_142 cs_Md_get_170 rfl hI5 ml_0 (As := [.int x1, .int x2, .int x3]) rfl rfl (Nat.le_of_ble_eq_true rfl) (c_Md_ofComponent hI5 x1 x2 x3 e19) ?_
      cases hf
      refine sm_ireturn d_Md_get_145 rfl (by rfl) ?_
      exact ⟨rfl, hI5⟩
  · rw [if_pos (bi1 h6)] at hf
    refine sm_iconst (v := 0) d_Md_get_131 (by decide) ?_
    cases hf
    refine sm_ireturn d_Md_get_132 rfl (by rfl) ?_
    exact ⟨rfl, hI5⟩

def fn_Md_get_123 (w : wd) (x1 : Int32) (x2 : Int32) (x3 : Int32) (x5 : Bool) (x6 : Bool) : Option (Int32 × wd) := fn_Md_get_124 w x1 x2 x3 x5 x6 false
set_option maxHeartbeats 1600000 in
set_option maxRecDepth 100000 in
theorem w_Md_get_123 {G : sm_G} {b : Nat} {M0 : sm_M} {bc bs : Nat} {R : Int32 × wd} : ∀ (M : sm_M) (w : wd) (x1 : Int32) (x2 : Int32) (x3 : Int32) (x5 : Bool) (x6 : Bool), lo_in G md_L b M0 M w → fn_Md_get_123 w x1 x2 x3 x5 x6 = some R → sm_W G mf_Md_get 123 [(0, .ref (b + 0)), (1, .int x1), (2, .int x2), (3, .int x3), (5, .int (bi x5)), (6, .int (bi x6))] [.ref (b + 0)] M bc bs (wd_Q G md_L b M0 (some (.int R.1)) R.2) := by
  intro M w x1 x2 x3 x5 x6 hI  hf
  unfold fn_Md_get_123 at hf
  refine sm_iconst (v := 0) d_Md_get_123 (by decide) ?_
  exact sm_pick [0, 1, 2, 3, 4, 5] (w_Md_get_124 _ _ _ _ _ _ _ _ hI hf) rfl

def fn_Md_get_101 (w : wd) (x1 : Int32) (x2 : Int32) (x3 : Int32) (x4 : Bool) (x5 : Bool) (s0 : Bool) : Option (Int32 × wd) := (if x4 = true then fn_Md_get_123 w x1 x2 x3 x5 s0 else (if x5 = true then fn_Md_get_123 w x1 x2 x3 x5 s0 else (if s0 = true then fn_Md_get_123 w x1 x2 x3 x5 s0 else fn_Md_get_124 w x1 x2 x3 x5 s0 true)))
set_option maxHeartbeats 1600000 in
set_option maxRecDepth 100000 in
theorem w_Md_get_101 {G : sm_G} {b : Nat} {M0 : sm_M} {bc bs : Nat} {R : Int32 × wd} : ∀ (M : sm_M) (w : wd) (x1 : Int32) (x2 : Int32) (x3 : Int32) (x4 : Bool) (x5 : Bool) (s0 : Bool), lo_in G md_L b M0 M w → fn_Md_get_101 w x1 x2 x3 x4 x5 s0 = some R → sm_W G mf_Md_get 101 [(0, .ref (b + 0)), (1, .int x1), (2, .int x2), (3, .int x3), (4, .int (bi x4)), (5, .int (bi x5))] [.int (bi s0)] M bc bs (wd_Q G md_L b M0 (some (.int R.1)) R.2) := by
  intro M w x1 x2 x3 x4 x5 s0 hI  hf
  unfold fn_Md_get_101 at hf
  refine sm_istore d_Md_get_101 (by decide) rfl ?_
  refine sm_aload_n d_Md_get_103 rfl (j := 1) rfl ?_
  refine sm_iload d_Md_get_104 (j := 5) rfl ?_
  refine sm_if_ne (tgt := 123) d_Md_get_106 (by decide) (fun h3 => ?_) (fun h3 => ?_)
  · rw [if_pos (bi1 h3)] at hf
    exact sm_pick [1, 2, 3, 4, 6, 0] (w_Md_get_123 _ _ _ _ _ _ _ hI hf) rfl
  · rw [if_neg (bi0 h3)] at hf
    refine sm_iload d_Md_get_109 (j := 6) rfl ?_
    refine sm_if_ne (tgt := 123) d_Md_get_111 (by decide) (fun h20 => ?_) (fun h20 => ?_)
    · rw [if_pos (bi1 h20)] at hf
      exact sm_pick [1, 2, 3, 4, 6, 0] (w_Md_get_123 _ _ _ _ _ _ _ hI hf) rfl
    · rw [if_neg (bi0 h20)] at hf
      refine sm_iload d_Md_get_114 (j := 0) rfl ?_
      refine sm_if_ne (tgt := 123) d_Md_get_116 (by decide) (fun h21 => ?_) (fun h21 => ?_)
      · rw [if_pos (bi1 h21)] at hf
        exact sm_pick [1, 2, 3, 4, 6, 0] (w_Md_get_123 _ _ _ _ _ _ _ hI hf) rfl
      · rw [if_neg (bi0 h21)] at hf
        refine sm_iconst (v := 1) d_Md_get_119 (by decide) ?_
        refine sm_goto (tgt := 124) d_Md_get_120 (by decide) ?_
        exact sm_pick [1, 2, 3, 4, 6, 0] (w_Md_get_124 _ _ _ _ _ _ _ _ hI hf) rfl

def fn_Md_get_100 (w : wd) (x1 : Int32) (x2 : Int32) (x3 : Int32) (x4 : Bool) (x5 : Bool) : Option (Int32 × wd) := fn_Md_get_101 w x1 x2 x3 x4 x5 false
set_option maxHeartbeats 1600000 in
set_option maxRecDepth 100000 in
theorem w_Md_get_100 {G : sm_G} {b : Nat} {M0 : sm_M} {bc bs : Nat} {R : Int32 × wd} : ∀ (M : sm_M) (w : wd) (x1 : Int32) (x2 : Int32) (x3 : Int32) (x4 : Bool) (x5 : Bool), lo_in G md_L b M0 M w → fn_Md_get_100 w x1 x2 x3 x4 x5 = some R → sm_W G mf_Md_get 100 [(0, .ref (b + 0)), (1, .int x1), (2, .int x2), (3, .int x3), (4, .int (bi x4)), (5, .int (bi x5))] [] M bc bs (wd_Q G md_L b M0 (some (.int R.1)) R.2) := by
  intro M w x1 x2 x3 x4 x5 hI  hf
  unfold fn_Md_get_100 at hf
  refine sm_iconst (v := 0) d_Md_get_100 (by decide) ?_
  exact sm_pick [0, 1, 2, 3, 4, 5] (w_Md_get_101 _ _ _ _ _ _ _ _ hI hf) rfl

def fn_Md_get_68 (w : wd) (x1 : Int32) (x2 : Int32) (x3 : Int32) (x4 : Bool) (s0 : Bool) : Option (Int32 × wd) := (if (fn_Md_in x1.toInt64 (40 : Int64) (45 : Int64)) = true then (if x2 < 0 then fn_Md_get_100 w x1 x2 x3 x4 s0 else (if (w 0 17) ≤ x2 then fn_Md_get_100 w x1 x2 x3 x4 s0 else fn_Md_get_101 w x1 x2 x3 x4 s0 true)) else fn_Md_get_100 w x1 x2 x3 x4 s0)
set_option maxHeartbeats 1600000 in
set_option maxRecDepth 100000 in
theorem w_Md_get_68 {G : sm_G} {b : Nat} {M0 : sm_M} {bc bs : Nat} {R : Int32 × wd} : ∀ (M : sm_M) (w : wd) (x1 : Int32) (x2 : Int32) (x3 : Int32) (x4 : Bool) (s0 : Bool), lo_in G md_L b M0 M w → fn_Md_get_68 w x1 x2 x3 x4 s0 = some R → sm_W G mf_Md_get 68 [(0, .ref (b + 0)), (1, .int x1), (2, .int x2), (3, .int x3), (4, .int (bi x4))] [.int (bi s0)] M bc bs (wd_Q G md_L b M0 (some (.int R.1)) R.2) := by
  intro M w x1 x2 x3 x4 s0 hI  hf
  unfold fn_Md_get_68 at hf
  refine sm_istore d_Md_get_68 (by decide) rfl ?_
  refine sm_iload_n d_Md_get_70 rfl (j := 2) rfl ?_
  refine sm_i2l d_Md_get_71 ?_
  refine sm_ldc2 (v := 40) d_Md_get_72 mw_1398 ?_
  refine sm_ldc2 (v := 45) d_Md_get_75 mw_1399 ?_
  refine sm_callSp d_Md_get_78 cs_Md_get_122 rfl (As := [.long x1.toInt64, .long (40 : Int64), .long (45 : Int64)]) rfl rfl (Nat.le_of_ble_eq_true rfl) (c_Md_in x1.toInt64 (40 : Int64) (45 : Int64)) ?_
  refine sm_if_eq (tgt := 100) d_Md_get_81 (by decide) (fun h2 => ?_) (fun h2 => ?_)
  · rw [if_neg (bi0 h2)] at hf
    exact sm_pick [1, 2, 3, 4, 5, 0] (w_Md_get_100 _ _ _ _ _ _ _ hI hf) rfl
  · rw [if_pos (bi1 h2)] at hf
    refine sm_iload_n d_Md_get_84 rfl (j := 3) rfl ?_
    refine sm_if_lt (tgt := 100) d_Md_get_85 (by decide) (fun h22 => ?_) (fun h22 => ?_)
    · rw [if_pos h22] at hf
      exact sm_pick [1, 2, 3, 4, 5, 0] (w_Md_get_100 _ _ _ _ _ _ _ hI hf) rfl
    · rw [if_neg h22] at hf
      refine sm_iload_n d_Md_get_88 rfl (j := 3) rfl ?_
      refine sm_aload_n d_Md_get_89 rfl (j := 1) rfl ?_
      refine lo_get (v := .int (w 0 17)) d_Md_get_90 fg_Md_103 hI ml_0 rfl ?_
      refine sm_icmp_ge (tgt := 100) d_Md_get_93 (by decide) (fun h23 => ?_) (fun h23 => ?_)
      · rw [if_pos h23] at hf
        exact sm_pick [1, 2, 3, 4, 5, 0] (w_Md_get_100 _ _ _ _ _ _ _ hI hf) rfl
      · rw [if_neg h23] at hf
        refine sm_iconst (v := 1) d_Md_get_96 (by decide) ?_
        refine sm_goto (tgt := 101) d_Md_get_97 (by decide) ?_
        exact sm_pick [1, 2, 3, 4, 5, 0] (w_Md_get_101 _ _ _ _ _ _ _ _ hI hf) rfl

def fn_Md_get_67 (w : wd) (x1 : Int32) (x2 : Int32) (x3 : Int32) (x4 : Bool) : Option (Int32 × wd) := fn_Md_get_68 w x1 x2 x3 x4 false
set_option maxHeartbeats 1600000 in
set_option maxRecDepth 100000 in
theorem w_Md_get_67 {G : sm_G} {b : Nat} {M0 : sm_M} {bc bs : Nat} {R : Int32 × wd} : ∀ (M : sm_M) (w : wd) (x1 : Int32) (x2 : Int32) (x3 : Int32) (x4 : Bool), lo_in G md_L b M0 M w → fn_Md_get_67 w x1 x2 x3 x4 = some R → sm_W G mf_Md_get 67 [(0, .ref (b + 0)), (1, .int x1), (2, .int x2), (3, .int x3), (4, .int (bi x4))] [] M bc bs (wd_Q G md_L b M0 (some (.int R.1)) R.2) := by
  intro M w x1 x2 x3 x4 hI  hf
  unfold fn_Md_get_67 at hf
  refine sm_iconst (v := 0) d_Md_get_67 (by decide) ?_
  exact sm_pick [0, 1, 2, 3, 4] (w_Md_get_68 _ _ _ _ _ _ _ hI hf) rfl

def fn_Md_get_63 (w : wd) (x1 : Int32) (x2 : Int32) (x3 : Int32) (x4 : Bool) : Option (Int32 × wd) := fn_Md_get_68 w x1 x2 x3 x4 true
set_option maxHeartbeats 1600000 in
set_option maxRecDepth 100000 in
theorem w_Md_get_63 {G : sm_G} {b : Nat} {M0 : sm_M} {bc bs : Nat} {R : Int32 × wd} : ∀ (M : sm_M) (w : wd) (x1 : Int32) (x2 : Int32) (x3 : Int32) (x4 : Bool), lo_in G md_L b M0 M w → fn_Md_get_63 w x1 x2 x3 x4 = some R → sm_W G mf_Md_get 63 [(0, .ref (b + 0)), (1, .int x1), (2, .int x2), (3, .int x3), (4, .int (bi x4))] [] M bc bs (wd_Q G md_L b M0 (some (.int R.1)) R.2) := by
  intro M w x1 x2 x3 x4 hI  hf
  unfold fn_Md_get_63 at hf
  refine sm_iconst (v := 1) d_Md_get_63 (by decide) ?_
  refine sm_goto (tgt := 68) d_Md_get_64 (by decide) ?_
  exact sm_pick [0, 1, 2, 3, 4] (w_Md_get_68 _ _ _ _ _ _ _ hI hf) rfl

def fn_Md_get_57 (w : wd) (x1 : Int32) (x2 : Int32) (x3 : Int32) (x4 : Bool) (s0 : Int64) (s1 : Int64) (s2 : Int64) : Option (Int32 × wd) := (if (fn_Md_in s2 s1 s0) = true then fn_Md_get_63 w x1 x2 x3 x4 else fn_Md_get_67 w x1 x2 x3 x4)
set_option maxHeartbeats 1600000 in
set_option maxRecDepth 100000 in
theorem w_Md_get_57 {G : sm_G} {b : Nat} {M0 : sm_M} {bc bs : Nat} {R : Int32 × wd} : ∀ (M : sm_M) (w : wd) (x1 : Int32) (x2 : Int32) (x3 : Int32) (x4 : Bool) (s0 : Int64) (s1 : Int64) (s2 : Int64), lo_in G md_L b M0 M w → fn_Md_get_57 w x1 x2 x3 x4 s0 s1 s2 = some R → sm_W G mf_Md_get 57 [(0, .ref (b + 0)), (1, .int x1), (2, .int x2), (3, .int x3), (4, .int (bi x4))] [.long s0, .long s1, .long s2] M bc bs (wd_Q G md_L b M0 (some (.int R.1)) R.2) := by
  intro M w x1 x2 x3 x4 s0 s1 s2 hI  hf
  unfold fn_Md_get_57 at hf
  refine sm_callSp d_Md_get_57 cs_Md_get_122 rfl (As := [.long s2, .long s1, .long s0]) rfl rfl (Nat.le_of_ble_eq_true rfl) (c_Md_in s2 s1 s0) ?_
  refine sm_if_eq (tgt := 67) d_Md_get_60 (by decide) (fun h27 => ?_) (fun h27 => ?_)
  · rw [if_neg (bi0 h27)] at hf
    exact sm_pick [0, 1, 2, 3, 4] (w_Md_get_67 _ _ _ _ _ _ hI hf) rfl
  · rw [if_pos (bi1 h27)] at hf
    exact sm_pick [0, 1, 2, 3, 4] (w_Md_get_63 _ _ _ _ _ _ hI hf) rfl

def fn_Md_get (w : wd) (x1 : Int32) (x2 : Int32) (x3 : Int32) : Option (Int32 × wd) := (if (fn_Md_in x1.toInt64 (20 : Int64) (34 : Int64)) = true then (if (fn_Md_isComponent w x2) = true then (if x1 < (32 : Int32) then fn_Md_get_63 w x1 x2 x3 (fn_Md_in x1.toInt64 (0 : Int64) (14 : Int64)) else (if x1 = (34 : Int32) then fn_Md_get_57 w x1 x2 x3 (fn_Md_in x1.toInt64 (0 : Int64) (14 : Int64)) (96 : Int64) (0 : Int64) x3.toInt64 else fn_Md_get_57 w x1 x2 x3 (fn_Md_in x1.toInt64 (0 : Int64) (14 : Int64)) (32 : Int64) (0 : Int64) x3.toInt64)) else fn_Md_get_67 w x1 x2 x3 (fn_Md_in x1.toInt64 (0 : Int64) (14 : Int64))) else fn_Md_get_67 w x1 x2 x3 (fn_Md_in x1.toInt64 (0 : Int64) (14 : Int64)))
set_option maxHeartbeats 1600000 in
set_option maxRecDepth 100000 in
theorem c_Md_get {G : sm_G} {b : Nat} {M0 M : sm_M}  {w : wd}  (hI : lo_in G md_L b M0 M w)  (x1 : Int32) (x2 : Int32) (x3 : Int32)  {R : Int32 × wd} (hf : fn_Md_get w x1 x2 x3 = some R) : sm_C G mf_Md_get [.ref (b + 0), .int x1, .int x2, .int x3] M 0 0 (wd_Q G md_L b M (some (.int R.1)) R.2) := by
  unfold fn_Md_get at hf
  have hI := hI.here
  refine sm_ofW rfl (Nat.le_of_ble_eq_true rfl) ?_
  refine sm_iload_n d_Md_get_0 rfl (j := 1) rfl ?_
  refine sm_i2l d_Md_get_1 ?_
  refine sm_lconst (v := 0) d_Md_get_2 (by decide) ?_
  refine sm_ldc2 (v := 14) d_Md_get_3 mw_1395 ?_
  refine sm_callSp d_Md_get_6 cs_Md_get_122 rfl (As := [.long x1.toInt64, .long (0 : Int64), .long (14 : Int64)]) rfl rfl (Nat.le_of_ble_eq_true rfl) (c_Md_in x1.toInt64 (0 : Int64) (14 : Int64)) ?_
  refine sm_istore d_Md_get_9 (by decide) rfl ?_
  refine sm_iload_n d_Md_get_11 rfl (j := 2) rfl ?_
  refine sm_i2l d_Md_get_12 ?_
  refine sm_ldc2 (v := 20) d_Md_get_13 mw_1396 ?_
  refine sm_ldc2 (v := 34) d_Md_get_16 mw_1397 ?_
  refine sm_callSp d_Md_get_19 cs_Md_get_122 rfl (As := [.long x1.toInt64, .long (20 : Int64), .long (34 : Int64)]) rfl rfl (Nat.le_of_ble_eq_true rfl) (c_Md_in x1.toInt64 (20 : Int64) (34 : Int64)) ?_
  refine sm_if_eq (tgt := 67) d_Md_get_22 (by decide) (fun h1 => ?_) (fun h1 => ?_)
  · rw [if_neg (bi0 h1)] at hf
    exact sm_pick [1, 2, 3, 4, 0] (w_Md_get_67 _ _ _ _ _ _ hI hf) rfl
  · rw [if_pos (bi1 h1)] at hf
    refine sm_aload_n d_Md_get_25 rfl (j := 1) rfl ?_
    refine sm_iload_n d_Md_get_26 rfl (j := 3) rfl ?_
    refine lo_callV d_Md_get_27 cs_Md_get_134 rfl hI ml_0 (As := [.int x2]) rfl rfl (Nat.le_of_ble_eq_true rfl) (c_Md_isComponent hI x2) ?_
    refine sm_if_eq (tgt := 67) d_Md_get_30 (by decide) (fun h24 => ?_) (fun h24 => ?_)
    · rw [if_neg (bi0 h24)] at hf
      exact sm_pick [1, 2, 3, 4, 0] (w_Md_get_67 _ _ _ _ _ _ hI hf) rfl
    · rw [if_pos (bi1 h24)] at hf
      refine sm_iload_n d_Md_get_33 rfl (j := 2) rfl ?_
      refine sm_bipush (v := 32) d_Md_get_34 (by decide) ?_
      refine sm_icmp_lt (tgt := 63) d_Md_get_36 (by decide) (fun h25 => ?_) (fun h25 => ?_)
      · rw [if_pos h25] at hf
        exact sm_pick [1, 2, 3, 4, 0] (w_Md_get_63 _ _ _ _ _ _ hI hf) rfl
      · rw [if_neg h25] at hf
        refine sm_iload_n d_Md_get_39 rfl (j := 4) rfl ?_
        refine sm_i2l d_Md_get_40 ?_
        refine sm_lconst (v := 0) d_Md_get_41 (by decide) ?_
        refine sm_iload_n d_Md_get_42 rfl (j := 2) rfl ?_
        refine sm_bipush (v := 34) d_Md_get_43 (by decide) ?_
        refine sm_icmp_ne (tgt := 54) d_Md_get_45 (by decide) (fun h26 => ?_) (fun h26 => ?_)
        · rw [if_neg h26] at hf
          refine sm_ldc2 (v := 32) d_Md_get_54 mw_1362 ?_
          exact sm_pick [1, 2, 3, 4, 0] (w_Md_get_57 _ _ _ _ _ _ _ _ _ hI hf) rfl
        · rw [if_pos h26] at hf
          refine sm_ldc2 (v := 96) d_Md_get_48 mw_1381 ?_
          refine sm_goto (tgt := 57) d_Md_get_51 (by decide) ?_
          exact sm_pick [1, 2, 3, 4, 0] (w_Md_get_57 _ _ _ _ _ _ _ _ _ hI hf) rfl

def fn_Md_clear (w : wd) : wd := (up2 (up2 (up2 w 0 0 (0 : Int32)) 0 20 (0 : Int32)) 0 21 (0 : Int32))
set_option maxHeartbeats 1600000 in
set_option maxRecDepth 100000 in
theorem c_Md_clear {G : sm_G} {b : Nat} {M0 M : sm_M}  {w : wd}  (hI : lo_in G md_L b M0 M w)  : sm_C G mf_Md_clear [.ref (b + 0)] M 0 0 (wd_Q G md_L b M none (fn_Md_clear w)) := by
  obtain ⟨R, hf⟩ : ∃ R, fn_Md_clear w = R := ⟨_, rfl⟩
  rw [hf]
  unfold fn_Md_clear at hf
  have hI := hI.here
  refine sm_ofW rfl (Nat.le_of_ble_eq_true rfl) ?_
  refine sm_aload_n d_Md_clear_0 rfl (j := 0) rfl ?_
  refine sm_iconst (v := 0) d_Md_clear_1 (by decide) ?_
  refine lo_put d_Md_clear_2 fp_Md_78 (by decide) hI ml_0 rfl (by rfl) (by rfl) (fun M1 hI2 => ?_)
  refine sm_aload_n d_Md_clear_5 rfl (j := 0) rfl ?_
  refine sm_iconst (v := 0) d_Md_clear_6 (by decide) ?_
  refine lo_put d_Md_clear_7 fp_Md_174 (by decide) hI2 ml_0 rfl (by rfl) (by rfl) (fun M3 hI4 => ?_)
  refine sm_aload_n d_Md_clear_10 rfl (j := 0) rfl ?_
  refine sm_iconst (v := 0) d_Md_clear_11 (by decide) ?_
  refine lo_put d_Md_clear_12 fp_Md_177 (by decide) hI4 ml_0 rfl (by rfl) (by rfl) (fun M5 hI6 => ?_)
  subst hf
  refine sm_return d_Md_clear_15 rfl ?_
  exact ⟨rfl, hI6⟩

def fn_Md_put_32 (w : wd) (x1 : Int32) (s0 : Bool) (s1 : Bool) : Option (Int32 × wd) := (if (fn_Md_refuse w s1 s0).1 = true then some ((0 : Int32), (fn_Md_refuse w s1 s0).2) else (if 0 ≤ ((fn_Md_refuse w s1 s0).2 0 20).toInt ∧ ((fn_Md_refuse w s1 s0).2 0 20).toInt < 65536 then some (((up2 (up2 (up2 (fn_Md_refuse w s1 s0).2 11 (((fn_Md_refuse w s1 s0).2 0 20).toInt.toNat) x1) 0 20 (((up2 (fn_Md_refuse w s1 s0).2 11 (((fn_Md_refuse w s1 s0).2 0 20).toInt.toNat) x1) 0 20) + (1 : Int32))) 0 21 (0 : Int32)) 0 20), (up2 (up2 (up2 (fn_Md_refuse w s1 s0).2 11 (((fn_Md_refuse w s1 s0).2 0 20).toInt.toNat) x1) 0 20 (((up2 (fn_Md_refuse w s1 s0).2 11 (((fn_Md_refuse w s1 s0).2 0 20).toInt.toNat) x1) 0 20) + (1 : Int32))) 0 21 (0 : Int32))) else none))
set_option maxHeartbeats 1600000 in
set_option maxRecDepth 100000 in
theorem w_Md_put_32 {G : sm_G} {b : Nat} {M0 : sm_M} {bc bs : Nat} {R : Int32 × wd} : ∀ (M : sm_M) (w : wd) (x1 : Int32) (s0 : Bool) (s1 : Bool), lo_in G md_L b M0 M w → fn_Md_put_32 w x1 s0 s1 = some R → sm_W G mf_Md_put 32 [(0, .ref (b + 0)), (1, .int x1)] [.int (bi s0), .int (bi s1), .ref (b + 0)] M bc bs (wd_Q G md_L b M0 (some (.int R.1)) R.2) := by
  intro M w x1 s0 s1 hI  hf
  unfold fn_Md_put_32 at hf
  refine lo_callVm d_Md_put_32 cs_Md_put_106 rfl hI ml_0 (As := [.int (bi s1), .int (bi s0)]) rfl rfl (Nat.le_of_ble_eq_true rfl) (c_Md_refuse hI s1 s0) (fun M3 hI4 => ?_)
  refine sm_if_eq (tgt := 40) d_Md_put_35 (by decide) (fun h5 => ?_) (fun h5 => ?_)
  · rw [if_neg (bi0 h5)] at hf
    refine sm_aload_n d_Md_put_40 rfl (j := 0) rfl ?_
    refine lo_get (v := .ref (b + 11)) d_Md_put_41 fg_Md_45 hI4 ml_0 rfl ?_
    refine sm_aload_n d_Md_put_44 rfl (j := 0) rfl ?_
    refine lo_get (v := .int ((fn_Md_refuse w s1 s0).2 0 20)) d_Md_put_45 fg_Md_174 hI4 ml_0 rfl ?_
    refine sm_iload_n d_Md_put_48 rfl (j := 1) rfl ?_
    obtain ⟨h6, hf⟩ := lo_chk hf
    refine lo_ast (j := ((fn_Md_refuse w s1 s0).2 0 20).toInt.toNat) d_Md_put_49 hI4 ml_11 h6 rfl (fun M7 hI8 => ?_)
    refine sm_aload_n d_Md_put_50 rfl (j := 0) rfl ?_
    refine sm_dup d_Md_put_51 rfl ?_
    refine lo_get (v := .int ((up2 (fn_Md_refuse w s1 s0).2 11 (((fn_Md_refuse w s1 s0).2 0 20).toInt.toNat) x1) 0 20)) d_Md_put_52 fg_Md_174 hI8 ml_0 rfl ?_
    refine sm_iconst (v := 1) d_Md_put_55 (by decide) ?_
    refine sm_iadd d_Md_put_56 ?_
    refine lo_put d_Md_put_57 fp_Md_174 (by decide) hI8 ml_0 rfl (by rfl) (by rfl) (fun M9 hI10 => ?_)
    refine sm_aload_n d_Md_put_60 rfl (j := 0) rfl ?_
    refine sm_iconst (v := 0) d_Md_put_61 (by decide) ?_
    refine lo_put d_Md_put_62 fp_Md_177 (by decide) hI10 ml_0 rfl (by rfl) (by rfl) (fun M11 hI12 => ?_)
    refine sm_aload_n d_Md_put_65 rfl (j := 0) rfl ?_
    refine lo_get (v := .int ((up2 (up2 (up2 (fn_Md_refuse w s1 s0).2 11 (((fn_Md_refuse w s1 s0).2 0 20).toInt.toNat) x1) 0 20 (((up2 (fn_Md_refuse w s1 s0).2 11 (((fn_Md_refuse w s1 s0).2 0 20).toInt.toNat) x1) 0 20) + (1 : Int32))) 0 21 (0 : Int32)) 0 20)) d_Md_put_66 fg_Md_174 hI12 ml_0 rfl ?_
    cases hf
    refine sm_ireturn d_Md_put_69 rfl (by rfl) ?_
    exact ⟨rfl, hI12⟩
  · rw [if_pos (bi1 h5)] at hf
    refine sm_iconst (v := 0) d_Md_put_38 (by decide) ?_
    cases hf
    refine sm_ireturn d_Md_put_39 rfl (by rfl) ?_
    exact ⟨rfl, hI4⟩

def fn_Md_put_18 (w : wd) (x1 : Int32) (s0 : Bool) : Option (Int32 × wd) := (if (w 0 20) = (65536 : Int32) then fn_Md_put_32 w x1 true s0 else fn_Md_put_32 w x1 false s0)
set_option maxHeartbeats 1600000 in
set_option maxRecDepth 100000 in
theorem w_Md_put_18 {G : sm_G} {b : Nat} {M0 : sm_M} {bc bs : Nat} {R : Int32 × wd} : ∀ (M : sm_M) (w : wd) (x1 : Int32) (s0 : Bool), lo_in G md_L b M0 M w → fn_Md_put_18 w x1 s0 = some R → sm_W G mf_Md_put 18 [(0, .ref (b + 0)), (1, .int x1)] [.int (bi s0), .ref (b + 0)] M bc bs (wd_Q G md_L b M0 (some (.int R.1)) R.2) := by
  intro M w x1 s0 hI  hf
  unfold fn_Md_put_18 at hf
  refine sm_aload_n d_Md_put_18 rfl (j := 0) rfl ?_
  refine lo_get (v := .int (w 0 20)) d_Md_put_19 fg_Md_174 hI ml_0 rfl ?_
  refine sm_ldc (v := 65536) d_Md_put_22 mw_1192 ?_
  refine sm_icmp_ne (tgt := 31) d_Md_put_24 (by decide) (fun h2 => ?_) (fun h2 => ?_)
  · rw [if_neg h2] at hf
    refine sm_iconst (v := 0) d_Md_put_31 (by decide) ?_
    exact sm_pick [0, 1] (w_Md_put_32 _ _ _ _ _ hI hf) rfl
  · rw [if_pos h2] at hf
    refine sm_iconst (v := 1) d_Md_put_27 (by decide) ?_
    refine sm_goto (tgt := 32) d_Md_put_28 (by decide) ?_
    exact sm_pick [0, 1] (w_Md_put_32 _ _ _ _ _ hI hf) rfl

def fn_Md_put (w : wd) (x1 : Int32) : Option (Int32 × wd) := (if (fn_Md_in x1.toInt64 (0 : Int64) (255 : Int64)) = true then fn_Md_put_18 w x1 false else fn_Md_put_18 w x1 true)
set_option maxHeartbeats 1600000 in
set_option maxRecDepth 100000 in
theorem c_Md_put {G : sm_G} {b : Nat} {M0 M : sm_M}  {w : wd}  (hI : lo_in G md_L b M0 M w)  (x1 : Int32)  {R : Int32 × wd} (hf : fn_Md_put w x1 = some R) : sm_C G mf_Md_put [.ref (b + 0), .int x1] M 0 0 (wd_Q G md_L b M (some (.int R.1)) R.2) := by
  unfold fn_Md_put at hf
  have hI := hI.here
  refine sm_ofW rfl (Nat.le_of_ble_eq_true rfl) ?_
  refine sm_aload_n d_Md_put_0 rfl (j := 0) rfl ?_
  refine sm_iload_n d_Md_put_1 rfl (j := 1) rfl ?_
  refine sm_i2l d_Md_put_2 ?_
  refine sm_lconst (v := 0) d_Md_put_3 (by decide) ?_
  refine sm_ldc2 (v := 255) d_Md_put_4 mw_1344 ?_
  refine sm_callSp d_Md_put_7 cs_Md_put_122 rfl (As := [.long x1.toInt64, .long (0 : Int64), .long (255 : Int64)]) rfl rfl (Nat.le_of_ble_eq_true rfl) (c_Md_in x1.toInt64 (0 : Int64) (255 : Int64)) ?_
  refine sm_if_ne (tgt := 17) d_Md_put_10 (by decide) (fun h1 => ?_) (fun h1 => ?_)
  · rw [if_pos (bi1 h1)] at hf
    refine sm_iconst (v := 0) d_Md_put_17 (by decide) ?_
    exact sm_pick [0, 1] (w_Md_put_18 _ _ _ _ hI hf) rfl
  · rw [if_neg (bi0 h1)] at hf
    refine sm_iconst (v := 1) d_Md_put_13 (by decide) ?_
    refine sm_goto (tgt := 18) d_Md_put_14 (by decide) ?_
    exact sm_pick [0, 1] (w_Md_put_18 _ _ _ _ hI hf) rfl

def fn_Md_at_19 (w : wd) (x1 : Int32) (s0 : Bool) : Option (Int32 × wd) := (if (fn_Md_refuse w s0 false).1 = true then some ((0 : Int32), (fn_Md_refuse w s0 false).2) else (if 0 ≤ x1 then (if 0 ≤ x1.toInt ∧ x1.toInt < 65536 then some (((fn_Md_refuse w s0 false).2 11 x1.toInt.toNat), (fn_Md_refuse w s0 false).2) else none) else some (((fn_Md_refuse w s0 false).2 0 20), (fn_Md_refuse w s0 false).2)))
set_option maxHeartbeats 1600000 in
set_option maxRecDepth 100000 in
theorem w_Md_at_19 {G : sm_G} {b : Nat} {M0 : sm_M} {bc bs : Nat} {R : Int32 × wd} : ∀ (M : sm_M) (w : wd) (x1 : Int32) (s0 : Bool), lo_in G md_L b M0 M w → fn_Md_at_19 w x1 s0 = some R → sm_W G mf_Md_at 19 [(0, .ref (b + 0)), (1, .int x1)] [.int (bi s0), .ref (b + 0)] M bc bs (wd_Q G md_L b M0 (some (.int R.1)) R.2) := by
  intro M w x1 s0 hI  hf
  unfold fn_Md_at_19 at hf
  refine sm_iconst (v := 0) d_Md_at_19 (by decide) ?_
  refine lo_callVm d_Md_at_20 cs_Md_at_106 rfl hI ml_0 (As := [.int (bi s0), .int (0 : Int32)]) rfl rfl (Nat.le_of_ble_eq_true rfl) (c_Md_refuse hI s0 false) (fun M2 hI3 => ?_)
  refine sm_if_eq (tgt := 28) d_Md_at_23 (by decide) (fun h4 => ?_) (fun h4 => ?_)
  · rw [if_neg (bi0 h4)] at hf
    refine sm_iload_n d_Md_at_28 rfl (j := 1) rfl ?_
    refine sm_if_ge (tgt := 39) d_Md_at_29 (by decide) (fun h5 => ?_) (fun h5 => ?_)
    · rw [if_pos h5] at hf
      refine sm_aload_n d_Md_at_39 rfl (j := 0) rfl ?_
      refine lo_get (v := .ref (b + 11)) d_Md_at_40 fg_Md_45 hI3 ml_0 rfl ?_
      refine sm_iload_n d_Md_at_43 rfl (j := 1) rfl ?_
      obtain ⟨h6, hf⟩ := lo_chk hf
      refine lo_ald (j := x1.toInt.toNat) d_Md_at_44 hI3 ml_11 h6 rfl ?_
      cases hf
      refine sm_ireturn d_Md_at_45 rfl (by rfl) ?_
      exact ⟨rfl, hI3⟩
    · rw [if_neg h5] at hf
      refine sm_aload_n d_Md_at_32 rfl (j := 0) rfl ?_
      refine lo_get (v := .int ((fn_Md_refuse w s0 false).2 0 20)) d_Md_at_33 fg_Md_174 hI3 ml_0 rfl ?_
      refine sm_goto (tgt := 45) d_Md_at_36 (by decide) ?_
      cases hf
      refine sm_ireturn d_Md_at_45 rfl (by rfl) ?_
      exact ⟨rfl, hI3⟩
  · rw [if_pos (bi1 h4)] at hf
    refine sm_iconst (v := 0) d_Md_at_26 (by decide) ?_
    cases hf
    refine sm_ireturn d_Md_at_27 rfl (by rfl) ?_
    exact ⟨rfl, hI3⟩

def fn_Md_at_14 (w : wd) (x1 : Int32) : Option (Int32 × wd) := fn_Md_at_19 w x1 true
set_option maxHeartbeats 1600000 in
set_option maxRecDepth 100000 in
theorem w_Md_at_14 {G : sm_G} {b : Nat} {M0 : sm_M} {bc bs : Nat} {R : Int32 × wd} : ∀ (M : sm_M) (w : wd) (x1 : Int32), lo_in G md_L b M0 M w → fn_Md_at_14 w x1 = some R → sm_W G mf_Md_at 14 [(0, .ref (b + 0)), (1, .int x1)] [.ref (b + 0)] M bc bs (wd_Q G md_L b M0 (some (.int R.1)) R.2) := by
  intro M w x1 hI  hf
  unfold fn_Md_at_14 at hf
  refine sm_iconst (v := 1) d_Md_at_14 (by decide) ?_
  refine sm_goto (tgt := 19) d_Md_at_15 (by decide) ?_
  exact sm_pick [0, 1] (w_Md_at_19 _ _ _ _ hI hf) rfl

def fn_Md_at (w : wd) (x1 : Int32) : Option (Int32 × wd) := (if x1 < (-1 : Int32) then fn_Md_at_14 w x1 else (if x1 < (w 0 20) then fn_Md_at_19 w x1 false else fn_Md_at_14 w x1))
set_option maxHeartbeats 1600000 in
set_option maxRecDepth 100000 in
theorem c_Md_at {G : sm_G} {b : Nat} {M0 M : sm_M}  {w : wd}  (hI : lo_in G md_L b M0 M w)  (x1 : Int32)  {R : Int32 × wd} (hf : fn_Md_at w x1 = some R) : sm_C G mf_Md_at [.ref (b + 0), .int x1] M 0 0 (wd_Q G md_L b M (some (.int R.1)) R.2) := by
  unfold fn_Md_at at hf
  have hI := hI.here
  refine sm_ofW rfl (Nat.le_of_ble_eq_true rfl) ?_
  refine sm_aload_n d_Md_at_0 rfl (j := 0) rfl ?_
  refine sm_iload_n d_Md_at_1 rfl (j := 1) rfl ?_
  refine sm_iconst (v := -1) d_Md_at_2 (by decide) ?_
  refine sm_icmp_lt (tgt := 14) d_Md_at_3 (by decide) (fun h1 => ?_) (fun h1 => ?_)
  · rw [if_pos h1] at hf
    exact sm_pick [0, 1] (w_Md_at_14 _ _ _ hI hf) rfl
  · rw [if_neg h1] at hf
    refine sm_iload_n d_Md_at_6 rfl (j := 1) rfl ?_
    refine sm_aload_n d_Md_at_7 rfl (j := 0) rfl ?_
    refine lo_get (v := .int (w 0 20)) d_Md_at_8 fg_Md_174 hI ml_0 rfl ?_
    refine sm_icmp_lt (tgt := 18) d_Md_at_11 (by decide) (fun h7 => ?_) (fun h7 => ?_)
    · rw [if_pos h7] at hf
      refine sm_iconst (v := 0) d_Md_at_18 (by decide) ?_
      exact sm_pick [0, 1] (w_Md_at_19 _ _ _ _ hI hf) rfl
    · rw [if_neg h7] at hf
      exact sm_pick [0, 1] (w_Md_at_14 _ _ _ hI hf) rfl

def fn_Md_add_36 (k4 : wd → Int32 → Int32 → Option (wd)) (F : Nat) (w : wd) (x1 : Int32) (x3 : Int32) : Option (wd) := k4 (up2 w 0 36 ((w 0 36) + (1 : Int32))) x1 (x3 + (-1))
set_option maxHeartbeats 1600000 in
set_option maxRecDepth 100000 in
theorem w_Md_add_36 {G : sm_G} {b : Nat} {M0 : sm_M} {bc bs : Nat} {R : wd} {F : Nat} {k4 : wd → Int32 → Int32 → Option (wd)} (hk4 : ∀ (M : sm_M) (w : wd) (x1 : Int32) (x3 : Int32), lo_in G md_L b M0 M w → k4 w x1 x3 = some R → sm_W G mf_Md_add 4 [(0, .ref (b + 0)), (1, .int x1), (3, .int x3)] [] M bc bs (wd_Q G md_L b M0 none R)) : ∀ (M : sm_M) (w : wd) (x1 : Int32) (x3 : Int32), lo_in G md_L b M0 M w → fn_Md_add_36 k4 F w x1 x3 = some R → sm_W G mf_Md_add 36 [(0, .ref (b + 0)), (1, .int x1), (3, .int x3)] [] M bc bs (wd_Q G md_L b M0 none R) := by
  intro M w x1 x3 hI  hf
  unfold fn_Md_add_36 at hf
  refine sm_aload_n d_Md_add_36 rfl (j := 0) rfl ?_
  refine sm_dup d_Md_add_37 rfl ?_
  refine lo_get (v := .int (w 0 36)) d_Md_add_38 fg_Md_180 hI ml_0 rfl ?_
  refine sm_iconst (v := 1) d_Md_add_41 (by decide) ?_
  refine sm_iadd d_Md_add_42 ?_
  refine lo_put d_Md_add_43 fp_Md_180 (by decide) hI ml_0 rfl (by rfl) (by rfl) (fun M3 hI4 => ?_)
  refine sm_iinc (v := (x3 + (-1))) d_Md_add_46 (j := 2) rfl rfl (by decide) rfl ?_
  refine sm_goto (tgt := 4) d_Md_add_49 (by decide) ?_
  exact sm_pick [1, 2, 0] (hk4 _ _ _ _ hI4 hf) rfl

def fn_Md_add_4 (F : Nat) : Nat → wd → Int32 → Int32 → Option (wd)
 | 0, _, _, _ => none
 | n9 + 1, w, x1, x3 => (if x3 < 0 then some w else (if (65536 : Int32) ≤ (w 0 36) then fn_Md_add_36 (fn_Md_add_4 F n9) F w x1 x3 else (if 0 ≤ (w 0 36).toInt ∧ (w 0 36).toInt < 65536 then fn_Md_add_36 (fn_Md_add_4 F n9) F (up2 w 11 ((w 0 36).toInt.toNat) ((x1 >>> (((8 : Int32) * x3) &&& 31)) &&& (255 : Int32))) x1 x3 else none)))
set_option maxHeartbeats 1600000 in
set_option maxRecDepth 100000 in
theorem w_Md_add_4 {G : sm_G} {b : Nat} {M0 : sm_M} {bc bs : Nat} {R : wd} {F : Nat} : ∀ (n9 : Nat), ∀ (M : sm_M) (w : wd) (x1 : Int32) (x3 : Int32), lo_in G md_L b M0 M w → fn_Md_add_4 F n9 w x1 x3 = some R → sm_W G mf_Md_add 4 [(0, .ref (b + 0)), (1, .int x1), (3, .int x3)] [] M bc bs (wd_Q G md_L b M0 none R) := by
  intro n9
  induction n9 with
  | zero => intro M w x1 x3 hI  hf; cases hf
  | succ n9 ih =>
    intro M w x1 x3 hI  hf
    rw [fn_Md_add_4] at hf
    refine sm_iload_n d_Md_add_4 rfl (j := 2) rfl ?_
    refine sm_if_lt (tgt := 52) d_Md_add_5 (by decide) (fun h1 => ?_) (fun h1 => ?_)
    · rw [if_pos h1] at hf
      cases hf
      refine sm_return d_Md_add_52 rfl ?_
      exact ⟨rfl, hI⟩
    · rw [if_neg h1] at hf
      refine sm_aload_n d_Md_add_8 rfl (j := 0) rfl ?_
      refine lo_get (v := .int (w 0 36)) d_Md_add_9 fg_Md_180 hI ml_0 rfl ?_
      refine sm_ldc (v := 65536) d_Md_add_12 mw_1192 ?_
      refine sm_icmp_ge (tgt := 36) d_Md_add_14 (by decide) (fun h2 => ?_) (fun h2 => ?_)
      · rw [if_pos h2] at hf
        exact sm_pick [0, 1, 2] (w_Md_add_36 ih _ _ _ _ hI hf) rfl
      · rw [if_neg h2] at hf
        refine sm_aload_n d_Md_add_17 rfl (j := 0) rfl ?_
        refine lo_get (v := .ref (b + 11)) d_Md_add_18 fg_Md_45 hI ml_0 rfl ?_
        refine sm_aload_n d_Md_add_21 rfl (j := 0) rfl ?_
        refine lo_get (v := .int (w 0 36)) d_Md_add_22 fg_Md_180 hI ml_0 rfl ?_
        refine sm_iload_n d_Md_add_25 rfl (j := 1) rfl ?_
        refine sm_bipush (v := 8) d_Md_add_26 (by decide) ?_
        refine sm_iload_n d_Md_add_28 rfl (j := 2) rfl ?_
        refine sm_imul d_Md_add_29 ?_
        refine sm_ishr d_Md_add_30 ?_
        refine sm_sipush (v := 255) d_Md_add_31 (by decide) ?_
        refine sm_iand d_Md_add_34 ?_
        obtain ⟨h5, hf⟩ := lo_chk hf
        refine lo_ast (j := (w 0 36).toInt.toNat) d_Md_add_35 hI ml_11 h5 rfl (fun M6 hI7 => ?_)
        exact sm_pick [0, 1, 2] (w_Md_add_36 ih _ _ _ _ hI7 hf) rfl

def fn_Md_add (F : Nat) (w : wd) (x1 : Int32) (x2 : Int32) : Option (wd) := fn_Md_add_4 F F w x1 (x2 - (1 : Int32))
set_option maxHeartbeats 1600000 in
set_option maxRecDepth 100000 in
theorem c_Md_add {G : sm_G} {b : Nat} {M0 M : sm_M}  {w : wd} {F : Nat} (hI : lo_in G md_L b M0 M w)  (x1 : Int32) (x2 : Int32)  {R : wd} (hf : fn_Md_add F w x1 x2 = some R) : sm_C G mf_Md_add [.ref (b + 0), .int x1, .int x2] M 0 0 (wd_Q G md_L b M none R) := by
  unfold fn_Md_add at hf
  have hI := hI.here
  refine sm_ofW rfl (Nat.le_of_ble_eq_true rfl) ?_
  refine sm_iload_n d_Md_add_0 rfl (j := 2) rfl ?_
  refine sm_iconst (v := 1) d_Md_add_1 (by decide) ?_
  refine sm_isub d_Md_add_2 ?_
  refine sm_istore_n d_Md_add_3 rfl (by decide) rfl ?_
  exact sm_pick [1, 2, 0] (w_Md_add_4 _ _ _ _ _ hI hf) rfl

def fn_Md_beginSegment (F : Nat) (w : wd) (x1 : Int32) (x2 : Int32) : Option (wd) := ((fn_Md_add F w (255 : Int32) (1 : Int32)).bind fun r1 => ((fn_Md_add F r1 x1 (1 : Int32)).bind fun r5 => ((fn_Md_add F r5 x2 (2 : Int32)).bind fun r9 => some r9)))
set_option maxHeartbeats 1600000 in
set_option maxRecDepth 100000 in
theorem c_Md_beginSegment {G : sm_G} {b : Nat} {M0 M : sm_M}  {w : wd} {F : Nat} (hI : lo_in G md_L b M0 M w)  (x1 : Int32) (x2 : Int32)  {R : wd} (hf : fn_Md_beginSegment F w x1 x2 = some R) : sm_C G mf_Md_beginSegment [.ref (b + 0), .int x1, .int x2] M 0 0 (wd_Q G md_L b M none R) := by
  unfold fn_Md_beginSegment at hf
  have hI := hI.here
  refine sm_ofW rfl (Nat.le_of_ble_eq_true rfl) ?_
  refine sm_aload_n d_Md_beginSegment_0 rfl (j := 0) rfl ?_
  refine sm_sipush (v := 255) d_Md_beginSegment_1 (by decide) ?_
  refine sm_iconst (v := 1) d_Md_beginSegment_4 (by decide) ?_
  obtain ⟨r1, e2, hf⟩ := lo_bnd hf
  refine lo_callVm d_Md_beginSegment_5 cs_Md_beginSegment_183 rfl hI ml_0 (As := [.int (255 : Int32), .int (1 : Int32)]) rfl rfl (Nat.le_of_ble_eq_true rfl) (c_Md_add hI (255 : Int32) (1 : Int32) e2) (fun M3 hI4 => ?_)
  refine sm_aload_n d_Md_beginSegment_8 rfl (j := 0) rfl ?_
  refine sm_iload_n d_Md_beginSegment_9 rfl (j := 1) rfl ?_
  refine sm_iconst (v := 1) d_Md_beginSegment_10 (by decide) ?_
  obtain ⟨r5, e6, hf⟩ := lo_bnd hf
  refine lo_callVm d_Md_beginSegment_11 cs_Md_beginSegment_183 rfl hI4 ml_0 (As := [.int x1, .int (1 : Int32)]) rfl rfl (Nat.le_of_ble_eq_true rfl) (c_Md_add hI4 x1 (1 : Int32) e6) (fun M7 hI8 => ?_)
  refine sm_aload_n d_Md_beginSegment_14 rfl (j := 0) rfl ?_
  refine sm_iload_n d_Md_beginSegment_15 rfl (j := 2) rfl ?_
  refine sm_iconst (v := 2) d_Md_beginSegment_16 (by decide) ?_
  obtain ⟨r9, e10, hf⟩ := lo_bnd hf
  refine lo_callVm d_Md_beginSegment_17 cs_Md_beginSegment_183 rfl hI8 ml_0 (As := [.int x2, .int (2 : Int32)]) rfl rfl (Nat.le_of_ble_eq_true rfl) (c_Md_add hI8 x2 (2 : Int32) e10) (fun M11 hI12 => ?_)
  cases hf
  refine sm_return d_Md_beginSegment_20 rfl ?_
  exact ⟨rfl, hI12⟩

def fn_Md_tells_58 (k4 : wd → Int32 → Bool → Int32 → Option (Bool)) (F : Nat) (w : wd) (x1 : Int32) (x3 : Int32) (s0 : Bool) : Option (Bool) := k4 w x1 s0 (x3 + 1)
set_option maxHeartbeats 1600000 in
set_option maxRecDepth 100000 in
theorem w_Md_tells_58 {G : sm_G} {b : Nat} {M0 : sm_M} {bc bs : Nat} {R : Bool} {F : Nat} {k4 : wd → Int32 → Bool → Int32 → Option (Bool)} (hk4 : ∀ (w : wd) (x1 : Int32) (x2 : Bool) (x3 : Int32), lo_in G md_L b M0 M0 w → k4 w x1 x2 x3 = some R → sm_W G mf_Md_tells 4 [(0, .ref (b + 0)), (1, .int x1), (2, .int (bi x2)), (3, .int x3)] [] M0 bc bs (sm_pu M0 (.int (bi R)))) : ∀ (w : wd) (x1 : Int32) (x3 : Int32) (s0 : Bool), lo_in G md_L b M0 M0 w → fn_Md_tells_58 k4 F w x1 x3 s0 = some R → sm_W G mf_Md_tells 58 [(0, .ref (b + 0)), (1, .int x1), (3, .int x3)] [.int (bi s0)] M0 bc bs (sm_pu M0 (.int (bi R))) := by
  intro w x1 x3 s0 hI  hf
  unfold fn_Md_tells_58 at hf
  refine sm_istore_n d_Md_tells_58 rfl (by decide) rfl ?_
  refine sm_iinc (v := (x3 + 1)) d_Md_tells_59 (j := 3) rfl rfl (by decide) rfl ?_
  refine sm_goto (tgt := 4) d_Md_tells_62 (by decide) ?_
  exact sm_pick [2, 3, 1, 0] (hk4 _ _ _ _ hI hf) rfl

def fn_Md_tells_53 (k4 : wd → Int32 → Bool → Int32 → Option (Bool)) (F : Nat) (w : wd) (x1 : Int32) (x3 : Int32) : Option (Bool) := fn_Md_tells_58 k4 F w x1 x3 true
set_option maxHeartbeats 1600000 in
set_option maxRecDepth 100000 in
theorem w_Md_tells_53 {G : sm_G} {b : Nat} {M0 : sm_M} {bc bs : Nat} {R : Bool} {F : Nat} {k4 : wd → Int32 → Bool → Int32 → Option (Bool)} (hk4 : ∀ (w : wd) (x1 : Int32) (x2 : Bool) (x3 : Int32), lo_in G md_L b M0 M0 w → k4 w x1 x2 x3 = some R → sm_W G mf_Md_tells 4 [(0, .ref (b + 0)), (1, .int x1), (2, .int (bi x2)), (3, .int x3)] [] M0 bc bs (sm_pu M0 (.int (bi R)))) : ∀ (w : wd) (x1 : Int32) (x3 : Int32), lo_in G md_L b M0 M0 w → fn_Md_tells_53 k4 F w x1 x3 = some R → sm_W G mf_Md_tells 53 [(0, .ref (b + 0)), (1, .int x1), (3, .int x3)] [] M0 bc bs (sm_pu M0 (.int (bi R))) := by
  intro w x1 x3 hI  hf
  unfold fn_Md_tells_53 at hf
  refine sm_iconst (v := 1) d_Md_tells_53 (by decide) ?_
  refine sm_goto (tgt := 58) d_Md_tells_54 (by decide) ?_
  exact sm_pick [0, 1, 2] (w_Md_tells_58 hk4 _ _ _ _ hI hf) rfl

def fn_Md_tells_4 (F : Nat) : Nat → wd → Int32 → Bool → Int32 → Option (Bool)
 | 0, _, _, _, _ => none
 | n9 + 1, w, x1, x2, x3 => (if 0 ≤ ((8 : Int32) * x1).toInt ∧ ((8 : Int32) * x1).toInt < 128 then (if (w 6 (((8 : Int32) * x1).toInt.toNat)) < x3 then some x2 else (if x2 = true then fn_Md_tells_53 (fn_Md_tells_4 F n9) F w x1 x3 else (if 0 ≤ (((33 : Int32) * x1) + x3).toInt ∧ (((33 : Int32) * x1) + x3).toInt < 528 then (if (w 7 ((((33 : Int32) * x1) + x3).toInt.toNat)) = (15 : Int32) then (if 0 ≤ (((33 : Int32) * x1) + x3).toInt ∧ (((33 : Int32) * x1) + x3).toInt < 528 then (if (w 8 ((((33 : Int32) * x1) + x3).toInt.toNat)) = (15 : Int32) then fn_Md_tells_58 (fn_Md_tells_4 F n9) F w x1 x3 false else fn_Md_tells_53 (fn_Md_tells_4 F n9) F w x1 x3) else none) else fn_Md_tells_53 (fn_Md_tells_4 F n9) F w x1 x3) else none))) else none)
set_option maxHeartbeats 1600000 in
set_option maxRecDepth 100000 in
theorem w_Md_tells_4 {G : sm_G} {b : Nat} {M0 : sm_M} {bc bs : Nat} {R : Bool} {F : Nat} : ∀ (n9 : Nat), ∀ (w : wd) (x1 : Int32) (x2 : Bool) (x3 : Int32), lo_in G md_L b M0 M0 w → fn_Md_tells_4 F n9 w x1 x2 x3 = some R → sm_W G mf_Md_tells 4 [(0, .ref (b + 0)), (1, .int x1), (2, .int (bi x2)), (3, .int x3)] [] M0 bc bs (sm_pu M0 (.int (bi R))) := by
  intro n9
  induction n9 with
  | zero => intro w x1 x2 x3 hI  hf; cases hf
  | succ n9 ih =>
    intro w x1 x2 x3 hI  hf
    rw [fn_Md_tells_4] at hf
    refine sm_iload_n d_Md_tells_4 rfl (j := 3) rfl ?_
    refine sm_aload_n d_Md_tells_5 rfl (j := 0) rfl ?_
    refine lo_get (v := .ref (b + 6)) d_Md_tells_6 fg_Md_29 hI ml_0 rfl ?_
    refine sm_bipush (v := 8) d_Md_tells_9 (by decide) ?_
    refine sm_iload_n d_Md_tells_11 rfl (j := 1) rfl ?_
    refine sm_imul d_Md_tells_12 ?_
    obtain ⟨h1, hf⟩ := lo_chk hf
    refine lo_ald (j := ((8 : Int32) * x1).toInt.toNat) d_Md_tells_13 hI ml_6 h1 rfl ?_
    refine sm_icmp_gt (tgt := 65) d_Md_tells_14 (by decide) (fun h2 => ?_) (fun h2 => ?_)
    · rw [if_pos h2] at hf
      refine sm_iload_n d_Md_tells_65 rfl (j := 2) rfl ?_
      cases hf
      refine sm_ireturn d_Md_tells_66 rfl (bi_n _) ?_
      exact ⟨rfl, rfl⟩
    · rw [if_neg h2] at hf
      refine sm_iload_n d_Md_tells_17 rfl (j := 2) rfl ?_
      refine sm_if_ne (tgt := 53) d_Md_tells_18 (by decide) (fun h3 => ?_) (fun h3 => ?_)
      · rw [if_pos (bi1 h3)] at hf
        exact sm_pick [0, 1, 3] (w_Md_tells_53 ih _ _ _ hI hf) rfl
      · rw [if_neg (bi0 h3)] at hf
        refine sm_aload_n d_Md_tells_21 rfl (j := 0) rfl ?_
        refine lo_get (v := .ref (b + 7)) d_Md_tells_22 fg_Md_32 hI ml_0 rfl ?_
        refine sm_bipush (v := 33) d_Md_tells_25 (by decide) ?_
        refine sm_iload_n d_Md_tells_27 rfl (j := 1) rfl ?_
        refine sm_imul d_Md_tells_28 ?_
        refine sm_iload_n d_Md_tells_29 rfl (j := 3) rfl ?_
        refine sm_iadd d_Md_tells_30 ?_
        obtain ⟨h4, hf⟩ := lo_chk hf
        refine lo_ald (j := (((33 : Int32) * x1) + x3).toInt.toNat) d_Md_tells_31 hI ml_7 h4 rfl ?_
        refine sm_bipush (v := 15) d_Md_tells_32 (by decide) ?_
        refine sm_icmp_ne (tgt := 53) d_Md_tells_34 (by decide) (fun h5 => ?_) (fun h5 => ?_)
        · rw [if_neg h5] at hf
          exact sm_pick [0, 1, 3] (w_Md_tells_53 ih _ _ _ hI hf) rfl
        · rw [if_pos h5] at hf
          refine sm_aload_n d_Md_tells_37 rfl (j := 0) rfl ?_
          refine lo_get (v := .ref (b + 8)) d_Md_tells_38 fg_Md_35 hI ml_0 rfl ?_
          refine sm_bipush (v := 33) d_Md_tells_41 (by decide) ?_
          refine sm_iload_n d_Md_tells_43 rfl (j := 1) rfl ?_
          refine sm_imul d_Md_tells_44 ?_
          refine sm_iload_n d_Md_tells_45 rfl (j := 3) rfl ?_
          refine sm_iadd d_Md_tells_46 ?_
          obtain ⟨h6, hf⟩ := lo_chk hf
          refine lo_ald (j := (((33 : Int32) * x1) + x3).toInt.toNat) d_Md_tells_47 hI ml_8 h6 rfl ?_
          refine sm_bipush (v := 15) d_Md_tells_48 (by decide) ?_
          refine sm_icmp_eq (tgt := 57) d_Md_tells_50 (by decide) (fun h7 => ?_) (fun h7 => ?_)
          · rw [if_pos h7] at hf
            refine sm_iconst (v := 0) d_Md_tells_57 (by decide) ?_
            exact sm_pick [0, 1, 3] (w_Md_tells_58 ih _ _ _ _ hI hf) rfl
          · rw [if_neg h7] at hf
            exact sm_pick [0, 1, 3] (w_Md_tells_53 ih _ _ _ hI hf) rfl

def fn_Md_tells (F : Nat) (w : wd) (x1 : Int32) : Option (Bool) := fn_Md_tells_4 F F w x1 false (0 : Int32)
set_option maxHeartbeats 1600000 in
set_option maxRecDepth 100000 in
theorem c_Md_tells {G : sm_G} {b : Nat} {M0 M : sm_M}  {w : wd} {F : Nat} (hI : lo_in G md_L b M0 M w)  (x1 : Int32)  {R : Bool} (hf : fn_Md_tells F w x1 = some R) : sm_C G mf_Md_tells [.ref (b + 0), .int x1] M 0 0 (sm_pu M (.int (bi R))) := by
  unfold fn_Md_tells at hf
  have hI := hI.here
  refine sm_ofW rfl (Nat.le_of_ble_eq_true rfl) ?_
  refine sm_iconst (v := 0) d_Md_tells_0 (by decide) ?_
  refine sm_istore_n d_Md_tells_1 rfl (by decide) rfl ?_
  refine sm_iconst (v := 0) d_Md_tells_2 (by decide) ?_
  refine sm_istore_n d_Md_tells_3 rfl (by decide) rfl ?_
  exact sm_pick [2, 3, 1, 0] (w_Md_tells_4 _ _ _ _ _ hI hf) rfl

def fn_Md_body_84 (F : Nat) : Nat → wd → Int32 → Int32 → Option (wd)
 | 0, _, _, _ => none
 | n9 + 1, w, x1, x2 => (if 0 ≤ ((8 : Int32) * x1).toInt ∧ ((8 : Int32) * x1).toInt < 128 then (if (w 6 (((8 : Int32) * x1).toInt.toNat)) < x2 then some w else ((fn_Md_tells F w x1).bind fun r28 => (if r28 = true then (if 0 ≤ (((33 : Int32) * x1) + x2).toInt ∧ (((33 : Int32) * x1) + x2).toInt < 528 then (if 0 ≤ (((33 : Int32) * x1) + x2).toInt ∧ (((33 : Int32) * x1) + x2).toInt < 528 then ((fn_Md_add F w ((w 7 ((((33 : Int32) * x1) + x2).toInt.toNat)) + ((16 : Int32) * (w 8 ((((33 : Int32) * x1) + x2).toInt.toNat)))) (1 : Int32)).bind fun r33 => fn_Md_body_84 F n9 r33 x1 (x2 + 1)) else none) else none) else some w))) else none)
set_option maxHeartbeats 1600000 in
set_option maxRecDepth 100000 in
theorem w_Md_body_84 {G : sm_G} {b : Nat} {M0 : sm_M} {bc bs : Nat} {R : wd} {F : Nat} : ∀ (n9 : Nat), ∀ (M : sm_M) (w : wd) (x1 : Int32) (x2 : Int32), lo_in G md_L b M0 M w → fn_Md_body_84 F n9 w x1 x2 = some R → sm_W G mf_Md_body 84 [(0, .ref (b + 0)), (1, .int x1), (2, .int x2)] [] M bc bs (wd_Q G md_L b M0 none R) := by
  intro n9
  induction n9 with
  | zero => intro M w x1 x2 hI  hf; cases hf
  | succ n9 ih =>
    intro M w x1 x2 hI  hf
    rw [fn_Md_body_84] at hf
    refine sm_iload_n d_Md_body_84 rfl (j := 2) rfl ?_
    refine sm_aload_n d_Md_body_85 rfl (j := 0) rfl ?_
    refine lo_get (v := .ref (b + 6)) d_Md_body_86 fg_Md_29 hI ml_0 rfl ?_
    refine sm_bipush (v := 8) d_Md_body_89 (by decide) ?_
    refine sm_iload_n d_Md_body_91 rfl (j := 1) rfl ?_
    refine sm_imul d_Md_body_92 ?_
    obtain ⟨h26, hf⟩ := lo_chk hf
    refine lo_ald (j := ((8 : Int32) * x1).toInt.toNat) d_Md_body_93 hI ml_6 h26 rfl ?_
    refine sm_icmp_gt (tgt := 142) d_Md_body_94 (by decide) (fun h27 => ?_) (fun h27 => ?_)
    · rw [if_pos h27] at hf
      cases hf
      refine sm_return d_Md_body_142 rfl ?_
      exact ⟨rfl, hI⟩
    · rw [if_neg h27] at hf
      refine sm_aload_n d_Md_body_97 rfl (j := 0) rfl ?_
      refine sm_iload_n d_Md_body_98 rfl (j := 1) rfl ?_
      obtain ⟨r28, e29, hf⟩ := lo_bnd hf
      refine lo_callV d_Md_body_99 cs_Md_body_187 rfl hI ml_0 (As := [.int x1]) rfl rfl (Nat.le_of_ble_eq_true rfl) (c_Md_tells hI x1 e29) ?_
      refine sm_if_eq (tgt := 142) d_Md_body_102 (by decide) (fun h30 => ?_) (fun h30 => ?_)
      · rw [if_neg (bi0 h30)] at hf
        cases hf
        refine sm_return d_Md_body_142 rfl ?_
        exact ⟨rfl, hI⟩
      · rw [if_pos (bi1 h30)] at hf
        refine sm_aload_n d_Md_body_105 rfl (j := 0) rfl ?_
        refine sm_aload_n d_Md_body_106 rfl (j := 0) rfl ?_
        refine lo_get (v := .ref (b + 7)) d_Md_body_107 fg_Md_32 hI ml_0 rfl ?_
        refine sm_bipush (v := 33) d_Md_body_110 (by decide) ?_
        refine sm_iload_n d_Md_body_112 rfl (j := 1) rfl ?_
        refine sm_imul d_Md_body_113 ?_
        refine sm_iload_n d_Md_body_114 rfl (j := 2) rfl ?_
        refine sm_iadd d_Md_body_115 ?_
        obtain ⟨h31, hf⟩ := lo_chk hf
        refine lo_ald (j := (((33 : Int32) * x1) + x2).toInt.toNat) d_Md_body_116 hI ml_7 h31 rfl ?_
        refine sm_bipush (v := 16) d_Md_body_117 (by decide) ?_
        refine sm_aload_n d_Md_body_119 rfl (j := 0) rfl ?_
        refine lo_get (v := .ref (b + 8)) d_Md_body_120 fg_Md_35 hI ml_0 rfl ?_
        refine sm_bipush (v := 33) d_Md_body_123 (by decide) ?_
        refine sm_iload_n d_Md_body_125 rfl (j := 1) rfl ?_
        refine sm_imul d_Md_body_126 ?_
        refine sm_iload_n d_Md_body_127 rfl (j := 2) rfl ?_
        refine sm_iadd d_Md_body_128 ?_
        obtain ⟨h32, hf⟩ := lo_chk hf
        refine lo_ald (j := (((33 : Int32) * x1) + x2).toInt.toNat) d_Md_body_129 hI ml_8 h32 rfl ?_
        refine sm_imul d_Md_body_130 ?_
        refine sm_iadd d_Md_body_131 ?_
        refine sm_iconst (v := 1) d_Md_body_132 (by decide) ?_
        obtain ⟨r33, e34, hf⟩ := lo_bnd hf
        refine lo_callVm d_Md_body_133 cs_Md_body_183 rfl hI ml_0 (As := [.int ((w 7 ((((33 : Int32) * x1) + x2).toInt.toNat)) + ((16 : Int32) * (w 8 ((((33 : Int32) * x1) + x2).toInt.toNat)))), .int (1 : Int32)]) rfl rfl (Nat.le_of_ble_eq_true rfl) (c_Md_add hI ((w 7 ((((33 : Int32) * x1) + x2).toInt.toNat)) + ((16 : Int32) * (w 8 ((((33 : Int32) * x1) + x2).toInt.toNat)))) (1 : Int32) e34) (fun M35 hI36 => ?_)
        refine sm_iinc (v := (x2 + 1)) d_Md_body_136 (j := 2) rfl rfl (by decide) rfl ?_
        refine sm_goto (tgt := 84) d_Md_body_139 (by decide) ?_
        exact sm_pick [1, 2, 0] (ih _ _ _ _ hI36 hf) rfl

def fn_Md_body (F : Nat) (w : wd) (x1 : Int32) : Option (wd) := (if 0 ≤ ((8 : Int32) * x1).toInt ∧ ((8 : Int32) * x1).toInt < 128 then ((fn_Md_add F w (w 6 (((8 : Int32) * x1).toInt.toNat)) (1 : Int32)).bind fun r2 => (if 0 ≤ (((8 : Int32) * x1) + (1 : Int32)).toInt ∧ (((8 : Int32) * x1) + (1 : Int32)).toInt < 128 then ((fn_Md_add F r2 ((r2 6 ((((8 : Int32) * x1) + (1 : Int32)).toInt.toNat)) - (2 : Int32)) (1 : Int32)).bind fun r7 => (if 0 ≤ (((8 : Int32) * x1) + (2 : Int32)).toInt ∧ (((8 : Int32) * x1) + (2 : Int32)).toInt < 128 then ((fn_Md_add F r7 ((r7 6 ((((8 : Int32) * x1) + (2 : Int32)).toInt.toNat)) - (2 : Int32)) (1 : Int32)).bind fun r12 => (if 0 ≤ (((8 : Int32) * x1) + (3 : Int32)).toInt ∧ (((8 : Int32) * x1) + (3 : Int32)).toInt < 128 then ((fn_Md_add F r12 (r12 6 ((((8 : Int32) * x1) + (3 : Int32)).toInt.toNat)) (1 : Int32)).bind fun r17 => (if 0 ≤ (((8 : Int32) * x1) + (4 : Int32)).toInt ∧ (((8 : Int32) * x1) + (4 : Int32)).toInt < 128 then ((fn_Md_add F r17 (r17 6 ((((8 : Int32) * x1) + (4 : Int32)).toInt.toNat)) (1 : Int32)).bind fun r22 => fn_Md_body_84 F F r22 x1 (0 : Int32)) else none)) else none)) else none)) else none)) else none)
set_option maxHeartbeats 1600000 in
set_option maxRecDepth 100000 in
theorem c_Md_body {G : sm_G} {b : Nat} {M0 M : sm_M}  {w : wd} {F : Nat} (hI : lo_in G md_L b M0 M w)  (x1 : Int32)  {R : wd} (hf : fn_Md_body F w x1 = some R) : sm_C G mf_Md_body [.ref (b + 0), .int x1] M 0 0 (wd_Q G md_L b M none R) := by
  unfold fn_Md_body at hf
  have hI := hI.here
  refine sm_ofW rfl (Nat.le_of_ble_eq_true rfl) ?_
  refine sm_aload_n d_Md_body_0 rfl (j := 0) rfl ?_
  refine sm_aload_n d_Md_body_1 rfl (j := 0) rfl ?_
  refine lo_get (v := .ref (b + 6)) d_Md_body_2 fg_Md_29 hI ml_0 rfl ?_
  refine sm_bipush (v := 8) d_Md_body_5 (by decide) ?_
  refine sm_iload_n d_Md_body_7 rfl (j := 1) rfl ?_
  refine sm_imul d_Md_body_8 ?_
  obtain ⟨h1, hf⟩ := lo_chk hf
  refine lo_ald (j := ((8 : Int32) * x1).toInt.toNat) d_Md_body_9 hI ml_6 h1 rfl ?_
  refine sm_iconst (v := 1) d_Md_body_10 (by decide) ?_
  obtain ⟨r2, e3, hf⟩ := lo_bnd hf
  refine lo_callVm d_Md_body_11 cs_Md_body_183 rfl hI ml_0 (As := [.int (w 6 (((8 : Int32) * x1).toInt.toNat)), .int (1 : Int32)]) rfl rfl (Nat.le_of_ble_eq_true rfl) (c_Md_add hI (w 6 (((8 : Int32) * x1).toInt.toNat)) (1 : Int32) e3) (fun M4 hI5 => ?_)
  refine sm_aload_n d_Md_body_14 rfl (j := 0) rfl ?_
  refine sm_aload_n d_Md_body_15 rfl (j := 0) rfl ?_
  refine lo_get (v := .ref (b + 6)) d_Md_body_16 fg_Md_29 hI5 ml_0 rfl ?_
  refine sm_bipush (v := 8) d_Md_body_19 (by decide) ?_
  refine sm_iload_n d_Md_body_21 rfl (j := 1) rfl ?_
  refine sm_imul d_Md_body_22 ?_
  refine sm_iconst (v := 1) d_Md_body_23 (by decide) ?_
  refine sm_iadd d_Md_body_24 ?_
  obtain ⟨h6, hf⟩ := lo_chk hf
  refine lo_ald (j := (((8 : Int32) * x1) + (1 : Int32)).toInt.toNat) d_Md_body_25 hI5 ml_6 h6 rfl ?_
  refine sm_iconst (v := 2) d_Md_body_26 (by decide) ?_
  refine sm_isub d_Md_body_27 ?_
  refine sm_iconst (v := 1) d_Md_body_28 (by decide) ?_
  obtain ⟨r7, e8, hf⟩ := lo_bnd hf
  refine lo_callVm d_Md_body_29 cs_Md_body_183 rfl hI5 ml_0 (As := [.int ((r2 6 ((((8 : Int32) * x1) + (1 : Int32)).toInt.toNat)) - (2 : Int32)), .int (1 : Int32)]) rfl rfl (Nat.le_of_ble_eq_true rfl) (c_Md_add hI5 ((r2 6 ((((8 : Int32) * x1) + (1 : Int32)).toInt.toNat)) - (2 : Int32)) (1 : Int32) e8) (fun M9 hI10 => ?_)
  refine sm_aload_n d_Md_body_32 rfl (j := 0) rfl ?_
  refine sm_aload_n d_Md_body_33 rfl (j := 0) rfl ?_
  refine lo_get (v := .ref (b + 6)) d_Md_body_34 fg_Md_29 hI10 ml_0 rfl ?_
  refine sm_bipush (v := 8) d_Md_body_37 (by decide) ?_
  refine sm_iload_n d_Md_body_39 rfl (j := 1) rfl ?_
  refine sm_imul d_Md_body_40 ?_
  refine sm_iconst (v := 2) d_Md_body_41 (by decide) ?_
  refine sm_iadd d_Md_body_42 ?_
  obtain ⟨h11, hf⟩ := lo_chk hf
  refine lo_ald (j := (((8 : Int32) * x1) + (2 : Int32)).toInt.toNat) d_Md_body_43 hI10 ml_6 h11 rfl ?_
  refine sm_iconst (v := 2) d_Md_body_44 (by decide) ?_
  refine sm_isub d_Md_body_45 ?_
  refine sm_iconst (v := 1) d_Md_body_46 (by decide) ?_
  obtain ⟨r12, e13, hf⟩ := lo_bnd hf
  refine lo_callVm d_Md_body_47 cs_Md_body_183 rfl hI10 ml_0 (As := [.int ((r7 6 ((((8 : Int32) * x1) + (2 : Int32)).toInt.toNat)) - (2 : Int32)), .int (1 : Int32)]) rfl rfl (Nat.le_of_ble_eq_true rfl) (c_Md_add hI10 ((r7 6 ((((8 : Int32) * x1) + (2 : Int32)).toInt.toNat)) - (2 : Int32)) (1 : Int32) e13) (fun M14 hI15 => ?_)
  refine sm_aload_n d_Md_body_50 rfl (j := 0) rfl ?_
  refine sm_aload_n d_Md_body_51 rfl (j := 0) rfl ?_
  refine lo_get (v := .ref (b + 6)) d_Md_body_52 fg_Md_29 hI15 ml_0 rfl ?_
  refine sm_bipush (v := 8) d_Md_body_55 (by decide) ?_
  refine sm_iload_n d_Md_body_57 rfl (j := 1) rfl ?_
  refine sm_imul d_Md_body_58 ?_
  refine sm_iconst (v := 3) d_Md_body_59 (by decide) ?_
  refine sm_iadd d_Md_body_60 ?_
  obtain ⟨h16, hf⟩ := lo_chk hf
  refine lo_ald (j := (((8 : Int32) * x1) + (3 : Int32)).toInt.toNat) d_Md_body_61 hI15 ml_6 h16 rfl ?_
  refine sm_iconst (v := 1) d_Md_body_62 (by decide) ?_
  obtain ⟨r17, e18, hf⟩ := lo_bnd hf
  refine lo_callVm d_Md_body_63 cs_Md_body_183 rfl hI15 ml_0 (As := [.int (r12 6 ((((8 : Int32) * x1) + (3 : Int32)).toInt.toNat)), .int (1 : Int32)]) rfl rfl (Nat.le_of_ble_eq_true rfl) (c_Md_add hI15 (r12 6 ((((8 : Int32) * x1) + (3 : Int32)).toInt.toNat)) (1 : Int32) e18) (fun M19 hI20 => ?_)
  refine sm_aload_n d_Md_body_66 rfl (j := 0) rfl ?_
  refine sm_aload_n d_Md_body_67 rfl (j := 0) rfl ?_
  refine lo_get (v := .ref (b + 6)) d_Md_body_68 fg_Md_29 hI20 ml_0 rfl ?_
  refine sm_bipush (v := 8) d_Md_body_71 (by decide) ?_
  refine sm_iload_n d_Md_body_73 rfl (j := 1) rfl ?_
  refine sm_imul d_Md_body_74 ?_
  refine sm_iconst (v := 4) d_Md_body_75 (by decide) ?_
  refine sm_iadd d_Md_body_76 ?_
  obtain ⟨h21, hf⟩ := lo_chk hf
  refine lo_ald (j := (((8 : Int32) * x1) + (4 : Int32)).toInt.toNat) d_Md_body_77 hI20 ml_6 h21 rfl ?_
  refine sm_iconst (v := 1) d_Md_body_78 (by decide) ?_
  obtain ⟨r22, e23, hf⟩ := lo_bnd hf
  refine lo_callVm d_Md_body_79 cs_Md_body_183 rfl hI20 ml_0 (As := [.int (r17 6 ((((8 : Int32) * x1) + (4 : Int32)).toInt.toNat)), .int (1 : Int32)]) rfl rfl (Nat.le_of_ble_eq_true rfl) (c_Md_add hI20 (r17 6 ((((8 : Int32) * x1) + (4 : Int32)).toInt.toNat)) (1 : Int32) e23) (fun M24 hI25 => ?_)
  refine sm_iconst (v := 0) d_Md_body_82 (by decide) ?_
  refine sm_istore_n d_Md_body_83 rfl (by decide) rfl ?_
  exact sm_pick [1, 2, 0] (w_Md_body_84 _ _ _ _ _ hI25 hf) rfl

