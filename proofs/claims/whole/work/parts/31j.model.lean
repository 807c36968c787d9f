/-! StreamMarksModel, on; written by wip/tools/model.py -/
def fn_Md_isValue (F : Nat) (w : wd) (x1 : Int32) (x2 : Int32) (x3 : Int32) : Option (Bool) := (if x1 = 81 then ((fn_Md_isSize F w (x2 + (4 : Int32))).bind fun r2 => some r2) else (if x1 = 82 then ((fn_Md_u1 w (x2 + (4 : Int32))).bind fun r5 => (if (8 : Int32) ≤ r5 then some false else ((fn_Md_u1 w ((x2 + (4 : Int32)) + (1 : Int32))).bind fun r8 => (if (4 : Int32) < r8 then some false else ((fn_Md_u2 w ((x2 + (4 : Int32)) + (2 : Int32))).bind fun r11 => (if r11 < (1 : Int32) then some false else ((fn_Md_u1 w ((x2 + (4 : Int32)) + (4 : Int32))).bind fun r14 => (if (1 : Int32) < r14 then some false else ((fn_Md_u1 w (x2 + (4 : Int32))).bind fun r17 => (if (r17 &&& (1 : Int32)) = (1 : Int32) then ((fn_Md_isBody F w ((x2 + (4 : Int32)) + (5 : Int32)) true).bind fun r23 => (if r23 = true then some true else some false)) else ((fn_Md_isBody F w ((x2 + (4 : Int32)) + (5 : Int32)) false).bind fun r20 => (if r20 = true then some true else some false)))))))))))) else (if x1 = 83 then ((fn_Md_u1 w (x2 + (4 : Int32))).bind fun r27 => (if (fn_Md_isThere w r27) = true then ((fn_Md_u1 w ((x2 + (4 : Int32)) + (1 : Int32))).bind fun r30 => (if (2 : Int32) ≤ r30 then some false else ((fn_Md_u1 w ((x2 + (4 : Int32)) + (1 : Int32))).bind fun r33 => (if r33 = (1 : Int32) then ((fn_Md_isBody F w ((x2 + (4 : Int32)) + (2 : Int32)) true).bind fun r39 => (if r39 = true then some true else some false)) else ((fn_Md_isBody F w ((x2 + (4 : Int32)) + (2 : Int32)) false).bind fun r36 => (if r36 = true then some true else some false)))))) else some false)) else (if x1 = 84 ∨ x1 = 85 ∨ x1 = 86 ∨ x1 = 87 ∨ x1 = 88 ∨ x1 = 89 ∨ x1 = 90 ∨ x1 = 91 then some true else (if x1 = 92 then ((fn_Md_u1 w (x2 + (4 : Int32))).bind fun r44 => (if (2 : Int32) < (r44 &&& (31 : Int32)) then some false else some true)) else (if x1 = 93 then ((fn_Md_u1 w (x2 + (4 : Int32))).bind fun r48 => (if (fn_Md_isThere w r48) = true then ((fn_Md_u1 w ((x2 + (4 : Int32)) + (1 : Int32))).bind fun r51 => (if (2 : Int32) < (r51 &&& (31 : Int32)) then some false else some true)) else some false)) else (if x1 = 94 then ((fn_Md_u1 w (x2 + (4 : Int32))).bind fun r55 => (if (fn_Md_isThere w r55) = true then ((fn_Md_u1 w ((x2 + (4 : Int32)) + (1 : Int32))).bind fun r58 => (if r58 = 0 then ((fn_Md_u1 w ((x2 + (4 : Int32)) + (2 : Int32))).bind fun r61 => (if (37 : Int32) < r61 then some false else some true)) else some false)) else some false)) else (if x1 = 95 then ((fn_Md_areChanges F w x2).bind fun r65 => some r65) else (if x1 = 96 ∨ x1 = 97 then ((fn_Md_u1 w (x2 + (4 : Int32))).bind fun r68 => ((fn_Md_met F w x1 x3).bind fun r70 => (if r68 = r70 then some true else some false))) else some true)))))))))
set_option maxHeartbeats 1600000 in
set_option maxRecDepth 100000 in
theorem c_Md_isValue {G : sm_G} {b : Nat} {M0 M : sm_M}  {w : wd} {F : Nat} (hI : lo_in G md_L b M0 M w)  (x1 : Int32) (x2 : Int32) (x3 : Int32)  {R : Bool} (hf : fn_Md_isValue F w x1 x2 x3 = some R) : sm_C G mf_Md_isValue [.ref (b + 0), .int x1, .int x2, .int x3] M 0 0 (sm_pu M (.int (bi R))) := by
  unfold fn_Md_isValue at hf
  have hI := hI.here
  refine sm_ofW rfl (Nat.le_of_ble_eq_true rfl) ?_
  refine sm_iload_n d_Md_isValue_0 rfl (j := 2) rfl ?_
  refine sm_iconst (v := 4) d_Md_isValue_1 (by decide) ?_
  refine sm_iadd d_Md_isValue_2 ?_
  refine sm_istore d_Md_isValue_3 (by decide) rfl ?_
  refine sm_iload_n d_Md_isValue_5 rfl (j := 2) rfl ?_
  by_cases h1 : x1 = 81
  · rw [if_pos h1] at hf
    refine sm_tableIn (tgt := 88) d_Md_isValue_6 (by rw [h1] <;> decide) (by rw [h1] <;> decide) (by rw [h1] <;> rfl) (by decide) ?_
    refine sm_aload_n d_Md_isValue_88 rfl (j := 1) rfl ?_
    refine sm_iload d_Md_isValue_89 (j := 0) rfl ?_
    obtain ⟨r2, e3, hf⟩ := lo_bnd hf
    refine lo_callV d_Md_isValue_91 cs_Md_isValue_262 rfl hI ml_0 (As := [.int (x2 + (4 : Int32))]) rfl rfl (Nat.le_of_ble_eq_true rfl) (c_Md_isSize hI (x2 + (4 : Int32)) e3) ?_
    cases hf
    refine sm_ireturn d_Md_isValue_94 rfl (bi_n _) ?_
    exact ⟨rfl, rfl⟩
  · rw [if_neg h1] at hf
    by_cases h4 : x1 = 82
    · rw [if_pos h4] at hf
      refine sm_tableIn (tgt := 95) d_Md_isValue_6 (by rw [h4] <;> decide) (by rw [h4] <;> decide) (by rw [h4] <;> rfl) (by decide) ?_
      refine sm_aload_n d_Md_isValue_95 rfl (j := 1) rfl ?_
      refine sm_iload d_Md_isValue_96 (j := 0) rfl ?_
      obtain ⟨r5, e6, hf⟩ := lo_bnd hf
      refine lo_callV d_Md_isValue_98 cs_Md_isValue_233 rfl hI ml_0 (As := [.int (x2 + (4 : Int32))]) rfl rfl (Nat.le_of_ble_eq_true rfl) (c_Md_u1 hI (x2 + (4 : Int32)) e6) ?_
      refine sm_bipush (v := 8) d_Md_isValue_101 (by decide) ?_
      refine sm_icmp_ge (tgt := 174) d_Md_isValue_103 (by decide) (fun h7 => ?_) (fun h7 => ?_)
      · rw [if_pos h7] at hf
        refine sm_iconst (v := 0) d_Md_isValue_174 (by decide) ?_
        cases hf
        refine sm_ireturn d_Md_isValue_175 rfl (by rfl) ?_
        exact ⟨rfl, rfl⟩
      · rw [if_neg h7] at hf
        refine sm_aload_n d_Md_isValue_106 rfl (j := 1) rfl ?_
        refine sm_iload d_Md_isValue_107 (j := 0) rfl ?_
        refine sm_iconst (v := 1) d_Md_isValue_109 (by decide) ?_
        refine sm_iadd d_Md_isValue_110 ?_
        obtain ⟨r8, e9, hf⟩ := lo_bnd hf
        refine lo_callV d_Md_isValue_111 cs_Md_isValue_233 rfl hI ml_0 (As := [.int ((x2 + (4 : Int32)) + (1 : Int32))]) rfl rfl (Nat.le_of_ble_eq_true rfl) (c_Md_u1 hI ((x2 + (4 : Int32)) + (1 : Int32)) e9) ?_
        refine sm_iconst (v := 4) d_Md_isValue_114 (by decide) ?_
        refine sm_icmp_gt (tgt := 174) d_Md_isValue_115 (by decide) (fun h10 => ?_) (fun h10 => ?_)
        · rw [if_pos h10] at hf
          refine sm_iconst (v := 0) d_Md_isValue_174 (by decide) ?_
          cases hf
          refine sm_ireturn d_Md_isValue_175 rfl (by rfl) ?_
          exact ⟨rfl, rfl⟩
        · rw [if_neg h10] at hf
          refine sm_aload_n d_Md_isValue_118 rfl (j := 1) rfl ?_
          refine sm_iload d_Md_isValue_119 (j := 0) rfl ?_
          refine sm_iconst (v := 2) d_Md_isValue_121 (by decide) ?_
          refine sm_iadd d_Md_isValue_122 ?_
          obtain ⟨r11, e12, hf⟩ := lo_bnd hf
          refine lo_callV d_Md_isValue_123 cs_Md_isValue_230 rfl hI ml_0 (As := [.int ((x2 + (4 : Int32)) + (2 : Int32))]) rfl rfl (Nat.le_of_ble_eq_true rfl) (c_Md_u2 hI ((x2 + (4 : Int32)) + (2 : Int32)) e12) ?_
          refine sm_iconst (v := 1) d_Md_isValue_126 (by decide) ?_
          refine sm_icmp_lt (tgt := 174) d_Md_isValue_127 (by decide) (fun h13 => ?_) (fun h13 => ?_)
          · rw [if_pos h13] at hf
            refine sm_iconst (v := 0) d_Md_isValue_174 (by decide) ?_
            cases hf
            refine sm_ireturn d_Md_isValue_175 rfl (by rfl) ?_
            exact ⟨rfl, rfl⟩
          · rw [if_neg h13] at hf
            refine sm_aload_n d_Md_isValue_130 rfl (j := 1) rfl ?_
            refine sm_iload d_Md_isValue_131 (j := 0) rfl ?_
            refine sm_iconst (v := 4) d_Md_isValue_133 (by decide) ?_
            refine sm_iadd d_Md_isValue_134 ?_
            obtain ⟨r14, e15, hf⟩ := lo_bnd hf
            refine lo_callV d_Md_isValue_135 cs_Md_isValue_233 rfl hI ml_0 (As := [.int ((x2 + (4 : Int32)) + (4 : Int32))]) rfl rfl (Nat.le_of_ble_eq_true rfl) (c_Md_u1 hI ((x2 + (4 : Int32)) + (4 : Int32)) e15) ?_
            refine sm_iconst (v := 1) d_Md_isValue_138 (by decide) ?_
            refine sm_icmp_gt (tgt := 174) d_Md_isValue_139 (by decide) (fun h16 => ?_) (fun h16 => ?_)
            · rw [if_pos h16] at hf
              refine sm_iconst (v := 0) d_Md_isValue_174 (by decide) ?_
              cases hf
              refine sm_ireturn d_Md_isValue_175 rfl (by rfl) ?_
              exact ⟨rfl, rfl⟩
            · rw [if_neg h16] at hf
              refine sm_aload_n d_Md_isValue_142 rfl (j := 1) rfl ?_
              refine sm_iload d_Md_isValue_143 (j := 0) rfl ?_
              refine sm_iconst (v := 5) d_Md_isValue_145 (by decide) ?_
              refine sm_iadd d_Md_isValue_146 ?_
              refine sm_aload_n d_Md_isValue_147 rfl (j := 1) rfl ?_
              refine sm_iload d_Md_isValue_148 (j := 0) rfl ?_
              obtain ⟨r17, e18, hf⟩ := lo_bnd hf
              refine lo_callV d_Md_isValue_150 cs_Md_isValue_233 rfl hI ml_0 (As := [.int (x2 + (4 : Int32))]) rfl rfl (Nat.le_of_ble_eq_true rfl) (c_Md_u1 hI (x2 + (4 : Int32)) e18) ?_
              refine sm_iconst (v := 1) d_Md_isValue_153 (by decide) ?_
              refine sm_iand d_Md_isValue_154 ?_
              refine sm_iconst (v := 1) d_Md_isValue_155 (by decide) ?_
              refine sm_icmp_ne (tgt := 163) d_Md_isValue_156 (by decide) (fun h19 => ?_) (fun h19 => ?_)
              · rw [if_neg h19] at hf
                refine sm_iconst (v := 0) d_Md_isValue_163 (by decide) ?_
                obtain ⟨r20, e21, hf⟩ := lo_bnd hf
                refine lo_callV d_Md_isValue_164 cs_Md_isValue_265 rfl hI ml_0 (As := [.int ((x2 + (4 : Int32)) + (5 : Int32)), .int (0 : Int32)]) rfl rfl (Nat.le_of_ble_eq_true rfl) (c_Md_isBody hI ((x2 + (4 : Int32)) + (5 : Int32)) false e21) ?_
                refine sm_if_eq (tgt := 174) d_Md_isValue_167 (by decide) (fun h22 => ?_) (fun h22 => ?_)
                · rw [if_neg (bi0 h22)] at hf
                  refine sm_iconst (v := 0) d_Md_isValue_174 (by decide) ?_
                  cases hf
                  refine sm_ireturn d_Md_isValue_175 rfl (by rfl) ?_
                  exact ⟨rfl, rfl⟩
                · rw [if_pos (bi1 h22)] at hf
                  refine sm_iconst (v := 1) d_Md_isValue_170 (by decide) ?_
                  refine sm_goto (tgt := 175) d_Md_isValue_171 (by decide) ?_
                  cases hf
                  refine sm_ireturn d_Md_isValue_175 rfl (by rfl) ?_
                  exact ⟨rfl, rfl⟩
              · rw [if_pos h19] at hf
                refine sm_iconst (v := 1) d_Md_isValue_159 (by decide) ?_
                refine sm_goto (tgt := 164) d_Md_isValue_160 (by decide) ?_
                obtain ⟨r23, e24, hf⟩ := lo_bnd hf
                refine lo_callV d_Md_isValue_164 cs_Md_isValue_265 rfl hI ml_0 (As := [.int ((x2 + (4 : Int32)) + (5 : Int32)), .int (1 : Int32)]) rfl rfl (Nat.le_of_ble_eq_true rfl) (c_Md_isBody hI ((x2 + (4 : Int32)) + (5 : Int32)) true e24) ?_
                refine sm_if_eq (tgt := 174) d_Md_isValue_167 (by decide) (fun h25 => ?_) (fun h25 => ?_)
                · rw [if_neg (bi0 h25)] at hf
                  refine sm_iconst (v := 0) d_Md_isValue_174 (by decide) ?_
                  cases hf
                  refine sm_ireturn d_Md_isValue_175 rfl (by rfl) ?_
                  exact ⟨rfl, rfl⟩
                · rw [if_pos (bi1 h25)] at hf
                  refine sm_iconst (v := 1) d_Md_isValue_170 (by decide) ?_
                  refine sm_goto (tgt := 175) d_Md_isValue_171 (by decide) ?_
                  cases hf
                  refine sm_ireturn d_Md_isValue_175 rfl (by rfl) ?_
                  exact ⟨rfl, rfl⟩
    · rw [if_neg h4] at hf
      by_cases h26 : x1 = 83
      · rw [if_pos h26] at hf
        refine sm_tableIn (tgt := 176) d_Md_isValue_6 (by rw [h26] <;> decide) (by rw [h26] <;> decide) (by rw [h26] <;> rfl) (by decide) ?_
        refine sm_aload_n d_Md_isValue_176 rfl (j := 1) rfl ?_
        refine sm_aload_n d_Md_isValue_177 rfl (j := 1) rfl ?_
        refine sm_iload d_Md_isValue_178 (j := 0) rfl ?_
        obtain ⟨r27, e28, hf⟩ := lo_bnd hf
        refine lo_callV d_Md_isValue_180 cs_Md_isValue_233 rfl hI ml_0 (As := [.int (x2 + (4 : Int32))]) rfl rfl (Nat.le_of_ble_eq_true rfl) (c_Md_u1 hI (x2 + (4 : Int32)) e28) ?_
        refine lo_callV d_Md_isValue_183 cs_Md_isValue_269 rfl hI ml_0 (As := [.int r27]) rfl rfl (Nat.le_of_ble_eq_true rfl) (c_Md_isThere hI r27) ?_
        refine sm_if_eq (tgt := 233) d_Md_isValue_186 (by decide) (fun h29 => ?_) (fun h29 => ?_)
        · rw [if_neg (bi0 h29)] at hf
          refine sm_iconst (v := 0) d_Md_isValue_233 (by decide) ?_
          cases hf
          refine sm_ireturn d_Md_isValue_234 rfl (by rfl) ?_
          exact ⟨rfl, rfl⟩
        · rw [if_pos (bi1 h29)] at hf
          refine sm_aload_n d_Md_isValue_189 rfl (j := 1) rfl ?_
          refine sm_iload d_Md_isValue_190 (j := 0) rfl ?_
          refine sm_iconst (v := 1) d_Md_isValue_192 (by decide) ?_
          refine sm_iadd d_Md_isValue_193 ?_
          obtain ⟨r30, e31, hf⟩ := lo_bnd hf
          refine lo_callV d_Md_isValue_194 cs_Md_isValue_233 rfl hI ml_0 (As := [.int ((x2 + (4 : Int32)) + (1 : Int32))]) rfl rfl (Nat.le_of_ble_eq_true rfl) (c_Md_u1 hI ((x2 + (4 : Int32)) + (1 : Int32)) e31) ?_
          refine sm_iconst (v := 2) d_Md_isValue_197 (by decide) ?_
          refine sm_icmp_ge (tgt := 233) d_Md_isValue_198 (by decide) (fun h32 => ?_) (fun h32 => ?_)
          · rw [if_pos h32] at hf
            refine sm_iconst (v := 0) d_Md_isValue_233 (by decide) ?_
            cases hf
            refine sm_ireturn d_Md_isValue_234 rfl (by rfl) ?_
            exact ⟨rfl, rfl⟩
          · rw [if_neg h32] at hf
            refine sm_aload_n d_Md_isValue_201 rfl (j := 1) rfl ?_
            refine sm_iload d_Md_isValue_202 (j := 0) rfl ?_
            refine sm_iconst (v := 2) d_Md_isValue_204 (by decide) ?_
            refine sm_iadd d_Md_isValue_205 ?_
            refine sm_aload_n d_Md_isValue_206 rfl (j := 1) rfl ?_
            refine sm_iload d_Md_isValue_207 (j := 0) rfl ?_
            refine sm_iconst (v := 1) d_Md_isValue_209 (by decide) ?_
            refine sm_iadd d_Md_isValue_210 ?_
            obtain ⟨r33, e34, hf⟩ := lo_bnd hf
            refine lo_callV d_Md_isValue_211 cs_Md_isValue_233 rfl hI ml_0 (As := [.int ((x2 + (4 : Int32)) + (1 : Int32))]) rfl rfl (Nat.le_of_ble_eq_true rfl) (c_Md_u1 hI ((x2 + (4 : Int32)) + (1 : Int32)) e34) ?_
            refine sm_iconst (v := 1) d_Md_isValue_214 (by decide) ?_
            refine sm_icmp_ne (tgt := 222) d_Md_isValue_215 (by decide) (fun h35 => ?_) (fun h35 => ?_)
            · rw [if_neg h35] at hf
              refine sm_iconst (v := 0) d_Md_isValue_222 (by decide) ?_
              obtain ⟨r36, e37, hf⟩ := lo_bnd hf
              refine lo_callV d_Md_isValue_223 cs_Md_isValue_265 rfl hI ml_0 (As := [.int ((x2 + (4 : Int32)) + (2 : Int32)), .int (0 : Int32)]) rfl rfl (Nat.le_of_ble_eq_true rfl) (c_Md_isBody hI ((x2 + (4 : Int32)) + (2 : Int32)) false e37) ?_
              refine sm_if_eq (tgt := 233) d_Md_isValue_226 (by decide) (fun h38 => ?_) (fun h38 => ?_)
              · rw [if_neg (bi0 h38)] at hf
                refine sm_iconst (v := 0) d_Md_isValue_233 (by decide) ?_
                cases hf
                refine sm_ireturn d_Md_isValue_234 rfl (by rfl) ?_
                exact ⟨rfl, rfl⟩
              · rw [if_pos (bi1 h38)] at hf
                refine sm_iconst (v := 1) d_Md_isValue_229 (by decide) ?_
                refine sm_goto (tgt := 234) d_Md_isValue_230 (by decide) ?_
                cases hf
                refine sm_ireturn d_Md_isValue_234 rfl (by rfl) ?_
                exact ⟨rfl, rfl⟩
            · rw [if_pos h35] at hf
              refine sm_iconst (v := 1) d_Md_isValue_218 (by decide) ?_
              refine sm_goto (tgt := 223) d_Md_isValue_219 (by decide) ?_
              obtain ⟨r39, e40, hf⟩ := lo_bnd hf
              refine lo_callV d_Md_isValue_223 cs_Md_isValue_265 rfl hI ml_0 (As := [.int ((x2 + (4 : Int32)) + (2 : Int32)), .int (1 : Int32)]) rfl rfl (Nat.le_of_ble_eq_true rfl) (c_Md_isBody hI ((x2 + (4 : Int32)) + (2 : Int32)) true e40) ?_
              refine sm_if_eq (tgt := 233) d_Md_isValue_226 (by decide) (fun h41 => ?_) (fun h41 => ?_)
              · rw [if_neg (bi0 h41)] at hf
                refine sm_iconst (v := 0) d_Md_isValue_233 (by decide) ?_
                cases hf
                refine sm_ireturn d_Md_isValue_234 rfl (by rfl) ?_
                exact ⟨rfl, rfl⟩
              · rw [if_pos (bi1 h41)] at hf
                refine sm_iconst (v := 1) d_Md_isValue_229 (by decide) ?_
                refine sm_goto (tgt := 234) d_Md_isValue_230 (by decide) ?_
                cases hf
                refine sm_ireturn d_Md_isValue_234 rfl (by rfl) ?_
                exact ⟨rfl, rfl⟩
      · rw [if_neg h26] at hf
        by_cases h42 : x1 = 84 ∨ x1 = 85 ∨ x1 = 86 ∨ x1 = 87 ∨ x1 = 88 ∨ x1 = 89 ∨ x1 = 90 ∨ x1 = 91
        · rw [if_pos h42] at hf
          rcases h42 with h42 | h42 | h42 | h42 | h42 | h42 | h42 | h42
          · refine sm_tableIn (tgt := 358) d_Md_isValue_6 (by rw [h42] <;> decide) (by rw [h42] <;> decide) (by rw [h42] <;> rfl) (by decide) ?_
            refine sm_iconst (v := 1) d_Md_isValue_358 (by decide) ?_
            cases hf
            refine sm_ireturn d_Md_isValue_359 rfl (by rfl) ?_
            exact ⟨rfl, rfl⟩
          · refine sm_tableIn (tgt := 358) d_Md_isValue_6 (by rw [h42] <;> decide) (by rw [h42] <;> decide) (by rw [h42] <;> rfl) (by decide) ?_
            refine sm_iconst (v := 1) d_Md_isValue_358 (by decide) ?_
            cases hf
            refine sm_ireturn d_Md_isValue_359 rfl (by rfl) ?_
            exact ⟨rfl, rfl⟩
          · refine sm_tableIn (tgt := 358) d_Md_isValue_6 (by rw [h42] <;> decide) (by rw [h42] <;> decide) (by rw [h42] <;> rfl) (by decide) ?_
            refine sm_iconst (v := 1) d_Md_isValue_358 (by decide) ?_
            cases hf
            refine sm_ireturn d_Md_isValue_359 rfl (by rfl) ?_
            exact ⟨rfl, rfl⟩
          · refine sm_tableIn (tgt := 358) d_Md_isValue_6 (by rw [h42] <;> decide) (by rw [h42] <;> decide) (by rw [h42] <;> rfl) (by decide) ?_
            refine sm_iconst (v := 1) d_Md_isValue_358 (by decide) ?_
            cases hf
            refine sm_ireturn d_Md_isValue_359 rfl (by rfl) ?_
            exact ⟨rfl, rfl⟩
          · refine sm_tableIn (tgt := 358) d_Md_isValue_6 (by rw [h42] <;> decide) (by rw [h42] <;> decide) (by rw [h42] <;> rfl) (by decide) ?_
            refine sm_iconst (v := 1) d_Md_isValue_358 (by decide) ?_
            cases hf
            refine sm_ireturn d_Md_isValue_359 rfl (by rfl) ?_
            exact ⟨rfl, rfl⟩
          · refine sm_tableIn (tgt := 358) d_Md_isValue_6 (by rw [h42] <;> decide) (by rw [h42] <;> decide) (by rw [h42] <;> rfl) (by decide) ?_
            refine sm_iconst (v := 1) d_Md_isValue_358 (by decide) ?_
            cases hf
            refine sm_ireturn d_Md_isValue_359 rfl (by rfl) ?_
            exact ⟨rfl, rfl⟩
          · refine sm_tableIn (tgt := 358) d_Md_isValue_6 (by rw [h42] <;> decide) (by rw [h42] <;> decide) (by rw [h42] <;> rfl) (by decide) ?_
            refine sm_iconst (v := 1) d_Md_isValue_358 (by decide) ?_
            cases hf
            refine sm_ireturn d_Md_isValue_359 rfl (by rfl) ?_
            exact ⟨rfl, rfl⟩
          · refine sm_tableIn (tgt := 358) d_Md_isValue_6 (by rw [h42] <;> decide) (by rw [h42] <;> decide) (by rw [h42] <;> rfl) (by decide) ?_
            refine sm_iconst (v := 1) d_Md_isValue_358 (by decide) ?_
            cases hf
            refine sm_ireturn d_Md_isValue_359 rfl (by rfl) ?_
            exact ⟨rfl, rfl⟩
        · rw [if_neg h42] at hf
          by_cases h43 : x1 = 92
          · rw [if_pos h43] at hf
            refine sm_tableIn (tgt := 235) d_Md_isValue_6 (by rw [h43] <;> decide) (by rw [h43] <;> decide) (by rw [h43] <;> rfl) (by decide) ?_
            refine sm_aload_n d_Md_isValue_235 rfl (j := 1) rfl ?_
            refine sm_iload d_Md_isValue_236 (j := 0) rfl ?_
            obtain ⟨r44, e45, hf⟩ := lo_bnd hf
            refine lo_callV d_Md_isValue_238 cs_Md_isValue_233 rfl hI ml_0 (As := [.int (x2 + (4 : Int32))]) rfl rfl (Nat.le_of_ble_eq_true rfl) (c_Md_u1 hI (x2 + (4 : Int32)) e45) ?_
            refine sm_bipush (v := 31) d_Md_isValue_241 (by decide) ?_
            refine sm_iand d_Md_isValue_243 ?_
            refine sm_iconst (v := 2) d_Md_isValue_244 (by decide) ?_
            refine sm_icmp_gt (tgt := 252) d_Md_isValue_245 (by decide) (fun h46 => ?_) (fun h46 => ?_)
            · rw [if_pos h46] at hf
              refine sm_iconst (v := 0) d_Md_isValue_252 (by decide) ?_
              cases hf
              refine sm_ireturn d_Md_isValue_253 rfl (by rfl) ?_
              exact ⟨rfl, rfl⟩
            · rw [if_neg h46] at hf
              refine sm_iconst (v := 1) d_Md_isValue_248 (by decide) ?_
              refine sm_goto (tgt := 253) d_Md_isValue_249 (by decide) ?_
              cases hf
              refine sm_ireturn d_Md_isValue_253 rfl (by rfl) ?_
              exact ⟨rfl, rfl⟩
          · rw [if_neg h43] at hf
            by_cases h47 : x1 = 93
            · rw [if_pos h47] at hf
              refine sm_tableIn (tgt := 254) d_Md_isValue_6 (by rw [h47] <;> decide) (by rw [h47] <;> decide) (by rw [h47] <;> rfl) (by decide) ?_
              refine sm_aload_n d_Md_isValue_254 rfl (j := 1) rfl ?_
              refine sm_aload_n d_Md_isValue_255 rfl (j := 1) rfl ?_
              refine sm_iload d_Md_isValue_256 (j := 0) rfl ?_
              obtain ⟨r48, e49, hf⟩ := lo_bnd hf
              refine lo_callV d_Md_isValue_258 cs_Md_isValue_233 rfl hI ml_0 (As := [.int (x2 + (4 : Int32))]) rfl rfl (Nat.le_of_ble_eq_true rfl) (c_Md_u1 hI (x2 + (4 : Int32)) e49) ?_
              refine lo_callV d_Md_isValue_261 cs_Md_isValue_269 rfl hI ml_0 (As := [.int r48]) rfl rfl (Nat.le_of_ble_eq_true rfl) (c_Md_isThere hI r48) ?_
              refine sm_if_eq (tgt := 286) d_Md_isValue_264 (by decide) (fun h50 => ?_) (fun h50 => ?_)
              · rw [if_neg (bi0 h50)] at hf
                refine sm_iconst (v := 0) d_Md_isValue_286 (by decide) ?_
                cases hf
                refine sm_ireturn d_Md_isValue_287 rfl (by rfl) ?_
                exact ⟨rfl, rfl⟩
              · rw [if_pos (bi1 h50)] at hf
                refine sm_aload_n d_Md_isValue_267 rfl (j := 1) rfl ?_
                refine sm_iload d_Md_isValue_268 (j := 0) rfl ?_
                refine sm_iconst (v := 1) d_Md_isValue_270 (by decide) ?_
                refine sm_iadd d_Md_isValue_271 ?_
                obtain ⟨r51, e52, hf⟩ := lo_bnd hf
                refine lo_callV d_Md_isValue_272 cs_Md_isValue_233 rfl hI ml_0 (As := [.int ((x2 + (4 : Int32)) + (1 : Int32))]) rfl rfl (Nat.le_of_ble_eq_true rfl) (c_Md_u1 hI ((x2 + (4 : Int32)) + (1 : Int32)) e52) ?_
                refine sm_bipush (v := 31) d_Md_isValue_275 (by decide) ?_
                refine sm_iand d_Md_isValue_277 ?_
                refine sm_iconst (v := 2) d_Md_isValue_278 (by decide) ?_
                refine sm_icmp_gt (tgt := 286) d_Md_isValue_279 (by decide) (fun h53 => ?_) (fun h53 => ?_)
                · rw [if_pos h53] at hf
                  refine sm_iconst (v := 0) d_Md_isValue_286 (by decide) ?_
                  cases hf
                  refine sm_ireturn d_Md_isValue_287 rfl (by rfl) ?_
                  exact ⟨rfl, rfl⟩
                · rw [if_neg h53] at hf
                  refine sm_iconst (v := 1) d_Md_isValue_282 (by decide) ?_
                  refine sm_goto (tgt := 287) d_Md_isValue_283 (by decide) ?_
                  cases hf
                  refine sm_ireturn d_Md_isValue_287 rfl (by rfl) ?_
                  exact ⟨rfl, rfl⟩
            · rw [if_neg h47] at hf
              by_cases h54 : x1 = 94
              · rw [if_pos h54] at hf
                refine sm_tableIn (tgt := 288) d_Md_isValue_6 (by rw [h54] <;> decide) (by rw [h54] <;> decide) (by rw [h54] <;> rfl) (by decide) ?_
                refine sm_aload_n d_Md_isValue_288 rfl (j := 1) rfl ?_
                refine sm_aload_n d_Md_isValue_289 rfl (j := 1) rfl ?_
                refine sm_iload d_Md_isValue_290 (j := 0) rfl ?_
                obtain ⟨r55, e56, hf⟩ := lo_bnd hf
                refine lo_callV d_Md_isValue_292 cs_Md_isValue_233 rfl hI ml_0 (As := [.int (x2 + (4 : Int32))]) rfl rfl (Nat.le_of_ble_eq_true rfl) (c_Md_u1 hI (x2 + (4 : Int32)) e56) ?_
                refine lo_callV d_Md_isValue_295 cs_Md_isValue_269 rfl hI ml_0 (As := [.int r55]) rfl rfl (Nat.le_of_ble_eq_true rfl) (c_Md_isThere hI r55) ?_
                refine sm_if_eq (tgt := 329) d_Md_isValue_298 (by decide) (fun h57 => ?_) (fun h57 => ?_)
                · rw [if_neg (bi0 h57)] at hf
                  refine sm_iconst (v := 0) d_Md_isValue_329 (by decide) ?_
                  cases hf
                  refine sm_ireturn d_Md_isValue_330 rfl (by rfl) ?_
                  exact ⟨rfl, rfl⟩
                · rw [if_pos (bi1 h57)] at hf
                  refine sm_aload_n d_Md_isValue_301 rfl (j := 1) rfl ?_
                  refine sm_iload d_Md_isValue_302 (j := 0) rfl ?_
                  refine sm_iconst (v := 1) d_Md_isValue_304 (by decide) ?_
                  refine sm_iadd d_Md_isValue_305 ?_
                  obtain ⟨r58, e59, hf⟩ := lo_bnd hf
                  refine lo_callV d_Md_isValue_306 cs_Md_isValue_233 rfl hI ml_0 (As := [.int ((x2 + (4 : Int32)) + (1 : Int32))]) rfl rfl (Nat.le_of_ble_eq_true rfl) (c_Md_u1 hI ((x2 + (4 : Int32)) + (1 : Int32)) e59) ?_
                  refine sm_if_ne (tgt := 329) d_Md_isValue_309 (by decide) (fun h60 => ?_) (fun h60 => ?_)
                  · rw [if_neg h60] at hf
                    refine sm_iconst (v := 0) d_Md_isValue_329 (by decide) ?_
                    cases hf
                    refine sm_ireturn d_Md_isValue_330 rfl (by rfl) ?_
                    exact ⟨rfl, rfl⟩
                  · rw [if_pos h60] at hf
                    refine sm_aload_n d_Md_isValue_312 rfl (j := 1) rfl ?_
                    refine sm_iload d_Md_isValue_313 (j := 0) rfl ?_
                    refine sm_iconst (v := 2) d_Md_isValue_315 (by decide) ?_
                    refine sm_iadd d_Md_isValue_316 ?_
                    obtain ⟨r61, e62, hf⟩ := lo_bnd hf
                    refine lo_callV d_Md_isValue_317 cs_Md_isValue_233 rfl hI ml_0 (As := [.int ((x2 + (4 : Int32)) + (2 : Int32))]) rfl rfl (Nat.le_of_ble_eq_true rfl) (c_Md_u1 hI ((x2 + (4 : Int32)) + (2 : Int32)) e62) ?_
                    refine sm_bipush (v := 37) d_Md_isValue_320 (by decide) ?_
                    refine sm_icmp_gt (tgt := 329) d_Md_isValue_322 (by decide) (fun h63 => ?_) (fun h63 => ?_)
                    · rw [if_pos h63] at hf
                      refine sm_iconst (v := 0) d_Md_isValue_329 (by decide) ?_
                      cases hf
                      refine sm_ireturn d_Md_isValue_330 rfl (by rfl) ?_
                      exact ⟨rfl, rfl⟩
                    · rw [if_neg h63] at hf
                      refine sm_iconst (v := 1) d_Md_isValue_325 (by decide) ?_
                      refine sm_goto (tgt := 330) d_Md_isValue_326 (by decide) ?_
                      cases hf
                      refine sm_ireturn d_Md_isValue_330 rfl (by rfl) ?_
                      exact ⟨rfl, rfl⟩
              · rw [if_neg h54] at hf
                by_cases h64 : x1 = 95
                · rw [if_pos h64] at hf
                  refine sm_tableIn (tgt := 331) d_Md_isValue_6 (by rw [h64] <;> decide) (by rw [h64] <;> decide) (by rw [h64] <;> rfl) (by decide) ?_
                  refine sm_aload_n d_Md_isValue_331 rfl (j := 1) rfl ?_
                  refine sm_iload_n d_Md_isValue_332 rfl (j := 3) rfl ?_
                  obtain ⟨r65, e66, hf⟩ := lo_bnd hf
                  refine lo_callV d_Md_isValue_333 cs_Md_isValue_272 rfl hI ml_0 (As := [.int x2]) rfl rfl (Nat.le_of_ble_eq_true rfl) (c_Md_areChanges hI x2 e66) ?_
                  cases hf
                  refine sm_ireturn d_Md_isValue_336 rfl (bi_n _) ?_
                  exact ⟨rfl, rfl⟩
                · rw [if_neg h64] at hf
                  by_cases h67 : x1 = 96 ∨ x1 = 97
                  · rw [if_pos h67] at hf
                    rcases h67 with h67 | h67
                    · refine sm_tableIn (tgt := 337) d_Md_isValue_6 (by rw [h67] <;> decide) (by rw [h67] <;> decide) (by rw [h67] <;> rfl) (by decide) ?_
                      refine sm_aload_n d_Md_isValue_337 rfl (j := 1) rfl ?_
                      refine sm_iload d_Md_isValue_338 (j := 0) rfl ?_
                      obtain ⟨r68, e69, hf⟩ := lo_bnd hf
                      refine lo_callV d_Md_isValue_340 cs_Md_isValue_233 rfl hI ml_0 (As := [.int (x2 + (4 : Int32))]) rfl rfl (Nat.le_of_ble_eq_true rfl) (c_Md_u1 hI (x2 + (4 : Int32)) e69) ?_
                      refine sm_aload_n d_Md_isValue_343 rfl (j := 1) rfl ?_
                      refine sm_iload_n d_Md_isValue_344 rfl (j := 2) rfl ?_
                      refine sm_iload_n d_Md_isValue_345 rfl (j := 4) rfl ?_
                      obtain ⟨r70, e71, hf⟩ := lo_bnd hf
                      refine lo_callV d_Md_isValue_346 cs_Md_isValue_275 rfl hI ml_0 (As := [.int x1, .int x3]) rfl rfl (Nat.le_of_ble_eq_true rfl) (c_Md_met hI x1 x3 e71) ?_
                      refine sm_icmp_ne (tgt := 356) d_Md_isValue_349 (by decide) (fun h72 => ?_) (fun h72 => ?_)
                      · rw [if_neg h72] at hf
                        refine sm_iconst (v := 0) d_Md_isValue_356 (by decide) ?_
                        cases hf
                        refine sm_ireturn d_Md_isValue_357 rfl (by rfl) ?_
                        exact ⟨rfl, rfl⟩
                      · rw [if_pos h72] at hf
                        refine sm_iconst (v := 1) d_Md_isValue_352 (by decide) ?_
                        refine sm_goto (tgt := 357) d_Md_isValue_353 (by decide) ?_
                        cases hf
                        refine sm_ireturn d_Md_isValue_357 rfl (by rfl) ?_
                        exact ⟨rfl, rfl⟩
                    · refine sm_tableIn (tgt := 337) d_Md_isValue_6 (by rw [h67] <;> decide) (by rw [h67] <;> decide) (by rw [h67] <;> rfl) (by decide) ?_
                      refine sm_aload_n d_Md_isValue_337 rfl (j := 1) rfl ?_
                      refine sm_iload d_Md_isValue_338 (j := 0) rfl ?_
                      obtain ⟨r68, e69, hf⟩ := lo_bnd hf
                      refine lo_callV d_Md_isValue_340 cs_Md_isValue_233 rfl hI ml_0 (As := [.int (x2 + (4 : Int32))]) rfl rfl (Nat.le_of_ble_eq_true rfl) (c_Md_u1 hI (x2 + (4 : Int32)) e69) ?_
                      refine sm_aload_n d_Md_isValue_343 rfl (j := 1) rfl ?_
                      refine sm_iload_n d_Md_isValue_344 rfl (j := 2) rfl ?_
                      refine sm_iload_n d_Md_isValue_345 rfl (j := 4) rfl ?_
                      obtain ⟨r70, e71, hf⟩ := lo_bnd hf
                      refine lo_callV d_Md_isValue_346 cs_Md_isValue_275 rfl hI ml_0 (As := [.int x1, .int x3]) rfl rfl (Nat.le_of_ble_eq_true rfl) (c_Md_met hI x1 x3 e71) ?_
                      refine sm_icmp_ne (tgt := 356) d_Md_isValue_349 (by decide) (fun h72 => ?_) (fun h72 => ?_)
                      · rw [if_neg h72] at hf
                        refine sm_iconst (v := 0) d_Md_isValue_356 (by decide) ?_
                        cases hf
                        refine sm_ireturn d_Md_isValue_357 rfl (by rfl) ?_
                        exact ⟨rfl, rfl⟩
                      · rw [if_pos h72] at hf
                        refine sm_iconst (v := 1) d_Md_isValue_352 (by decide) ?_
                        refine sm_goto (tgt := 357) d_Md_isValue_353 (by decide) ?_
                        cases hf
                        refine sm_ireturn d_Md_isValue_357 rfl (by rfl) ?_
                        exact ⟨rfl, rfl⟩
                  · rw [if_neg h67] at hf
                    refine sm_tableOut (tgt := 358) d_Md_isValue_6 (by have := (mt sm_eqI.mpr h1); rw [show ((81 : Int32)).toInt = 81 by decide] at this; have := (mt sm_eqI.mpr h4); rw [show ((82 : Int32)).toInt = 82 by decide] at this; have := (mt sm_eqI.mpr h26); rw [show ((83 : Int32)).toInt = 83 by decide] at this; have := (mt sm_eqI.mpr (fun e8 => h42 (Or.inl e8))); rw [show ((84 : Int32)).toInt = 84 by decide] at this; have := (mt sm_eqI.mpr (fun e8 => h42 (Or.inr (Or.inl e8)))); rw [show ((85 : Int32)).toInt = 85 by decide] at this; have := (mt sm_eqI.mpr (fun e8 => h42 (Or.inr (Or.inr (Or.inl e8))))); rw [show ((86 : Int32)).toInt = 86 by decide] at this; have := (mt sm_eqI.mpr (fun e8 => h42 (Or.inr (Or.inr (Or.inr (Or.inl e8)))))); rw [show ((87 : Int32)).toInt = 87 by decide] at this; have := (mt sm_eqI.mpr (fun e8 => h42 (Or.inr (Or.inr (Or.inr (Or.inr (Or.inl e8))))))); rw [show ((88 : Int32)).toInt = 88 by decide] at this; have := (mt sm_eqI.mpr (fun e8 => h42 (Or.inr (Or.inr (Or.inr (Or.inr (Or.inr (Or.inl e8)))))))); rw [show ((89 : Int32)).toInt = 89 by decide] at this; have := (mt sm_eqI.mpr (fun e8 => h42 (Or.inr (Or.inr (Or.inr (Or.inr (Or.inr (Or.inr (Or.inl e8))))))))); rw [show ((90 : Int32)).toInt = 90 by decide] at this; have := (mt sm_eqI.mpr (fun e8 => h42 (Or.inr (Or.inr (Or.inr (Or.inr (Or.inr (Or.inr (Or.inr e8))))))))); rw [show ((91 : Int32)).toInt = 91 by decide] at this; have := (mt sm_eqI.mpr h43); rw [show ((92 : Int32)).toInt = 92 by decide] at this; have := (mt sm_eqI.mpr h47); rw [show ((93 : Int32)).toInt = 93 by decide] at this; have := (mt sm_eqI.mpr h54); rw [show ((94 : Int32)).toInt = 94 by decide] at this; have := (mt sm_eqI.mpr h64); rw [show ((95 : Int32)).toInt = 95 by decide] at this; have := (mt sm_eqI.mpr (fun e8 => h67 (Or.inl e8))); rw [show ((96 : Int32)).toInt = 96 by decide] at this; have := (mt sm_eqI.mpr (fun e8 => h67 (Or.inr e8))); rw [show ((97 : Int32)).toInt = 97 by decide] at this; omega) (by decide) ?_
                    refine sm_iconst (v := 1) d_Md_isValue_358 (by decide) ?_
                    cases hf
                    refine sm_ireturn d_Md_isValue_359 rfl (by rfl) ?_
                    exact ⟨rfl, rfl⟩

def fn_Md_isTwice_18 (F : Nat) (w : wd) (x1 : Int32) (x3 : Int32) : Option (Bool) := ((fn_Md_met F w x1 x3).bind fun r2 => (if r2 ≤ 0 then some false else some true))
set_option maxHeartbeats 1600000 in
set_option maxRecDepth 100000 in
theorem w_Md_isTwice_18 {G : sm_G} {b : Nat} {M0 : sm_M} {bc bs : Nat} {R : Bool} {F : Nat} : ∀ (w : wd) (x1 : Int32) (x3 : Int32), lo_in G md_L b M0 M0 w → fn_Md_isTwice_18 F w x1 x3 = some R → sm_W G mf_Md_isTwice 18 [(0, .ref (b + 0)), (1, .int x1), (3, .int x3)] [] M0 bc bs (sm_pu M0 (.int (bi R))) := by
  intro w x1 x3 hI  hf
  unfold fn_Md_isTwice_18 at hf
  refine sm_aload_n d_Md_isTwice_18 rfl (j := 0) rfl ?_
  refine sm_iload_n d_Md_isTwice_19 rfl (j := 1) rfl ?_
  refine sm_iload_n d_Md_isTwice_20 rfl (j := 2) rfl ?_
  obtain ⟨r2, e3, hf⟩ := lo_bnd hf
  refine lo_callV d_Md_isTwice_21 cs_Md_isTwice_275 rfl hI ml_0 (As := [.int x1, .int x3]) rfl rfl (Nat.le_of_ble_eq_true rfl) (c_Md_met hI x1 x3 e3) ?_
  refine sm_if_le (tgt := 31) d_Md_isTwice_24 (by decide) (fun h4 => ?_) (fun h4 => ?_)
  · rw [if_pos h4] at hf
    refine sm_iconst (v := 0) d_Md_isTwice_31 (by decide) ?_
    cases hf
    refine sm_ireturn d_Md_isTwice_32 rfl (by rfl) ?_
    exact ⟨rfl, rfl⟩
  · rw [if_neg h4] at hf
    refine sm_iconst (v := 1) d_Md_isTwice_27 (by decide) ?_
    refine sm_goto (tgt := 32) d_Md_isTwice_28 (by decide) ?_
    cases hf
    refine sm_ireturn d_Md_isTwice_32 rfl (by rfl) ?_
    exact ⟨rfl, rfl⟩

def fn_Md_isTwice_51 (F : Nat) (w : wd) (x1 : Int32) (x2 : Int32) (x3 : Int32) : Option (Bool) := ((fn_Md_u1 w (x2 + (4 : Int32))).bind fun r8 => ((fn_Md_metOf F w x1 x3 r8).bind fun r10 => (if r10 = true then some true else some false)))
set_option maxHeartbeats 1600000 in
set_option maxRecDepth 100000 in
theorem w_Md_isTwice_51 {G : sm_G} {b : Nat} {M0 : sm_M} {bc bs : Nat} {R : Bool} {F : Nat} : ∀ (w : wd) (x1 : Int32) (x2 : Int32) (x3 : Int32), lo_in G md_L b M0 M0 w → fn_Md_isTwice_51 F w x1 x2 x3 = some R → sm_W G mf_Md_isTwice 51 [(0, .ref (b + 0)), (1, .int x1), (2, .int x2), (3, .int x3)] [] M0 bc bs (sm_pu M0 (.int (bi R))) := by
  intro w x1 x2 x3 hI  hf
  unfold fn_Md_isTwice_51 at hf
  refine sm_aload_n d_Md_isTwice_51 rfl (j := 0) rfl ?_
  refine sm_iload_n d_Md_isTwice_52 rfl (j := 1) rfl ?_
  refine sm_iload_n d_Md_isTwice_53 rfl (j := 3) rfl ?_
  refine sm_aload_n d_Md_isTwice_54 rfl (j := 0) rfl ?_
  refine sm_iload_n d_Md_isTwice_55 rfl (j := 2) rfl ?_
  refine sm_iconst (v := 4) d_Md_isTwice_56 (by decide) ?_
  refine sm_iadd d_Md_isTwice_57 ?_
  obtain ⟨r8, e9, hf⟩ := lo_bnd hf
  refine lo_callV d_Md_isTwice_58 cs_Md_isTwice_233 rfl hI ml_0 (As := [.int (x2 + (4 : Int32))]) rfl rfl (Nat.le_of_ble_eq_true rfl) (c_Md_u1 hI (x2 + (4 : Int32)) e9) ?_
  obtain ⟨r10, e11, hf⟩ := lo_bnd hf
  refine lo_callV d_Md_isTwice_61 cs_Md_isTwice_278 rfl hI ml_0 (As := [.int x1, .int x3, .int r8]) rfl rfl (Nat.le_of_ble_eq_true rfl) (c_Md_metOf hI x1 x3 r8 e11) ?_
  refine sm_if_eq (tgt := 71) d_Md_isTwice_64 (by decide) (fun h12 => ?_) (fun h12 => ?_)
  · rw [if_neg (bi0 h12)] at hf
    refine sm_iconst (v := 0) d_Md_isTwice_71 (by decide) ?_
    cases hf
    refine sm_ireturn d_Md_isTwice_72 rfl (by rfl) ?_
    exact ⟨rfl, rfl⟩
  · rw [if_pos (bi1 h12)] at hf
    refine sm_iconst (v := 1) d_Md_isTwice_67 (by decide) ?_
    refine sm_goto (tgt := 72) d_Md_isTwice_68 (by decide) ?_
    cases hf
    refine sm_ireturn d_Md_isTwice_72 rfl (by rfl) ?_
    exact ⟨rfl, rfl⟩

def fn_Md_isTwice (F : Nat) (w : wd) (x1 : Int32) (x2 : Int32) (x3 : Int32) : Option (Bool) := (if x1 = (82 : Int32) then fn_Md_isTwice_18 F w x1 x3 else (if x1 = (92 : Int32) then fn_Md_isTwice_18 F w x1 x3 else (if x1 = (95 : Int32) then fn_Md_isTwice_18 F w x1 x3 else (if x1 = (83 : Int32) then fn_Md_isTwice_51 F w x1 x2 x3 else (if x1 = (93 : Int32) then fn_Md_isTwice_51 F w x1 x2 x3 else (if x1 = (94 : Int32) then fn_Md_isTwice_51 F w x1 x2 x3 else some false))))))
set_option maxHeartbeats 1600000 in
set_option maxRecDepth 100000 in
theorem c_Md_isTwice {G : sm_G} {b : Nat} {M0 M : sm_M}  {w : wd} {F : Nat} (hI : lo_in G md_L b M0 M w)  (x1 : Int32) (x2 : Int32) (x3 : Int32)  {R : Bool} (hf : fn_Md_isTwice F w x1 x2 x3 = some R) : sm_C G mf_Md_isTwice [.ref (b + 0), .int x1, .int x2, .int x3] M 0 0 (sm_pu M (.int (bi R))) := by
  unfold fn_Md_isTwice at hf
  have hI := hI.here
  refine sm_ofW rfl (Nat.le_of_ble_eq_true rfl) ?_
  refine sm_iload_n d_Md_isTwice_0 rfl (j := 1) rfl ?_
  refine sm_bipush (v := 82) d_Md_isTwice_1 (by decide) ?_
  refine sm_icmp_eq (tgt := 18) d_Md_isTwice_3 (by decide) (fun h1 => ?_) (fun h1 => ?_)
  · rw [if_pos h1] at hf
    exact sm_pick [0, 1, 3] (w_Md_isTwice_18 _ _ _ hI hf) rfl
  · rw [if_neg h1] at hf
    refine sm_iload_n d_Md_isTwice_6 rfl (j := 1) rfl ?_
    refine sm_bipush (v := 92) d_Md_isTwice_7 (by decide) ?_
    refine sm_icmp_eq (tgt := 18) d_Md_isTwice_9 (by decide) (fun h5 => ?_) (fun h5 => ?_)
    · rw [if_pos h5] at hf
      exact sm_pick [0, 1, 3] (w_Md_isTwice_18 _ _ _ hI hf) rfl
    · rw [if_neg h5] at hf
      refine sm_iload_n d_Md_isTwice_12 rfl (j := 1) rfl ?_
      refine sm_bipush (v := 95) d_Md_isTwice_13 (by decide) ?_
      refine sm_icmp_ne (tgt := 33) d_Md_isTwice_15 (by decide) (fun h6 => ?_) (fun h6 => ?_)
      · rw [if_neg h6] at hf
        refine sm_iload_n d_Md_isTwice_33 rfl (j := 1) rfl ?_
        refine sm_bipush (v := 83) d_Md_isTwice_34 (by decide) ?_
        refine sm_icmp_eq (tgt := 51) d_Md_isTwice_36 (by decide) (fun h7 => ?_) (fun h7 => ?_)
        · rw [if_pos h7] at hf
          exact sm_pick [0, 1, 2, 3] (w_Md_isTwice_51 _ _ _ _ hI hf) rfl
        · rw [if_neg h7] at hf
          refine sm_iload_n d_Md_isTwice_39 rfl (j := 1) rfl ?_
          refine sm_bipush (v := 93) d_Md_isTwice_40 (by decide) ?_
          refine sm_icmp_eq (tgt := 51) d_Md_isTwice_42 (by decide) (fun h13 => ?_) (fun h13 => ?_)
          · rw [if_pos h13] at hf
            exact sm_pick [0, 1, 2, 3] (w_Md_isTwice_51 _ _ _ _ hI hf) rfl
          · rw [if_neg h13] at hf
            refine sm_iload_n d_Md_isTwice_45 rfl (j := 1) rfl ?_
            refine sm_bipush (v := 94) d_Md_isTwice_46 (by decide) ?_
            refine sm_icmp_ne (tgt := 71) d_Md_isTwice_48 (by decide) (fun h14 => ?_) (fun h14 => ?_)
            · rw [if_neg h14] at hf
              refine sm_iconst (v := 0) d_Md_isTwice_71 (by decide) ?_
              cases hf
              refine sm_ireturn d_Md_isTwice_72 rfl (by rfl) ?_
              exact ⟨rfl, rfl⟩
            · rw [if_pos h14] at hf
              exact sm_pick [0, 1, 2, 3] (w_Md_isTwice_51 _ _ _ _ hI hf) rfl
      · rw [if_pos h6] at hf
        exact sm_pick [0, 1, 3] (w_Md_isTwice_18 _ _ _ hI hf) rfl

def fn_Md_look_98 (F : Nat) (w : wd) (x1 : Int32) (x2 : Int32) (x3 : Int32) (s0 : Int32) : Option (Int32 × wd) := (if s0 ≤ 0 then (if 0 ≤ (w 0 23).toInt ∧ (w 0 23).toInt < 16500 then (if 0 ≤ ((up2 w 12 ((w 0 23).toInt.toNat) x1) 0 23).toInt ∧ ((up2 w 12 ((w 0 23).toInt.toNat) x1) 0 23).toInt < 16500 then ((fn_Md_u2 (up2 (up2 w 12 ((w 0 23).toInt.toNat) x1) 13 (((up2 w 12 ((w 0 23).toInt.toNat) x1) 0 23).toInt.toNat) x2) (x2 + (2 : Int32))).bind fun r23 => (if 0 ≤ ((up2 (up2 w 12 ((w 0 23).toInt.toNat) x1) 13 (((up2 w 12 ((w 0 23).toInt.toNat) x1) 0 23).toInt.toNat) x2) 0 23).toInt ∧ ((up2 (up2 w 12 ((w 0 23).toInt.toNat) x1) 13 (((up2 w 12 ((w 0 23).toInt.toNat) x1) 0 23).toInt.toNat) x2) 0 23).toInt < 16500 then (if 0 ≤ ((up2 (up2 (up2 w 12 ((w 0 23).toInt.toNat) x1) 13 (((up2 w 12 ((w 0 23).toInt.toNat) x1) 0 23).toInt.toNat) x2) 14 (((up2 (up2 w 12 ((w 0 23).toInt.toNat) x1) 13 (((up2 w 12 ((w 0 23).toInt.toNat) x1) 0 23).toInt.toNat) x2) 0 23).toInt.toNat) r23) 0 23).toInt ∧ ((up2 (up2 (up2 w 12 ((w 0 23).toInt.toNat) x1) 13 (((up2 w 12 ((w 0 23).toInt.toNat) x1) 0 23).toInt.toNat) x2) 14 (((up2 (up2 w 12 ((w 0 23).toInt.toNat) x1) 13 (((up2 w 12 ((w 0 23).toInt.toNat) x1) 0 23).toInt.toNat) x2) 0 23).toInt.toNat) r23) 0 23).toInt < 16500 then some ((0 : Int32), (up2 (up2 (up2 (up2 (up2 w 12 ((w 0 23).toInt.toNat) x1) 13 (((up2 w 12 ((w 0 23).toInt.toNat) x1) 0 23).toInt.toNat) x2) 14 (((up2 (up2 w 12 ((w 0 23).toInt.toNat) x1) 13 (((up2 w 12 ((w 0 23).toInt.toNat) x1) 0 23).toInt.toNat) x2) 0 23).toInt.toNat) r23) 15 (((up2 (up2 (up2 w 12 ((w 0 23).toInt.toNat) x1) 13 (((up2 w 12 ((w 0 23).toInt.toNat) x1) 0 23).toInt.toNat) x2) 14 (((up2 (up2 w 12 ((w 0 23).toInt.toNat) x1) 13 (((up2 w 12 ((w 0 23).toInt.toNat) x1) 0 23).toInt.toNat) x2) 0 23).toInt.toNat) r23) 0 23).toInt.toNat) x3) 0 23 (((up2 (up2 (up2 (up2 w 12 ((w 0 23).toInt.toNat) x1) 13 (((up2 w 12 ((w 0 23).toInt.toNat) x1) 0 23).toInt.toNat) x2) 14 (((up2 (up2 w 12 ((w 0 23).toInt.toNat) x1) 13 (((up2 w 12 ((w 0 23).toInt.toNat) x1) 0 23).toInt.toNat) x2) 0 23).toInt.toNat) r23) 15 (((up2 (up2 (up2 w 12 ((w 0 23).toInt.toNat) x1) 13 (((up2 w 12 ((w 0 23).toInt.toNat) x1) 0 23).toInt.toNat) x2) 14 (((up2 (up2 w 12 ((w 0 23).toInt.toNat) x1) 13 (((up2 w 12 ((w 0 23).toInt.toNat) x1) 0 23).toInt.toNat) x2) 0 23).toInt.toNat) r23) 0 23).toInt.toNat) x3) 0 23) + (1 : Int32)))) else none) else none)) else none) else none) else some ((fn_Md_no w s0 x2).1, (fn_Md_no w s0 x2).2))
set_option maxHeartbeats 1600000 in
set_option maxRecDepth 100000 in
theorem w_Md_look_98 {G : sm_G} {b : Nat} {M0 : sm_M} {bc bs : Nat} {R : Int32 × wd} {F : Nat} : ∀ (M : sm_M) (w : wd) (x1 : Int32) (x2 : Int32) (x3 : Int32) (s0 : Int32), lo_in G md_L b M0 M w → fn_Md_look_98 F w x1 x2 x3 s0 = some R → sm_W G mf_Md_look 98 [(0, .ref (b + 0)), (1, .int x1), (2, .int x2), (3, .int x3)] [.int s0] M bc bs (wd_Q G md_L b M0 (some (.int R.1)) R.2) := by
  intro M w x1 x2 x3 s0 hI  hf
  unfold fn_Md_look_98 at hf
  refine sm_istore d_Md_look_98 (by decide) rfl ?_
  refine sm_iload d_Md_look_100 (j := 0) rfl ?_
  refine sm_if_le (tgt := 113) d_Md_look_102 (by decide) (fun h16 => ?_) (fun h16 => ?_)
  · rw [if_pos h16] at hf
    refine sm_aload_n d_Md_look_113 rfl (j := 1) rfl ?_
    refine lo_get (v := .ref (b + 12)) d_Md_look_114 fg_Md_51 hI ml_0 rfl ?_
    refine sm_aload_n d_Md_look_117 rfl (j := 1) rfl ?_
    refine lo_get (v := .int (w 0 23)) d_Md_look_118 fg_Md_239 hI ml_0 rfl ?_
    refine sm_iload_n d_Md_look_121 rfl (j := 2) rfl ?_
    obtain ⟨h17, hf⟩ := lo_chk hf
    refine lo_ast (j := (w 0 23).toInt.toNat) d_Md_look_122 hI ml_12 h17 rfl (fun M18 hI19 => ?_)
    refine sm_aload_n d_Md_look_123 rfl (j := 1) rfl ?_
    refine lo_get (v := .ref (b + 13)) d_Md_look_124 fg_Md_54 hI19 ml_0 rfl ?_
    refine sm_aload_n d_Md_look_127 rfl (j := 1) rfl ?_
    refine lo_get (v := .int ((up2 w 12 ((w 0 23).toInt.toNat) x1) 0 23)) d_Md_look_128 fg_Md_239 hI19 ml_0 rfl ?_
    refine sm_iload_n d_Md_look_131 rfl (j := 3) rfl ?_
    obtain ⟨h20, hf⟩ := lo_chk hf
    refine lo_ast (j := ((up2 w 12 ((w 0 23).toInt.toNat) x1) 0 23).toInt.toNat) d_Md_look_132 hI19 ml_13 h20 rfl (fun M21 hI22 => ?_)
    refine sm_aload_n d_Md_look_133 rfl (j := 1) rfl ?_
    refine lo_get (v := .ref (b + 14)) d_Md_look_134 fg_Md_57 hI22 ml_0 rfl ?_
    refine sm_aload_n d_Md_look_137 rfl (j := 1) rfl ?_
    refine lo_get (v := .int ((up2 (up2 w 12 ((w 0 23).toInt.toNat) x1) 13 (((up2 w 12 ((w 0 23).toInt.toNat) x1) 0 23).toInt.toNat) x2) 0 23)) d_Md_look_138 fg_Md_239 hI22 ml_0 rfl ?_
    refine sm_aload_n d_Md_look_141 rfl (j := 1) rfl ?_
    refine sm_iload_n d_Md_look_142 rfl (j := 3) rfl ?_
    refine sm_iconst (v := 2) d_Md_look_143 (by decide) ?_
    refine sm_iadd d_Md_look_144 ?_
    obtain ⟨r23, e24, hf⟩ := lo_bnd hf
    refine lo_callV d_Md_look_145 cs_Md_look_230 rfl hI22 ml_0 (As := [.int (x2 + (2 : Int32))]) rfl rfl (Nat.le_of_ble_eq_true rfl) (c_Md_u2 hI22 (x2 + (2 : Int32)) e24) ?_
    obtain ⟨h25, hf⟩ := lo_chk hf
    refine lo_ast (j := ((up2 (up2 w 12 ((w 0 23).toInt.toNat) x1) 13 (((up2 w 12 ((w 0 23).toInt.toNat) x1) 0 23).toInt.toNat) x2) 0 23).toInt.toNat) d_Md_look_148 hI22 ml_14 h25 rfl (fun M26 hI27 => ?_)
    refine sm_aload_n d_Md_look_149 rfl (j := 1) rfl ?_
    refine lo_get (v := .ref (b + 15)) d_Md_look_150 fg_Md_60 hI27 ml_0 rfl ?_
    refine sm_aload_n d_Md_look_153 rfl (j := 1) rfl ?_
    refine lo_get (v := .int ((up2 (up2 (up2 w 12 ((w 0 23).toInt.toNat) x1) 13 (((up2 w 12 ((w 0 23).toInt.toNat) x1) 0 23).toInt.toNat) x2) 14 (((up2 (up2 w 12 ((w 0 23).toInt.toNat) x1) 13 (((up2 w 12 ((w 0 23).toInt.toNat) x1) 0 23).toInt.toNat) x2) 0 23).toInt.toNat) r23) 0 23)) d_Md_look_154 fg_Md_239 hI27 ml_0 rfl ?_
    refine sm_iload_n d_Md_look_157 rfl (j := 4) rfl ?_
    obtain ⟨h28, hf⟩ := lo_chk hf
    refine lo_ast (j := ((up2 (up2 (up2 w 12 ((w 0 23).toInt.toNat) x1) 13 (((up2 w 12 ((w 0 23).toInt.toNat) x1) 0 23).toInt.toNat) x2) 14 (((up2 (up2 w 12 ((w 0 23).toInt.toNat) x1) 13 (((up2 w 12 ((w 0 23).toInt.toNat) x1) 0 23).toInt.toNat) x2) 0 23).toInt.toNat) r23) 0 23).toInt.toNat) d_Md_look_158 hI27 ml_15 h28 rfl (fun M29 hI30 => ?_)
    refine sm_aload_n d_Md_look_159 rfl (j := 1) rfl ?_
    refine sm_dup d_Md_look_160 rfl ?_
    refine lo_get (v := .int ((up2 (up2 (up2 (up2 w 12 ((w 0 23).toInt.toNat) x1) 13 (((up2 w 12 ((w 0 23).toInt.toNat) x1) 0 23).toInt.toNat) x2) 14 (((up2 (up2 w 12 ((w 0 23).toInt.toNat) x1) 13 (((up2 w 12 ((w 0 23).toInt.toNat) x1) 0 23).toInt.toNat) x2) 0 23).toInt.toNat) r23) 15 (((up2 (up2 (up2 w 12 ((w 0 23).toInt.toNat) x1) 13 (((up2 w 12 ((w 0 23).toInt.toNat) x1) 0 23).toInt.toNat) x2) 14 (((up2 (up2 w 12 ((w 0 23).toInt.toNat) x1) 13 (((up2 w 12 ((w 0 23).toInt.toNat) x1) 0 23).toInt.toNat) x2) 0 23).toInt.toNat) r23) 0 23).toInt.toNat) x3) 0 23)) d_Md_look_161 fg_Md_239 hI30 ml_0 rfl ?_
    refine sm_iconst (v := 1) d_Md_look_164 (by decide) ?_
    refine sm_iadd d_Md_look_165 ?_
    refine lo_put d_Md_look_166 fp_Md_239 (by decide) hI30 ml_0 rfl (by rfl) (by rfl) (fun M31 hI32 => ?_)
    refine sm_iconst (v := 0) d_Md_look_169 (by decide) ?_
    cases hf
    refine sm_ireturn d_Md_look_170 rfl (by rfl) ?_
    exact ⟨rfl, hI32⟩
  · rw [if_neg h16] at hf
    refine sm_aload_n d_Md_look_105 rfl (j := 1) rfl ?_
    refine sm_iload d_Md_look_106 (j := 0) rfl ?_
    refine sm_iload_n d_Md_look_108 rfl (j := 3) rfl ?_
    refine lo_callVm d_Md_look_109 cs_Md_look_281 rfl hI ml_0 (As := [.int s0, .int x2]) rfl rfl (Nat.le_of_ble_eq_true rfl) (c_Md_no hI s0 x2) (fun M33 hI34 => ?_)
    cases hf
    refine sm_ireturn d_Md_look_112 rfl (by rfl) ?_
    exact ⟨rfl, hI34⟩

def fn_Md_look_21 (F : Nat) (w : wd) (x1 : Int32) (x2 : Int32) (x3 : Int32) (s0 : Bool) : Option (Int32 × wd) := (if s0 = true then some ((fn_Md_no w (2 : Int32) x2).1, (fn_Md_no w (2 : Int32) x2).2) else (if (fn_Md_hasLength x1) = true then ((fn_Md_fitsLength w x1 x2).bind fun r4 => (if r4 = true then ((fn_Md_isGreat F w x1 x2).bind fun r7 => (if r7 = true then fn_Md_look_98 F w x1 x2 x3 (7 : Int32) else ((fn_Md_isValue F w x1 x2 x3).bind fun r10 => (if r10 = true then ((fn_Md_isTwice F w x1 x2 x3).bind fun r13 => (if r13 = true then fn_Md_look_98 F w x1 x2 x3 (4 : Int32) else fn_Md_look_98 F w x1 x2 x3 (0 : Int32))) else fn_Md_look_98 F w x1 x2 x3 (5 : Int32))))) else fn_Md_look_98 F w x1 x2 x3 (3 : Int32))) else some ((0 : Int32), w)))
set_option maxHeartbeats 1600000 in
set_option maxRecDepth 100000 in
theorem w_Md_look_21 {G : sm_G} {b : Nat} {M0 : sm_M} {bc bs : Nat} {R : Int32 × wd} {F : Nat} : ∀ (M : sm_M) (w : wd) (x1 : Int32) (x2 : Int32) (x3 : Int32) (s0 : Bool), lo_in G md_L b M0 M w → fn_Md_look_21 F w x1 x2 x3 s0 = some R → sm_W G mf_Md_look 21 [(0, .ref (b + 0)), (1, .int x1), (2, .int x2), (3, .int x3)] [.int (bi s0)] M bc bs (wd_Q G md_L b M0 (some (.int R.1)) R.2) := by
  intro M w x1 x2 x3 s0 hI  hf
  unfold fn_Md_look_21 at hf
  refine sm_istore d_Md_look_21 (by decide) rfl ?_
  refine sm_iload d_Md_look_23 (j := 0) rfl ?_
  refine sm_if_eq (tgt := 35) d_Md_look_25 (by decide) (fun h2 => ?_) (fun h2 => ?_)
  · rw [if_neg (bi0 h2)] at hf
    refine sm_iload_n d_Md_look_35 rfl (j := 2) rfl ?_
    refine sm_callSp d_Md_look_36 cs_Md_look_236 rfl (As := [.int x1]) rfl rfl (Nat.le_of_ble_eq_true rfl) (c_Md_hasLength x1) ?_
    refine sm_if_eq (tgt := 169) d_Md_look_39 (by decide) (fun h3 => ?_) (fun h3 => ?_)
    · rw [if_neg (bi0 h3)] at hf
      refine sm_iconst (v := 0) d_Md_look_169 (by decide) ?_
      cases hf
      refine sm_ireturn d_Md_look_170 rfl (by rfl) ?_
      exact ⟨rfl, hI⟩
    · rw [if_pos (bi1 h3)] at hf
      refine sm_aload_n d_Md_look_42 rfl (j := 1) rfl ?_
      refine sm_iload_n d_Md_look_43 rfl (j := 2) rfl ?_
      refine sm_iload_n d_Md_look_44 rfl (j := 3) rfl ?_
      obtain ⟨r4, e5, hf⟩ := lo_bnd hf
      refine lo_callV d_Md_look_45 cs_Md_look_284 rfl hI ml_0 (As := [.int x1, .int x2]) rfl rfl (Nat.le_of_ble_eq_true rfl) (c_Md_fitsLength hI x1 x2 e5) ?_
      refine sm_if_ne (tgt := 55) d_Md_look_48 (by decide) (fun h6 => ?_) (fun h6 => ?_)
      · rw [if_pos (bi1 h6)] at hf
        refine sm_aload_n d_Md_look_55 rfl (j := 1) rfl ?_
        refine sm_iload_n d_Md_look_56 rfl (j := 2) rfl ?_
        refine sm_iload_n d_Md_look_57 rfl (j := 3) rfl ?_
        obtain ⟨r7, e8, hf⟩ := lo_bnd hf
        refine lo_callV d_Md_look_58 cs_Md_look_288 rfl hI ml_0 (As := [.int x1, .int x2]) rfl rfl (Nat.le_of_ble_eq_true rfl) (c_Md_isGreat hI x1 x2 e8) ?_
        refine sm_if_eq (tgt := 69) d_Md_look_61 (by decide) (fun h9 => ?_) (fun h9 => ?_)
        · rw [if_neg (bi0 h9)] at hf
          refine sm_aload_n d_Md_look_69 rfl (j := 1) rfl ?_
          refine sm_iload_n d_Md_look_70 rfl (j := 2) rfl ?_
          refine sm_iload_n d_Md_look_71 rfl (j := 3) rfl ?_
          refine sm_iload_n d_Md_look_72 rfl (j := 4) rfl ?_
          obtain ⟨r10, e11, hf⟩ := lo_bnd hf
          refine lo_callV d_Md_look_73 cs_Md_look_291 rfl hI ml_0 (As := [.int x1, .int x2, .int x3]) rfl rfl (Nat.le_of_ble_eq_true rfl) (c_Md_isValue hI x1 x2 x3 e11) ?_
          refine sm_if_ne (tgt := 83) d_Md_look_76 (by decide) (fun h12 => ?_) (fun h12 => ?_)
          · rw [if_pos (bi1 h12)] at hf
            refine sm_aload_n d_Md_look_83 rfl (j := 1) rfl ?_
            refine sm_iload_n d_Md_look_84 rfl (j := 2) rfl ?_
            refine sm_iload_n d_Md_look_85 rfl (j := 3) rfl ?_
            refine sm_iload_n d_Md_look_86 rfl (j := 4) rfl ?_
            obtain ⟨r13, e14, hf⟩ := lo_bnd hf
            refine lo_callV d_Md_look_87 cs_Md_look_294 rfl hI ml_0 (As := [.int x1, .int x2, .int x3]) rfl rfl (Nat.le_of_ble_eq_true rfl) (c_Md_isTwice hI x1 x2 x3 e14) ?_
            refine sm_if_eq (tgt := 97) d_Md_look_90 (by decide) (fun h15 => ?_) (fun h15 => ?_)
            · rw [if_neg (bi0 h15)] at hf
              refine sm_iconst (v := 0) d_Md_look_97 (by decide) ?_
              exact sm_pick [1, 2, 3, 4] (w_Md_look_98 _ _ _ _ _ _ hI hf) rfl
            · rw [if_pos (bi1 h15)] at hf
              refine sm_iconst (v := 4) d_Md_look_93 (by decide) ?_
              refine sm_goto (tgt := 98) d_Md_look_94 (by decide) ?_
              exact sm_pick [1, 2, 3, 4] (w_Md_look_98 _ _ _ _ _ _ hI hf) rfl
          · rw [if_neg (bi0 h12)] at hf
            refine sm_iconst (v := 5) d_Md_look_79 (by decide) ?_
            refine sm_goto (tgt := 98) d_Md_look_80 (by decide) ?_
            exact sm_pick [1, 2, 3, 4] (w_Md_look_98 _ _ _ _ _ _ hI hf) rfl
        · rw [if_pos (bi1 h9)] at hf
          refine sm_bipush (v := 7) d_Md_look_64 (by decide) ?_
          refine sm_goto (tgt := 98) d_Md_look_66 (by decide) ?_
          exact sm_pick [1, 2, 3, 4] (w_Md_look_98 _ _ _ _ _ _ hI hf) rfl
      · rw [if_neg (bi0 h6)] at hf
        refine sm_iconst (v := 3) d_Md_look_51 (by decide) ?_
        refine sm_goto (tgt := 98) d_Md_look_52 (by decide) ?_
        exact sm_pick [1, 2, 3, 4] (w_Md_look_98 _ _ _ _ _ _ hI hf) rfl
  · rw [if_pos (bi1 h2)] at hf
    refine sm_aload_n d_Md_look_28 rfl (j := 1) rfl ?_
    refine sm_iconst (v := 2) d_Md_look_29 (by decide) ?_
    refine sm_iload_n d_Md_look_30 rfl (j := 3) rfl ?_
    refine lo_callVm d_Md_look_31 cs_Md_look_281 rfl hI ml_0 (As := [.int (2 : Int32), .int x2]) rfl rfl (Nat.le_of_ble_eq_true rfl) (c_Md_no hI (2 : Int32) x2) (fun M35 hI36 => ?_)
    cases hf
    refine sm_ireturn d_Md_look_34 rfl (by rfl) ?_
    exact ⟨rfl, hI36⟩

def fn_Md_look_20 (F : Nat) (w : wd) (x1 : Int32) (x2 : Int32) (x3 : Int32) : Option (Int32 × wd) := fn_Md_look_21 F w x1 x2 x3 false
set_option maxHeartbeats 1600000 in
set_option maxRecDepth 100000 in
theorem w_Md_look_20 {G : sm_G} {b : Nat} {M0 : sm_M} {bc bs : Nat} {R : Int32 × wd} {F : Nat} : ∀ (M : sm_M) (w : wd) (x1 : Int32) (x2 : Int32) (x3 : Int32), lo_in G md_L b M0 M w → fn_Md_look_20 F w x1 x2 x3 = some R → sm_W G mf_Md_look 20 [(0, .ref (b + 0)), (1, .int x1), (2, .int x2), (3, .int x3)] [] M bc bs (wd_Q G md_L b M0 (some (.int R.1)) R.2) := by
  intro M w x1 x2 x3 hI  hf
  unfold fn_Md_look_20 at hf
  refine sm_iconst (v := 0) d_Md_look_20 (by decide) ?_
  exact sm_pick [0, 1, 2, 3] (w_Md_look_21 _ _ _ _ _ _ hI hf) rfl

def fn_Md_look (F : Nat) (w : wd) (x1 : Int32) (x2 : Int32) (x3 : Int32) : Option (Int32 × wd) := (if x1 = (97 : Int32) then ((fn_Md_met F w (96 : Int32) (-1 : Int32)).bind fun r37 => (if r37 ≤ 0 then fn_Md_look_20 F w x1 x2 x3 else fn_Md_look_21 F w x1 x2 x3 true)) else fn_Md_look_20 F w x1 x2 x3)
set_option maxHeartbeats 1600000 in
set_option maxRecDepth 100000 in
theorem c_Md_look {G : sm_G} {b : Nat} {M0 M : sm_M}  {w : wd} {F : Nat} (hI : lo_in G md_L b M0 M w)  (x1 : Int32) (x2 : Int32) (x3 : Int32)  {R : Int32 × wd} (hf : fn_Md_look F w x1 x2 x3 = some R) : sm_C G mf_Md_look [.ref (b + 0), .int x1, .int x2, .int x3] M 0 0 (wd_Q G md_L b M (some (.int R.1)) R.2) := by
  unfold fn_Md_look at hf
  have hI := hI.here
  refine sm_ofW rfl (Nat.le_of_ble_eq_true rfl) ?_
  refine sm_iload_n d_Md_look_0 rfl (j := 1) rfl ?_
  refine sm_bipush (v := 97) d_Md_look_1 (by decide) ?_
  refine sm_icmp_ne (tgt := 20) d_Md_look_3 (by decide) (fun h1 => ?_) (fun h1 => ?_)
  · rw [if_neg h1] at hf
    exact sm_pick [0, 1, 2, 3] (w_Md_look_20 _ _ _ _ _ hI hf) rfl
  · rw [if_pos h1] at hf
    refine sm_aload_n d_Md_look_6 rfl (j := 0) rfl ?_
    refine sm_bipush (v := 96) d_Md_look_7 (by decide) ?_
    refine sm_iconst (v := -1) d_Md_look_9 (by decide) ?_
    obtain ⟨r37, e38, hf⟩ := lo_bnd hf
    refine lo_callV d_Md_look_10 cs_Md_look_275 rfl hI ml_0 (As := [.int (96 : Int32), .int (-1 : Int32)]) rfl rfl (Nat.le_of_ble_eq_true rfl) (c_Md_met hI (96 : Int32) (-1 : Int32) e38) ?_
    refine sm_if_le (tgt := 20) d_Md_look_13 (by decide) (fun h39 => ?_) (fun h39 => ?_)
    · rw [if_pos h39] at hf
      exact sm_pick [0, 1, 2, 3] (w_Md_look_20 _ _ _ _ _ hI hf) rfl
    · rw [if_neg h39] at hf
      refine sm_iconst (v := 1) d_Md_look_16 (by decide) ?_
      refine sm_goto (tgt := 21) d_Md_look_17 (by decide) ?_
      exact sm_pick [0, 1, 2, 3] (w_Md_look_21 _ _ _ _ _ _ hI hf) rfl

