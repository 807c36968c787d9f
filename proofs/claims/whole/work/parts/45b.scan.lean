/-! scan, on; written by wip/tools/cls.py -/
def fn_Sc_hasLength (Z : zd) (w : wd) : Bool := (if (w 105 7) = 81 then (if (w 105 8) < (38 : Int32) then false else (if (w 105 8) = ((38 : Int32) + ((3 : Int32) * (fn_Sc_told2 Z w (34 : Int32)))) then true else false)) else (if (w 105 7) = 82 then (if (w 105 8) < (12 : Int32) then false else (if (w 105 8) = ((12 : Int32) + (fn_Sc_precinctBytes (fn_Sc_told Z w (0 : Int32)) (fn_Sc_told Z w (5 : Int32)))) then true else false)) else (if (w 105 7) = 83 then (if (w 105 8) < (9 : Int32) then false else (if (w 105 8) = ((9 : Int32) + (fn_Sc_precinctBytes (fn_Sc_told Z w (1 : Int32)) (fn_Sc_told Z w (2 : Int32)))) then true else false)) else (if (w 105 7) = 92 then (fn_Sc_hasLengthOfSteps Z w (0 : Int32)) else (if (w 105 7) = 93 then (fn_Sc_hasLengthOfSteps Z w (1 : Int32)) else (if (w 105 7) = 94 then (if (w 105 8) = (5 : Int32) then true else false) else (if (w 105 7) = 95 then (if (w 105 8) < (2 : Int32) then false else (if (((w 105 8) - (2 : Int32)) - ((w 105 8) - (2 : Int32)) / (7 : Int32) * (7 : Int32)) = 0 then true else false)) else (if (w 105 7) = 96 ∨ (w 105 7) = 97 then (if (w 105 8) < (3 : Int32) then false else true) else (if (w 105 7) = 144 then (if (w 105 8) = (10 : Int32) then true else false) else (if (2 : Int32) ≤ (w 105 8) then true else (if (fn_Sc_hasSegment Z w) = true then false else true)))))))))))
set_option maxHeartbeats 1600000 in
set_option maxRecDepth 100000 in
theorem c_Sc_hasLength {G : sm_G} {b : Nat} {M0 M : sm_M} {Z : zd} {w : wd}  (hI : lo_in G cm_L b M0 M w) (hZ : cz_at G b M0 Z) : sm_C G mf_Sc_hasLength [.ref (b + 105)] M 0 0 (sm_pu M (.int (bi (fn_Sc_hasLength Z w)))) := by
  obtain ⟨R, hf⟩ : ∃ R, fn_Sc_hasLength Z w = R := ⟨_, rfl⟩
  rw [hf]
  unfold fn_Sc_hasLength at hf
  have hZ := hZ.go hI.2
  have hI := hI.here
  refine sm_ofW rfl (Nat.le_of_ble_eq_true rfl) ?_
  refine sm_aload_n d_Sc_hasLength_0 rfl (j := 0) rfl ?_
  refine lo_get (v := .int (w 105 7)) d_Sc_hasLength_1 fg_Sc_97 hI cl_105 rfl ?_
  by_cases h1 : (w 105 7) = 81
  · rw [if_pos h1] at hf
    refine sm_lookup (tgt := 96) d_Sc_hasLength_4 (by decide) (by rw [h1] <;> rfl) (by decide) ?_
    refine sm_aload_n d_Sc_hasLength_96 rfl (j := 0) rfl ?_
    refine lo_get (v := .int (w 105 8)) d_Sc_hasLength_97 fg_Sc_113 hI cl_105 rfl ?_
    refine sm_bipush (v := 38) d_Sc_hasLength_100 (by decide) ?_
    refine sm_icmp_lt (tgt := 127) d_Sc_hasLength_102 (by decide) (fun h2 => ?_) (fun h2 => ?_)
    · rw [if_pos h2] at hf
      refine sm_iconst (v := 0) d_Sc_hasLength_127 (by decide) ?_
      subst hf
      refine sm_ireturn d_Sc_hasLength_128 rfl (by rfl) ?_
      exact ⟨rfl, rfl⟩
    · rw [if_neg h2] at hf
      refine sm_aload_n d_Sc_hasLength_105 rfl (j := 0) rfl ?_
      refine lo_get (v := .int (w 105 8)) d_Sc_hasLength_106 fg_Sc_113 hI cl_105 rfl ?_
      refine sm_bipush (v := 38) d_Sc_hasLength_109 (by decide) ?_
      refine sm_iconst (v := 3) d_Sc_hasLength_111 (by decide) ?_
      refine sm_aload_n d_Sc_hasLength_112 rfl (j := 0) rfl ?_
      refine sm_bipush (v := 34) d_Sc_hasLength_113 (by decide) ?_
      refine lo_callV d_Sc_hasLength_115 cs_Sc_hasLength_136 rfl hI cl_105 (As := [.int (34 : Int32)]) rfl rfl (Nat.le_of_ble_eq_true rfl) (c_Sc_told2 hI hZ (34 : Int32)) ?_
      refine sm_imul d_Sc_hasLength_118 ?_
      refine sm_iadd d_Sc_hasLength_119 ?_
      refine sm_icmp_ne (tgt := 127) d_Sc_hasLength_120 (by decide) (fun h3 => ?_) (fun h3 => ?_)
      · rw [if_neg h3] at hf
        refine sm_iconst (v := 0) d_Sc_hasLength_127 (by decide) ?_
        subst hf
        refine sm_ireturn d_Sc_hasLength_128 rfl (by rfl) ?_
        exact ⟨rfl, rfl⟩
      · rw [if_pos h3] at hf
        refine sm_iconst (v := 1) d_Sc_hasLength_123 (by decide) ?_
        refine sm_goto (tgt := 128) d_Sc_hasLength_124 (by decide) ?_
        subst hf
        refine sm_ireturn d_Sc_hasLength_128 rfl (by rfl) ?_
        exact ⟨rfl, rfl⟩
  · rw [if_neg h1] at hf
    by_cases h4 : (w 105 7) = 82
    · rw [if_pos h4] at hf
      refine sm_lookup (tgt := 129) d_Sc_hasLength_4 (by decide) (by rw [h4] <;> rfl) (by decide) ?_
      refine sm_aload_n d_Sc_hasLength_129 rfl (j := 0) rfl ?_
      refine lo_get (v := .int (w 105 8)) d_Sc_hasLength_130 fg_Sc_113 hI cl_105 rfl ?_
      refine sm_bipush (v := 12) d_Sc_hasLength_133 (by decide) ?_
      refine sm_icmp_lt (tgt := 165) d_Sc_hasLength_135 (by decide) (fun h5 => ?_) (fun h5 => ?_)
      · rw [if_pos h5] at hf
        refine sm_iconst (v := 0) d_Sc_hasLength_165 (by decide) ?_
        subst hf
        refine sm_ireturn d_Sc_hasLength_166 rfl (by rfl) ?_
        exact ⟨rfl, rfl⟩
      · rw [if_neg h5] at hf
        refine sm_aload_n d_Sc_hasLength_138 rfl (j := 0) rfl ?_
        refine lo_get (v := .int (w 105 8)) d_Sc_hasLength_139 fg_Sc_113 hI cl_105 rfl ?_
        refine sm_bipush (v := 12) d_Sc_hasLength_142 (by decide) ?_
        refine sm_aload_n d_Sc_hasLength_144 rfl (j := 0) rfl ?_
        refine sm_iconst (v := 0) d_Sc_hasLength_145 (by decide) ?_
        refine lo_callV d_Sc_hasLength_146 cs_Sc_hasLength_139 rfl hI cl_105 (As := [.int (0 : Int32)]) rfl rfl (Nat.le_of_ble_eq_true rfl) (c_Sc_told hI hZ (0 : Int32)) ?_
        refine sm_aload_n d_Sc_hasLength_149 rfl (j := 0) rfl ?_
        refine sm_iconst (v := 5) d_Sc_hasLength_150 (by decide) ?_
        refine lo_callV d_Sc_hasLength_151 cs_Sc_hasLength_139 rfl hI cl_105 (As := [.int (5 : Int32)]) rfl rfl (Nat.le_of_ble_eq_true rfl) (c_Sc_told hI hZ (5 : Int32)) ?_
        refine sm_callSp d_Sc_hasLength_154 cs_Sc_hasLength_142 rfl (As := [.int (fn_Sc_told Z w (0 : Int32)), .int (fn_Sc_told Z w (5 : Int32))]) rfl rfl (Nat.le_of_ble_eq_true rfl) (c_Sc_precinctBytes (fn_Sc_told Z w (0 : Int32)) (fn_Sc_told Z w (5 : Int32))) ?_
        refine sm_iadd d_Sc_hasLength_157 ?_
        refine sm_icmp_ne (tgt := 165) d_Sc_hasLength_158 (by decide) (fun h6 => ?_) (fun h6 => ?_)
        · rw [if_neg h6] at hf
          refine sm_iconst (v := 0) d_Sc_hasLength_165 (by decide) ?_
          subst hf
          refine sm_ireturn d_Sc_hasLength_166 rfl (by rfl) ?_
          exact ⟨rfl, rfl⟩
        · rw [if_pos h6] at hf
          refine sm_iconst (v := 1) d_Sc_hasLength_161 (by decide) ?_
          refine sm_goto (tgt := 166) d_Sc_hasLength_162 (by decide) ?_
          subst hf
          refine sm_ireturn d_Sc_hasLength_166 rfl (by rfl) ?_
          exact ⟨rfl, rfl⟩
    · rw [if_neg h4] at hf
      by_cases h7 : (w 105 7) = 83
      · rw [if_pos h7] at hf
        refine sm_lookup (tgt := 167) d_Sc_hasLength_4 (by decide) (by rw [h7] <;> rfl) (by decide) ?_
        refine sm_aload_n d_Sc_hasLength_167 rfl (j := 0) rfl ?_
        refine lo_get (v := .int (w 105 8)) d_Sc_hasLength_168 fg_Sc_113 hI cl_105 rfl ?_
        refine sm_bipush (v := 9) d_Sc_hasLength_171 (by decide) ?_
        refine sm_icmp_lt (tgt := 203) d_Sc_hasLength_173 (by decide) (fun h8 => ?_) (fun h8 => ?_)
        · rw [if_pos h8] at hf
          refine sm_iconst (v := 0) d_Sc_hasLength_203 (by decide) ?_
          subst hf
          refine sm_ireturn d_Sc_hasLength_204 rfl (by rfl) ?_
          exact ⟨rfl, rfl⟩
        · rw [if_neg h8] at hf
          refine sm_aload_n d_Sc_hasLength_176 rfl (j := 0) rfl ?_
          refine lo_get (v := .int (w 105 8)) d_Sc_hasLength_177 fg_Sc_113 hI cl_105 rfl ?_
          refine sm_bipush (v := 9) d_Sc_hasLength_180 (by decide) ?_
          refine sm_aload_n d_Sc_hasLength_182 rfl (j := 0) rfl ?_
          refine sm_iconst (v := 1) d_Sc_hasLength_183 (by decide) ?_
          refine lo_callV d_Sc_hasLength_184 cs_Sc_hasLength_139 rfl hI cl_105 (As := [.int (1 : Int32)]) rfl rfl (Nat.le_of_ble_eq_true rfl) (c_Sc_told hI hZ (1 : Int32)) ?_
          refine sm_aload_n d_Sc_hasLength_187 rfl (j := 0) rfl ?_
          refine sm_iconst (v := 2) d_Sc_hasLength_188 (by decide) ?_
          refine lo_callV d_Sc_hasLength_189 cs_Sc_hasLength_139 rfl hI cl_105 (As := [.int (2 : Int32)]) rfl rfl (Nat.le_of_ble_eq_true rfl) (c_Sc_told hI hZ (2 : Int32)) ?_
          refine sm_callSp d_Sc_hasLength_192 cs_Sc_hasLength_142 rfl (As := [.int (fn_Sc_told Z w (1 : Int32)), .int (fn_Sc_told Z w (2 : Int32))]) rfl rfl (Nat.le_of_ble_eq_true rfl) (c_Sc_precinctBytes (fn_Sc_told Z w (1 : Int32)) (fn_Sc_told Z w (2 : Int32))) ?_
          refine sm_iadd d_Sc_hasLength_195 ?_
          refine sm_icmp_ne (tgt := 203) d_Sc_hasLength_196 (by decide) (fun h9 => ?_) (fun h9 => ?_)
          · rw [if_neg h9] at hf
            refine sm_iconst (v := 0) d_Sc_hasLength_203 (by decide) ?_
            subst hf
            refine sm_ireturn d_Sc_hasLength_204 rfl (by rfl) ?_
            exact ⟨rfl, rfl⟩
          · rw [if_pos h9] at hf
            refine sm_iconst (v := 1) d_Sc_hasLength_199 (by decide) ?_
            refine sm_goto (tgt := 204) d_Sc_hasLength_200 (by decide) ?_
            subst hf
            refine sm_ireturn d_Sc_hasLength_204 rfl (by rfl) ?_
            exact ⟨rfl, rfl⟩
      · rw [if_neg h7] at hf
        by_cases h10 : (w 105 7) = 92
        · rw [if_pos h10] at hf
          refine sm_lookup (tgt := 205) d_Sc_hasLength_4 (by decide) (by rw [h10] <;> rfl) (by decide) ?_
          refine sm_aload_n d_Sc_hasLength_205 rfl (j := 0) rfl ?_
          refine sm_iconst (v := 0) d_Sc_hasLength_206 (by decide) ?_
          refine lo_callV d_Sc_hasLength_207 cs_Sc_hasLength_146 rfl hI cl_105 (As := [.int (0 : Int32)]) rfl rfl (Nat.le_of_ble_eq_true rfl) (c_Sc_hasLengthOfSteps hI hZ (0 : Int32)) ?_
          subst hf
          refine sm_ireturn d_Sc_hasLength_210 rfl (bi_n _) ?_
          exact ⟨rfl, rfl⟩
        · rw [if_neg h10] at hf
          by_cases h11 : (w 105 7) = 93
          · rw [if_pos h11] at hf
            refine sm_lookup (tgt := 211) d_Sc_hasLength_4 (by decide) (by rw [h11] <;> rfl) (by decide) ?_
            refine sm_aload_n d_Sc_hasLength_211 rfl (j := 0) rfl ?_
            refine sm_iconst (v := 1) d_Sc_hasLength_212 (by decide) ?_
            refine lo_callV d_Sc_hasLength_213 cs_Sc_hasLength_146 rfl hI cl_105 (As := [.int (1 : Int32)]) rfl rfl (Nat.le_of_ble_eq_true rfl) (c_Sc_hasLengthOfSteps hI hZ (1 : Int32)) ?_
            subst hf
            refine sm_ireturn d_Sc_hasLength_216 rfl (bi_n _) ?_
            exact ⟨rfl, rfl⟩
          · rw [if_neg h11] at hf
            by_cases h12 : (w 105 7) = 94
            · rw [if_pos h12] at hf
              refine sm_lookup (tgt := 217) d_Sc_hasLength_4 (by decide) (by rw [h12] <;> rfl) (by decide) ?_
              refine sm_aload_n d_Sc_hasLength_217 rfl (j := 0) rfl ?_
              refine lo_get (v := .int (w 105 8)) d_Sc_hasLength_218 fg_Sc_113 hI cl_105 rfl ?_
              refine sm_iconst (v := 5) d_Sc_hasLength_221 (by decide) ?_
              refine sm_icmp_ne (tgt := 229) d_Sc_hasLength_222 (by decide) (fun h13 => ?_) (fun h13 => ?_)
              · rw [if_neg h13] at hf
                refine sm_iconst (v := 0) d_Sc_hasLength_229 (by decide) ?_
                subst hf
                refine sm_ireturn d_Sc_hasLength_230 rfl (by rfl) ?_
                exact ⟨rfl, rfl⟩
              · rw [if_pos h13] at hf
                refine sm_iconst (v := 1) d_Sc_hasLength_225 (by decide) ?_
                refine sm_goto (tgt := 230) d_Sc_hasLength_226 (by decide) ?_
                subst hf
                refine sm_ireturn d_Sc_hasLength_230 rfl (by rfl) ?_
                exact ⟨rfl, rfl⟩
            · rw [if_neg h12] at hf
              by_cases h14 : (w 105 7) = 95
              · rw [if_pos h14] at hf
                refine sm_lookup (tgt := 231) d_Sc_hasLength_4 (by decide) (by rw [h14] <;> rfl) (by decide) ?_
                refine sm_aload_n d_Sc_hasLength_231 rfl (j := 0) rfl ?_
                refine lo_get (v := .int (w 105 8)) d_Sc_hasLength_232 fg_Sc_113 hI cl_105 rfl ?_
                refine sm_iconst (v := 2) d_Sc_hasLength_235 (by decide) ?_
                refine sm_icmp_lt (tgt := 255) d_Sc_hasLength_236 (by decide) (fun h15 => ?_) (fun h15 => ?_)
                · rw [if_pos h15] at hf
                  refine sm_iconst (v := 0) d_Sc_hasLength_255 (by decide) ?_
                  subst hf
                  refine sm_ireturn d_Sc_hasLength_256 rfl (by rfl) ?_
                  exact ⟨rfl, rfl⟩
                · rw [if_neg h15] at hf
                  refine sm_aload_n d_Sc_hasLength_239 rfl (j := 0) rfl ?_
                  refine lo_get (v := .int (w 105 8)) d_Sc_hasLength_240 fg_Sc_113 hI cl_105 rfl ?_
                  refine sm_iconst (v := 2) d_Sc_hasLength_243 (by decide) ?_
                  refine sm_isub d_Sc_hasLength_244 ?_
                  refine sm_bipush (v := 7) d_Sc_hasLength_245 (by decide) ?_
                  refine sm_irem d_Sc_hasLength_247 (by decide) ?_
                  refine sm_if_ne (tgt := 255) d_Sc_hasLength_248 (by decide) (fun h16 => ?_) (fun h16 => ?_)
                  · rw [if_neg h16] at hf
                    refine sm_iconst (v := 0) d_Sc_hasLength_255 (by decide) ?_
                    subst hf
                    refine sm_ireturn d_Sc_hasLength_256 rfl (by rfl) ?_
                    exact ⟨rfl, rfl⟩
                  · rw [if_pos h16] at hf
                    refine sm_iconst (v := 1) d_Sc_hasLength_251 (by decide) ?_
                    refine sm_goto (tgt := 256) d_Sc_hasLength_252 (by decide) ?_
                    subst hf
                    refine sm_ireturn d_Sc_hasLength_256 rfl (by rfl) ?_
                    exact ⟨rfl, rfl⟩
              · rw [if_neg h14] at hf
                by_cases h17 : (w 105 7) = 96 ∨ (w 105 7) = 97
                · rw [if_pos h17] at hf
                  rcases h17 with h17 | h17
                  · refine sm_lookup (tgt := 257) d_Sc_hasLength_4 (by decide) (by rw [h17] <;> rfl) (by decide) ?_
                    refine sm_aload_n d_Sc_hasLength_257 rfl (j := 0) rfl ?_
                    refine lo_get (v := .int (w 105 8)) d_Sc_hasLength_258 fg_Sc_113 hI cl_105 rfl ?_
                    refine sm_iconst (v := 3) d_Sc_hasLength_261 (by decide) ?_
                    refine sm_icmp_lt (tgt := 269) d_Sc_hasLength_262 (by decide) (fun h18 => ?_) (fun h18 => ?_)
                    · rw [if_pos h18] at hf
                      refine sm_iconst (v := 0) d_Sc_hasLength_269 (by decide) ?_
                      subst hf
                      refine sm_ireturn d_Sc_hasLength_270 rfl (by rfl) ?_
                      exact ⟨rfl, rfl⟩
                    · rw [if_neg h18] at hf
                      refine sm_iconst (v := 1) d_Sc_hasLength_265 (by decide) ?_
                      refine sm_goto (tgt := 270) d_Sc_hasLength_266 (by decide) ?_
                      subst hf
                      refine sm_ireturn d_Sc_hasLength_270 rfl (by rfl) ?_
                      exact ⟨rfl, rfl⟩
                  · refine sm_lookup (tgt := 257) d_Sc_hasLength_4 (by decide) (by rw [h17] <;> rfl) (by decide) ?_
                    refine sm_aload_n d_Sc_hasLength_257 rfl (j := 0) rfl ?_
                    refine lo_get (v := .int (w 105 8)) d_Sc_hasLength_258 fg_Sc_113 hI cl_105 rfl ?_
                    refine sm_iconst (v := 3) d_Sc_hasLength_261 (by decide) ?_
                    refine sm_icmp_lt (tgt := 269) d_Sc_hasLength_262 (by decide) (fun h18 => ?_) (fun h18 => ?_)
                    · rw [if_pos h18] at hf
                      refine sm_iconst (v := 0) d_Sc_hasLength_269 (by decide) ?_
                      subst hf
                      refine sm_ireturn d_Sc_hasLength_270 rfl (by rfl) ?_
                      exact ⟨rfl, rfl⟩
                    · rw [if_neg h18] at hf
                      refine sm_iconst (v := 1) d_Sc_hasLength_265 (by decide) ?_
                      refine sm_goto (tgt := 270) d_Sc_hasLength_266 (by decide) ?_
                      subst hf
                      refine sm_ireturn d_Sc_hasLength_270 rfl (by rfl) ?_
                      exact ⟨rfl, rfl⟩
                · rw [if_neg h17] at hf
                  by_cases h19 : (w 105 7) = 144
                  · rw [if_pos h19] at hf
                    refine sm_lookup (tgt := 271) d_Sc_hasLength_4 (by decide) (by rw [h19] <;> rfl) (by decide) ?_
                    refine sm_aload_n d_Sc_hasLength_271 rfl (j := 0) rfl ?_
                    refine lo_get (v := .int (w 105 8)) d_Sc_hasLength_272 fg_Sc_113 hI cl_105 rfl ?_
                    refine sm_bipush (v := 10) d_Sc_hasLength_275 (by decide) ?_
                    refine sm_icmp_ne (tgt := 284) d_Sc_hasLength_277 (by decide) (fun h20 => ?_) (fun h20 => ?_)
                    · rw [if_neg h20] at hf
                      refine sm_iconst (v := 0) d_Sc_hasLength_284 (by decide) ?_
                      subst hf
                      refine sm_ireturn d_Sc_hasLength_285 rfl (by rfl) ?_
                      exact ⟨rfl, rfl⟩
                    · rw [if_pos h20] at hf
                      refine sm_iconst (v := 1) d_Sc_hasLength_280 (by decide) ?_
                      refine sm_goto (tgt := 285) d_Sc_hasLength_281 (by decide) ?_
                      subst hf
                      refine sm_ireturn d_Sc_hasLength_285 rfl (by rfl) ?_
                      exact ⟨rfl, rfl⟩
                  · rw [if_neg h19] at hf
                    refine sm_lookup (tgt := 286) d_Sc_hasLength_4 (by decide) (lo_offD (List.forall_mem_cons.mpr ⟨(fun e9 => h1 (sm_eqI.mpr (e9.symm.trans (by decide)))), List.forall_mem_cons.mpr ⟨(fun e9 => h4 (sm_eqI.mpr (e9.symm.trans (by decide)))), List.forall_mem_cons.mpr ⟨(fun e9 => h7 (sm_eqI.mpr (e9.symm.trans (by decide)))), List.forall_mem_cons.mpr ⟨(fun e9 => h10 (sm_eqI.mpr (e9.symm.trans (by decide)))), List.forall_mem_cons.mpr ⟨(fun e9 => h11 (sm_eqI.mpr (e9.symm.trans (by decide)))), List.forall_mem_cons.mpr ⟨(fun e9 => h12 (sm_eqI.mpr (e9.symm.trans (by decide)))), List.forall_mem_cons.mpr ⟨(fun e9 => h14 (sm_eqI.mpr (e9.symm.trans (by decide)))), List.forall_mem_cons.mpr ⟨(fun e9 => (fun e8 => h17 (Or.inl e8)) (sm_eqI.mpr (e9.symm.trans (by decide)))), List.forall_mem_cons.mpr ⟨(fun e9 => (fun e8 => h17 (Or.inr e8)) (sm_eqI.mpr (e9.symm.trans (by decide)))), List.forall_mem_cons.mpr ⟨(fun e9 => h19 (sm_eqI.mpr (e9.symm.trans (by decide)))), List.forall_mem_nil _⟩⟩⟩⟩⟩⟩⟩⟩⟩⟩)) (by decide) ?_
                    refine sm_aload_n d_Sc_hasLength_286 rfl (j := 0) rfl ?_
                    refine lo_get (v := .int (w 105 8)) d_Sc_hasLength_287 fg_Sc_113 hI cl_105 rfl ?_
                    refine sm_iconst (v := 2) d_Sc_hasLength_290 (by decide) ?_
                    refine sm_icmp_ge (tgt := 301) d_Sc_hasLength_291 (by decide) (fun h21 => ?_) (fun h21 => ?_)
                    · rw [if_pos h21] at hf
                      refine sm_iconst (v := 1) d_Sc_hasLength_301 (by decide) ?_
                      refine sm_goto (tgt := 306) d_Sc_hasLength_302 (by decide) ?_
                      subst hf
                      refine sm_ireturn d_Sc_hasLength_306 rfl (by rfl) ?_
                      exact ⟨rfl, rfl⟩
                    · rw [if_neg h21] at hf
                      refine sm_aload_n d_Sc_hasLength_294 rfl (j := 0) rfl ?_
                      refine lo_callV d_Sc_hasLength_295 cs_Sc_hasLength_120 rfl hI cl_105 (As := []) rfl rfl (Nat.le_of_ble_eq_true rfl) (c_Sc_hasSegment hI hZ) ?_
                      refine sm_if_ne (tgt := 305) d_Sc_hasLength_298 (by decide) (fun h22 => ?_) (fun h22 => ?_)
                      · rw [if_pos (bi1 h22)] at hf
                        refine sm_iconst (v := 0) d_Sc_hasLength_305 (by decide) ?_
                        subst hf
                        refine sm_ireturn d_Sc_hasLength_306 rfl (by rfl) ?_
                        exact ⟨rfl, rfl⟩
                      · rw [if_neg (bi0 h22)] at hf
                        refine sm_iconst (v := 1) d_Sc_hasLength_301 (by decide) ?_
                        refine sm_goto (tgt := 306) d_Sc_hasLength_302 (by decide) ?_
                        subst hf
                        refine sm_ireturn d_Sc_hasLength_306 rfl (by rfl) ?_
                        exact ⟨rfl, rfl⟩

def fn_Sc_hasArea (Z : zd) (w : wd) : Bool := (if (fn_Ru_isPicture (lN (rw_u4 Z.1.1 ((w 105 5) + (14 : Int32)))) (lN (rw_u4 Z.1.1 ((w 105 5) + (18 : Int32)))) (lN (rw_u4 Z.1.1 ((w 105 5) + (6 : Int32)))) (lN (rw_u4 Z.1.1 ((w 105 5) + (10 : Int32))))) = true then (if (fn_Ru_isTiling (lN (rw_u4 Z.1.1 ((w 105 5) + (30 : Int32)))) (lN (rw_u4 Z.1.1 ((w 105 5) + (34 : Int32)))) (lN (rw_u4 Z.1.1 ((w 105 5) + (22 : Int32)))) (lN (rw_u4 Z.1.1 ((w 105 5) + (26 : Int32)))) (lN (rw_u4 Z.1.1 ((w 105 5) + (14 : Int32)))) (lN (rw_u4 Z.1.1 ((w 105 5) + (18 : Int32))))) = true then true else false) else false)
set_option maxHeartbeats 1600000 in
set_option maxRecDepth 100000 in
theorem c_Sc_hasArea {G : sm_G} {b : Nat} {M0 M : sm_M} {Z : zd} {w : wd}  (hI : lo_in G cm_L b M0 M w) (hZ : cz_at G b M0 Z) : sm_C G mf_Sc_hasArea [.ref (b + 105)] M 0 0 (sm_pu M (.int (bi (fn_Sc_hasArea Z w)))) := by
  obtain ⟨R, hf⟩ : ∃ R, fn_Sc_hasArea Z w = R := ⟨_, rfl⟩
  rw [hf]
  unfold fn_Sc_hasArea at hf
  have hZ := hZ.go hI.2
  have hI := hI.here
  refine sm_ofW rfl (Nat.le_of_ble_eq_true rfl) ?_
  refine sm_aload_n d_Sc_hasArea_0 rfl (j := 0) rfl ?_
  refine lo_get (v := .ref (b + 101)) d_Sc_hasArea_1 fg_Sc_32 hI cl_105 rfl ?_
  refine sm_aload_n d_Sc_hasArea_4 rfl (j := 0) rfl ?_
  refine lo_get (v := .int (w 105 5)) d_Sc_hasArea_5 fg_Sc_50 hI cl_105 rfl ?_
  refine sm_bipush (v := 14) d_Sc_hasArea_8 (by decide) ?_
  refine sm_iadd d_Sc_hasArea_10 ?_
  refine cm_callR d_Sc_hasArea_11 cs_Sc_hasArea_200 rfl (cz_c1 hI hZ) (As := [.int ((w 105 5) + (14 : Int32))]) rfl rfl (Nat.le_of_ble_eq_true rfl) (cz_u41 hI hZ ((w 105 5) + (14 : Int32))) ?_
  refine sm_lstore_n d_Sc_hasArea_14 rfl (by decide) rfl ?_
  refine sm_aload_n d_Sc_hasArea_15 rfl (j := 1) rfl ?_
  refine lo_get (v := .ref (b + 101)) d_Sc_hasArea_16 fg_Sc_32 hI cl_105 rfl ?_
  refine sm_aload_n d_Sc_hasArea_19 rfl (j := 1) rfl ?_
  refine lo_get (v := .int (w 105 5)) d_Sc_hasArea_20 fg_Sc_50 hI cl_105 rfl ?_
  refine sm_bipush (v := 18) d_Sc_hasArea_23 (by decide) ?_
  refine sm_iadd d_Sc_hasArea_25 ?_
  refine cm_callR d_Sc_hasArea_26 cs_Sc_hasArea_200 rfl (cz_c1 hI hZ) (As := [.int ((w 105 5) + (18 : Int32))]) rfl rfl (Nat.le_of_ble_eq_true rfl) (cz_u41 hI hZ ((w 105 5) + (18 : Int32))) ?_
  refine sm_lstore_n d_Sc_hasArea_29 rfl (by decide) rfl ?_
  refine sm_lload_n d_Sc_hasArea_30 rfl (j := 1) rfl ?_
  refine sm_lload_n d_Sc_hasArea_31 rfl (j := 0) rfl ?_
  refine sm_aload_n d_Sc_hasArea_32 rfl (j := 2) rfl ?_
  refine lo_get (v := .ref (b + 101)) d_Sc_hasArea_33 fg_Sc_32 hI cl_105 rfl ?_
  refine sm_aload_n d_Sc_hasArea_36 rfl (j := 2) rfl ?_
  refine lo_get (v := .int (w 105 5)) d_Sc_hasArea_37 fg_Sc_50 hI cl_105 rfl ?_
  refine sm_bipush (v := 6) d_Sc_hasArea_40 (by decide) ?_
  refine sm_iadd d_Sc_hasArea_42 ?_
  refine cm_callR d_Sc_hasArea_43 cs_Sc_hasArea_200 rfl (cz_c1 hI hZ) (As := [.int ((w 105 5) + (6 : Int32))]) rfl rfl (Nat.le_of_ble_eq_true rfl) (cz_u41 hI hZ ((w 105 5) + (6 : Int32))) ?_
  refine sm_aload_n d_Sc_hasArea_46 rfl (j := 2) rfl ?_
  refine lo_get (v := .ref (b + 101)) d_Sc_hasArea_47 fg_Sc_32 hI cl_105 rfl ?_
  refine sm_aload_n d_Sc_hasArea_50 rfl (j := 2) rfl ?_
  refine lo_get (v := .int (w 105 5)) d_Sc_hasArea_51 fg_Sc_50 hI cl_105 rfl ?_
  refine sm_bipush (v := 10) d_Sc_hasArea_54 (by decide) ?_
  refine sm_iadd d_Sc_hasArea_56 ?_
  refine cm_callR d_Sc_hasArea_57 cs_Sc_hasArea_200 rfl (cz_c1 hI hZ) (As := [.int ((w 105 5) + (10 : Int32))]) rfl rfl (Nat.le_of_ble_eq_true rfl) (cz_u41 hI hZ ((w 105 5) + (10 : Int32))) ?_
  refine sm_callSp d_Sc_hasArea_60 cs_Sc_hasArea_204 rfl (As := [.long (lN (rw_u4 Z.1.1 ((w 105 5) + (14 : Int32)))), .long (lN (rw_u4 Z.1.1 ((w 105 5) + (18 : Int32)))), .long (lN (rw_u4 Z.1.1 ((w 105 5) + (6 : Int32)))), .long (lN (rw_u4 Z.1.1 ((w 105 5) + (10 : Int32))))]) rfl rfl (Nat.le_of_ble_eq_true rfl) (b_Ru_isPicture (lN (rw_u4 Z.1.1 ((w 105 5) + (14 : Int32)))) (lN (rw_u4 Z.1.1 ((w 105 5) + (18 : Int32)))) (lN (rw_u4 Z.1.1 ((w 105 5) + (6 : Int32)))) (lN (rw_u4 Z.1.1 ((w 105 5) + (10 : Int32))))) ?_
  refine sm_if_eq (tgt := 134) d_Sc_hasArea_63 (by decide) (fun h1 => ?_) (fun h1 => ?_)
  · rw [if_neg (bi0 h1)] at hf
    refine sm_iconst (v := 0) d_Sc_hasArea_134 (by decide) ?_
    subst hf
    refine sm_ireturn d_Sc_hasArea_135 rfl (by rfl) ?_
    exact ⟨rfl, rfl⟩
  · rw [if_pos (bi1 h1)] at hf
    refine sm_aload_n d_Sc_hasArea_66 rfl (j := 2) rfl ?_
    refine lo_get (v := .ref (b + 101)) d_Sc_hasArea_67 fg_Sc_32 hI cl_105 rfl ?_
    refine sm_aload_n d_Sc_hasArea_70 rfl (j := 2) rfl ?_
    refine lo_get (v := .int (w 105 5)) d_Sc_hasArea_71 fg_Sc_50 hI cl_105 rfl ?_
    refine sm_bipush (v := 30) d_Sc_hasArea_74 (by decide) ?_
    refine sm_iadd d_Sc_hasArea_76 ?_
    refine cm_callR d_Sc_hasArea_77 cs_Sc_hasArea_200 rfl (cz_c1 hI hZ) (As := [.int ((w 105 5) + (30 : Int32))]) rfl rfl (Nat.le_of_ble_eq_true rfl) (cz_u41 hI hZ ((w 105 5) + (30 : Int32))) ?_
    refine sm_aload_n d_Sc_hasArea_80 rfl (j := 2) rfl ?_
    refine lo_get (v := .ref (b + 101)) d_Sc_hasArea_81 fg_Sc_32 hI cl_105 rfl ?_
    refine sm_aload_n d_Sc_hasArea_84 rfl (j := 2) rfl ?_
    refine lo_get (v := .int (w 105 5)) d_Sc_hasArea_85 fg_Sc_50 hI cl_105 rfl ?_
    refine sm_bipush (v := 34) d_Sc_hasArea_88 (by decide) ?_
    refine sm_iadd d_Sc_hasArea_90 ?_
    refine cm_callR d_Sc_hasArea_91 cs_Sc_hasArea_200 rfl (cz_c1 hI hZ) (As := [.int ((w 105 5) + (34 : Int32))]) rfl rfl (Nat.le_of_ble_eq_true rfl) (cz_u41 hI hZ ((w 105 5) + (34 : Int32))) ?_
    refine sm_aload_n d_Sc_hasArea_94 rfl (j := 2) rfl ?_
    refine lo_get (v := .ref (b + 101)) d_Sc_hasArea_95 fg_Sc_32 hI cl_105 rfl ?_
    refine sm_aload_n d_Sc_hasArea_98 rfl (j := 2) rfl ?_
    refine lo_get (v := .int (w 105 5)) d_Sc_hasArea_99 fg_Sc_50 hI cl_105 rfl ?_
    refine sm_bipush (v := 22) d_Sc_hasArea_102 (by decide) ?_
    refine sm_iadd d_Sc_hasArea_104 ?_
    refine cm_callR d_Sc_hasArea_105 cs_Sc_hasArea_200 rfl (cz_c1 hI hZ) (As := [.int ((w 105 5) + (22 : Int32))]) rfl rfl (Nat.le_of_ble_eq_true rfl) (cz_u41 hI hZ ((w 105 5) + (22 : Int32))) ?_
    refine sm_aload_n d_Sc_hasArea_108 rfl (j := 2) rfl ?_
    refine lo_get (v := .ref (b + 101)) d_Sc_hasArea_109 fg_Sc_32 hI cl_105 rfl ?_
    refine sm_aload_n d_Sc_hasArea_112 rfl (j := 2) rfl ?_
    refine lo_get (v := .int (w 105 5)) d_Sc_hasArea_113 fg_Sc_50 hI cl_105 rfl ?_
    refine sm_bipush (v := 26) d_Sc_hasArea_116 (by decide) ?_
    refine sm_iadd d_Sc_hasArea_118 ?_
    refine cm_callR d_Sc_hasArea_119 cs_Sc_hasArea_200 rfl (cz_c1 hI hZ) (As := [.int ((w 105 5) + (26 : Int32))]) rfl rfl (Nat.le_of_ble_eq_true rfl) (cz_u41 hI hZ ((w 105 5) + (26 : Int32))) ?_
    refine sm_lload_n d_Sc_hasArea_122 rfl (j := 1) rfl ?_
    refine sm_lload_n d_Sc_hasArea_123 rfl (j := 0) rfl ?_
    refine sm_callSp d_Sc_hasArea_124 cs_Sc_hasArea_208 rfl (As := [.long (lN (rw_u4 Z.1.1 ((w 105 5) + (30 : Int32)))), .long (lN (rw_u4 Z.1.1 ((w 105 5) + (34 : Int32)))), .long (lN (rw_u4 Z.1.1 ((w 105 5) + (22 : Int32)))), .long (lN (rw_u4 Z.1.1 ((w 105 5) + (26 : Int32)))), .long (lN (rw_u4 Z.1.1 ((w 105 5) + (14 : Int32)))), .long (lN (rw_u4 Z.1.1 ((w 105 5) + (18 : Int32))))]) rfl rfl (Nat.le_of_ble_eq_true rfl) (b_Ru_isTiling (lN (rw_u4 Z.1.1 ((w 105 5) + (30 : Int32)))) (lN (rw_u4 Z.1.1 ((w 105 5) + (34 : Int32)))) (lN (rw_u4 Z.1.1 ((w 105 5) + (22 : Int32)))) (lN (rw_u4 Z.1.1 ((w 105 5) + (26 : Int32)))) (lN (rw_u4 Z.1.1 ((w 105 5) + (14 : Int32)))) (lN (rw_u4 Z.1.1 ((w 105 5) + (18 : Int32))))) ?_
    refine sm_if_eq (tgt := 134) d_Sc_hasArea_127 (by decide) (fun h2 => ?_) (fun h2 => ?_)
    · rw [if_neg (bi0 h2)] at hf
      refine sm_iconst (v := 0) d_Sc_hasArea_134 (by decide) ?_
      subst hf
      refine sm_ireturn d_Sc_hasArea_135 rfl (by rfl) ?_
      exact ⟨rfl, rfl⟩
    · rw [if_pos (bi1 h2)] at hf
      refine sm_iconst (v := 1) d_Sc_hasArea_130 (by decide) ?_
      refine sm_goto (tgt := 135) d_Sc_hasArea_131 (by decide) ?_
      subst hf
      refine sm_ireturn d_Sc_hasArea_135 rfl (by rfl) ?_
      exact ⟨rfl, rfl⟩

def fn_Sc_toldTiles (Z : zd) (w : wd) : Int64 := (fn_Ru_countTiles (lN (rw_u4 Z.1.1 ((w 105 5) + (30 : Int32)))) (lN (rw_u4 Z.1.1 ((w 105 5) + (34 : Int32)))) (lN (rw_u4 Z.1.1 ((w 105 5) + (22 : Int32)))) (lN (rw_u4 Z.1.1 ((w 105 5) + (26 : Int32)))) (lN (rw_u4 Z.1.1 ((w 105 5) + (6 : Int32)))) (lN (rw_u4 Z.1.1 ((w 105 5) + (10 : Int32)))))
set_option maxHeartbeats 1600000 in
set_option maxRecDepth 100000 in
theorem c_Sc_toldTiles {G : sm_G} {b : Nat} {M0 M : sm_M} {Z : zd} {w : wd}  (hI : lo_in G cm_L b M0 M w) (hZ : cz_at G b M0 Z) : sm_C G mf_Sc_toldTiles [.ref (b + 105)] M 0 0 (sm_pu M (.long (fn_Sc_toldTiles Z w))) := by
  obtain ⟨R, hf⟩ : ∃ R, fn_Sc_toldTiles Z w = R := ⟨_, rfl⟩
  rw [hf]
  unfold fn_Sc_toldTiles at hf
  have hZ := hZ.go hI.2
  have hI := hI.here
  refine sm_ofW rfl (Nat.le_of_ble_eq_true rfl) ?_
  refine sm_aload_n d_Sc_toldTiles_0 rfl (j := 0) rfl ?_
  refine lo_get (v := .ref (b + 101)) d_Sc_toldTiles_1 fg_Sc_32 hI cl_105 rfl ?_
  refine sm_aload_n d_Sc_toldTiles_4 rfl (j := 0) rfl ?_
  refine lo_get (v := .int (w 105 5)) d_Sc_toldTiles_5 fg_Sc_50 hI cl_105 rfl ?_
  refine sm_bipush (v := 30) d_Sc_toldTiles_8 (by decide) ?_
  refine sm_iadd d_Sc_toldTiles_10 ?_
  refine cm_callR d_Sc_toldTiles_11 cs_Sc_toldTiles_200 rfl (cz_c1 hI hZ) (As := [.int ((w 105 5) + (30 : Int32))]) rfl rfl (Nat.le_of_ble_eq_true rfl) (cz_u41 hI hZ ((w 105 5) + (30 : Int32))) ?_
  refine sm_aload_n d_Sc_toldTiles_14 rfl (j := 0) rfl ?_
  refine lo_get (v := .ref (b + 101)) d_Sc_toldTiles_15 fg_Sc_32 hI cl_105 rfl ?_
  refine sm_aload_n d_Sc_toldTiles_18 rfl (j := 0) rfl ?_
  refine lo_get (v := .int (w 105 5)) d_Sc_toldTiles_19 fg_Sc_50 hI cl_105 rfl ?_
  refine sm_bipush (v := 34) d_Sc_toldTiles_22 (by decide) ?_
  refine sm_iadd d_Sc_toldTiles_24 ?_
  refine cm_callR d_Sc_toldTiles_25 cs_Sc_toldTiles_200 rfl (cz_c1 hI hZ) (As := [.int ((w 105 5) + (34 : Int32))]) rfl rfl (Nat.le_of_ble_eq_true rfl) (cz_u41 hI hZ ((w 105 5) + (34 : Int32))) ?_
  refine sm_aload_n d_Sc_toldTiles_28 rfl (j := 0) rfl ?_
  refine lo_get (v := .ref (b + 101)) d_Sc_toldTiles_29 fg_Sc_32 hI cl_105 rfl ?_
  refine sm_aload_n d_Sc_toldTiles_32 rfl (j := 0) rfl ?_
  refine lo_get (v := .int (w 105 5)) d_Sc_toldTiles_33 fg_Sc_50 hI cl_105 rfl ?_
  refine sm_bipush (v := 22) d_Sc_toldTiles_36 (by decide) ?_
  refine sm_iadd d_Sc_toldTiles_38 ?_
  refine cm_callR d_Sc_toldTiles_39 cs_Sc_toldTiles_200 rfl (cz_c1 hI hZ) (As := [.int ((w 105 5) + (22 : Int32))]) rfl rfl (Nat.le_of_ble_eq_true rfl) (cz_u41 hI hZ ((w 105 5) + (22 : Int32))) ?_
  refine sm_aload_n d_Sc_toldTiles_42 rfl (j := 0) rfl ?_
  refine lo_get (v := .ref (b + 101)) d_Sc_toldTiles_43 fg_Sc_32 hI cl_105 rfl ?_
  refine sm_aload_n d_Sc_toldTiles_46 rfl (j := 0) rfl ?_
  refine lo_get (v := .int (w 105 5)) d_Sc_toldTiles_47 fg_Sc_50 hI cl_105 rfl ?_
  refine sm_bipush (v := 26) d_Sc_toldTiles_50 (by decide) ?_
  refine sm_iadd d_Sc_toldTiles_52 ?_
  refine cm_callR d_Sc_toldTiles_53 cs_Sc_toldTiles_200 rfl (cz_c1 hI hZ) (As := [.int ((w 105 5) + (26 : Int32))]) rfl rfl (Nat.le_of_ble_eq_true rfl) (cz_u41 hI hZ ((w 105 5) + (26 : Int32))) ?_
  refine sm_aload_n d_Sc_toldTiles_56 rfl (j := 0) rfl ?_
  refine lo_get (v := .ref (b + 101)) d_Sc_toldTiles_57 fg_Sc_32 hI cl_105 rfl ?_
  refine sm_aload_n d_Sc_toldTiles_60 rfl (j := 0) rfl ?_
  refine lo_get (v := .int (w 105 5)) d_Sc_toldTiles_61 fg_Sc_50 hI cl_105 rfl ?_
  refine sm_bipush (v := 6) d_Sc_toldTiles_64 (by decide) ?_
  refine sm_iadd d_Sc_toldTiles_66 ?_
  refine cm_callR d_Sc_toldTiles_67 cs_Sc_toldTiles_200 rfl (cz_c1 hI hZ) (As := [.int ((w 105 5) + (6 : Int32))]) rfl rfl (Nat.le_of_ble_eq_true rfl) (cz_u41 hI hZ ((w 105 5) + (6 : Int32))) ?_
  refine sm_aload_n d_Sc_toldTiles_70 rfl (j := 0) rfl ?_
  refine lo_get (v := .ref (b + 101)) d_Sc_toldTiles_71 fg_Sc_32 hI cl_105 rfl ?_
  refine sm_aload_n d_Sc_toldTiles_74 rfl (j := 0) rfl ?_
  refine lo_get (v := .int (w 105 5)) d_Sc_toldTiles_75 fg_Sc_50 hI cl_105 rfl ?_
  refine sm_bipush (v := 10) d_Sc_toldTiles_78 (by decide) ?_
  refine sm_iadd d_Sc_toldTiles_80 ?_
  refine cm_callR d_Sc_toldTiles_81 cs_Sc_toldTiles_200 rfl (cz_c1 hI hZ) (As := [.int ((w 105 5) + (10 : Int32))]) rfl rfl (Nat.le_of_ble_eq_true rfl) (cz_u41 hI hZ ((w 105 5) + (10 : Int32))) ?_
  refine sm_callSp d_Sc_toldTiles_84 cs_Sc_toldTiles_212 rfl (As := [.long (lN (rw_u4 Z.1.1 ((w 105 5) + (30 : Int32)))), .long (lN (rw_u4 Z.1.1 ((w 105 5) + (34 : Int32)))), .long (lN (rw_u4 Z.1.1 ((w 105 5) + (22 : Int32)))), .long (lN (rw_u4 Z.1.1 ((w 105 5) + (26 : Int32)))), .long (lN (rw_u4 Z.1.1 ((w 105 5) + (6 : Int32)))), .long (lN (rw_u4 Z.1.1 ((w 105 5) + (10 : Int32))))]) rfl rfl (Nat.le_of_ble_eq_true rfl) (b_Ru_countTiles (lN (rw_u4 Z.1.1 ((w 105 5) + (30 : Int32)))) (lN (rw_u4 Z.1.1 ((w 105 5) + (34 : Int32)))) (lN (rw_u4 Z.1.1 ((w 105 5) + (22 : Int32)))) (lN (rw_u4 Z.1.1 ((w 105 5) + (26 : Int32)))) (lN (rw_u4 Z.1.1 ((w 105 5) + (6 : Int32)))) (lN (rw_u4 Z.1.1 ((w 105 5) + (10 : Int32))))) ?_
  subst hf
  refine sm_lreturn d_Sc_toldTiles_87 rfl ?_
  exact ⟨rfl, rfl⟩

def fn_Sc_isGreat (Z : zd) (w : wd) : Bool := (if (w 105 7) = 81 then (if (16 : Int32) < (fn_Sc_told2 Z w (34 : Int32)) then true else (if (fn_Sc_hasArea Z w) = true then (if (fn_Sc_toldTiles Z w) ≤ (64 : Int64) then false else true) else false)) else (if (w 105 7) = 82 then (if (fn_Sc_told2 Z w (2 : Int32)) ≤ (255 : Int32) then false else true) else (if (w 105 7) = 95 then (if ((w 105 8) - (2 : Int32)) ≤ (224 : Int32) then false else true) else (if (w 105 7) = 144 then (if (w 110 1) < (256 : Int32) then false else true) else false))))
set_option maxHeartbeats 1600000 in
set_option maxRecDepth 100000 in
theorem c_Sc_isGreat {G : sm_G} {b : Nat} {M0 M : sm_M} {Z : zd} {w : wd}  (hI : lo_in G cm_L b M0 M w) (hZ : cz_at G b M0 Z) : sm_C G mf_Sc_isGreat [.ref (b + 105)] M 0 0 (sm_pu M (.int (bi (fn_Sc_isGreat Z w)))) := by
  obtain ⟨R, hf⟩ : ∃ R, fn_Sc_isGreat Z w = R := ⟨_, rfl⟩
  rw [hf]
  unfold fn_Sc_isGreat at hf
  have hZ := hZ.go hI.2
  have hI := hI.here
  refine sm_ofW rfl (Nat.le_of_ble_eq_true rfl) ?_
  refine sm_aload_n d_Sc_isGreat_0 rfl (j := 0) rfl ?_
  refine lo_get (v := .int (w 105 7)) d_Sc_isGreat_1 fg_Sc_97 hI cl_105 rfl ?_
  by_cases h1 : (w 105 7) = 81
  · rw [if_pos h1] at hf
    refine sm_lookup (tgt := 48) d_Sc_isGreat_4 (by decide) (by rw [h1] <;> rfl) (by decide) ?_
    refine sm_aload_n d_Sc_isGreat_48 rfl (j := 0) rfl ?_
    refine sm_bipush (v := 34) d_Sc_isGreat_49 (by decide) ?_
    refine lo_callV d_Sc_isGreat_51 cs_Sc_isGreat_136 rfl hI cl_105 (As := [.int (34 : Int32)]) rfl rfl (Nat.le_of_ble_eq_true rfl) (c_Sc_told2 hI hZ (34 : Int32)) ?_
    refine sm_bipush (v := 16) d_Sc_isGreat_54 (by decide) ?_
    refine sm_icmp_gt (tgt := 77) d_Sc_isGreat_56 (by decide) (fun h2 => ?_) (fun h2 => ?_)
    · rw [if_pos h2] at hf
      refine sm_iconst (v := 1) d_Sc_isGreat_77 (by decide) ?_
      refine sm_goto (tgt := 82) d_Sc_isGreat_78 (by decide) ?_
      subst hf
      refine sm_ireturn d_Sc_isGreat_82 rfl (by rfl) ?_
      exact ⟨rfl, rfl⟩
    · rw [if_neg h2] at hf
      refine sm_aload_n d_Sc_isGreat_59 rfl (j := 0) rfl ?_
      refine lo_callV d_Sc_isGreat_60 cs_Sc_isGreat_153 rfl hI cl_105 (As := []) rfl rfl (Nat.le_of_ble_eq_true rfl) (c_Sc_hasArea hI hZ) ?_
      refine sm_if_eq (tgt := 81) d_Sc_isGreat_63 (by decide) (fun h3 => ?_) (fun h3 => ?_)
      · rw [if_neg (bi0 h3)] at hf
        refine sm_iconst (v := 0) d_Sc_isGreat_81 (by decide) ?_
        subst hf
        refine sm_ireturn d_Sc_isGreat_82 rfl (by rfl) ?_
        exact ⟨rfl, rfl⟩
      · rw [if_pos (bi1 h3)] at hf
        refine sm_aload_n d_Sc_isGreat_66 rfl (j := 0) rfl ?_
        refine lo_callV d_Sc_isGreat_67 cs_Sc_isGreat_156 rfl hI cl_105 (As := []) rfl rfl (Nat.le_of_ble_eq_true rfl) (c_Sc_toldTiles hI hZ) ?_
        refine sm_ldc2 (v := 64) d_Sc_isGreat_70 mw_465 ?_
        refine sm_lcmp d_Sc_isGreat_73 ?_
        refine sm_if_le (tgt := 81) d_Sc_isGreat_74 (by decide) (fun h4 => ?_) (fun h4 => ?_)
        · rw [if_pos ((lg_cmp_le _ _).mp h4)] at hf
          refine sm_iconst (v := 0) d_Sc_isGreat_81 (by decide) ?_
          subst hf
          refine sm_ireturn d_Sc_isGreat_82 rfl (by rfl) ?_
          exact ⟨rfl, rfl⟩
        · rw [if_neg (mt (lg_cmp_le _ _).mpr h4)] at hf
          refine sm_iconst (v := 1) d_Sc_isGreat_77 (by decide) ?_
          refine sm_goto (tgt := 82) d_Sc_isGreat_78 (by decide) ?_
          subst hf
          refine sm_ireturn d_Sc_isGreat_82 rfl (by rfl) ?_
          exact ⟨rfl, rfl⟩
  · rw [if_neg h1] at hf
    by_cases h5 : (w 105 7) = 82
    · rw [if_pos h5] at hf
      refine sm_lookup (tgt := 83) d_Sc_isGreat_4 (by decide) (by rw [h5] <;> rfl) (by decide) ?_
      refine sm_aload_n d_Sc_isGreat_83 rfl (j := 0) rfl ?_
      refine sm_iconst (v := 2) d_Sc_isGreat_84 (by decide) ?_
      refine lo_callV d_Sc_isGreat_85 cs_Sc_isGreat_136 rfl hI cl_105 (As := [.int (2 : Int32)]) rfl rfl (Nat.le_of_ble_eq_true rfl) (c_Sc_told2 hI hZ (2 : Int32)) ?_
      refine sm_sipush (v := 255) d_Sc_isGreat_88 (by decide) ?_
      refine sm_icmp_le (tgt := 98) d_Sc_isGreat_91 (by decide) (fun h6 => ?_) (fun h6 => ?_)
      · rw [if_pos h6] at hf
        refine sm_iconst (v := 0) d_Sc_isGreat_98 (by decide) ?_
        subst hf
        refine sm_ireturn d_Sc_isGreat_99 rfl (by rfl) ?_
        exact ⟨rfl, rfl⟩
      · rw [if_neg h6] at hf
        refine sm_iconst (v := 1) d_Sc_isGreat_94 (by decide) ?_
        refine sm_goto (tgt := 99) d_Sc_isGreat_95 (by decide) ?_
        subst hf
        refine sm_ireturn d_Sc_isGreat_99 rfl (by rfl) ?_
        exact ⟨rfl, rfl⟩
    · rw [if_neg h5] at hf
      by_cases h7 : (w 105 7) = 95
      · rw [if_pos h7] at hf
        refine sm_lookup (tgt := 100) d_Sc_isGreat_4 (by decide) (by rw [h7] <;> rfl) (by decide) ?_
        refine sm_aload_n d_Sc_isGreat_100 rfl (j := 0) rfl ?_
        refine lo_get (v := .int (w 105 8)) d_Sc_isGreat_101 fg_Sc_113 hI cl_105 rfl ?_
        refine sm_iconst (v := 2) d_Sc_isGreat_104 (by decide) ?_
        refine sm_isub d_Sc_isGreat_105 ?_
        refine sm_sipush (v := 224) d_Sc_isGreat_106 (by decide) ?_
        refine sm_icmp_le (tgt := 116) d_Sc_isGreat_109 (by decide) (fun h8 => ?_) (fun h8 => ?_)
        · rw [if_pos h8] at hf
          refine sm_iconst (v := 0) d_Sc_isGreat_116 (by decide) ?_
          subst hf
          refine sm_ireturn d_Sc_isGreat_117 rfl (by rfl) ?_
          exact ⟨rfl, rfl⟩
        · rw [if_neg h8] at hf
          refine sm_iconst (v := 1) d_Sc_isGreat_112 (by decide) ?_
          refine sm_goto (tgt := 117) d_Sc_isGreat_113 (by decide) ?_
          subst hf
          refine sm_ireturn d_Sc_isGreat_117 rfl (by rfl) ?_
          exact ⟨rfl, rfl⟩
      · rw [if_neg h7] at hf
        by_cases h9 : (w 105 7) = 144
        · rw [if_pos h9] at hf
          refine sm_lookup (tgt := 118) d_Sc_isGreat_4 (by decide) (by rw [h9] <;> rfl) (by decide) ?_
          refine sm_aload_n d_Sc_isGreat_118 rfl (j := 0) rfl ?_
          refine lo_get (v := .ref (b + 110)) d_Sc_isGreat_119 fg_Sc_28 hI cl_105 rfl ?_
          refine lo_get (v := .int (w 110 1)) d_Sc_isGreat_122 fg_Sc_162 hI cl_110 rfl ?_
          refine sm_sipush (v := 256) d_Sc_isGreat_125 (by decide) ?_
          refine sm_icmp_lt (tgt := 135) d_Sc_isGreat_128 (by decide) (fun h10 => ?_) (fun h10 => ?_)
          · rw [if_pos h10] at hf
            refine sm_iconst (v := 0) d_Sc_isGreat_135 (by decide) ?_
            subst hf
            refine sm_ireturn d_Sc_isGreat_136 rfl (by rfl) ?_
            exact ⟨rfl, rfl⟩
          · rw [if_neg h10] at hf
            refine sm_iconst (v := 1) d_Sc_isGreat_131 (by decide) ?_
            refine sm_goto (tgt := 136) d_Sc_isGreat_132 (by decide) ?_
            subst hf
            refine sm_ireturn d_Sc_isGreat_136 rfl (by rfl) ?_
            exact ⟨rfl, rfl⟩
        · rw [if_neg h9] at hf
          refine sm_lookup (tgt := 137) d_Sc_isGreat_4 (by decide) (lo_offD (List.forall_mem_cons.mpr ⟨(fun e9 => h1 (sm_eqI.mpr (e9.symm.trans (by decide)))), List.forall_mem_cons.mpr ⟨(fun e9 => h5 (sm_eqI.mpr (e9.symm.trans (by decide)))), List.forall_mem_cons.mpr ⟨(fun e9 => h7 (sm_eqI.mpr (e9.symm.trans (by decide)))), List.forall_mem_cons.mpr ⟨(fun e9 => h9 (sm_eqI.mpr (e9.symm.trans (by decide)))), List.forall_mem_nil _⟩⟩⟩⟩)) (by decide) ?_
          refine sm_iconst (v := 0) d_Sc_isGreat_137 (by decide) ?_
          subst hf
          refine sm_ireturn d_Sc_isGreat_138 rfl (by rfl) ?_
          exact ⟨rfl, rfl⟩

def fn_Sc_hasComponents_9 (F : Nat) (Z : zd) : Nat → wd → Int32 → Int32 → Option (Bool)
 | 0, _, _, _ => none
 | n9 + 1, w, x1, x2 => (if x1 ≤ x2 then (if x1 < (1 : Int32) then some false else some true) else (if (fn_Ru_isComponent (((fn_Sc_told Z w ((36 : Int32) + ((3 : Int32) * x2))) &&& (127 : Int32)) + (1 : Int32)) (fn_Sc_told Z w (((36 : Int32) + ((3 : Int32) * x2)) + (1 : Int32))) (fn_Sc_told Z w (((36 : Int32) + ((3 : Int32) * x2)) + (2 : Int32)))) = true then fn_Sc_hasComponents_9 F Z n9 w x1 (x2 + 1) else some false))
set_option maxHeartbeats 1600000 in
set_option maxRecDepth 100000 in
theorem w_Sc_hasComponents_9 {G : sm_G} {b : Nat} {M0 : sm_M} {bc bs : Nat} {Z : zd} {R : Bool} {F : Nat} (hZ : cz_at G b M0 Z) : ∀ (n9 : Nat), ∀ (w : wd) (x1 : Int32) (x2 : Int32), lo_in G cm_L b M0 M0 w → fn_Sc_hasComponents_9 F Z n9 w x1 x2 = some R → sm_W G mf_Sc_hasComponents 9 [(0, .ref (b + 105)), (1, .int x1), (2, .int x2)] [] M0 bc bs (sm_pu M0 (.int (bi R))) := by
  intro n9
  induction n9 with
  | zero => intro w x1 x2 hI  hf; cases hf
  | succ n9 ih =>
    intro w x1 x2 hI  hf
    rw [fn_Sc_hasComponents_9] at hf
    refine sm_iload_n d_Sc_hasComponents_9 rfl (j := 2) rfl ?_
    refine sm_iload_n d_Sc_hasComponents_10 rfl (j := 1) rfl ?_
    refine sm_icmp_ge (tgt := 59) d_Sc_hasComponents_11 (by decide) (fun h1 => ?_) (fun h1 => ?_)
    · rw [if_pos h1] at hf
      refine sm_iload_n d_Sc_hasComponents_59 rfl (j := 1) rfl ?_
      refine sm_iconst (v := 1) d_Sc_hasComponents_60 (by decide) ?_
      refine sm_icmp_lt (tgt := 68) d_Sc_hasComponents_61 (by decide) (fun h2 => ?_) (fun h2 => ?_)
      · rw [if_pos h2] at hf
        refine sm_iconst (v := 0) d_Sc_hasComponents_68 (by decide) ?_
        cases hf
        refine sm_ireturn d_Sc_hasComponents_69 rfl (by rfl) ?_
        exact ⟨rfl, rfl⟩
      · rw [if_neg h2] at hf
        refine sm_iconst (v := 1) d_Sc_hasComponents_64 (by decide) ?_
        refine sm_goto (tgt := 69) d_Sc_hasComponents_65 (by decide) ?_
        cases hf
        refine sm_ireturn d_Sc_hasComponents_69 rfl (by rfl) ?_
        exact ⟨rfl, rfl⟩
    · rw [if_neg h1] at hf
      refine sm_bipush (v := 36) d_Sc_hasComponents_14 (by decide) ?_
      refine sm_iconst (v := 3) d_Sc_hasComponents_16 (by decide) ?_
      refine sm_iload_n d_Sc_hasComponents_17 rfl (j := 2) rfl ?_
      refine sm_imul d_Sc_hasComponents_18 ?_
      refine sm_iadd d_Sc_hasComponents_19 ?_
      refine sm_istore_n d_Sc_hasComponents_20 rfl (by decide) rfl ?_
      refine sm_aload_n d_Sc_hasComponents_21 rfl (j := 1) rfl ?_
      refine sm_iload_n d_Sc_hasComponents_22 rfl (j := 0) rfl ?_
      refine lo_callV d_Sc_hasComponents_23 cs_Sc_hasComponents_139 rfl hI cl_105 (As := [.int ((36 : Int32) + ((3 : Int32) * x2))]) rfl rfl (Nat.le_of_ble_eq_true rfl) (c_Sc_told hI hZ ((36 : Int32) + ((3 : Int32) * x2))) ?_
      refine sm_bipush (v := 127) d_Sc_hasComponents_26 (by decide) ?_
      refine sm_iand d_Sc_hasComponents_28 ?_
      refine sm_iconst (v := 1) d_Sc_hasComponents_29 (by decide) ?_
      refine sm_iadd d_Sc_hasComponents_30 ?_
      refine sm_aload_n d_Sc_hasComponents_31 rfl (j := 1) rfl ?_
      refine sm_iload_n d_Sc_hasComponents_32 rfl (j := 0) rfl ?_
      refine sm_iconst (v := 1) d_Sc_hasComponents_33 (by decide) ?_
      refine sm_iadd d_Sc_hasComponents_34 ?_
      refine lo_callV d_Sc_hasComponents_35 cs_Sc_hasComponents_139 rfl hI cl_105 (As := [.int (((36 : Int32) + ((3 : Int32) * x2)) + (1 : Int32))]) rfl rfl (Nat.le_of_ble_eq_true rfl) (c_Sc_told hI hZ (((36 : Int32) + ((3 : Int32) * x2)) + (1 : Int32))) ?_
      refine sm_aload_n d_Sc_hasComponents_38 rfl (j := 1) rfl ?_
      refine sm_iload_n d_Sc_hasComponents_39 rfl (j := 0) rfl ?_
      refine sm_iconst (v := 2) d_Sc_hasComponents_40 (by decide) ?_
      refine sm_iadd d_Sc_hasComponents_41 ?_
      refine lo_callV d_Sc_hasComponents_42 cs_Sc_hasComponents_139 rfl hI cl_105 (As := [.int (((36 : Int32) + ((3 : Int32) * x2)) + (2 : Int32))]) rfl rfl (Nat.le_of_ble_eq_true rfl) (c_Sc_told hI hZ (((36 : Int32) + ((3 : Int32) * x2)) + (2 : Int32))) ?_
      refine sm_callSp d_Sc_hasComponents_45 cs_Sc_hasComponents_216 rfl (As := [.int (((fn_Sc_told Z w ((36 : Int32) + ((3 : Int32) * x2))) &&& (127 : Int32)) + (1 : Int32)), .int (fn_Sc_told Z w (((36 : Int32) + ((3 : Int32) * x2)) + (1 : Int32))), .int (fn_Sc_told Z w (((36 : Int32) + ((3 : Int32) * x2)) + (2 : Int32)))]) rfl rfl (Nat.le_of_ble_eq_true rfl) (b_Ru_isComponent (((fn_Sc_told Z w ((36 : Int32) + ((3 : Int32) * x2))) &&& (127 : Int32)) + (1 : Int32)) (fn_Sc_told Z w (((36 : Int32) + ((3 : Int32) * x2)) + (1 : Int32))) (fn_Sc_told Z w (((36 : Int32) + ((3 : Int32) * x2)) + (2 : Int32)))) ?_
      refine sm_if_ne (tgt := 53) d_Sc_hasComponents_48 (by decide) (fun h3 => ?_) (fun h3 => ?_)
      · rw [if_pos (bi1 h3)] at hf
        refine sm_iinc (v := (x2 + 1)) d_Sc_hasComponents_53 (j := 3) rfl rfl (by decide) rfl ?_
        refine sm_goto (tgt := 9) d_Sc_hasComponents_56 (by decide) ?_
        exact sm_pick [2, 3, 0] (ih _ _ _ hI hf) rfl
      · rw [if_neg (bi0 h3)] at hf
        refine sm_iconst (v := 0) d_Sc_hasComponents_51 (by decide) ?_
        cases hf
        refine sm_ireturn d_Sc_hasComponents_52 rfl (by rfl) ?_
        exact ⟨rfl, rfl⟩

def fn_Sc_hasComponents (F : Nat) (Z : zd) (w : wd) : Option (Bool) := fn_Sc_hasComponents_9 F Z F w (fn_Sc_told2 Z w (34 : Int32)) (0 : Int32)
set_option maxHeartbeats 1600000 in
set_option maxRecDepth 100000 in
theorem c_Sc_hasComponents {G : sm_G} {b : Nat} {M0 M : sm_M} {Z : zd} {w : wd} {F : Nat} (hI : lo_in G cm_L b M0 M w) (hZ : cz_at G b M0 Z) {R : Bool} (hf : fn_Sc_hasComponents F Z w = some R) : sm_C G mf_Sc_hasComponents [.ref (b + 105)] M 0 0 (sm_pu M (.int (bi R))) := by
  unfold fn_Sc_hasComponents at hf
  have hZ := hZ.go hI.2
  have hI := hI.here
  refine sm_ofW rfl (Nat.le_of_ble_eq_true rfl) ?_
  refine sm_aload_n d_Sc_hasComponents_0 rfl (j := 0) rfl ?_
  refine sm_bipush (v := 34) d_Sc_hasComponents_1 (by decide) ?_
  refine lo_callV d_Sc_hasComponents_3 cs_Sc_hasComponents_136 rfl hI cl_105 (As := [.int (34 : Int32)]) rfl rfl (Nat.le_of_ble_eq_true rfl) (c_Sc_told2 hI hZ (34 : Int32)) ?_
  refine sm_istore_n d_Sc_hasComponents_6 rfl (by decide) rfl ?_
  refine sm_iconst (v := 0) d_Sc_hasComponents_7 (by decide) ?_
  refine sm_istore_n d_Sc_hasComponents_8 rfl (by decide) rfl ?_
  exact sm_pick [2, 1, 0] (w_Sc_hasComponents_9 hZ _ _ _ _ hI hf) rfl

def fn_Sc_hasBody_54 (F : Nat) (Z : zd) : Nat → wd → Int32 → Bool → Int32 → Int32 → Option (Bool)
 | 0, _, _, _, _, _ => none
 | n9 + 1, w, x1, x2, x3, x4 => (if x2 = true then (if x3 < x4 then some true else (if (fn_Ru_isPrecinct x4 ((fn_Sc_told Z w ((x1 + (5 : Int32)) + x4)) &&& (15 : Int32)) ((fn_Sc_told Z w ((x1 + (5 : Int32)) + x4)) >>> ((4 : Int32) &&& 31))) = true then fn_Sc_hasBody_54 F Z n9 w x1 x2 x3 (x4 + 1) else some false)) else some true)
set_option maxHeartbeats 1600000 in
set_option maxRecDepth 100000 in
theorem w_Sc_hasBody_54 {G : sm_G} {b : Nat} {M0 : sm_M} {bc bs : Nat} {Z : zd} {R : Bool} {F : Nat} (hZ : cz_at G b M0 Z) : ∀ (n9 : Nat), ∀ (w : wd) (x1 : Int32) (x2 : Bool) (x3 : Int32) (x4 : Int32), lo_in G cm_L b M0 M0 w → fn_Sc_hasBody_54 F Z n9 w x1 x2 x3 x4 = some R → sm_W G mf_Sc_hasBody 54 [(0, .ref (b + 105)), (1, .int x1), (2, .int (bi x2)), (3, .int x3), (4, .int x4)] [] M0 bc bs (sm_pu M0 (.int (bi R))) := by
  intro n9
  induction n9 with
  | zero => intro w x1 x2 x3 x4 hI  hf; cases hf
  | succ n9 ih =>
    intro w x1 x2 x3 x4 hI  hf
    rw [fn_Sc_hasBody_54] at hf
    refine sm_iload_n d_Sc_hasBody_54 rfl (j := 2) rfl ?_
    refine sm_if_eq (tgt := 101) d_Sc_hasBody_55 (by decide) (fun h3 => ?_) (fun h3 => ?_)
    · rw [if_neg (bi0 h3)] at hf
      refine sm_iconst (v := 1) d_Sc_hasBody_101 (by decide) ?_
      cases hf
      refine sm_ireturn d_Sc_hasBody_102 rfl (by rfl) ?_
      exact ⟨rfl, rfl⟩
    · rw [if_pos (bi1 h3)] at hf
      refine sm_iload d_Sc_hasBody_58 (j := 4) rfl ?_
      refine sm_iload_n d_Sc_hasBody_60 rfl (j := 3) rfl ?_
      refine sm_icmp_gt (tgt := 101) d_Sc_hasBody_61 (by decide) (fun h4 => ?_) (fun h4 => ?_)
      · rw [if_pos h4] at hf
        refine sm_iconst (v := 1) d_Sc_hasBody_101 (by decide) ?_
        cases hf
        refine sm_ireturn d_Sc_hasBody_102 rfl (by rfl) ?_
        exact ⟨rfl, rfl⟩
      · rw [if_neg h4] at hf
        refine sm_aload_n d_Sc_hasBody_64 rfl (j := 0) rfl ?_
        refine sm_iload_n d_Sc_hasBody_65 rfl (j := 1) rfl ?_
        refine sm_iconst (v := 5) d_Sc_hasBody_66 (by decide) ?_
        refine sm_iadd d_Sc_hasBody_67 ?_
        refine sm_iload d_Sc_hasBody_68 (j := 4) rfl ?_
        refine sm_iadd d_Sc_hasBody_70 ?_
        refine lo_callV d_Sc_hasBody_71 cs_Sc_hasBody_139 rfl hI cl_105 (As := [.int ((x1 + (5 : Int32)) + x4)]) rfl rfl (Nat.le_of_ble_eq_true rfl) (c_Sc_told hI hZ ((x1 + (5 : Int32)) + x4)) ?_
        refine sm_istore d_Sc_hasBody_74 (by decide) rfl ?_
        refine sm_iload d_Sc_hasBody_76 (j := 5) rfl ?_
        refine sm_iload d_Sc_hasBody_78 (j := 0) rfl ?_
        refine sm_bipush (v := 15) d_Sc_hasBody_80 (by decide) ?_
        refine sm_iand d_Sc_hasBody_82 ?_
        refine sm_iload d_Sc_hasBody_83 (j := 0) rfl ?_
        refine sm_iconst (v := 4) d_Sc_hasBody_85 (by decide) ?_
        refine sm_ishr d_Sc_hasBody_86 ?_
        refine sm_callSp d_Sc_hasBody_87 cs_Sc_hasBody_223 rfl (As := [.int x4, .int ((fn_Sc_told Z w ((x1 + (5 : Int32)) + x4)) &&& (15 : Int32)), .int ((fn_Sc_told Z w ((x1 + (5 : Int32)) + x4)) >>> ((4 : Int32) &&& 31))]) rfl rfl (Nat.le_of_ble_eq_true rfl) (b_Ru_isPrecinct x4 ((fn_Sc_told Z w ((x1 + (5 : Int32)) + x4)) &&& (15 : Int32)) ((fn_Sc_told Z w ((x1 + (5 : Int32)) + x4)) >>> ((4 : Int32) &&& 31))) ?_
        refine sm_if_ne (tgt := 95) d_Sc_hasBody_90 (by decide) (fun h5 => ?_) (fun h5 => ?_)
        · rw [if_pos (bi1 h5)] at hf
          refine sm_iinc (v := (x4 + 1)) d_Sc_hasBody_95 (j := 5) rfl rfl (by decide) rfl ?_
          refine sm_goto (tgt := 54) d_Sc_hasBody_98 (by decide) ?_
          exact sm_pick [2, 3, 4, 5, 0] (ih _ _ _ _ _ hI hf) rfl
        · rw [if_neg (bi0 h5)] at hf
          refine sm_iconst (v := 0) d_Sc_hasBody_93 (by decide) ?_
          cases hf
          refine sm_ireturn d_Sc_hasBody_94 rfl (by rfl) ?_
          exact ⟨rfl, rfl⟩

def fn_Sc_hasBody (F : Nat) (Z : zd) (w : wd) (x1 : Int32) (x2 : Bool) : Option (Bool) := (if (fn_Ru_isCoding (fn_Sc_told Z w x1) ((fn_Sc_told Z w (x1 + (1 : Int32))) + (2 : Int32)) ((fn_Sc_told Z w (x1 + (2 : Int32))) + (2 : Int32)) (fn_Sc_told Z w (x1 + (3 : Int32)))) = true then (if (fn_Sc_told Z w (x1 + (4 : Int32))) ≤ (1 : Int32) then fn_Sc_hasBody_54 F Z F w x1 x2 (fn_Sc_told Z w x1) (0 : Int32) else some false) else some false)
set_option maxHeartbeats 1600000 in
set_option maxRecDepth 100000 in
theorem c_Sc_hasBody {G : sm_G} {b : Nat} {M0 M : sm_M} {Z : zd} {w : wd} {F : Nat} (hI : lo_in G cm_L b M0 M w) (hZ : cz_at G b M0 Z) (x1 : Int32) (x2 : Bool)  {R : Bool} (hf : fn_Sc_hasBody F Z w x1 x2 = some R) : sm_C G mf_Sc_hasBody [.ref (b + 105), .int x1, .int (bi x2)] M 0 0 (sm_pu M (.int (bi R))) := by
  unfold fn_Sc_hasBody at hf
  have hZ := hZ.go hI.2
  have hI := hI.here
  refine sm_ofW rfl (Nat.le_of_ble_eq_true rfl) ?_
  refine sm_aload_n d_Sc_hasBody_0 rfl (j := 0) rfl ?_
  refine sm_iload_n d_Sc_hasBody_1 rfl (j := 1) rfl ?_
  refine lo_callV d_Sc_hasBody_2 cs_Sc_hasBody_139 rfl hI cl_105 (As := [.int x1]) rfl rfl (Nat.le_of_ble_eq_true rfl) (c_Sc_told hI hZ x1) ?_
  refine sm_istore_n d_Sc_hasBody_5 rfl (by decide) rfl ?_
  refine sm_iload_n d_Sc_hasBody_6 rfl (j := 0) rfl ?_
  refine sm_aload_n d_Sc_hasBody_7 rfl (j := 1) rfl ?_
  refine sm_iload_n d_Sc_hasBody_8 rfl (j := 2) rfl ?_
  refine sm_iconst (v := 1) d_Sc_hasBody_9 (by decide) ?_
  refine sm_iadd d_Sc_hasBody_10 ?_
  refine lo_callV d_Sc_hasBody_11 cs_Sc_hasBody_139 rfl hI cl_105 (As := [.int (x1 + (1 : Int32))]) rfl rfl (Nat.le_of_ble_eq_true rfl) (c_Sc_told hI hZ (x1 + (1 : Int32))) ?_
  refine sm_iconst (v := 2) d_Sc_hasBody_14 (by decide) ?_
  refine sm_iadd d_Sc_hasBody_15 ?_
  refine sm_aload_n d_Sc_hasBody_16 rfl (j := 1) rfl ?_
  refine sm_iload_n d_Sc_hasBody_17 rfl (j := 2) rfl ?_
  refine sm_iconst (v := 2) d_Sc_hasBody_18 (by decide) ?_
  refine sm_iadd d_Sc_hasBody_19 ?_
  refine lo_callV d_Sc_hasBody_20 cs_Sc_hasBody_139 rfl hI cl_105 (As := [.int (x1 + (2 : Int32))]) rfl rfl (Nat.le_of_ble_eq_true rfl) (c_Sc_told hI hZ (x1 + (2 : Int32))) ?_
  refine sm_iconst (v := 2) d_Sc_hasBody_23 (by decide) ?_
  refine sm_iadd d_Sc_hasBody_24 ?_
  refine sm_aload_n d_Sc_hasBody_25 rfl (j := 1) rfl ?_
  refine sm_iload_n d_Sc_hasBody_26 rfl (j := 2) rfl ?_
  refine sm_iconst (v := 3) d_Sc_hasBody_27 (by decide) ?_
  refine sm_iadd d_Sc_hasBody_28 ?_
  refine lo_callV d_Sc_hasBody_29 cs_Sc_hasBody_139 rfl hI cl_105 (As := [.int (x1 + (3 : Int32))]) rfl rfl (Nat.le_of_ble_eq_true rfl) (c_Sc_told hI hZ (x1 + (3 : Int32))) ?_
  refine sm_callSp d_Sc_hasBody_32 cs_Sc_hasBody_219 rfl (As := [.int (fn_Sc_told Z w x1), .int ((fn_Sc_told Z w (x1 + (1 : Int32))) + (2 : Int32)), .int ((fn_Sc_told Z w (x1 + (2 : Int32))) + (2 : Int32)), .int (fn_Sc_told Z w (x1 + (3 : Int32)))]) rfl rfl (Nat.le_of_ble_eq_true rfl) (b_Ru_isCoding (fn_Sc_told Z w x1) ((fn_Sc_told Z w (x1 + (1 : Int32))) + (2 : Int32)) ((fn_Sc_told Z w (x1 + (2 : Int32))) + (2 : Int32)) (fn_Sc_told Z w (x1 + (3 : Int32)))) ?_
  refine sm_if_eq (tgt := 49) d_Sc_hasBody_35 (by decide) (fun h1 => ?_) (fun h1 => ?_)
  · rw [if_neg (bi0 h1)] at hf
    refine sm_iconst (v := 0) d_Sc_hasBody_49 (by decide) ?_
    cases hf
    refine sm_ireturn d_Sc_hasBody_50 rfl (by rfl) ?_
    exact ⟨rfl, rfl⟩
  · rw [if_pos (bi1 h1)] at hf
    refine sm_aload_n d_Sc_hasBody_38 rfl (j := 1) rfl ?_
    refine sm_iload_n d_Sc_hasBody_39 rfl (j := 2) rfl ?_
    refine sm_iconst (v := 4) d_Sc_hasBody_40 (by decide) ?_
    refine sm_iadd d_Sc_hasBody_41 ?_
    refine lo_callV d_Sc_hasBody_42 cs_Sc_hasBody_139 rfl hI cl_105 (As := [.int (x1 + (4 : Int32))]) rfl rfl (Nat.le_of_ble_eq_true rfl) (c_Sc_told hI hZ (x1 + (4 : Int32))) ?_
    refine sm_iconst (v := 1) d_Sc_hasBody_45 (by decide) ?_
    refine sm_icmp_le (tgt := 51) d_Sc_hasBody_46 (by decide) (fun h2 => ?_) (fun h2 => ?_)
    · rw [if_pos h2] at hf
      refine sm_iconst (v := 0) d_Sc_hasBody_51 (by decide) ?_
      refine sm_istore d_Sc_hasBody_52 (by decide) rfl ?_
      exact sm_pick [2, 3, 4, 1, 0] (w_Sc_hasBody_54 hZ _ _ _ _ _ _ hI hf) rfl
    · rw [if_neg h2] at hf
      refine sm_iconst (v := 0) d_Sc_hasBody_49 (by decide) ?_
      cases hf
      refine sm_ireturn d_Sc_hasBody_50 rfl (by rfl) ?_
      exact ⟨rfl, rfl⟩

