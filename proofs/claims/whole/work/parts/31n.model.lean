/-! StreamMarksModel, on; written by wip/tools/model.py -/
def fn_Md_take_280 (k109 : wd → Int32 → Int32 → Option (wd)) (F : Nat) (w : wd) (x1 : Int32) (x2 : Int32) : Option (wd) := k109 w x1 (x2 + 1)
set_option maxHeartbeats 1600000 in
set_option maxRecDepth 100000 in
theorem w_Md_take_280 {G : sm_G} {b : Nat} {M0 : sm_M} {bc bs : Nat} {R : wd} {F : Nat} {k109 : wd → Int32 → Int32 → Option (wd)} (hk109 : ∀ (M : sm_M) (w : wd) (x1 : Int32) (x2 : Int32), lo_in G md_L b M0 M w → k109 w x1 x2 = some R → sm_W G mf_Md_take 109 [(0, .ref (b + 0)), (1, .int x1), (2, .int x2)] [] M bc bs (wd_Q G md_L b M0 none R)) : ∀ (M : sm_M) (w : wd) (x1 : Int32) (x2 : Int32), lo_in G md_L b M0 M w → fn_Md_take_280 k109 F w x1 x2 = some R → sm_W G mf_Md_take 280 [(0, .ref (b + 0)), (1, .int x1), (2, .int x2)] [] M bc bs (wd_Q G md_L b M0 none R) := by
  intro M w x1 x2 hI  hf
  unfold fn_Md_take_280 at hf
  refine sm_iinc (v := (x2 + 1)) d_Md_take_280 (j := 2) rfl rfl (by decide) rfl ?_
  refine sm_goto (tgt := 109) d_Md_take_283 (by decide) ?_
  exact sm_pick [1, 2, 0] (hk109 _ _ _ _ hI hf) rfl

def fn_Md_take_212 (k109 : wd → Int32 → Int32 → Option (wd)) (F : Nat) (w : wd) (x1 : Int32) (x2 : Int32) (s0 : Bool) (s1 : Int32) (s2 : Int32) : Option (wd) := ((fn_Md_takeBody F w s2 s1 s0).bind fun r13 => fn_Md_take_280 k109 F r13 x1 x2)
set_option maxHeartbeats 1600000 in
set_option maxRecDepth 100000 in
theorem w_Md_take_212 {G : sm_G} {b : Nat} {M0 : sm_M} {bc bs : Nat} {R : wd} {F : Nat} {k109 : wd → Int32 → Int32 → Option (wd)} (hk109 : ∀ (M : sm_M) (w : wd) (x1 : Int32) (x2 : Int32), lo_in G md_L b M0 M w → k109 w x1 x2 = some R → sm_W G mf_Md_take 109 [(0, .ref (b + 0)), (1, .int x1), (2, .int x2)] [] M bc bs (wd_Q G md_L b M0 none R)) : ∀ (M : sm_M) (w : wd) (x1 : Int32) (x2 : Int32) (s0 : Bool) (s1 : Int32) (s2 : Int32), lo_in G md_L b M0 M w → fn_Md_take_212 k109 F w x1 x2 s0 s1 s2 = some R → sm_W G mf_Md_take 212 [(0, .ref (b + 0)), (1, .int x1), (2, .int x2)] [.int (bi s0), .int s1, .int s2, .ref (b + 0)] M bc bs (wd_Q G md_L b M0 none R) := by
  intro M w x1 x2 s0 s1 s2 hI  hf
  unfold fn_Md_take_212 at hf
  obtain ⟨r13, e14, hf⟩ := lo_bnd hf
  refine lo_callVm d_Md_take_212 cs_Md_take_344 rfl hI ml_0 (As := [.int s2, .int s1, .int (bi s0)]) rfl rfl (Nat.le_of_ble_eq_true rfl) (c_Md_takeBody hI s2 s1 s0 e14) (fun M15 hI16 => ?_)
  refine sm_goto (tgt := 280) d_Md_take_215 (by decide) ?_
  exact sm_pick [0, 1, 2] (w_Md_take_280 hk109 _ _ _ _ hI16 hf) rfl

def fn_Md_take_109 (F : Nat) : Nat → wd → Int32 → Int32 → Option (wd)
 | 0, _, _, _ => none
 | n9 + 1, w, x1, x2 => (if (w 0 23) ≤ x2 then some w else (if 0 ≤ x2.toInt ∧ x2.toInt < 16500 then (if 0 ≤ x2.toInt ∧ x2.toInt < 16500 then (if (w 15 x2.toInt.toNat) = x1 then (if 0 ≤ x2.toInt ∧ x2.toInt < 16500 then (if (w 12 x2.toInt.toNat) = 83 then ((fn_Md_u1 w ((w 13 x2.toInt.toNat) + (4 : Int32))).bind fun r8 => ((fn_Md_u1 w ((w 13 x2.toInt.toNat) + (5 : Int32))).bind fun r10 => (if r10 = (1 : Int32) then fn_Md_take_212 (fn_Md_take_109 F n9) F w x1 x2 true ((w 13 x2.toInt.toNat) + (6 : Int32)) r8 else fn_Md_take_212 (fn_Md_take_109 F n9) F w x1 x2 false ((w 13 x2.toInt.toNat) + (6 : Int32)) r8))) else (if (w 12 x2.toInt.toNat) = 93 then ((fn_Md_u1 w ((w 13 x2.toInt.toNat) + (4 : Int32))).bind fun r18 => (if 0 ≤ x2.toInt ∧ x2.toInt < 16500 then ((fn_Md_takeRows F w r18 ((w 13 x2.toInt.toNat) + (5 : Int32)) ((w 14 x2.toInt.toNat) - (4 : Int32))).bind fun r21 => fn_Md_take_280 (fn_Md_take_109 F n9) F r21 x1 x2) else none)) else (if (w 12 x2.toInt.toNat) = 94 then ((fn_Md_u1 w ((w 13 x2.toInt.toNat) + (4 : Int32))).bind fun r26 => ((fn_Md_u1 w ((w 13 x2.toInt.toNat) + (6 : Int32))).bind fun r28 => (if 0 ≤ (((8 : Int32) * r26) + (7 : Int32)).toInt ∧ (((8 : Int32) * r26) + (7 : Int32)).toInt < 128 then fn_Md_take_280 (fn_Md_take_109 F n9) F (up2 w 6 ((((8 : Int32) * r26) + (7 : Int32)).toInt.toNat) r28) x1 x2 else none))) else (if (w 12 x2.toInt.toNat) = 95 then ((fn_Md_takeChanges F w (w 13 x2.toInt.toNat)).bind fun r34 => fn_Md_take_280 (fn_Md_take_109 F n9) F r34 x1 x2) else fn_Md_take_280 (fn_Md_take_109 F n9) F w x1 x2)))) else none) else fn_Md_take_280 (fn_Md_take_109 F n9) F w x1 x2) else none) else none))
set_option maxHeartbeats 1600000 in
set_option maxRecDepth 100000 in
theorem w_Md_take_109 {G : sm_G} {b : Nat} {M0 : sm_M} {bc bs : Nat} {R : wd} {F : Nat} : ∀ (n9 : Nat), ∀ (M : sm_M) (w : wd) (x1 : Int32) (x2 : Int32), lo_in G md_L b M0 M w → fn_Md_take_109 F n9 w x1 x2 = some R → sm_W G mf_Md_take 109 [(0, .ref (b + 0)), (1, .int x1), (2, .int x2)] [] M bc bs (wd_Q G md_L b M0 none R) := by
  intro n9
  induction n9 with
  | zero => intro M w x1 x2 hI  hf; cases hf
  | succ n9 ih =>
    intro M w x1 x2 hI  hf
    rw [fn_Md_take_109] at hf
    refine sm_iload_n d_Md_take_109 rfl (j := 2) rfl ?_
    refine sm_aload_n d_Md_take_110 rfl (j := 0) rfl ?_
    refine lo_get (v := .int (w 0 23)) d_Md_take_111 fg_Md_239 hI ml_0 rfl ?_
    refine sm_icmp_ge (tgt := 286) d_Md_take_114 (by decide) (fun h2 => ?_) (fun h2 => ?_)
    · rw [if_pos h2] at hf
      cases hf
      refine sm_return d_Md_take_286 rfl ?_
      exact ⟨rfl, hI⟩
    · rw [if_neg h2] at hf
      refine sm_aload_n d_Md_take_117 rfl (j := 0) rfl ?_
      refine lo_get (v := .ref (b + 13)) d_Md_take_118 fg_Md_54 hI ml_0 rfl ?_
      refine sm_iload_n d_Md_take_121 rfl (j := 2) rfl ?_
      obtain ⟨h3, hf⟩ := lo_chk hf
      refine lo_ald (j := x2.toInt.toNat) d_Md_take_122 hI ml_13 h3 rfl ?_
      refine sm_istore_n d_Md_take_123 rfl (by decide) rfl ?_
      refine sm_aload_n d_Md_take_124 rfl (j := 1) rfl ?_
      refine lo_get (v := .ref (b + 15)) d_Md_take_125 fg_Md_60 hI ml_0 rfl ?_
      refine sm_iload_n d_Md_take_128 rfl (j := 3) rfl ?_
      obtain ⟨h4, hf⟩ := lo_chk hf
      refine lo_ald (j := x2.toInt.toNat) d_Md_take_129 hI ml_15 h4 rfl ?_
      refine sm_iload_n d_Md_take_130 rfl (j := 2) rfl ?_
      refine sm_icmp_eq (tgt := 137) d_Md_take_131 (by decide) (fun h5 => ?_) (fun h5 => ?_)
      · rw [if_pos h5] at hf
        refine sm_aload_n d_Md_take_137 rfl (j := 1) rfl ?_
        refine lo_get (v := .ref (b + 12)) d_Md_take_138 fg_Md_51 hI ml_0 rfl ?_
        refine sm_iload_n d_Md_take_141 rfl (j := 3) rfl ?_
        obtain ⟨h6, hf⟩ := lo_chk hf
        refine lo_ald (j := x2.toInt.toNat) d_Md_take_142 hI ml_12 h6 rfl ?_
        by_cases h7 : (w 12 x2.toInt.toNat) = 83
        · rw [if_pos h7] at hf
          refine sm_lookup (tgt := 184) d_Md_take_143 (by decide) (by rw [h7] <;> rfl) (by decide) ?_
          refine sm_aload_n d_Md_take_184 rfl (j := 1) rfl ?_
          refine sm_aload_n d_Md_take_185 rfl (j := 1) rfl ?_
          refine sm_iload_n d_Md_take_186 rfl (j := 0) rfl ?_
          refine sm_iconst (v := 4) d_Md_take_187 (by decide) ?_
          refine sm_iadd d_Md_take_188 ?_
          obtain ⟨r8, e9, hf⟩ := lo_bnd hf
          refine lo_callV d_Md_take_189 cs_Md_take_233 rfl hI ml_0 (As := [.int ((w 13 x2.toInt.toNat) + (4 : Int32))]) rfl rfl (Nat.le_of_ble_eq_true rfl) (c_Md_u1 hI ((w 13 x2.toInt.toNat) + (4 : Int32)) e9) ?_
          refine sm_iload_n d_Md_take_192 rfl (j := 0) rfl ?_
          refine sm_bipush (v := 6) d_Md_take_193 (by decide) ?_
          refine sm_iadd d_Md_take_195 ?_
          refine sm_aload_n d_Md_take_196 rfl (j := 1) rfl ?_
          refine sm_iload_n d_Md_take_197 rfl (j := 0) rfl ?_
          refine sm_iconst (v := 5) d_Md_take_198 (by decide) ?_
          refine sm_iadd d_Md_take_199 ?_
          obtain ⟨r10, e11, hf⟩ := lo_bnd hf
          refine lo_callV d_Md_take_200 cs_Md_take_233 rfl hI ml_0 (As := [.int ((w 13 x2.toInt.toNat) + (5 : Int32))]) rfl rfl (Nat.le_of_ble_eq_true rfl) (c_Md_u1 hI ((w 13 x2.toInt.toNat) + (5 : Int32)) e11) ?_
          refine sm_iconst (v := 1) d_Md_take_203 (by decide) ?_
          refine sm_icmp_ne (tgt := 211) d_Md_take_204 (by decide) (fun h12 => ?_) (fun h12 => ?_)
          · rw [if_neg h12] at hf
            refine sm_iconst (v := 0) d_Md_take_211 (by decide) ?_
            exact sm_pick [1, 2, 3] (w_Md_take_212 ih _ _ _ _ _ _ _ hI hf) rfl
          · rw [if_pos h12] at hf
            refine sm_iconst (v := 1) d_Md_take_207 (by decide) ?_
            refine sm_goto (tgt := 212) d_Md_take_208 (by decide) ?_
            exact sm_pick [1, 2, 3] (w_Md_take_212 ih _ _ _ _ _ _ _ hI hf) rfl
        · rw [if_neg h7] at hf
          by_cases h17 : (w 12 x2.toInt.toNat) = 93
          · rw [if_pos h17] at hf
            refine sm_lookup (tgt := 218) d_Md_take_143 (by decide) (by rw [h17] <;> rfl) (by decide) ?_
            refine sm_aload_n d_Md_take_218 rfl (j := 1) rfl ?_
            refine sm_aload_n d_Md_take_219 rfl (j := 1) rfl ?_
            refine sm_iload_n d_Md_take_220 rfl (j := 0) rfl ?_
            refine sm_iconst (v := 4) d_Md_take_221 (by decide) ?_
            refine sm_iadd d_Md_take_222 ?_
            obtain ⟨r18, e19, hf⟩ := lo_bnd hf
            refine lo_callV d_Md_take_223 cs_Md_take_233 rfl hI ml_0 (As := [.int ((w 13 x2.toInt.toNat) + (4 : Int32))]) rfl rfl (Nat.le_of_ble_eq_true rfl) (c_Md_u1 hI ((w 13 x2.toInt.toNat) + (4 : Int32)) e19) ?_
            refine sm_iload_n d_Md_take_226 rfl (j := 0) rfl ?_
            refine sm_iconst (v := 5) d_Md_take_227 (by decide) ?_
            refine sm_iadd d_Md_take_228 ?_
            refine sm_aload_n d_Md_take_229 rfl (j := 1) rfl ?_
            refine lo_get (v := .ref (b + 14)) d_Md_take_230 fg_Md_57 hI ml_0 rfl ?_
            refine sm_iload_n d_Md_take_233 rfl (j := 3) rfl ?_
            obtain ⟨h20, hf⟩ := lo_chk hf
            refine lo_ald (j := x2.toInt.toNat) d_Md_take_234 hI ml_14 h20 rfl ?_
            refine sm_iconst (v := 4) d_Md_take_235 (by decide) ?_
            refine sm_isub d_Md_take_236 ?_
            obtain ⟨r21, e22, hf⟩ := lo_bnd hf
            refine lo_callVm d_Md_take_237 cs_Md_take_351 rfl hI ml_0 (As := [.int r18, .int ((w 13 x2.toInt.toNat) + (5 : Int32)), .int ((w 14 x2.toInt.toNat) - (4 : Int32))]) rfl rfl (Nat.le_of_ble_eq_true rfl) (c_Md_takeRows hI r18 ((w 13 x2.toInt.toNat) + (5 : Int32)) ((w 14 x2.toInt.toNat) - (4 : Int32)) e22) (fun M23 hI24 => ?_)
            refine sm_goto (tgt := 280) d_Md_take_240 (by decide) ?_
            exact sm_pick [1, 2, 3] (w_Md_take_280 ih _ _ _ _ hI24 hf) rfl
          · rw [if_neg h17] at hf
            by_cases h25 : (w 12 x2.toInt.toNat) = 94
            · rw [if_pos h25] at hf
              refine sm_lookup (tgt := 243) d_Md_take_143 (by decide) (by rw [h25] <;> rfl) (by decide) ?_
              refine sm_aload_n d_Md_take_243 rfl (j := 1) rfl ?_
              refine lo_get (v := .ref (b + 6)) d_Md_take_244 fg_Md_29 hI ml_0 rfl ?_
              refine sm_bipush (v := 8) d_Md_take_247 (by decide) ?_
              refine sm_aload_n d_Md_take_249 rfl (j := 1) rfl ?_
              refine sm_iload_n d_Md_take_250 rfl (j := 0) rfl ?_
              refine sm_iconst (v := 4) d_Md_take_251 (by decide) ?_
              refine sm_iadd d_Md_take_252 ?_
              obtain ⟨r26, e27, hf⟩ := lo_bnd hf
              refine lo_callV d_Md_take_253 cs_Md_take_233 rfl hI ml_0 (As := [.int ((w 13 x2.toInt.toNat) + (4 : Int32))]) rfl rfl (Nat.le_of_ble_eq_true rfl) (c_Md_u1 hI ((w 13 x2.toInt.toNat) + (4 : Int32)) e27) ?_
              refine sm_imul d_Md_take_256 ?_
              refine sm_bipush (v := 7) d_Md_take_257 (by decide) ?_
              refine sm_iadd d_Md_take_259 ?_
              refine sm_aload_n d_Md_take_260 rfl (j := 1) rfl ?_
              refine sm_iload_n d_Md_take_261 rfl (j := 0) rfl ?_
              refine sm_bipush (v := 6) d_Md_take_262 (by decide) ?_
              refine sm_iadd d_Md_take_264 ?_
              obtain ⟨r28, e29, hf⟩ := lo_bnd hf
              refine lo_callV d_Md_take_265 cs_Md_take_233 rfl hI ml_0 (As := [.int ((w 13 x2.toInt.toNat) + (6 : Int32))]) rfl rfl (Nat.le_of_ble_eq_true rfl) (c_Md_u1 hI ((w 13 x2.toInt.toNat) + (6 : Int32)) e29) ?_
              obtain ⟨h30, hf⟩ := lo_chk hf
              refine lo_ast (j := (((8 : Int32) * r26) + (7 : Int32)).toInt.toNat) d_Md_take_268 hI ml_6 h30 rfl (fun M31 hI32 => ?_)
              refine sm_goto (tgt := 280) d_Md_take_269 (by decide) ?_
              exact sm_pick [1, 2, 3] (w_Md_take_280 ih _ _ _ _ hI32 hf) rfl
            · rw [if_neg h25] at hf
              by_cases h33 : (w 12 x2.toInt.toNat) = 95
              · rw [if_pos h33] at hf
                refine sm_lookup (tgt := 272) d_Md_take_143 (by decide) (by rw [h33] <;> rfl) (by decide) ?_
                refine sm_aload_n d_Md_take_272 rfl (j := 1) rfl ?_
                refine sm_iload_n d_Md_take_273 rfl (j := 0) rfl ?_
                obtain ⟨r34, e35, hf⟩ := lo_bnd hf
                refine lo_callVm d_Md_take_274 cs_Md_take_355 rfl hI ml_0 (As := [.int (w 13 x2.toInt.toNat)]) rfl rfl (Nat.le_of_ble_eq_true rfl) (c_Md_takeChanges hI (w 13 x2.toInt.toNat) e35) (fun M36 hI37 => ?_)
                refine sm_goto (tgt := 280) d_Md_take_277 (by decide) ?_
                exact sm_pick [1, 2, 3] (w_Md_take_280 ih _ _ _ _ hI37 hf) rfl
              · rw [if_neg h33] at hf
                refine sm_lookup (tgt := 280) d_Md_take_143 (by decide) (lo_offD (List.forall_mem_cons.mpr ⟨(fun e9 => h7 (sm_eqI.mpr (e9.symm.trans (by decide)))), List.forall_mem_cons.mpr ⟨(fun e9 => h17 (sm_eqI.mpr (e9.symm.trans (by decide)))), List.forall_mem_cons.mpr ⟨(fun e9 => h25 (sm_eqI.mpr (e9.symm.trans (by decide)))), List.forall_mem_cons.mpr ⟨(fun e9 => h33 (sm_eqI.mpr (e9.symm.trans (by decide)))), List.forall_mem_nil _⟩⟩⟩⟩)) (by decide) ?_
                exact sm_pick [1, 2, 3] (w_Md_take_280 ih _ _ _ _ hI hf) rfl
      · rw [if_neg h5] at hf
        refine sm_goto (tgt := 280) d_Md_take_134 (by decide) ?_
        exact sm_pick [1, 2, 3] (w_Md_take_280 ih _ _ _ _ hI hf) rfl

def fn_Md_take_101 (k2 : wd → Int32 → Int32 → Option (wd)) (F : Nat) (w : wd) (x1 : Int32) (x2 : Int32) : Option (wd) := k2 w x1 (x2 + 1)
set_option maxHeartbeats 1600000 in
set_option maxRecDepth 100000 in
theorem w_Md_take_101 {G : sm_G} {b : Nat} {M0 : sm_M} {bc bs : Nat} {R : wd} {F : Nat} {k2 : wd → Int32 → Int32 → Option (wd)} (hk2 : ∀ (M : sm_M) (w : wd) (x1 : Int32) (x2 : Int32), lo_in G md_L b M0 M w → k2 w x1 x2 = some R → sm_W G mf_Md_take 2 [(0, .ref (b + 0)), (1, .int x1), (2, .int x2)] [] M bc bs (wd_Q G md_L b M0 none R)) : ∀ (M : sm_M) (w : wd) (x1 : Int32) (x2 : Int32), lo_in G md_L b M0 M w → fn_Md_take_101 k2 F w x1 x2 = some R → sm_W G mf_Md_take 101 [(0, .ref (b + 0)), (1, .int x1), (2, .int x2)] [] M bc bs (wd_Q G md_L b M0 none R) := by
  intro M w x1 x2 hI  hf
  unfold fn_Md_take_101 at hf
  refine sm_iinc (v := (x2 + 1)) d_Md_take_101 (j := 2) rfl rfl (by decide) rfl ?_
  refine sm_goto (tgt := 2) d_Md_take_104 (by decide) ?_
  exact sm_pick [1, 2, 0] (hk2 _ _ _ _ hI hf) rfl

def fn_Md_take_48 (k2 : wd → Int32 → Int32 → Option (wd)) (F : Nat) : Nat → wd → Int32 → Int32 → Int32 → Int32 → Option (wd)
 | 0, _, _, _, _, _ => none
 | n9 + 1, w, x1, x2, x3, x4 => (if (w 0 3) ≤ x4 then fn_Md_take_101 k2 F w x1 x2 else (if 0 ≤ x2.toInt ∧ x2.toInt < 16500 then (if (w 15 x2.toInt.toNat) = x1 then (if 0 ≤ x2.toInt ∧ x2.toInt < 16500 then (if (w 12 x2.toInt.toNat) = (92 : Int32) then (if 0 ≤ x2.toInt ∧ x2.toInt < 16500 then ((fn_Md_takeRows F w x4 (x3 + (4 : Int32)) ((w 14 x2.toInt.toNat) - (3 : Int32))).bind fun r47 => fn_Md_take_48 k2 F n9 r47 x1 x2 x3 (x4 + 1)) else none) else fn_Md_take_101 k2 F w x1 x2) else none) else fn_Md_take_101 k2 F w x1 x2) else none))
set_option maxHeartbeats 1600000 in
set_option maxRecDepth 100000 in
theorem w_Md_take_48 {G : sm_G} {b : Nat} {M0 : sm_M} {bc bs : Nat} {R : wd} {F : Nat} {k2 : wd → Int32 → Int32 → Option (wd)} (hk2 : ∀ (M : sm_M) (w : wd) (x1 : Int32) (x2 : Int32), lo_in G md_L b M0 M w → k2 w x1 x2 = some R → sm_W G mf_Md_take 2 [(0, .ref (b + 0)), (1, .int x1), (2, .int x2)] [] M bc bs (wd_Q G md_L b M0 none R)) : ∀ (n9 : Nat), ∀ (M : sm_M) (w : wd) (x1 : Int32) (x2 : Int32) (x3 : Int32) (x4 : Int32), lo_in G md_L b M0 M w → fn_Md_take_48 k2 F n9 w x1 x2 x3 x4 = some R → sm_W G mf_Md_take 48 [(0, .ref (b + 0)), (1, .int x1), (2, .int x2), (3, .int x3), (4, .int x4)] [] M bc bs (wd_Q G md_L b M0 none R) := by
  intro n9
  induction n9 with
  | zero => intro M w x1 x2 x3 x4 hI  hf; cases hf
  | succ n9 ih =>
    intro M w x1 x2 x3 x4 hI  hf
    rw [fn_Md_take_48] at hf
    refine sm_iload d_Md_take_48 (j := 4) rfl ?_
    refine sm_aload_n d_Md_take_50 rfl (j := 0) rfl ?_
    refine lo_get (v := .int (w 0 3)) d_Md_take_51 fg_Md_88 hI ml_0 rfl ?_
    refine sm_icmp_ge (tgt := 101) d_Md_take_54 (by decide) (fun h41 => ?_) (fun h41 => ?_)
    · rw [if_pos h41] at hf
      exact sm_pick [0, 1, 2] (w_Md_take_101 hk2 _ _ _ _ hI hf) rfl
    · rw [if_neg h41] at hf
      refine sm_aload_n d_Md_take_57 rfl (j := 0) rfl ?_
      refine lo_get (v := .ref (b + 15)) d_Md_take_58 fg_Md_60 hI ml_0 rfl ?_
      refine sm_iload_n d_Md_take_61 rfl (j := 2) rfl ?_
      obtain ⟨h42, hf⟩ := lo_chk hf
      refine lo_ald (j := x2.toInt.toNat) d_Md_take_62 hI ml_15 h42 rfl ?_
      refine sm_iload_n d_Md_take_63 rfl (j := 1) rfl ?_
      refine sm_icmp_ne (tgt := 101) d_Md_take_64 (by decide) (fun h43 => ?_) (fun h43 => ?_)
      · rw [if_neg h43] at hf
        exact sm_pick [0, 1, 2] (w_Md_take_101 hk2 _ _ _ _ hI hf) rfl
      · rw [if_pos h43] at hf
        refine sm_aload_n d_Md_take_67 rfl (j := 0) rfl ?_
        refine lo_get (v := .ref (b + 12)) d_Md_take_68 fg_Md_51 hI ml_0 rfl ?_
        refine sm_iload_n d_Md_take_71 rfl (j := 2) rfl ?_
        obtain ⟨h44, hf⟩ := lo_chk hf
        refine lo_ald (j := x2.toInt.toNat) d_Md_take_72 hI ml_12 h44 rfl ?_
        refine sm_bipush (v := 92) d_Md_take_73 (by decide) ?_
        refine sm_icmp_ne (tgt := 101) d_Md_take_75 (by decide) (fun h45 => ?_) (fun h45 => ?_)
        · rw [if_neg h45] at hf
          exact sm_pick [0, 1, 2] (w_Md_take_101 hk2 _ _ _ _ hI hf) rfl
        · rw [if_pos h45] at hf
          refine sm_aload_n d_Md_take_78 rfl (j := 0) rfl ?_
          refine sm_iload d_Md_take_79 (j := 4) rfl ?_
          refine sm_iload_n d_Md_take_81 rfl (j := 3) rfl ?_
          refine sm_iconst (v := 4) d_Md_take_82 (by decide) ?_
          refine sm_iadd d_Md_take_83 ?_
          refine sm_aload_n d_Md_take_84 rfl (j := 0) rfl ?_
          refine lo_get (v := .ref (b + 14)) d_Md_take_85 fg_Md_57 hI ml_0 rfl ?_
          refine sm_iload_n d_Md_take_88 rfl (j := 2) rfl ?_
          obtain ⟨h46, hf⟩ := lo_chk hf
          refine lo_ald (j := x2.toInt.toNat) d_Md_take_89 hI ml_14 h46 rfl ?_
          refine sm_iconst (v := 3) d_Md_take_90 (by decide) ?_
          refine sm_isub d_Md_take_91 ?_
          obtain ⟨r47, e48, hf⟩ := lo_bnd hf
          refine lo_callVm d_Md_take_92 cs_Md_take_351 rfl hI ml_0 (As := [.int x4, .int (x3 + (4 : Int32)), .int ((w 14 x2.toInt.toNat) - (3 : Int32))]) rfl rfl (Nat.le_of_ble_eq_true rfl) (c_Md_takeRows hI x4 (x3 + (4 : Int32)) ((w 14 x2.toInt.toNat) - (3 : Int32)) e48) (fun M49 hI50 => ?_)
          refine sm_iinc (v := (x4 + 1)) d_Md_take_95 (j := 4) rfl rfl (by decide) rfl ?_
          refine sm_goto (tgt := 48) d_Md_take_98 (by decide) ?_
          exact sm_pick [1, 2, 3, 4, 0] (ih _ _ _ _ _ _ hI50 hf) rfl

def fn_Md_take_45 (k2 : wd → Int32 → Int32 → Option (wd)) (F : Nat) (w : wd) (x1 : Int32) (x2 : Int32) (x3 : Int32) : Option (wd) := fn_Md_take_48 k2 F F w x1 x2 x3 (0 : Int32)
set_option maxHeartbeats 1600000 in
set_option maxRecDepth 100000 in
theorem w_Md_take_45 {G : sm_G} {b : Nat} {M0 : sm_M} {bc bs : Nat} {R : wd} {F : Nat} {k2 : wd → Int32 → Int32 → Option (wd)} (hk2 : ∀ (M : sm_M) (w : wd) (x1 : Int32) (x2 : Int32), lo_in G md_L b M0 M w → k2 w x1 x2 = some R → sm_W G mf_Md_take 2 [(0, .ref (b + 0)), (1, .int x1), (2, .int x2)] [] M bc bs (wd_Q G md_L b M0 none R)) : ∀ (M : sm_M) (w : wd) (x1 : Int32) (x2 : Int32) (x3 : Int32), lo_in G md_L b M0 M w → fn_Md_take_45 k2 F w x1 x2 x3 = some R → sm_W G mf_Md_take 45 [(0, .ref (b + 0)), (1, .int x1), (2, .int x2), (3, .int x3)] [] M bc bs (wd_Q G md_L b M0 none R) := by
  intro M w x1 x2 x3 hI  hf
  unfold fn_Md_take_45 at hf
  refine sm_iconst (v := 0) d_Md_take_45 (by decide) ?_
  refine sm_istore d_Md_take_46 (by decide) rfl ?_
  exact sm_pick [1, 2, 3, 4, 0] (w_Md_take_48 hk2 _ _ _ _ _ _ _ hI hf) rfl

def fn_Md_take_2 (F : Nat) : Nat → wd → Int32 → Int32 → Option (wd)
 | 0, _, _, _ => none
 | n9 + 1, w, x1, x2 => (if (w 0 23) ≤ x2 then fn_Md_take_109 F F w x1 (0 : Int32) else (if 0 ≤ x2.toInt ∧ x2.toInt < 16500 then (if 0 ≤ x2.toInt ∧ x2.toInt < 16500 then (if (w 15 x2.toInt.toNat) = x1 then (if 0 ≤ x2.toInt ∧ x2.toInt < 16500 then (if (w 12 x2.toInt.toNat) = (82 : Int32) then ((fn_Md_takeCoding F w ((w 13 x2.toInt.toNat) + (4 : Int32))).bind fun r53 => fn_Md_take_45 (fn_Md_take_2 F n9) F r53 x1 x2 (w 13 x2.toInt.toNat)) else fn_Md_take_45 (fn_Md_take_2 F n9) F w x1 x2 (w 13 x2.toInt.toNat)) else none) else fn_Md_take_45 (fn_Md_take_2 F n9) F w x1 x2 (w 13 x2.toInt.toNat)) else none) else none))
set_option maxHeartbeats 1600000 in
set_option maxRecDepth 100000 in
theorem w_Md_take_2 {G : sm_G} {b : Nat} {M0 : sm_M} {bc bs : Nat} {R : wd} {F : Nat} : ∀ (n9 : Nat), ∀ (M : sm_M) (w : wd) (x1 : Int32) (x2 : Int32), lo_in G md_L b M0 M w → fn_Md_take_2 F n9 w x1 x2 = some R → sm_W G mf_Md_take 2 [(0, .ref (b + 0)), (1, .int x1), (2, .int x2)] [] M bc bs (wd_Q G md_L b M0 none R) := by
  intro n9
  induction n9 with
  | zero => intro M w x1 x2 hI  hf; cases hf
  | succ n9 ih =>
    intro M w x1 x2 hI  hf
    rw [fn_Md_take_2] at hf
    refine sm_iload_n d_Md_take_2 rfl (j := 2) rfl ?_
    refine sm_aload_n d_Md_take_3 rfl (j := 0) rfl ?_
    refine lo_get (v := .int (w 0 23)) d_Md_take_4 fg_Md_239 hI ml_0 rfl ?_
    refine sm_icmp_ge (tgt := 107) d_Md_take_7 (by decide) (fun h1 => ?_) (fun h1 => ?_)
    · rw [if_pos h1] at hf
      refine sm_iconst (v := 0) d_Md_take_107 (by decide) ?_
      refine sm_istore_n d_Md_take_108 rfl (by decide) rfl ?_
      exact sm_pick [1, 2, 0] (w_Md_take_109 _ _ _ _ _ hI hf) rfl
    · rw [if_neg h1] at hf
      refine sm_aload_n d_Md_take_10 rfl (j := 0) rfl ?_
      refine lo_get (v := .ref (b + 13)) d_Md_take_11 fg_Md_54 hI ml_0 rfl ?_
      refine sm_iload_n d_Md_take_14 rfl (j := 2) rfl ?_
      obtain ⟨h38, hf⟩ := lo_chk hf
      refine lo_ald (j := x2.toInt.toNat) d_Md_take_15 hI ml_13 h38 rfl ?_
      refine sm_istore_n d_Md_take_16 rfl (by decide) rfl ?_
      refine sm_aload_n d_Md_take_17 rfl (j := 1) rfl ?_
      refine lo_get (v := .ref (b + 15)) d_Md_take_18 fg_Md_60 hI ml_0 rfl ?_
      refine sm_iload_n d_Md_take_21 rfl (j := 3) rfl ?_
      obtain ⟨h39, hf⟩ := lo_chk hf
      refine lo_ald (j := x2.toInt.toNat) d_Md_take_22 hI ml_15 h39 rfl ?_
      refine sm_iload_n d_Md_take_23 rfl (j := 2) rfl ?_
      refine sm_icmp_ne (tgt := 45) d_Md_take_24 (by decide) (fun h40 => ?_) (fun h40 => ?_)
      · rw [if_neg h40] at hf
        exact sm_pick [1, 2, 3, 0] (w_Md_take_45 ih _ _ _ _ _ hI hf) rfl
      · rw [if_pos h40] at hf
        refine sm_aload_n d_Md_take_27 rfl (j := 1) rfl ?_
        refine lo_get (v := .ref (b + 12)) d_Md_take_28 fg_Md_51 hI ml_0 rfl ?_
        refine sm_iload_n d_Md_take_31 rfl (j := 3) rfl ?_
        obtain ⟨h51, hf⟩ := lo_chk hf
        refine lo_ald (j := x2.toInt.toNat) d_Md_take_32 hI ml_12 h51 rfl ?_
        refine sm_bipush (v := 82) d_Md_take_33 (by decide) ?_
        refine sm_icmp_ne (tgt := 45) d_Md_take_35 (by decide) (fun h52 => ?_) (fun h52 => ?_)
        · rw [if_neg h52] at hf
          exact sm_pick [1, 2, 3, 0] (w_Md_take_45 ih _ _ _ _ _ hI hf) rfl
        · rw [if_pos h52] at hf
          refine sm_aload_n d_Md_take_38 rfl (j := 1) rfl ?_
          refine sm_iload_n d_Md_take_39 rfl (j := 0) rfl ?_
          refine sm_iconst (v := 4) d_Md_take_40 (by decide) ?_
          refine sm_iadd d_Md_take_41 ?_
          obtain ⟨r53, e54, hf⟩ := lo_bnd hf
          refine lo_callVm d_Md_take_42 cs_Md_take_348 rfl hI ml_0 (As := [.int ((w 13 x2.toInt.toNat) + (4 : Int32))]) rfl rfl (Nat.le_of_ble_eq_true rfl) (c_Md_takeCoding hI ((w 13 x2.toInt.toNat) + (4 : Int32)) e54) (fun M55 hI56 => ?_)
          exact sm_pick [1, 2, 3, 0] (w_Md_take_45 ih _ _ _ _ _ hI56 hf) rfl

def fn_Md_take (F : Nat) (w : wd) (x1 : Int32) : Option (wd) := fn_Md_take_2 F F w x1 (0 : Int32)
set_option maxHeartbeats 1600000 in
set_option maxRecDepth 100000 in
theorem c_Md_take {G : sm_G} {b : Nat} {M0 M : sm_M}  {w : wd} {F : Nat} (hI : lo_in G md_L b M0 M w)  (x1 : Int32)  {R : wd} (hf : fn_Md_take F w x1 = some R) : sm_C G mf_Md_take [.ref (b + 0), .int x1] M 0 0 (wd_Q G md_L b M none R) := by
  unfold fn_Md_take at hf
  have hI := hI.here
  refine sm_ofW rfl (Nat.le_of_ble_eq_true rfl) ?_
  refine sm_iconst (v := 0) d_Md_take_0 (by decide) ?_
  refine sm_istore_n d_Md_take_1 rfl (by decide) rfl ?_
  exact sm_pick [1, 2, 0] (w_Md_take_2 _ _ _ _ _ hI hf) rfl

def fn_Md_make_125 (F : Nat) : Nat → wd → Int32 → Int32 → Option (wd)
 | 0, _, _, _ => none
 | n9 + 1, w, x1, x2 => (if (w 0 35) ≤ x2 then ((fn_Md_take F w (-1 : Int32)).bind fun r42 => (if x1 < 0 then some r42 else ((fn_Md_take F r42 x1).bind fun r47 => some r47))) else ((fn_Md_fresh F w x2).bind fun r51 => ((fn_Md_u1 r51 ((42 : Int32) + ((3 : Int32) * x2))).bind fun r55 => (if 0 ≤ x2.toInt ∧ x2.toInt < 16 then ((fn_Md_u1 (up2 r51 2 x2.toInt.toNat ((r55 &&& (127 : Int32)) + (1 : Int32))) ((42 : Int32) + ((3 : Int32) * x2))).bind fun r60 => (if 0 ≤ x2.toInt ∧ x2.toInt < 16 then ((fn_Md_u1 (up2 (up2 r51 2 x2.toInt.toNat ((r55 &&& (127 : Int32)) + (1 : Int32))) 3 x2.toInt.toNat (r60 >>> ((7 : Int32) &&& 31))) ((43 : Int32) + ((3 : Int32) * x2))).bind fun r65 => (if 0 ≤ x2.toInt ∧ x2.toInt < 16 then ((fn_Md_u1 (up2 (up2 (up2 r51 2 x2.toInt.toNat ((r55 &&& (127 : Int32)) + (1 : Int32))) 3 x2.toInt.toNat (r60 >>> ((7 : Int32) &&& 31))) 4 x2.toInt.toNat r65) ((44 : Int32) + ((3 : Int32) * x2))).bind fun r70 => (if 0 ≤ x2.toInt ∧ x2.toInt < 16 then fn_Md_make_125 F n9 (up2 (up2 (up2 (up2 r51 2 x2.toInt.toNat ((r55 &&& (127 : Int32)) + (1 : Int32))) 3 x2.toInt.toNat (r60 >>> ((7 : Int32) &&& 31))) 4 x2.toInt.toNat r65) 5 x2.toInt.toNat r70) x1 (x2 + 1) else none)) else none)) else none)) else none))))
set_option maxHeartbeats 1600000 in
set_option maxRecDepth 100000 in
theorem w_Md_make_125 {G : sm_G} {b : Nat} {M0 : sm_M} {bc bs : Nat} {R : wd} {F : Nat} : ∀ (n9 : Nat), ∀ (M : sm_M) (w : wd) (x1 : Int32) (x2 : Int32), lo_in G md_L b M0 M w → fn_Md_make_125 F n9 w x1 x2 = some R → sm_W G mf_Md_make 125 [(0, .ref (b + 0)), (1, .int x1), (2, .int x2)] [] M bc bs (wd_Q G md_L b M0 none R) := by
  intro n9
  induction n9 with
  | zero => intro M w x1 x2 hI  hf; cases hf
  | succ n9 ih =>
    intro M w x1 x2 hI  hf
    rw [fn_Md_make_125] at hf
    refine sm_iload_n d_Md_make_125 rfl (j := 2) rfl ?_
    refine sm_aload_n d_Md_make_126 rfl (j := 0) rfl ?_
    refine lo_get (v := .int (w 0 35)) d_Md_make_127 fg_Md_259 hI ml_0 rfl ?_
    refine sm_icmp_ge (tgt := 216) d_Md_make_130 (by decide) (fun h41 => ?_) (fun h41 => ?_)
    · rw [if_pos h41] at hf
      refine sm_aload_n d_Md_make_216 rfl (j := 0) rfl ?_
      refine sm_iconst (v := -1) d_Md_make_217 (by decide) ?_
      obtain ⟨r42, e43, hf⟩ := lo_bnd hf
      refine lo_callVm d_Md_make_218 cs_Md_make_358 rfl hI ml_0 (As := [.int (-1 : Int32)]) rfl rfl (Nat.le_of_ble_eq_true rfl) (c_Md_take hI (-1 : Int32) e43) (fun M44 hI45 => ?_)
      refine sm_iload_n d_Md_make_221 rfl (j := 1) rfl ?_
      refine sm_if_lt (tgt := 230) d_Md_make_222 (by decide) (fun h46 => ?_) (fun h46 => ?_)
      · rw [if_pos h46] at hf
        cases hf
        refine sm_return d_Md_make_230 rfl ?_
        exact ⟨rfl, hI45⟩
      · rw [if_neg h46] at hf
        refine sm_aload_n d_Md_make_225 rfl (j := 0) rfl ?_
        refine sm_iload_n d_Md_make_226 rfl (j := 1) rfl ?_
        obtain ⟨r47, e48, hf⟩ := lo_bnd hf
        refine lo_callVm d_Md_make_227 cs_Md_make_358 rfl hI45 ml_0 (As := [.int x1]) rfl rfl (Nat.le_of_ble_eq_true rfl) (c_Md_take hI45 x1 e48) (fun M49 hI50 => ?_)
        cases hf
        refine sm_return d_Md_make_230 rfl ?_
        exact ⟨rfl, hI50⟩
    · rw [if_neg h41] at hf
      refine sm_aload_n d_Md_make_133 rfl (j := 0) rfl ?_
      refine sm_iload_n d_Md_make_134 rfl (j := 2) rfl ?_
      obtain ⟨r51, e52, hf⟩ := lo_bnd hf
      refine lo_callVm d_Md_make_135 cs_Md_make_128 rfl hI ml_0 (As := [.int x2]) rfl rfl (Nat.le_of_ble_eq_true rfl) (c_Md_fresh hI x2 e52) (fun M53 hI54 => ?_)
      refine sm_aload_n d_Md_make_138 rfl (j := 0) rfl ?_
      refine lo_get (v := .ref (b + 2)) d_Md_make_139 fg_Md_13 hI54 ml_0 rfl ?_
      refine sm_iload_n d_Md_make_142 rfl (j := 2) rfl ?_
      refine sm_aload_n d_Md_make_143 rfl (j := 0) rfl ?_
      refine sm_bipush (v := 42) d_Md_make_144 (by decide) ?_
      refine sm_iconst (v := 3) d_Md_make_146 (by decide) ?_
      refine sm_iload_n d_Md_make_147 rfl (j := 2) rfl ?_
      refine sm_imul d_Md_make_148 ?_
      refine sm_iadd d_Md_make_149 ?_
      obtain ⟨r55, e56, hf⟩ := lo_bnd hf
      refine lo_callV d_Md_make_150 cs_Md_make_233 rfl hI54 ml_0 (As := [.int ((42 : Int32) + ((3 : Int32) * x2))]) rfl rfl (Nat.le_of_ble_eq_true rfl) (c_Md_u1 hI54 ((42 : Int32) + ((3 : Int32) * x2)) e56) ?_
      refine sm_bipush (v := 127) d_Md_make_153 (by decide) ?_
      refine sm_iand d_Md_make_155 ?_
      refine sm_iconst (v := 1) d_Md_make_156 (by decide) ?_
      refine sm_iadd d_Md_make_157 ?_
      obtain ⟨h57, hf⟩ := lo_chk hf
      refine lo_ast (j := x2.toInt.toNat) d_Md_make_158 hI54 ml_2 h57 rfl (fun M58 hI59 => ?_)
      refine sm_aload_n d_Md_make_159 rfl (j := 0) rfl ?_
      refine lo_get (v := .ref (b + 3)) d_Md_make_160 fg_Md_16 hI59 ml_0 rfl ?_
      refine sm_iload_n d_Md_make_163 rfl (j := 2) rfl ?_
      refine sm_aload_n d_Md_make_164 rfl (j := 0) rfl ?_
      refine sm_bipush (v := 42) d_Md_make_165 (by decide) ?_
      refine sm_iconst (v := 3) d_Md_make_167 (by decide) ?_
      refine sm_iload_n d_Md_make_168 rfl (j := 2) rfl ?_
      refine sm_imul d_Md_make_169 ?_
      refine sm_iadd d_Md_make_170 ?_
      obtain ⟨r60, e61, hf⟩ := lo_bnd hf
      refine lo_callV d_Md_make_171 cs_Md_make_233 rfl hI59 ml_0 (As := [.int ((42 : Int32) + ((3 : Int32) * x2))]) rfl rfl (Nat.le_of_ble_eq_true rfl) (c_Md_u1 hI59 ((42 : Int32) + ((3 : Int32) * x2)) e61) ?_
      refine sm_bipush (v := 7) d_Md_make_174 (by decide) ?_
      refine sm_ishr d_Md_make_176 ?_
      obtain ⟨h62, hf⟩ := lo_chk hf
      refine lo_ast (j := x2.toInt.toNat) d_Md_make_177 hI59 ml_3 h62 rfl (fun M63 hI64 => ?_)
      refine sm_aload_n d_Md_make_178 rfl (j := 0) rfl ?_
      refine lo_get (v := .ref (b + 4)) d_Md_make_179 fg_Md_19 hI64 ml_0 rfl ?_
      refine sm_iload_n d_Md_make_182 rfl (j := 2) rfl ?_
      refine sm_aload_n d_Md_make_183 rfl (j := 0) rfl ?_
      refine sm_bipush (v := 43) d_Md_make_184 (by decide) ?_
      refine sm_iconst (v := 3) d_Md_make_186 (by decide) ?_
      refine sm_iload_n d_Md_make_187 rfl (j := 2) rfl ?_
      refine sm_imul d_Md_make_188 ?_
      refine sm_iadd d_Md_make_189 ?_
      obtain ⟨r65, e66, hf⟩ := lo_bnd hf
      refine lo_callV d_Md_make_190 cs_Md_make_233 rfl hI64 ml_0 (As := [.int ((43 : Int32) + ((3 : Int32) * x2))]) rfl rfl (Nat.le_of_ble_eq_true rfl) (c_Md_u1 hI64 ((43 : Int32) + ((3 : Int32) * x2)) e66) ?_
      obtain ⟨h67, hf⟩ := lo_chk hf
      refine lo_ast (j := x2.toInt.toNat) d_Md_make_193 hI64 ml_4 h67 rfl (fun M68 hI69 => ?_)
      refine sm_aload_n d_Md_make_194 rfl (j := 0) rfl ?_
      refine lo_get (v := .ref (b + 5)) d_Md_make_195 fg_Md_22 hI69 ml_0 rfl ?_
      refine sm_iload_n d_Md_make_198 rfl (j := 2) rfl ?_
      refine sm_aload_n d_Md_make_199 rfl (j := 0) rfl ?_
      refine sm_bipush (v := 44) d_Md_make_200 (by decide) ?_
      refine sm_iconst (v := 3) d_Md_make_202 (by decide) ?_
      refine sm_iload_n d_Md_make_203 rfl (j := 2) rfl ?_
      refine sm_imul d_Md_make_204 ?_
      refine sm_iadd d_Md_make_205 ?_
      obtain ⟨r70, e71, hf⟩ := lo_bnd hf
      refine lo_callV d_Md_make_206 cs_Md_make_233 rfl hI69 ml_0 (As := [.int ((44 : Int32) + ((3 : Int32) * x2))]) rfl rfl (Nat.le_of_ble_eq_true rfl) (c_Md_u1 hI69 ((44 : Int32) + ((3 : Int32) * x2)) e71) ?_
      obtain ⟨h72, hf⟩ := lo_chk hf
      refine lo_ast (j := x2.toInt.toNat) d_Md_make_209 hI69 ml_5 h72 rfl (fun M73 hI74 => ?_)
      refine sm_iinc (v := (x2 + 1)) d_Md_make_210 (j := 2) rfl rfl (by decide) rfl ?_
      refine sm_goto (tgt := 125) d_Md_make_213 (by decide) ?_
      exact sm_pick [1, 2, 0] (ih _ _ _ _ hI74 hf) rfl

def fn_Md_make (F : Nat) (w : wd) (x1 : Int32) : Option (wd) := ((fn_Md_empty F w).bind fun r1 => ((fn_Md_u4 (up2 r1 0 2 (1 : Int32)) (16 : Int32)).bind fun r7 => ((fn_Md_u4 (up2 (up2 r1 0 2 (1 : Int32)) 1 0 r7.toInt32) (20 : Int32)).bind fun r11 => ((fn_Md_u4 (up2 (up2 (up2 r1 0 2 (1 : Int32)) 1 0 r7.toInt32) 1 1 r11.toInt32) (8 : Int32)).bind fun r15 => ((fn_Md_u4 (up2 (up2 (up2 (up2 r1 0 2 (1 : Int32)) 1 0 r7.toInt32) 1 1 r11.toInt32) 1 2 r15.toInt32) (12 : Int32)).bind fun r19 => ((fn_Md_u4 (up2 (up2 (up2 (up2 (up2 r1 0 2 (1 : Int32)) 1 0 r7.toInt32) 1 1 r11.toInt32) 1 2 r15.toInt32) 1 3 r19.toInt32) (32 : Int32)).bind fun r23 => ((fn_Md_u4 (up2 (up2 (up2 (up2 (up2 (up2 r1 0 2 (1 : Int32)) 1 0 r7.toInt32) 1 1 r11.toInt32) 1 2 r15.toInt32) 1 3 r19.toInt32) 1 4 r23.toInt32) (36 : Int32)).bind fun r27 => ((fn_Md_u4 (up2 (up2 (up2 (up2 (up2 (up2 (up2 r1 0 2 (1 : Int32)) 1 0 r7.toInt32) 1 1 r11.toInt32) 1 2 r15.toInt32) 1 3 r19.toInt32) 1 4 r23.toInt32) 1 5 r27.toInt32) (24 : Int32)).bind fun r31 => ((fn_Md_u4 (up2 (up2 (up2 (up2 (up2 (up2 (up2 (up2 r1 0 2 (1 : Int32)) 1 0 r7.toInt32) 1 1 r11.toInt32) 1 2 r15.toInt32) 1 3 r19.toInt32) 1 4 r23.toInt32) 1 5 r27.toInt32) 1 6 r31.toInt32) (28 : Int32)).bind fun r35 => fn_Md_make_125 F F (up2 (up2 (up2 (up2 (up2 (up2 (up2 (up2 (up2 (up2 r1 0 2 (1 : Int32)) 1 0 r7.toInt32) 1 1 r11.toInt32) 1 2 r15.toInt32) 1 3 r19.toInt32) 1 4 r23.toInt32) 1 5 r27.toInt32) 1 6 r31.toInt32) 1 7 r35.toInt32) 0 3 ((up2 (up2 (up2 (up2 (up2 (up2 (up2 (up2 (up2 r1 0 2 (1 : Int32)) 1 0 r7.toInt32) 1 1 r11.toInt32) 1 2 r15.toInt32) 1 3 r19.toInt32) 1 4 r23.toInt32) 1 5 r27.toInt32) 1 6 r31.toInt32) 1 7 r35.toInt32) 0 35)) x1 (0 : Int32))))))))))
set_option maxHeartbeats 1600000 in
set_option maxRecDepth 100000 in
theorem c_Md_make {G : sm_G} {b : Nat} {M0 M : sm_M}  {w : wd} {F : Nat} (hI : lo_in G md_L b M0 M w)  (x1 : Int32)  {R : wd} (hf : fn_Md_make F w x1 = some R) : sm_C G mf_Md_make [.ref (b + 0), .int x1] M 0 0 (wd_Q G md_L b M none R) := by
  unfold fn_Md_make at hf
  have hI := hI.here
  refine sm_ofW rfl (Nat.le_of_ble_eq_true rfl) ?_
  refine sm_aload_n d_Md_make_0 rfl (j := 0) rfl ?_
  obtain ⟨r1, e2, hf⟩ := lo_bnd hf
  refine lo_callVm d_Md_make_1 cs_Md_make_81 rfl hI ml_0 (As := []) rfl rfl (Nat.le_of_ble_eq_true rfl) (c_Md_empty hI e2) (fun M3 hI4 => ?_)
  refine sm_aload_n d_Md_make_4 rfl (j := 0) rfl ?_
  refine sm_iconst (v := 1) d_Md_make_5 (by decide) ?_
  refine lo_put d_Md_make_6 fp_Md_84 (by decide) hI4 ml_0 rfl (by rfl) (by rfl) (fun M5 hI6 => ?_)
  refine sm_aload_n d_Md_make_9 rfl (j := 0) rfl ?_
  refine lo_get (v := .ref (b + 1)) d_Md_make_10 fg_Md_7 hI6 ml_0 rfl ?_
  refine sm_iconst (v := 0) d_Md_make_13 (by decide) ?_
  refine sm_aload_n d_Md_make_14 rfl (j := 0) rfl ?_
  refine sm_bipush (v := 16) d_Md_make_15 (by decide) ?_
  obtain ⟨r7, e8, hf⟩ := lo_bnd hf
  refine lo_callV d_Md_make_17 cs_Md_make_253 rfl hI6 ml_0 (As := [.int (16 : Int32)]) rfl rfl (Nat.le_of_ble_eq_true rfl) (c_Md_u4 hI6 (16 : Int32) e8) ?_
  refine sm_l2i d_Md_make_20 ?_
  refine lo_ast (j := 0) d_Md_make_21 hI6 ml_1 (by decide) rfl (fun M9 hI10 => ?_)
  refine sm_aload_n d_Md_make_22 rfl (j := 0) rfl ?_
  refine lo_get (v := .ref (b + 1)) d_Md_make_23 fg_Md_7 hI10 ml_0 rfl ?_
  refine sm_iconst (v := 1) d_Md_make_26 (by decide) ?_
  refine sm_aload_n d_Md_make_27 rfl (j := 0) rfl ?_
  refine sm_bipush (v := 20) d_Md_make_28 (by decide) ?_
  obtain ⟨r11, e12, hf⟩ := lo_bnd hf
  refine lo_callV d_Md_make_30 cs_Md_make_253 rfl hI10 ml_0 (As := [.int (20 : Int32)]) rfl rfl (Nat.le_of_ble_eq_true rfl) (c_Md_u4 hI10 (20 : Int32) e12) ?_
  refine sm_l2i d_Md_make_33 ?_
  refine lo_ast (j := 1) d_Md_make_34 hI10 ml_1 (by decide) rfl (fun M13 hI14 => ?_)
  refine sm_aload_n d_Md_make_35 rfl (j := 0) rfl ?_
  refine lo_get (v := .ref (b + 1)) d_Md_make_36 fg_Md_7 hI14 ml_0 rfl ?_
  refine sm_iconst (v := 2) d_Md_make_39 (by decide) ?_
  refine sm_aload_n d_Md_make_40 rfl (j := 0) rfl ?_
  refine sm_bipush (v := 8) d_Md_make_41 (by decide) ?_
  obtain ⟨r15, e16, hf⟩ := lo_bnd hf
  refine lo_callV d_Md_make_43 cs_Md_make_253 rfl hI14 ml_0 (As := [.int (8 : Int32)]) rfl rfl (Nat.le_of_ble_eq_true rfl) (c_Md_u4 hI14 (8 : Int32) e16) ?_
  refine sm_l2i d_Md_make_46 ?_
  refine lo_ast (j := 2) d_Md_make_47 hI14 ml_1 (by decide) rfl (fun M17 hI18 => ?_)
  refine sm_aload_n d_Md_make_48 rfl (j := 0) rfl ?_
  refine lo_get (v := .ref (b + 1)) d_Md_make_49 fg_Md_7 hI18 ml_0 rfl ?_
  refine sm_iconst (v := 3) d_Md_make_52 (by decide) ?_
  refine sm_aload_n d_Md_make_53 rfl (j := 0) rfl ?_
  refine sm_bipush (v := 12) d_Md_make_54 (by decide) ?_
  obtain ⟨r19, e20, hf⟩ := lo_bnd hf
  refine lo_callV d_Md_make_56 cs_Md_make_253 rfl hI18 ml_0 (As := [.int (12 : Int32)]) rfl rfl (Nat.le_of_ble_eq_true rfl) (c_Md_u4 hI18 (12 : Int32) e20) ?_
  refine sm_l2i d_Md_make_59 ?_
  refine lo_ast (j := 3) d_Md_make_60 hI18 ml_1 (by decide) rfl (fun M21 hI22 => ?_)
  refine sm_aload_n d_Md_make_61 rfl (j := 0) rfl ?_
  refine lo_get (v := .ref (b + 1)) d_Md_make_62 fg_Md_7 hI22 ml_0 rfl ?_
  refine sm_iconst (v := 4) d_Md_make_65 (by decide) ?_
  refine sm_aload_n d_Md_make_66 rfl (j := 0) rfl ?_
  refine sm_bipush (v := 32) d_Md_make_67 (by decide) ?_
  obtain ⟨r23, e24, hf⟩ := lo_bnd hf
  refine lo_callV d_Md_make_69 cs_Md_make_253 rfl hI22 ml_0 (As := [.int (32 : Int32)]) rfl rfl (Nat.le_of_ble_eq_true rfl) (c_Md_u4 hI22 (32 : Int32) e24) ?_
  refine sm_l2i d_Md_make_72 ?_
  refine lo_ast (j := 4) d_Md_make_73 hI22 ml_1 (by decide) rfl (fun M25 hI26 => ?_)
  refine sm_aload_n d_Md_make_74 rfl (j := 0) rfl ?_
  refine lo_get (v := .ref (b + 1)) d_Md_make_75 fg_Md_7 hI26 ml_0 rfl ?_
  refine sm_iconst (v := 5) d_Md_make_78 (by decide) ?_
  refine sm_aload_n d_Md_make_79 rfl (j := 0) rfl ?_
  refine sm_bipush (v := 36) d_Md_make_80 (by decide) ?_
  obtain ⟨r27, e28, hf⟩ := lo_bnd hf
  refine lo_callV d_Md_make_82 cs_Md_make_253 rfl hI26 ml_0 (As := [.int (36 : Int32)]) rfl rfl (Nat.le_of_ble_eq_true rfl) (c_Md_u4 hI26 (36 : Int32) e28) ?_
  refine sm_l2i d_Md_make_85 ?_
  refine lo_ast (j := 5) d_Md_make_86 hI26 ml_1 (by decide) rfl (fun M29 hI30 => ?_)
  refine sm_aload_n d_Md_make_87 rfl (j := 0) rfl ?_
  refine lo_get (v := .ref (b + 1)) d_Md_make_88 fg_Md_7 hI30 ml_0 rfl ?_
  refine sm_bipush (v := 6) d_Md_make_91 (by decide) ?_
  refine sm_aload_n d_Md_make_93 rfl (j := 0) rfl ?_
  refine sm_bipush (v := 24) d_Md_make_94 (by decide) ?_
  obtain ⟨r31, e32, hf⟩ := lo_bnd hf
  refine lo_callV d_Md_make_96 cs_Md_make_253 rfl hI30 ml_0 (As := [.int (24 : Int32)]) rfl rfl (Nat.le_of_ble_eq_true rfl) (c_Md_u4 hI30 (24 : Int32) e32) ?_
  refine sm_l2i d_Md_make_99 ?_
  refine lo_ast (j := 6) d_Md_make_100 hI30 ml_1 (by decide) rfl (fun M33 hI34 => ?_)
  refine sm_aload_n d_Md_make_101 rfl (j := 0) rfl ?_
  refine lo_get (v := .ref (b + 1)) d_Md_make_102 fg_Md_7 hI34 ml_0 rfl ?_
  refine sm_bipush (v := 7) d_Md_make_105 (by decide) ?_
  refine sm_aload_n d_Md_make_107 rfl (j := 0) rfl ?_
  refine sm_bipush (v := 28) d_Md_make_108 (by decide) ?_
  obtain ⟨r35, e36, hf⟩ := lo_bnd hf
  refine lo_callV d_Md_make_110 cs_Md_make_253 rfl hI34 ml_0 (As := [.int (28 : Int32)]) rfl rfl (Nat.le_of_ble_eq_true rfl) (c_Md_u4 hI34 (28 : Int32) e36) ?_
  refine sm_l2i d_Md_make_113 ?_
  refine lo_ast (j := 7) d_Md_make_114 hI34 ml_1 (by decide) rfl (fun M37 hI38 => ?_)
  refine sm_aload_n d_Md_make_115 rfl (j := 0) rfl ?_
  refine sm_aload_n d_Md_make_116 rfl (j := 0) rfl ?_
  refine lo_get (v := .int ((up2 (up2 (up2 (up2 (up2 (up2 (up2 (up2 (up2 r1 0 2 (1 : Int32)) 1 0 r7.toInt32) 1 1 r11.toInt32) 1 2 r15.toInt32) 1 3 r19.toInt32) 1 4 r23.toInt32) 1 5 r27.toInt32) 1 6 r31.toInt32) 1 7 r35.toInt32) 0 35)) d_Md_make_117 fg_Md_259 hI38 ml_0 rfl ?_
  refine lo_put d_Md_make_120 fp_Md_88 (by decide) hI38 ml_0 rfl (by rfl) (by rfl) (fun M39 hI40 => ?_)
  refine sm_iconst (v := 0) d_Md_make_123 (by decide) ?_
  refine sm_istore_n d_Md_make_124 rfl (by decide) rfl ?_
  exact sm_pick [1, 2, 0] (w_Md_make_125 _ _ _ _ _ hI40 hf) rfl

def fn_Md_scan (F : Nat) (w : wd) : Option (Int32 × wd) := ((fn_Md_walk F (up2 (up2 (up2 w 0 0 (0 : Int32)) 0 21 (0 : Int32)) 0 22 (-1 : Int32))).bind fun r7 => (if r7.1 = 0 then ((fn_Md_make F (up2 r7.2 0 21 (1 : Int32)) (-1 : Int32)).bind fun r14 => some (r7.1, r14)) else some (r7.1, r7.2)))
set_option maxHeartbeats 1600000 in
set_option maxRecDepth 100000 in
theorem c_Md_scan {G : sm_G} {b : Nat} {M0 M : sm_M}  {w : wd} {F : Nat} (hI : lo_in G md_L b M0 M w)  {R : Int32 × wd} (hf : fn_Md_scan F w = some R) : sm_C G mf_Md_scan [.ref (b + 0)] M 0 0 (wd_Q G md_L b M (some (.int R.1)) R.2) := by
  unfold fn_Md_scan at hf
  have hI := hI.here
  refine sm_ofW rfl (Nat.le_of_ble_eq_true rfl) ?_
  refine sm_aload_n d_Md_scan_0 rfl (j := 0) rfl ?_
  refine sm_iconst (v := 0) d_Md_scan_1 (by decide) ?_
  refine lo_put d_Md_scan_2 fp_Md_78 (by decide) hI ml_0 rfl (by rfl) (by rfl) (fun M1 hI2 => ?_)
  refine sm_aload_n d_Md_scan_5 rfl (j := 0) rfl ?_
  refine sm_iconst (v := 0) d_Md_scan_6 (by decide) ?_
  refine lo_put d_Md_scan_7 fp_Md_177 (by decide) hI2 ml_0 rfl (by rfl) (by rfl) (fun M3 hI4 => ?_)
  refine sm_aload_n d_Md_scan_10 rfl (j := 0) rfl ?_
  refine sm_iconst (v := -1) d_Md_scan_11 (by decide) ?_
  refine lo_put d_Md_scan_12 fp_Md_48 (by decide) hI4 ml_0 rfl (by rfl) (by rfl) (fun M5 hI6 => ?_)
  refine sm_aload_n d_Md_scan_15 rfl (j := 0) rfl ?_
  obtain ⟨r7, e8, hf⟩ := lo_bnd hf
  refine lo_callVm d_Md_scan_16 cs_Md_scan_338 rfl hI6 ml_0 (As := []) rfl rfl (Nat.le_of_ble_eq_true rfl) (c_Md_walk hI6 e8) (fun M9 hI10 => ?_)
  refine sm_istore_n d_Md_scan_19 rfl (by decide) rfl ?_
  refine sm_iload_n d_Md_scan_20 rfl (j := 0) rfl ?_
  refine sm_if_ne (tgt := 34) d_Md_scan_21 (by decide) (fun h11 => ?_) (fun h11 => ?_)
  · rw [if_neg h11] at hf
    refine sm_iload_n d_Md_scan_34 rfl (j := 0) rfl ?_
    cases hf
    refine sm_ireturn d_Md_scan_35 rfl (by rfl) ?_
    exact ⟨rfl, hI10⟩
  · rw [if_pos h11] at hf
    refine sm_aload_n d_Md_scan_24 rfl (j := 1) rfl ?_
    refine sm_iconst (v := 1) d_Md_scan_25 (by decide) ?_
    refine lo_put d_Md_scan_26 fp_Md_177 (by decide) hI10 ml_0 rfl (by rfl) (by rfl) (fun M12 hI13 => ?_)
    refine sm_aload_n d_Md_scan_29 rfl (j := 1) rfl ?_
    refine sm_iconst (v := -1) d_Md_scan_30 (by decide) ?_
    obtain ⟨r14, e15, hf⟩ := lo_bnd hf
    refine lo_callVm d_Md_scan_31 cs_Md_scan_341 rfl hI13 ml_0 (As := [.int (-1 : Int32)]) rfl rfl (Nat.le_of_ble_eq_true rfl) (c_Md_make hI13 (-1 : Int32) e15) (fun M16 hI17 => ?_)
    refine sm_iload_n d_Md_scan_34 rfl (j := 0) rfl ?_
    cases hf
    refine sm_ireturn d_Md_scan_35 rfl (by rfl) ?_
    exact ⟨rfl, hI17⟩

def fn_Md_place (w : wd) : Int32 × wd := (((up2 w 0 0 (0 : Int32)) 0 22), (up2 w 0 0 (0 : Int32)))
set_option maxHeartbeats 1600000 in
set_option maxRecDepth 100000 in
theorem c_Md_place {G : sm_G} {b : Nat} {M0 M : sm_M}  {w : wd}  (hI : lo_in G md_L b M0 M w)  : sm_C G mf_Md_place [.ref (b + 0)] M 0 0 (wd_Q G md_L b M (some (.int (fn_Md_place w).1)) (fn_Md_place w).2) := by
  obtain ⟨R, hf⟩ : ∃ R, fn_Md_place w = R := ⟨_, rfl⟩
  rw [hf]
  unfold fn_Md_place at hf
  have hI := hI.here
  refine sm_ofW rfl (Nat.le_of_ble_eq_true rfl) ?_
  refine sm_aload_n d_Md_place_0 rfl (j := 0) rfl ?_
  refine sm_iconst (v := 0) d_Md_place_1 (by decide) ?_
  refine lo_put d_Md_place_2 fp_Md_78 (by decide) hI ml_0 rfl (by rfl) (by rfl) (fun M1 hI2 => ?_)
  refine sm_aload_n d_Md_place_5 rfl (j := 0) rfl ?_
  refine lo_get (v := .int ((up2 w 0 0 (0 : Int32)) 0 22)) d_Md_place_6 fg_Md_48 hI2 ml_0 rfl ?_
  subst hf
  refine sm_ireturn d_Md_place_9 rfl (by rfl) ?_
  exact ⟨rfl, hI2⟩

def fn_Md_packed_79 (k7 : wd → Int32 → Int32 → Int32 → Int32 → Option (Int32)) (F : Nat) (w : wd) (x1 : Int32) (x2 : Int32) (x3 : Int32) (x4 : Int32) : Option (Int32) := k7 w x1 x2 x3 (x4 + 1)
set_option maxHeartbeats 1600000 in
set_option maxRecDepth 100000 in
theorem w_Md_packed_79 {G : sm_G} {b : Nat} {M0 : sm_M} {bc bs : Nat} {R : Int32} {F : Nat} {k7 : wd → Int32 → Int32 → Int32 → Int32 → Option (Int32)} (hk7 : ∀ (w : wd) (x1 : Int32) (x2 : Int32) (x3 : Int32) (x4 : Int32), lo_in G md_L b M0 M0 w → k7 w x1 x2 x3 x4 = some R → sm_W G mf_Md_packed 7 [(0, .ref (b + 0)), (1, .int x1), (2, .int x2), (3, .int x3), (4, .int x4)] [] M0 bc bs (sm_pu M0 (.int R))) : ∀ (w : wd) (x1 : Int32) (x2 : Int32) (x3 : Int32) (x4 : Int32), lo_in G md_L b M0 M0 w → fn_Md_packed_79 k7 F w x1 x2 x3 x4 = some R → sm_W G mf_Md_packed 79 [(0, .ref (b + 0)), (1, .int x1), (2, .int x2), (3, .int x3), (4, .int x4)] [] M0 bc bs (sm_pu M0 (.int R)) := by
  intro w x1 x2 x3 x4 hI  hf
  unfold fn_Md_packed_79 at hf
  refine sm_iinc (v := (x4 + 1)) d_Md_packed_79 (j := 4) rfl rfl (by decide) rfl ?_
  refine sm_goto (tgt := 7) d_Md_packed_82 (by decide) ?_
  exact sm_pick [1, 2, 3, 4, 0] (hk7 _ _ _ _ _ hI hf) rfl

def fn_Md_packed_73 (k7 : wd → Int32 → Int32 → Int32 → Int32 → Option (Int32)) (F : Nat) (w : wd) (x1 : Int32) (x2 : Int32) (x4 : Int32) (x5 : Int32) (s0 : Int32) : Option (Int32) := fn_Md_packed_79 k7 F w x1 (x2 + x5) s0 x4
set_option maxHeartbeats 1600000 in
set_option maxRecDepth 100000 in
theorem w_Md_packed_73 {G : sm_G} {b : Nat} {M0 : sm_M} {bc bs : Nat} {R : Int32} {F : Nat} {k7 : wd → Int32 → Int32 → Int32 → Int32 → Option (Int32)} (hk7 : ∀ (w : wd) (x1 : Int32) (x2 : Int32) (x3 : Int32) (x4 : Int32), lo_in G md_L b M0 M0 w → k7 w x1 x2 x3 x4 = some R → sm_W G mf_Md_packed 7 [(0, .ref (b + 0)), (1, .int x1), (2, .int x2), (3, .int x3), (4, .int x4)] [] M0 bc bs (sm_pu M0 (.int R))) : ∀ (w : wd) (x1 : Int32) (x2 : Int32) (x4 : Int32) (x5 : Int32) (s0 : Int32), lo_in G md_L b M0 M0 w → fn_Md_packed_73 k7 F w x1 x2 x4 x5 s0 = some R → sm_W G mf_Md_packed 73 [(0, .ref (b + 0)), (1, .int x1), (2, .int x2), (4, .int x4), (5, .int x5)] [.int s0] M0 bc bs (sm_pu M0 (.int R)) := by
  intro w x1 x2 x4 x5 s0 hI  hf
  unfold fn_Md_packed_73 at hf
  refine sm_istore_n d_Md_packed_73 rfl (by decide) rfl ?_
  refine sm_iload_n d_Md_packed_74 rfl (j := 3) rfl ?_
  refine sm_iload d_Md_packed_75 (j := 5) rfl ?_
  refine sm_iadd d_Md_packed_77 ?_
  refine sm_istore_n d_Md_packed_78 rfl (by decide) rfl ?_
  exact sm_pick [2, 3, 0, 1, 4] (w_Md_packed_79 hk7 _ _ _ _ _ hI hf) rfl

def fn_Md_packed_72 (k7 : wd → Int32 → Int32 → Int32 → Int32 → Option (Int32)) (F : Nat) (w : wd) (x1 : Int32) (x2 : Int32) (x3 : Int32) (x4 : Int32) (x5 : Int32) : Option (Int32) := fn_Md_packed_73 k7 F w x1 x2 x4 x5 x3
set_option maxHeartbeats 1600000 in
set_option maxRecDepth 100000 in
theorem w_Md_packed_72 {G : sm_G} {b : Nat} {M0 : sm_M} {bc bs : Nat} {R : Int32} {F : Nat} {k7 : wd → Int32 → Int32 → Int32 → Int32 → Option (Int32)} (hk7 : ∀ (w : wd) (x1 : Int32) (x2 : Int32) (x3 : Int32) (x4 : Int32), lo_in G md_L b M0 M0 w → k7 w x1 x2 x3 x4 = some R → sm_W G mf_Md_packed 7 [(0, .ref (b + 0)), (1, .int x1), (2, .int x2), (3, .int x3), (4, .int x4)] [] M0 bc bs (sm_pu M0 (.int R))) : ∀ (w : wd) (x1 : Int32) (x2 : Int32) (x3 : Int32) (x4 : Int32) (x5 : Int32), lo_in G md_L b M0 M0 w → fn_Md_packed_72 k7 F w x1 x2 x3 x4 x5 = some R → sm_W G mf_Md_packed 72 [(0, .ref (b + 0)), (1, .int x1), (2, .int x2), (3, .int x3), (4, .int x4), (5, .int x5)] [] M0 bc bs (sm_pu M0 (.int R)) := by
  intro w x1 x2 x3 x4 x5 hI  hf
  unfold fn_Md_packed_72 at hf
  refine sm_iload_n d_Md_packed_72 rfl (j := 3) rfl ?_
  exact sm_pick [0, 1, 2, 4, 5] (w_Md_packed_73 hk7 _ _ _ _ _ _ hI hf) rfl

def fn_Md_packed_7 (F : Nat) : Nat → wd → Int32 → Int32 → Int32 → Int32 → Option (Int32)
 | 0, _, _, _, _, _ => none
 | n9 + 1, w, x1, x2, x3, x4 => (if (w 0 23) ≤ x4 then (if 0 ≤ x1 then some x3 else some x2) else (if 0 ≤ x4.toInt ∧ x4.toInt < 16500 then (if (w 12 x4.toInt.toNat) = (96 : Int32) then (if 0 ≤ x4.toInt ∧ x4.toInt < 16500 then (if x1 < x2 then fn_Md_packed_72 (fn_Md_packed_7 F n9) F w x1 x2 x3 x4 ((w 14 x4.toInt.toNat) - (3 : Int32)) else (if (x2 + ((w 14 x4.toInt.toNat) - (3 : Int32))) ≤ x1 then fn_Md_packed_72 (fn_Md_packed_7 F n9) F w x1 x2 x3 x4 ((w 14 x4.toInt.toNat) - (3 : Int32)) else (if 0 ≤ x4.toInt ∧ x4.toInt < 16500 then ((fn_Md_u1 w ((((w 13 x4.toInt.toNat) + (5 : Int32)) + x1) - x2)).bind fun r9 => fn_Md_packed_73 (fn_Md_packed_7 F n9) F w x1 x2 x4 ((w 14 x4.toInt.toNat) - (3 : Int32)) r9) else none))) else none) else fn_Md_packed_79 (fn_Md_packed_7 F n9) F w x1 x2 x3 x4) else none))
set_option maxHeartbeats 1600000 in
set_option maxRecDepth 100000 in
theorem w_Md_packed_7 {G : sm_G} {b : Nat} {M0 : sm_M} {bc bs : Nat} {R : Int32} {F : Nat} : ∀ (n9 : Nat), ∀ (w : wd) (x1 : Int32) (x2 : Int32) (x3 : Int32) (x4 : Int32), lo_in G md_L b M0 M0 w → fn_Md_packed_7 F n9 w x1 x2 x3 x4 = some R → sm_W G mf_Md_packed 7 [(0, .ref (b + 0)), (1, .int x1), (2, .int x2), (3, .int x3), (4, .int x4)] [] M0 bc bs (sm_pu M0 (.int R)) := by
  intro n9
  induction n9 with
  | zero => intro w x1 x2 x3 x4 hI  hf; cases hf
  | succ n9 ih =>
    intro w x1 x2 x3 x4 hI  hf
    rw [fn_Md_packed_7] at hf
    refine sm_iload d_Md_packed_7 (j := 4) rfl ?_
    refine sm_aload_n d_Md_packed_9 rfl (j := 0) rfl ?_
    refine lo_get (v := .int (w 0 23)) d_Md_packed_10 fg_Md_239 hI ml_0 rfl ?_
    refine sm_icmp_ge (tgt := 85) d_Md_packed_13 (by decide) (fun h1 => ?_) (fun h1 => ?_)
    · rw [if_pos h1] at hf
      refine sm_iload_n d_Md_packed_85 rfl (j := 1) rfl ?_
      refine sm_if_ge (tgt := 93) d_Md_packed_86 (by decide) (fun h2 => ?_) (fun h2 => ?_)
      · rw [if_pos h2] at hf
        refine sm_iload_n d_Md_packed_93 rfl (j := 3) rfl ?_
        cases hf
        refine sm_ireturn d_Md_packed_94 rfl (by rfl) ?_
        exact ⟨rfl, rfl⟩
      · rw [if_neg h2] at hf
        refine sm_iload_n d_Md_packed_89 rfl (j := 2) rfl ?_
        refine sm_goto (tgt := 94) d_Md_packed_90 (by decide) ?_
        cases hf
        refine sm_ireturn d_Md_packed_94 rfl (by rfl) ?_
        exact ⟨rfl, rfl⟩
    · rw [if_neg h1] at hf
      refine sm_aload_n d_Md_packed_16 rfl (j := 0) rfl ?_
      refine lo_get (v := .ref (b + 12)) d_Md_packed_17 fg_Md_51 hI ml_0 rfl ?_
      refine sm_iload d_Md_packed_20 (j := 4) rfl ?_
      obtain ⟨h3, hf⟩ := lo_chk hf
      refine lo_ald (j := x4.toInt.toNat) d_Md_packed_22 hI ml_12 h3 rfl ?_
      refine sm_bipush (v := 96) d_Md_packed_23 (by decide) ?_
      refine sm_icmp_ne (tgt := 79) d_Md_packed_25 (by decide) (fun h4 => ?_) (fun h4 => ?_)
      · rw [if_neg h4] at hf
        exact sm_pick [0, 1, 2, 3, 4] (w_Md_packed_79 ih _ _ _ _ _ hI hf) rfl
      · rw [if_pos h4] at hf
        refine sm_aload_n d_Md_packed_28 rfl (j := 0) rfl ?_
        refine lo_get (v := .ref (b + 14)) d_Md_packed_29 fg_Md_57 hI ml_0 rfl ?_
        refine sm_iload d_Md_packed_32 (j := 4) rfl ?_
        obtain ⟨h5, hf⟩ := lo_chk hf
        refine lo_ald (j := x4.toInt.toNat) d_Md_packed_34 hI ml_14 h5 rfl ?_
        refine sm_iconst (v := 3) d_Md_packed_35 (by decide) ?_
        refine sm_isub d_Md_packed_36 ?_
        refine sm_istore d_Md_packed_37 (by decide) rfl ?_
        refine sm_iload_n d_Md_packed_39 rfl (j := 2) rfl ?_
        refine sm_iload_n d_Md_packed_40 rfl (j := 3) rfl ?_
        refine sm_icmp_lt (tgt := 72) d_Md_packed_41 (by decide) (fun h6 => ?_) (fun h6 => ?_)
        · rw [if_pos h6] at hf
          exact sm_pick [1, 2, 3, 4, 5, 0] (w_Md_packed_72 ih _ _ _ _ _ _ hI hf) rfl
        · rw [if_neg h6] at hf
          refine sm_iload_n d_Md_packed_44 rfl (j := 2) rfl ?_
          refine sm_iload_n d_Md_packed_45 rfl (j := 3) rfl ?_
          refine sm_iload d_Md_packed_46 (j := 0) rfl ?_
          refine sm_iadd d_Md_packed_48 ?_
          refine sm_icmp_ge (tgt := 72) d_Md_packed_49 (by decide) (fun h7 => ?_) (fun h7 => ?_)
          · rw [if_pos h7] at hf
            exact sm_pick [1, 2, 3, 4, 5, 0] (w_Md_packed_72 ih _ _ _ _ _ _ hI hf) rfl
          · rw [if_neg h7] at hf
            refine sm_aload_n d_Md_packed_52 rfl (j := 1) rfl ?_
            refine sm_aload_n d_Md_packed_53 rfl (j := 1) rfl ?_
            refine lo_get (v := .ref (b + 13)) d_Md_packed_54 fg_Md_54 hI ml_0 rfl ?_
            refine sm_iload d_Md_packed_57 (j := 5) rfl ?_
            obtain ⟨h8, hf⟩ := lo_chk hf
            refine lo_ald (j := x4.toInt.toNat) d_Md_packed_59 hI ml_13 h8 rfl ?_
            refine sm_iconst (v := 5) d_Md_packed_60 (by decide) ?_
            refine sm_iadd d_Md_packed_61 ?_
            refine sm_iload_n d_Md_packed_62 rfl (j := 2) rfl ?_
            refine sm_iadd d_Md_packed_63 ?_
            refine sm_iload_n d_Md_packed_64 rfl (j := 3) rfl ?_
            refine sm_isub d_Md_packed_65 ?_
            obtain ⟨r9, e10, hf⟩ := lo_bnd hf
            refine lo_callV d_Md_packed_66 cs_Md_packed_233 rfl hI ml_0 (As := [.int ((((w 13 x4.toInt.toNat) + (5 : Int32)) + x1) - x2)]) rfl rfl (Nat.le_of_ble_eq_true rfl) (c_Md_u1 hI ((((w 13 x4.toInt.toNat) + (5 : Int32)) + x1) - x2) e10) ?_
            refine sm_goto (tgt := 73) d_Md_packed_69 (by decide) ?_
            exact sm_pick [1, 2, 3, 5, 0] (w_Md_packed_73 ih _ _ _ _ _ _ hI hf) rfl

def fn_Md_packed (F : Nat) (w : wd) (x1 : Int32) : Option (Int32) := fn_Md_packed_7 F F w x1 (0 : Int32) (-1 : Int32) (0 : Int32)
set_option maxHeartbeats 1600000 in
set_option maxRecDepth 100000 in
theorem c_Md_packed {G : sm_G} {b : Nat} {M0 M : sm_M}  {w : wd} {F : Nat} (hI : lo_in G md_L b M0 M w)  (x1 : Int32)  {R : Int32} (hf : fn_Md_packed F w x1 = some R) : sm_C G mf_Md_packed [.ref (b + 0), .int x1] M 0 0 (sm_pu M (.int R)) := by
  unfold fn_Md_packed at hf
  have hI := hI.here
  refine sm_ofW rfl (Nat.le_of_ble_eq_true rfl) ?_
  refine sm_iconst (v := 0) d_Md_packed_0 (by decide) ?_
  refine sm_istore_n d_Md_packed_1 rfl (by decide) rfl ?_
  refine sm_iconst (v := -1) d_Md_packed_2 (by decide) ?_
  refine sm_istore_n d_Md_packed_3 rfl (by decide) rfl ?_
  refine sm_iconst (v := 0) d_Md_packed_4 (by decide) ?_
  refine sm_istore d_Md_packed_5 (by decide) rfl ?_
  exact sm_pick [3, 4, 2, 1, 0] (w_Md_packed_7 _ _ _ _ _ _ hI hf) rfl

