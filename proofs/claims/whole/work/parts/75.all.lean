section JOIN0
/-! the law's body, call by call -/
def lw_1 : sm_O → sm_M → Prop := fun o _ => o = .inl (some (.int 1))
def sv (G : sm_G) (c k : Nat) : Int32 := G.2.2.2.2.2 (7 * c + k)
theorem os_e1 (r : sm_O) : os_e r 1 ≤ 1 := by
  unfold os_e
  split <;> omega
theorem os_e6 (r : sm_O) : os_e r 6 ≤ 6 := by
  unfold os_e
  split <;> omega
theorem cd_0 {τ : Type} {o : τ ⊕ String} (h : cd1 o = 0) : ∃ u, o = .inl u := by
  cases o with
  | inl u => exact ⟨u, rfl⟩
  | inr x => exact absurd (show (1 : Int32) = 0 from h) (by decide)
theorem cd_00 {τ : Type} {e : String} {o : τ ⊕ String} (h : cd2 e o = 0) : ∃ u, o = .inl u := by
  cases o with
  | inl u => exact ⟨u, rfl⟩
  | inr x =>
    have h : (if x = e then (1 : Int32) else 2) = 0 := h
    split at h
    · exact absurd h (by decide)
    · exact absurd h (by decide)
theorem lc_eq {x y : Int64} (h : x = y) : lg_cmp x y = 0 := by
  subst h
  unfold lg_cmp
  simp
/-- what is left of the law at the head of its loop, with c calls behind it -/
def lw_K (G : sm_G) (b c : Nat) : Prop := ∀ (M : sm_M) (w : wd) (Z : zd) (w' : wd) (g : Nat → Int64), lwi G b M w Z w' g → rel w Z w' → czo Z → sm_W G mf_law 23 [(4, .int (nI (7 * c))), (3, .ref (b + 137)), (2, .ref (b + 116)), (1, .ref b), (0, .ref G.2.2.2.1)] [] M (2 * (196608 - zc Z) + (512 - c)) (2 * (196608 - zc Z) + 6 * (512 - c)) lw_1
section LWB
variable {G : sm_G} {b c : Nat} {M M1 : sm_M} {w w1 w' w1' : wd} {Z Z1 : zd} {g : Nat → Int64} {pc : Nat} {lv : List (Nat × Value)} {st rest : List Value} {bc bs : Nat} {Q : sm_O → sm_M → Prop}
theorem law_end (kk : lw_K G b (c + 1)) (hL : lwi G b M w Z w' g) (hr : rel w Z w') (hz : czo Z) : sm_W G mf_law 1600 [(4, .int (nI (7 * c))), (3, .ref (b + 137)), (2, .ref (b + 116)), (1, .ref b), (0, .ref G.2.2.2.1)] [] M (2 * (196608 - zc Z) + (512 - (c + 1))) (2 * (196608 - zc Z) + 6 * (512 - (c + 1))) lw_1 := by
  refine sm_iinc (v := nI (7 * (c + 1))) d_law_1600 (j := 0) rfl ?_ (by decide) rfl ?_
  · exact (show nI (7 * c) + nI 7 = _ from (bn_add _ _).trans (by rw [show 7 * c + 7 = 7 * (c + 1) by omega]))
  refine sm_goto (tgt := 23) d_law_1603 (by decide) ?_
  exact kk M w Z w' g hL hr hz
theorem sm_drop1 {v : Value} {l0 : List (Nat × Value)} {f : sm_F} (h : sm_W G f pc l0 st M bc bs Q) : sm_W G f pc ((5, v) :: l0) st M bc bs Q :=
  fun p l e R s m args below meth c H locs ls cells slots E r S L hc hs => h p l e R s m args below meth c H locs ls cells slots E r S ⟨L.1, fun q hq => L.2 q (List.mem_cons_of_mem _ hq)⟩ hc hs
theorem sm_drop2 {v u : Value} {l0 : List (Nat × Value)} {f : sm_F} (h : sm_W G f pc l0 st M bc bs Q) : sm_W G f pc ((6, u) :: (5, v) :: l0) st M bc bs Q :=
  fun p l e R s m args below meth c H locs ls cells slots E r S L hc hs => h p l e R s m args below meth c H locs ls cells slots E r S ⟨L.1, fun q hq => L.2 q (List.mem_cons_of_mem _ (List.mem_cons_of_mem _ hq))⟩ hc hs
theorem lw_md {index n : Nat} {g9 : sm_F} {As : List Value} {r9 : Option Value} {C : String} {T9 : u_T} {N : Nat} (hd : decode code pc = .ok (.invokevirtual index, 3)) (hg : sm_Call mf_law index g9 n ∧ Cond.instanceMethod g9.1 ∈ sm_WS ∧ Cond.selects C g9.1 g9.1 ∈ sm_WS ∧ sm_cl[10]? = some (C, T9, N)) (hL : lwi G b M w Z w' g) (hn : As.length = n) (hst : st = As.reverse ++ .ref (b + 116) :: rest) (hrest : (rest.map fun v => v.category).sum ≤ 12) (hC : sm_C G g9 (.ref (b + 116 + 0) :: As) M 0 0 (wd_Q G md_L (b + 116) M r9 w1'))
    (k : ∀ M1, lwi G b M1 w Z w1' g → sm_W G mf_law (pc + 3) lv (r9.toList ++ rest) M1 bc bs Q) : sm_W G mf_law pc lv st M bc bs Q := by
  refine sm_callV (b := b + 116) (ci := 10) (mc := 0) (ms := 0) (bc' := bc) (bs' := bs) hd hg rfl (hL.2.2.1 0 _ rfl) hn hst hrest (Nat.le_of_eq (Nat.zero_add _)) (Nat.le_of_eq (Nat.zero_add _)) hC (fun X M' h => by cases h.1) (fun v M' h => ?_)
  obtain ⟨h1, h2⟩ := h
  cases h1
  exact k M' (hL.md h2)
theorem lw_th {index n : Nat} {g9 : sm_F} {v : Value} {C : String} {T9 : u_T} {N : Nat} (hd : decode code pc = .ok (.invokevirtual index, 3)) (hg : sm_Call mf_law index g9 n ∧ Cond.instanceMethod g9.1 ∈ sm_WS ∧ Cond.selects C g9.1 g9.1 ∈ sm_WS ∧ sm_cl[10]? = some (C, T9, N)) (hL : lwi G b M w Z w' g) (hn : ([] : List Value).length = n) (hrest : (rest.map fun v => v.category).sum ≤ 12) (hC : sm_C G g9 [.ref (b + 116 + 0)] M 0 0 (sm_pu M v))
    (k : sm_W G mf_law (pc + 3) lv (v :: rest) M bc bs Q) : sm_W G mf_law pc lv (.ref (b + 116) :: rest) M bc bs Q :=
  sm_callVp (b := b + 116) (ci := 10) (As := []) hd hg rfl (hL.2.2.1 0 _ rfl) hn rfl hrest hC k
theorem sv_ix {k : Nat} {kv : Int32} (hk : kv = nI k) (hn : 7 * c + k < G.2.2.2.2.1) (hN : G.2.2.2.2.1 ≤ 3584) : vp_in (nI (7 * c) + kv) G.2.2.2.2.1 ∧ G.2.2.2.2.2 (nI (7 * c) + kv).toNatClampNeg = sv G c k := by
  subst hk
  rw [bn_add]
  refine ⟨vp_in_iff.mpr (by rw [bn_i (by omega)]; omega), ?_⟩
  unfold sv
  rw [sm_cl0 (by rw [bn_i (by omega)]; omega), bn_nn _ (by omega)]
theorem sm_scr {k j0 j4 : Nat} {ki : Int} (hN : G.2.2.2.2.1 ≤ 3584) (hn : 7 * c + k < G.2.2.2.2.1) (d1 : decode code pc = .ok (.aload_n 0, 1)) (d2 : decode code (pc + 1) = .ok (.iload 4, 2)) (d3 : decode code (pc + 3) = .ok (.iconst ki, 1)) (d4 : decode code (pc + 4) = .ok (.iadd, 1)) (d5 : decode code (pc + 5) = .ok (.iaload, 1)) (h0 : lv[j0]? = some (0, .ref G.2.2.2.1)) (h4 : lv[j4]? = some (4, .int (nI (7 * c)))) (hk : Int32.ofInt ki = nI k)
    (k9 : sm_W G mf_law (pc + 6) lv (.int (sv G c k) :: rest) M bc bs Q) : sm_W G mf_law pc lv rest M bc bs Q := by
  refine sm_aload_n d1 rfl (j := j0) h0 ?_
  refine sm_iload d2 (j := j4) h4 ?_
  refine sm_iconst (v := nI k) d3 hk ?_
  refine sm_iadd d4 ?_
  obtain ⟨e1, e2⟩ := sv_ix (c := c) (k := k) rfl hn hN
  refine sm_sld d5 e1 ?_
  rw [e2]
  exact k9
theorem sm_scr6 {k j0 j4 : Nat} {ki : Int} (hN : G.2.2.2.2.1 ≤ 3584) (hn : 7 * c + k < G.2.2.2.2.1) (d1 : decode code pc = .ok (.aload_n 0, 1)) (d2 : decode code (pc + 1) = .ok (.iload 4, 2)) (d3 : decode code (pc + 3) = .ok (.bipush ki, 2)) (d4 : decode code (pc + 5) = .ok (.iadd, 1)) (d5 : decode code (pc + 6) = .ok (.iaload, 1)) (h0 : lv[j0]? = some (0, .ref G.2.2.2.1)) (h4 : lv[j4]? = some (4, .int (nI (7 * c)))) (hk : (Int8.ofInt ki).toInt32 = nI k)
    (k9 : sm_W G mf_law (pc + 7) lv (.int (sv G c k) :: rest) M bc bs Q) : sm_W G mf_law pc lv rest M bc bs Q := by
  refine sm_aload_n d1 rfl (j := j0) h0 ?_
  refine sm_iload d2 (j := j4) h4 ?_
  refine sm_bipush (v := nI k) d3 hk ?_
  refine sm_iadd d4 ?_
  obtain ⟨e1, e2⟩ := sv_ix (c := c) (k := k) rfl hn hN
  refine sm_sld d5 e1 ?_
  rw [e2]
  exact k9
theorem sm_bool {x : Int32} {o1 o2 : Int} {t0 t1 : Nat} (d1 : decode code pc = .ok (.ifCond .eq o1, 3)) (e1 : (pc : Int) + o1 = (t0 : Int)) (d2 : decode code (pc + 3) = .ok (.iconst 1, 1)) (d3 : decode code (pc + 4) = .ok (.goto o2, 3)) (e3 : ((pc + 4 : Nat) : Int) + o2 = (t1 : Int)) (d4 : decode code t0 = .ok (.iconst 0, 1)) (ht : t1 = t0 + 1)
    (k9 : sm_W G mf_law t1 lv (.int (bi (decide (¬ x = 0))) :: rest) M bc bs Q) : sm_W G mf_law pc lv (.int x :: rest) M bc bs Q := by
  refine sm_if_eq (tgt := t0) d1 e1 (fun h => ?_) (fun h => ?_)
  · refine sm_iconst (v := 0) d4 (by decide) ?_
    rw [decide_eq_false (fun q => q h)] at k9
    subst ht
    exact k9
  · refine sm_iconst (v := 1) d2 (by decide) ?_
    refine sm_goto (tgt := t1) d3 e3 ?_
    rw [decide_eq_true h] at k9
    exact k9
end LWB

set_option maxHeartbeats 1600000 in
set_option maxRecDepth 100000 in
theorem law_0 {G : sm_G} {b c F : Nat} (hF : 70000 ≤ F) {M : sm_M} {w w' : wd} {Z : zd} {g : Nat → Int64} (hn : 7 * c + 7 ≤ G.2.2.2.2.1) (hN : G.2.2.2.2.1 ≤ 3584) (hL : lwi G b M w Z w' g) (hr : rel w Z w') (hz : czo Z) (kk : lw_K G b (c + 1)) : sm_W G mf_law 148 [(4, .int (nI (7 * c))), (3, .ref (b + 137)), (2, .ref (b + 116)), (1, .ref b), (0, .ref G.2.2.2.1)] [] M (2 * (196608 - zc Z) + (512 - c)) (2 * (196608 - zc Z) + 6 * (512 - c)) lw_1 := by
  have hc : c ≤ 511 := by omega
  obtain ⟨R, V, k1, k2, k3, k4, k5⟩ := j_plan hF hr
  have z1 := cgo_zc k4
  have z2 := czo_zc (k4.2 hz)
  refine sm_aload_n d_law_148 rfl (j := 3) rfl ?_
  refine sm_callV (b := b) (bc' := 2 * (196608 - zc R.2.2) + (512 - (c + 1))) (bs' := 2 * (196608 - zc R.2.2) + 6 * (512 - (c + 1))) d_law_149 cs_law_90 rfl (hL.1 0 _ cl_0) (As := []) rfl rfl (Nat.le_of_ble_eq_true rfl) (by have := os_e1 (oV R.1); omega) (by have := os_e6 (oV R.1); omega) (c_SM_plan hL.os k1) (fun X M1 h => ?_) (fun v M1 h => ?_)
  · have e := h.1; rw [k5] at e; cases e
  obtain ⟨h1, h2⟩ := h
  rw [k5] at h1
  cases h1
  have hL2 := hL.go h2
  refine sm_aload_n d_law_152 rfl (j := 2) rfl ?_
  refine lw_md (r9 := none) d_law_153 cs_law_93 hL2 (As := []) rfl rfl (Nat.le_of_ble_eq_true rfl) (c_Md_plan (b := b + 116) ⟨hL2.2.2.1, lo_fr.rf⟩ k2) (fun M2 hL3 => ?_)
  refine sm_goto (tgt := 1600) d_law_156 (by decide) ?_
  exact law_end kk hL3 k3 (k4.2 hz)
set_option maxHeartbeats 1600000 in
set_option maxRecDepth 100000 in
theorem law_1 {G : sm_G} {b c F : Nat} (hF : 70000 ≤ F) {M : sm_M} {w w' : wd} {Z : zd} {g : Nat → Int64} (hn : 7 * c + 7 ≤ G.2.2.2.2.1) (hN : G.2.2.2.2.1 ≤ 3584) (hL : lwi G b M w Z w' g) (hr : rel w Z w') (hz : czo Z) (kk : lw_K G b (c + 1)) : sm_W G mf_law 159 [(4, .int (nI (7 * c))), (3, .ref (b + 137)), (2, .ref (b + 116)), (1, .ref b), (0, .ref G.2.2.2.1)] [] M (2 * (196608 - zc Z) + (512 - c)) (2 * (196608 - zc Z) + 6 * (512 - c)) lw_1 := by
  have hc : c ≤ 511 := by omega
  obtain ⟨R, V, k1, k2, k3, k4, k5⟩ := j_picture hF hr (sv G c 1) (sv G c 2) (sv G c 3) (sv G c 4)
  have z1 := cgo_zc k4
  have z2 := czo_zc (k4.2 hz)
  refine sm_aload_n d_law_159 rfl (j := 3) rfl ?_
  refine sm_scr (c := c) (k := 1) hN (by omega) d_law_160 d_law_161 d_law_163 d_law_164 d_law_165 (j0 := 4) (j4 := 0) rfl rfl (by decide) ?_
  refine sm_scr (c := c) (k := 2) hN (by omega) d_law_166 d_law_167 d_law_169 d_law_170 d_law_171 (j0 := 4) (j4 := 0) rfl rfl (by decide) ?_
  refine sm_scr (c := c) (k := 3) hN (by omega) d_law_172 d_law_173 d_law_175 d_law_176 d_law_177 (j0 := 4) (j4 := 0) rfl rfl (by decide) ?_
  refine sm_scr (c := c) (k := 4) hN (by omega) d_law_178 d_law_179 d_law_181 d_law_182 d_law_183 (j0 := 4) (j4 := 0) rfl rfl (by decide) ?_
  refine sm_callS (bc' := 2 * (196608 - zc R.2.2) + (512 - (c + 1))) (bs' := 2 * (196608 - zc R.2.2) + 6 * (512 - (c + 1))) d_law_184 cs_law_94 rfl (As := [.ref b, .int (sv G c 1), .int (sv G c 2), .int (sv G c 3), .int (sv G c 4)]) rfl rfl (Nat.le_of_ble_eq_true rfl) (by have := os_e1 (oV R.1); omega) (by have := os_e6 (oV R.1); omega) (c_Lw_picture hL (sv G c 1) (sv G c 2) (sv G c 3) (sv G c 4) k1) (fun X M1 h => by cases h.1) (fun v M1 h => ?_)
  obtain ⟨h1, g1, hL1, hg⟩ := h
  cases h1
  refine sm_istore d_law_187 (by decide) rfl ?_
  refine sm_aload_n d_law_189 rfl (j := 3) rfl ?_
  refine sm_scr (c := c) (k := 1) hN (by omega) d_law_190 d_law_191 d_law_193 d_law_194 d_law_195 (j0 := 5) (j4 := 1) rfl rfl (by decide) ?_
  refine sm_scr (c := c) (k := 2) hN (by omega) d_law_196 d_law_197 d_law_199 d_law_200 d_law_201 (j0 := 5) (j4 := 1) rfl rfl (by decide) ?_
  refine sm_scr (c := c) (k := 3) hN (by omega) d_law_202 d_law_203 d_law_205 d_law_206 d_law_207 (j0 := 5) (j4 := 1) rfl rfl (by decide) ?_
  refine sm_scr (c := c) (k := 4) hN (by omega) d_law_208 d_law_209 d_law_211 d_law_212 d_law_213 (j0 := 5) (j4 := 1) rfl rfl (by decide) ?_
  refine lw_md (r9 := none) d_law_214 cs_law_99 hL1 (As := [.int (sv G c 1), .int (sv G c 2), .int (sv G c 3), .int (sv G c 4)]) rfl rfl (Nat.le_of_ble_eq_true rfl) (w1' := V) (hC := by rw [← k2]; exact c_Md_picture (b := b + 116) ⟨hL1.2.2.1, lo_fr.rf⟩ (sv G c 1) (sv G c 2) (sv G c 3) (sv G c 4)) (fun M3 hL3 => ?_)
  refine sm_aload_n d_law_217 rfl (j := 3) rfl ?_
  refine lw_th d_law_218 cs_law_100 hL3 rfl (Nat.le_of_ble_eq_true rfl) (c_Md_thrown (b := b + 116) ⟨hL3.2.2.1, lo_fr.rf⟩) ?_
  refine sm_iload d_law_221 (j := 0) rfl ?_
  refine sm_icmp_eq (tgt := 228) d_law_223 (by decide) (fun _ => ?_) (fun h9 => absurd k5 h9)
  refine sm_goto (tgt := 1600) d_law_228 (by decide) ?_
  exact sm_drop1 (law_end kk hL3 k3 (k4.2 hz))
set_option maxHeartbeats 1600000 in
set_option maxRecDepth 100000 in
theorem law_2 {G : sm_G} {b c F : Nat} (hF : 70000 ≤ F) {M : sm_M} {w w' : wd} {Z : zd} {g : Nat → Int64} (hn : 7 * c + 7 ≤ G.2.2.2.2.1) (hN : G.2.2.2.2.1 ≤ 3584) (hL : lwi G b M w Z w' g) (hr : rel w Z w') (hz : czo Z) (kk : lw_K G b (c + 1)) : sm_W G mf_law 231 [(4, .int (nI (7 * c))), (3, .ref (b + 137)), (2, .ref (b + 116)), (1, .ref b), (0, .ref G.2.2.2.1)] [] M (2 * (196608 - zc Z) + (512 - c)) (2 * (196608 - zc Z) + 6 * (512 - c)) lw_1 := by
  have hc : c ≤ 511 := by omega
  obtain ⟨R, V, k1, k2, k3, k4, k5⟩ := j_tiles hF hr (sv G c 1) (sv G c 2) (sv G c 3) (sv G c 4)
  have z1 := cgo_zc k4
  have z2 := czo_zc (k4.2 hz)
  refine sm_aload_n d_law_231 rfl (j := 3) rfl ?_
  refine sm_scr (c := c) (k := 1) hN (by omega) d_law_232 d_law_233 d_law_235 d_law_236 d_law_237 (j0 := 4) (j4 := 0) rfl rfl (by decide) ?_
  refine sm_scr (c := c) (k := 2) hN (by omega) d_law_238 d_law_239 d_law_241 d_law_242 d_law_243 (j0 := 4) (j4 := 0) rfl rfl (by decide) ?_
  refine sm_scr (c := c) (k := 3) hN (by omega) d_law_244 d_law_245 d_law_247 d_law_248 d_law_249 (j0 := 4) (j4 := 0) rfl rfl (by decide) ?_
  refine sm_scr (c := c) (k := 4) hN (by omega) d_law_250 d_law_251 d_law_253 d_law_254 d_law_255 (j0 := 4) (j4 := 0) rfl rfl (by decide) ?_
  refine sm_callS (bc' := 2 * (196608 - zc R.2.2) + (512 - (c + 1))) (bs' := 2 * (196608 - zc R.2.2) + 6 * (512 - (c + 1))) d_law_256 cs_law_103 rfl (As := [.ref b, .int (sv G c 1), .int (sv G c 2), .int (sv G c 3), .int (sv G c 4)]) rfl rfl (Nat.le_of_ble_eq_true rfl) (by have := os_e1 (oV R.1); omega) (by have := os_e6 (oV R.1); omega) (c_Lw_tiles hL (sv G c 1) (sv G c 2) (sv G c 3) (sv G c 4) k1) (fun X M1 h => by cases h.1) (fun v M1 h => ?_)
  obtain ⟨h1, g1, hL1, hg⟩ := h
  cases h1
  refine sm_istore d_law_259 (by decide) rfl ?_
  refine sm_aload_n d_law_261 rfl (j := 3) rfl ?_
  refine sm_scr (c := c) (k := 1) hN (by omega) d_law_262 d_law_263 d_law_265 d_law_266 d_law_267 (j0 := 5) (j4 := 1) rfl rfl (by decide) ?_
  refine sm_scr (c := c) (k := 2) hN (by omega) d_law_268 d_law_269 d_law_271 d_law_272 d_law_273 (j0 := 5) (j4 := 1) rfl rfl (by decide) ?_
  refine sm_scr (c := c) (k := 3) hN (by omega) d_law_274 d_law_275 d_law_277 d_law_278 d_law_279 (j0 := 5) (j4 := 1) rfl rfl (by decide) ?_
  refine sm_scr (c := c) (k := 4) hN (by omega) d_law_280 d_law_281 d_law_283 d_law_284 d_law_285 (j0 := 5) (j4 := 1) rfl rfl (by decide) ?_
  refine lw_md (r9 := none) d_law_286 cs_law_105 hL1 (As := [.int (sv G c 1), .int (sv G c 2), .int (sv G c 3), .int (sv G c 4)]) rfl rfl (Nat.le_of_ble_eq_true rfl) (c_Md_tiles (b := b + 116) ⟨hL1.2.2.1, lo_fr.rf⟩ (sv G c 1) (sv G c 2) (sv G c 3) (sv G c 4) k2) (fun M3 hL3 => ?_)
  refine sm_aload_n d_law_289 rfl (j := 3) rfl ?_
  refine lw_th d_law_290 cs_law_100 hL3 rfl (Nat.le_of_ble_eq_true rfl) (c_Md_thrown (b := b + 116) ⟨hL3.2.2.1, lo_fr.rf⟩) ?_
  refine sm_iload d_law_293 (j := 0) rfl ?_
  refine sm_icmp_eq (tgt := 300) d_law_295 (by decide) (fun _ => ?_) (fun h9 => absurd k5 h9)
  refine sm_goto (tgt := 1600) d_law_300 (by decide) ?_
  exact sm_drop1 (law_end kk hL3 k3 (k4.2 hz))
set_option maxHeartbeats 1600000 in
set_option maxRecDepth 100000 in
theorem law_3 {G : sm_G} {b c F : Nat} (hF : 70000 ≤ F) {M : sm_M} {w w' : wd} {Z : zd} {g : Nat → Int64} (hn : 7 * c + 7 ≤ G.2.2.2.2.1) (hN : G.2.2.2.2.1 ≤ 3584) (hL : lwi G b M w Z w' g) (hr : rel w Z w') (hz : czo Z) (kk : lw_K G b (c + 1)) : sm_W G mf_law 303 [(4, .int (nI (7 * c))), (3, .ref (b + 137)), (2, .ref (b + 116)), (1, .ref b), (0, .ref G.2.2.2.1)] [] M (2 * (196608 - zc Z) + (512 - c)) (2 * (196608 - zc Z) + 6 * (512 - c)) lw_1 := by
  have hc : c ≤ 511 := by omega
  obtain ⟨R, V, k1, k2, k3, k4, k5, k6⟩ := j_component hF hr (sv G c 1) (decide (¬ sv G c 2 = 0)) (sv G c 3) (sv G c 4)
  have z1 := cgo_zc k4
  have z2 := czo_zc (k4.2 hz)
  refine sm_aload_n d_law_303 rfl (j := 3) rfl ?_
  refine sm_scr (c := c) (k := 1) hN (by omega) d_law_304 d_law_305 d_law_307 d_law_308 d_law_309 (j0 := 4) (j4 := 0) rfl rfl (by decide) ?_
  refine sm_scr (c := c) (k := 2) hN (by omega) d_law_310 d_law_311 d_law_313 d_law_314 d_law_315 (j0 := 4) (j4 := 0) rfl rfl (by decide) ?_
  refine sm_bool (t0 := 323) (t1 := 324) d_law_316 (by decide) d_law_319 d_law_320 (by decide) d_law_323 rfl ?_
  refine sm_scr (c := c) (k := 3) hN (by omega) d_law_324 d_law_325 d_law_327 d_law_328 d_law_329 (j0 := 4) (j4 := 0) rfl rfl (by decide) ?_
  refine sm_scr (c := c) (k := 4) hN (by omega) d_law_330 d_law_331 d_law_333 d_law_334 d_law_335 (j0 := 4) (j4 := 0) rfl rfl (by decide) ?_
  refine sm_aload_n d_law_336 rfl (j := 1) rfl ?_
  refine sm_callS (bc' := 2 * (196608 - zc R.2.2) + (512 - (c + 1))) (bs' := 2 * (196608 - zc R.2.2) + 6 * (512 - (c + 1))) d_law_337 cs_law_106 rfl (As := [.ref b, .int (sv G c 1), .int (bi (decide (¬ sv G c 2 = 0))), .int (sv G c 3), .int (sv G c 4), .ref (b + 137)]) rfl rfl (Nat.le_of_ble_eq_true rfl) (by have := os_e1 (oI R.1); omega) (by have := os_e6 (oI R.1); omega) (c_Lw_component hL (sv G c 1) (decide (¬ sv G c 2 = 0)) (sv G c 3) (sv G c 4) k1) (fun X M1 h => by cases h.1) (fun v M1 h => ?_)
  obtain ⟨h1, g1, hL1, hg⟩ := h
  cases h1
  refine sm_istore d_law_340 (by decide) rfl ?_
  refine sm_aload_n d_law_342 rfl (j := 3) rfl ?_
  refine sm_scr (c := c) (k := 1) hN (by omega) d_law_343 d_law_344 d_law_346 d_law_347 d_law_348 (j0 := 5) (j4 := 1) rfl rfl (by decide) ?_
  refine sm_scr (c := c) (k := 2) hN (by omega) d_law_349 d_law_350 d_law_352 d_law_353 d_law_354 (j0 := 5) (j4 := 1) rfl rfl (by decide) ?_
  refine sm_bool (t0 := 362) (t1 := 363) d_law_355 (by decide) d_law_358 d_law_359 (by decide) d_law_362 rfl ?_
  refine sm_scr (c := c) (k := 3) hN (by omega) d_law_363 d_law_364 d_law_366 d_law_367 d_law_368 (j0 := 5) (j4 := 1) rfl rfl (by decide) ?_
  refine sm_scr (c := c) (k := 4) hN (by omega) d_law_369 d_law_370 d_law_372 d_law_373 d_law_374 (j0 := 5) (j4 := 1) rfl rfl (by decide) ?_
  refine lw_md (r9 := some (.int V.1)) d_law_375 cs_law_109 hL1 (As := [.int (sv G c 1), .int (bi (decide (¬ sv G c 2 = 0))), .int (sv G c 3), .int (sv G c 4)]) rfl rfl (Nat.le_of_ble_eq_true rfl) (c_Md_component (b := b + 116) ⟨hL1.2.2.1, lo_fr.rf⟩ (sv G c 1) (decide (¬ sv G c 2 = 0)) (sv G c 3) (sv G c 4) k2) (fun M3 hL3 => ?_)
  refine sm_istore d_law_378 (by decide) rfl ?_
  refine sm_aload_n d_law_380 rfl (j := 4) rfl ?_
  refine lw_th d_law_381 cs_law_100 hL3 rfl (Nat.le_of_ble_eq_true rfl) (c_Md_thrown (b := b + 116) ⟨hL3.2.2.1, lo_fr.rf⟩) ?_
  refine sm_iload d_law_384 (j := 1) rfl ?_
  refine sm_icmp_eq (tgt := 391) d_law_386 (by decide) (fun _ => ?_) (fun h9 => absurd k5 h9)
  refine sm_iload d_law_391 (j := 1) rfl ?_
  have fin9 : sm_W G mf_law 408 [(6, .int V.1), (5, .int (cd2 "java/lang/IllegalArgumentException" R.1)), (4, .int (nI (7 * c))), (3, .ref (b + 137)), (2, .ref (b + 116)), (1, .ref b), (0, .ref G.2.2.2.1)] [] M3 (2 * (196608 - zc R.2.2) + (512 - (c + 1))) (2 * (196608 - zc R.2.2) + 6 * (512 - (c + 1))) lw_1 := by
    refine sm_goto (tgt := 1600) d_law_408 (by decide) ?_
    exact sm_drop2 (law_end kk hL3 k3 (k4.2 hz))
  refine sm_if_ne (tgt := 408) d_law_393 (by decide) (fun _ => fin9) (fun h0 => ?_)
  obtain ⟨u, hu⟩ := cd_00 h0
  have hu2 := k6 u hu
  have hg0 := hg u.toInt64 (by rw [hu]; rfl)
  refine sm_aload_n d_law_396 rfl (j := 3) rfl ?_
  refine sm_iconst (v := 0) d_law_397 (by decide) ?_
  refine sm_laload d_law_398 hL3.2.2.2 in01 ?_
  refine sm_iload d_law_399 (j := 0) rfl ?_
  refine sm_i2l d_law_401 ?_
  refine sm_lcmp d_law_402 ?_
  refine sm_if_eq (tgt := 408) d_law_403 (by decide) (fun _ => fin9) (fun h9 => absurd (lc_eq (by rw [← hu2]; exact hg0)) h9)
set_option maxHeartbeats 1600000 in
set_option maxRecDepth 100000 in
theorem law_4 {G : sm_G} {b c F : Nat} (hF : 70000 ≤ F) {M : sm_M} {w w' : wd} {Z : zd} {g : Nat → Int64} (hn : 7 * c + 7 ≤ G.2.2.2.2.1) (hN : G.2.2.2.2.1 ≤ 3584) (hL : lwi G b M w Z w' g) (hr : rel w Z w') (hz : czo Z) (kk : lw_K G b (c + 1)) : sm_W G mf_law 411 [(4, .int (nI (7 * c))), (3, .ref (b + 137)), (2, .ref (b + 116)), (1, .ref b), (0, .ref G.2.2.2.1)] [] M (2 * (196608 - zc Z) + (512 - c)) (2 * (196608 - zc Z) + 6 * (512 - c)) lw_1 := by
  have hc : c ≤ 511 := by omega
  obtain ⟨R, V, k1, k2, k3, k4, k5⟩ := j_general hF hr (sv G c 1) (sv G c 2) (decide (¬ sv G c 3 = 0)) (decide (¬ sv G c 4 = 0)) (decide (¬ sv G c 5 = 0))
  have z1 := cgo_zc k4
  have z2 := czo_zc (k4.2 hz)
  refine sm_aload_n d_law_411 rfl (j := 3) rfl ?_
  refine sm_scr (c := c) (k := 1) hN (by omega) d_law_412 d_law_413 d_law_415 d_law_416 d_law_417 (j0 := 4) (j4 := 0) rfl rfl (by decide) ?_
  refine sm_scr (c := c) (k := 2) hN (by omega) d_law_418 d_law_419 d_law_421 d_law_422 d_law_423 (j0 := 4) (j4 := 0) rfl rfl (by decide) ?_
  refine sm_scr (c := c) (k := 3) hN (by omega) d_law_424 d_law_425 d_law_427 d_law_428 d_law_429 (j0 := 4) (j4 := 0) rfl rfl (by decide) ?_
  refine sm_bool (t0 := 437) (t1 := 438) d_law_430 (by decide) d_law_433 d_law_434 (by decide) d_law_437 rfl ?_
  refine sm_scr (c := c) (k := 4) hN (by omega) d_law_438 d_law_439 d_law_441 d_law_442 d_law_443 (j0 := 4) (j4 := 0) rfl rfl (by decide) ?_
  refine sm_bool (t0 := 451) (t1 := 452) d_law_444 (by decide) d_law_447 d_law_448 (by decide) d_law_451 rfl ?_
  refine sm_scr (c := c) (k := 5) hN (by omega) d_law_452 d_law_453 d_law_455 d_law_456 d_law_457 (j0 := 4) (j4 := 0) rfl rfl (by decide) ?_
  refine sm_bool (t0 := 465) (t1 := 466) d_law_458 (by decide) d_law_461 d_law_462 (by decide) d_law_465 rfl ?_
  refine sm_callS (bc' := 2 * (196608 - zc R.2.2) + (512 - (c + 1))) (bs' := 2 * (196608 - zc R.2.2) + 6 * (512 - (c + 1))) d_law_466 cs_law_110 rfl (As := [.ref b, .int (sv G c 1), .int (sv G c 2), .int (bi (decide (¬ sv G c 3 = 0))), .int (bi (decide (¬ sv G c 4 = 0))), .int (bi (decide (¬ sv G c 5 = 0)))]) rfl rfl (Nat.le_of_ble_eq_true rfl) (by have := os_e1 (oV R.1); omega) (by have := os_e6 (oV R.1); omega) (c_Lw_general hL (sv G c 1) (sv G c 2) (decide (¬ sv G c 3 = 0)) (decide (¬ sv G c 4 = 0)) (decide (¬ sv G c 5 = 0)) k1) (fun X M1 h => by cases h.1) (fun v M1 h => ?_)
  obtain ⟨h1, g1, hL1, hg⟩ := h
  cases h1
  refine sm_istore d_law_469 (by decide) rfl ?_
  refine sm_aload_n d_law_471 rfl (j := 3) rfl ?_
  refine sm_scr (c := c) (k := 1) hN (by omega) d_law_472 d_law_473 d_law_475 d_law_476 d_law_477 (j0 := 5) (j4 := 1) rfl rfl (by decide) ?_
  refine sm_scr (c := c) (k := 2) hN (by omega) d_law_478 d_law_479 d_law_481 d_law_482 d_law_483 (j0 := 5) (j4 := 1) rfl rfl (by decide) ?_
  refine sm_scr (c := c) (k := 3) hN (by omega) d_law_484 d_law_485 d_law_487 d_law_488 d_law_489 (j0 := 5) (j4 := 1) rfl rfl (by decide) ?_
  refine sm_bool (t0 := 497) (t1 := 498) d_law_490 (by decide) d_law_493 d_law_494 (by decide) d_law_497 rfl ?_
  refine sm_scr (c := c) (k := 4) hN (by omega) d_law_498 d_law_499 d_law_501 d_law_502 d_law_503 (j0 := 5) (j4 := 1) rfl rfl (by decide) ?_
  refine sm_bool (t0 := 511) (t1 := 512) d_law_504 (by decide) d_law_507 d_law_508 (by decide) d_law_511 rfl ?_
  refine sm_scr (c := c) (k := 5) hN (by omega) d_law_512 d_law_513 d_law_515 d_law_516 d_law_517 (j0 := 5) (j4 := 1) rfl rfl (by decide) ?_
  refine sm_bool (t0 := 525) (t1 := 526) d_law_518 (by decide) d_law_521 d_law_522 (by decide) d_law_525 rfl ?_
  refine lw_md (r9 := none) d_law_526 cs_law_113 hL1 (As := [.int (sv G c 1), .int (sv G c 2), .int (bi (decide (¬ sv G c 3 = 0))), .int (bi (decide (¬ sv G c 4 = 0))), .int (bi (decide (¬ sv G c 5 = 0)))]) rfl rfl (Nat.le_of_ble_eq_true rfl) (w1' := V) (hC := by rw [← k2]; exact c_Md_general (b := b + 116) ⟨hL1.2.2.1, lo_fr.rf⟩ (sv G c 1) (sv G c 2) (decide (¬ sv G c 3 = 0)) (decide (¬ sv G c 4 = 0)) (decide (¬ sv G c 5 = 0))) (fun M3 hL3 => ?_)
  refine sm_aload_n d_law_529 rfl (j := 3) rfl ?_
  refine lw_th d_law_530 cs_law_100 hL3 rfl (Nat.le_of_ble_eq_true rfl) (c_Md_thrown (b := b + 116) ⟨hL3.2.2.1, lo_fr.rf⟩) ?_
  refine sm_iload d_law_533 (j := 0) rfl ?_
  refine sm_icmp_eq (tgt := 540) d_law_535 (by decide) (fun _ => ?_) (fun h9 => absurd k5 h9)
  refine sm_goto (tgt := 1600) d_law_540 (by decide) ?_
  exact sm_drop1 (law_end kk hL3 k3 (k4.2 hz))
set_option maxHeartbeats 1600000 in
set_option maxRecDepth 100000 in
theorem law_5 {G : sm_G} {b c F : Nat} (hF : 70000 ≤ F) {M : sm_M} {w w' : wd} {Z : zd} {g : Nat → Int64} (hn : 7 * c + 7 ≤ G.2.2.2.2.1) (hN : G.2.2.2.2.1 ≤ 3584) (hL : lwi G b M w Z w' g) (hr : rel w Z w') (hz : czo Z) (kk : lw_K G b (c + 1)) : sm_W G mf_law 543 [(4, .int (nI (7 * c))), (3, .ref (b + 137)), (2, .ref (b + 116)), (1, .ref b), (0, .ref G.2.2.2.1)] [] M (2 * (196608 - zc Z) + (512 - c)) (2 * (196608 - zc Z) + 6 * (512 - c)) lw_1 := by
  have hc : c ≤ 511 := by omega
  obtain ⟨R, V, k1, k2, k3, k4, k5⟩ := j_coding hF hr (sv G c 1) (sv G c 2) (sv G c 3) (sv G c 4) (sv G c 5) (decide (¬ sv G c 6 = 0))
  have z1 := cgo_zc k4
  have z2 := czo_zc (k4.2 hz)
  refine sm_aload_n d_law_543 rfl (j := 3) rfl ?_
  refine sm_scr (c := c) (k := 1) hN (by omega) d_law_544 d_law_545 d_law_547 d_law_548 d_law_549 (j0 := 4) (j4 := 0) rfl rfl (by decide) ?_
  refine sm_scr (c := c) (k := 2) hN (by omega) d_law_550 d_law_551 d_law_553 d_law_554 d_law_555 (j0 := 4) (j4 := 0) rfl rfl (by decide) ?_
  refine sm_scr (c := c) (k := 3) hN (by omega) d_law_556 d_law_557 d_law_559 d_law_560 d_law_561 (j0 := 4) (j4 := 0) rfl rfl (by decide) ?_
  refine sm_scr (c := c) (k := 4) hN (by omega) d_law_562 d_law_563 d_law_565 d_law_566 d_law_567 (j0 := 4) (j4 := 0) rfl rfl (by decide) ?_
  refine sm_scr (c := c) (k := 5) hN (by omega) d_law_568 d_law_569 d_law_571 d_law_572 d_law_573 (j0 := 4) (j4 := 0) rfl rfl (by decide) ?_
  refine sm_scr6 (c := c) (k := 6) hN (by omega) d_law_574 d_law_575 d_law_577 d_law_579 d_law_580 (j0 := 4) (j4 := 0) rfl rfl (by decide) ?_
  refine sm_bool (t0 := 588) (t1 := 589) d_law_581 (by decide) d_law_584 d_law_585 (by decide) d_law_588 rfl ?_
  refine sm_callS (bc' := 2 * (196608 - zc R.2.2) + (512 - (c + 1))) (bs' := 2 * (196608 - zc R.2.2) + 6 * (512 - (c + 1))) d_law_589 cs_law_114 rfl (As := [.ref b, .int (sv G c 1), .int (sv G c 2), .int (sv G c 3), .int (sv G c 4), .int (sv G c 5), .int (bi (decide (¬ sv G c 6 = 0)))]) rfl rfl (Nat.le_of_ble_eq_true rfl) (by have := os_e1 (oV R.1); omega) (by have := os_e6 (oV R.1); omega) (c_Lw_coding hL (sv G c 1) (sv G c 2) (sv G c 3) (sv G c 4) (sv G c 5) (decide (¬ sv G c 6 = 0)) k1) (fun X M1 h => by cases h.1) (fun v M1 h => ?_)
  obtain ⟨h1, g1, hL1, hg⟩ := h
  cases h1
  refine sm_istore d_law_592 (by decide) rfl ?_
  refine sm_aload_n d_law_594 rfl (j := 3) rfl ?_
  refine sm_scr (c := c) (k := 1) hN (by omega) d_law_595 d_law_596 d_law_598 d_law_599 d_law_600 (j0 := 5) (j4 := 1) rfl rfl (by decide) ?_
  refine sm_scr (c := c) (k := 2) hN (by omega) d_law_601 d_law_602 d_law_604 d_law_605 d_law_606 (j0 := 5) (j4 := 1) rfl rfl (by decide) ?_
  refine sm_scr (c := c) (k := 3) hN (by omega) d_law_607 d_law_608 d_law_610 d_law_611 d_law_612 (j0 := 5) (j4 := 1) rfl rfl (by decide) ?_
  refine sm_scr (c := c) (k := 4) hN (by omega) d_law_613 d_law_614 d_law_616 d_law_617 d_law_618 (j0 := 5) (j4 := 1) rfl rfl (by decide) ?_
  refine sm_scr (c := c) (k := 5) hN (by omega) d_law_619 d_law_620 d_law_622 d_law_623 d_law_624 (j0 := 5) (j4 := 1) rfl rfl (by decide) ?_
  refine sm_scr6 (c := c) (k := 6) hN (by omega) d_law_625 d_law_626 d_law_628 d_law_630 d_law_631 (j0 := 5) (j4 := 1) rfl rfl (by decide) ?_
  refine sm_bool (t0 := 639) (t1 := 640) d_law_632 (by decide) d_law_635 d_law_636 (by decide) d_law_639 rfl ?_
  refine lw_md (r9 := none) d_law_640 cs_law_117 hL1 (As := [.int (sv G c 1), .int (sv G c 2), .int (sv G c 3), .int (sv G c 4), .int (sv G c 5), .int (bi (decide (¬ sv G c 6 = 0)))]) rfl rfl (Nat.le_of_ble_eq_true rfl) (c_Md_coding (b := b + 116) ⟨hL1.2.2.1, lo_fr.rf⟩ (sv G c 1) (sv G c 2) (sv G c 3) (sv G c 4) (sv G c 5) (decide (¬ sv G c 6 = 0)) k2) (fun M3 hL3 => ?_)
  refine sm_aload_n d_law_643 rfl (j := 3) rfl ?_
  refine lw_th d_law_644 cs_law_100 hL3 rfl (Nat.le_of_ble_eq_true rfl) (c_Md_thrown (b := b + 116) ⟨hL3.2.2.1, lo_fr.rf⟩) ?_
  refine sm_iload d_law_647 (j := 0) rfl ?_
  refine sm_icmp_eq (tgt := 654) d_law_649 (by decide) (fun _ => ?_) (fun h9 => absurd k5 h9)
  refine sm_goto (tgt := 1600) d_law_654 (by decide) ?_
  exact sm_drop1 (law_end kk hL3 k3 (k4.2 hz))
set_option maxHeartbeats 1600000 in
set_option maxRecDepth 100000 in
theorem law_6 {G : sm_G} {b c F : Nat} (hF : 70000 ≤ F) {M : sm_M} {w w' : wd} {Z : zd} {g : Nat → Int64} (hn : 7 * c + 7 ≤ G.2.2.2.2.1) (hN : G.2.2.2.2.1 ≤ 3584) (hL : lwi G b M w Z w' g) (hr : rel w Z w') (hz : czo Z) (kk : lw_K G b (c + 1)) : sm_W G mf_law 657 [(4, .int (nI (7 * c))), (3, .ref (b + 137)), (2, .ref (b + 116)), (1, .ref b), (0, .ref G.2.2.2.1)] [] M (2 * (196608 - zc Z) + (512 - c)) (2 * (196608 - zc Z) + 6 * (512 - c)) lw_1 := by
  have hc : c ≤ 511 := by omega
  obtain ⟨R, V, k1, k2, k3, k4, k5⟩ := j_precincts hF hr (sv G c 1) (sv G c 2) (sv G c 3) (sv G c 4)
  have z1 := cgo_zc k4
  have z2 := czo_zc (k4.2 hz)
  refine sm_aload_n d_law_657 rfl (j := 3) rfl ?_
  refine sm_scr (c := c) (k := 1) hN (by omega) d_law_658 d_law_659 d_law_661 d_law_662 d_law_663 (j0 := 4) (j4 := 0) rfl rfl (by decide) ?_
  refine sm_scr (c := c) (k := 2) hN (by omega) d_law_664 d_law_665 d_law_667 d_law_668 d_law_669 (j0 := 4) (j4 := 0) rfl rfl (by decide) ?_
  refine sm_scr (c := c) (k := 3) hN (by omega) d_law_670 d_law_671 d_law_673 d_law_674 d_law_675 (j0 := 4) (j4 := 0) rfl rfl (by decide) ?_
  refine sm_scr (c := c) (k := 4) hN (by omega) d_law_676 d_law_677 d_law_679 d_law_680 d_law_681 (j0 := 4) (j4 := 0) rfl rfl (by decide) ?_
  refine sm_callS (bc' := 2 * (196608 - zc R.2.2) + (512 - (c + 1))) (bs' := 2 * (196608 - zc R.2.2) + 6 * (512 - (c + 1))) d_law_682 cs_law_118 rfl (As := [.ref b, .int (sv G c 1), .int (sv G c 2), .int (sv G c 3), .int (sv G c 4)]) rfl rfl (Nat.le_of_ble_eq_true rfl) (by have := os_e1 (oV R.1); omega) (by have := os_e6 (oV R.1); omega) (c_Lw_precincts hL (sv G c 1) (sv G c 2) (sv G c 3) (sv G c 4) k1) (fun X M1 h => by cases h.1) (fun v M1 h => ?_)
  obtain ⟨h1, g1, hL1, hg⟩ := h
  cases h1
  refine sm_istore d_law_685 (by decide) rfl ?_
  refine sm_aload_n d_law_687 rfl (j := 3) rfl ?_
  refine sm_scr (c := c) (k := 1) hN (by omega) d_law_688 d_law_689 d_law_691 d_law_692 d_law_693 (j0 := 5) (j4 := 1) rfl rfl (by decide) ?_
  refine sm_scr (c := c) (k := 2) hN (by omega) d_law_694 d_law_695 d_law_697 d_law_698 d_law_699 (j0 := 5) (j4 := 1) rfl rfl (by decide) ?_
  refine sm_scr (c := c) (k := 3) hN (by omega) d_law_700 d_law_701 d_law_703 d_law_704 d_law_705 (j0 := 5) (j4 := 1) rfl rfl (by decide) ?_
  refine sm_scr (c := c) (k := 4) hN (by omega) d_law_706 d_law_707 d_law_709 d_law_710 d_law_711 (j0 := 5) (j4 := 1) rfl rfl (by decide) ?_
  refine lw_md (r9 := none) d_law_712 cs_law_120 hL1 (As := [.int (sv G c 1), .int (sv G c 2), .int (sv G c 3), .int (sv G c 4)]) rfl rfl (Nat.le_of_ble_eq_true rfl) (c_Md_precincts (b := b + 116) ⟨hL1.2.2.1, lo_fr.rf⟩ (sv G c 1) (sv G c 2) (sv G c 3) (sv G c 4) k2) (fun M3 hL3 => ?_)
  refine sm_aload_n d_law_715 rfl (j := 3) rfl ?_
  refine lw_th d_law_716 cs_law_100 hL3 rfl (Nat.le_of_ble_eq_true rfl) (c_Md_thrown (b := b + 116) ⟨hL3.2.2.1, lo_fr.rf⟩) ?_
  refine sm_iload d_law_719 (j := 0) rfl ?_
  refine sm_icmp_eq (tgt := 726) d_law_721 (by decide) (fun _ => ?_) (fun h9 => absurd k5 h9)
  refine sm_goto (tgt := 1600) d_law_726 (by decide) ?_
  exact sm_drop1 (law_end kk hL3 k3 (k4.2 hz))
set_option maxHeartbeats 1600000 in
set_option maxRecDepth 100000 in
theorem law_7 {G : sm_G} {b c F : Nat} (hF : 70000 ≤ F) {M : sm_M} {w w' : wd} {Z : zd} {g : Nat → Int64} (hn : 7 * c + 7 ≤ G.2.2.2.2.1) (hN : G.2.2.2.2.1 ≤ 3584) (hL : lwi G b M w Z w' g) (hr : rel w Z w') (hz : czo Z) (kk : lw_K G b (c + 1)) : sm_W G mf_law 729 [(4, .int (nI (7 * c))), (3, .ref (b + 137)), (2, .ref (b + 116)), (1, .ref b), (0, .ref G.2.2.2.1)] [] M (2 * (196608 - zc Z) + (512 - c)) (2 * (196608 - zc Z) + 6 * (512 - c)) lw_1 := by
  have hc : c ≤ 511 := by omega
  obtain ⟨R, V, k1, k2, k3, k4, k5⟩ := j_steps hF hr (sv G c 1) (sv G c 2) (sv G c 3) (sv G c 4)
  have z1 := cgo_zc k4
  have z2 := czo_zc (k4.2 hz)
  refine sm_aload_n d_law_729 rfl (j := 3) rfl ?_
  refine sm_scr (c := c) (k := 1) hN (by omega) d_law_730 d_law_731 d_law_733 d_law_734 d_law_735 (j0 := 4) (j4 := 0) rfl rfl (by decide) ?_
  refine sm_scr (c := c) (k := 2) hN (by omega) d_law_736 d_law_737 d_law_739 d_law_740 d_law_741 (j0 := 4) (j4 := 0) rfl rfl (by decide) ?_
  refine sm_scr (c := c) (k := 3) hN (by omega) d_law_742 d_law_743 d_law_745 d_law_746 d_law_747 (j0 := 4) (j4 := 0) rfl rfl (by decide) ?_
  refine sm_scr (c := c) (k := 4) hN (by omega) d_law_748 d_law_749 d_law_751 d_law_752 d_law_753 (j0 := 4) (j4 := 0) rfl rfl (by decide) ?_
  refine sm_callS (bc' := 2 * (196608 - zc R.2.2) + (512 - (c + 1))) (bs' := 2 * (196608 - zc R.2.2) + 6 * (512 - (c + 1))) d_law_754 cs_law_121 rfl (As := [.ref b, .int (sv G c 1), .int (sv G c 2), .int (sv G c 3), .int (sv G c 4)]) rfl rfl (Nat.le_of_ble_eq_true rfl) (by have := os_e1 (oV R.1); omega) (by have := os_e6 (oV R.1); omega) (c_Lw_steps hL (sv G c 1) (sv G c 2) (sv G c 3) (sv G c 4) k1) (fun X M1 h => by cases h.1) (fun v M1 h => ?_)
  obtain ⟨h1, g1, hL1, hg⟩ := h
  cases h1
  refine sm_istore d_law_757 (by decide) rfl ?_
  refine sm_aload_n d_law_759 rfl (j := 3) rfl ?_
  refine sm_scr (c := c) (k := 1) hN (by omega) d_law_760 d_law_761 d_law_763 d_law_764 d_law_765 (j0 := 5) (j4 := 1) rfl rfl (by decide) ?_
  refine sm_scr (c := c) (k := 2) hN (by omega) d_law_766 d_law_767 d_law_769 d_law_770 d_law_771 (j0 := 5) (j4 := 1) rfl rfl (by decide) ?_
  refine sm_scr (c := c) (k := 3) hN (by omega) d_law_772 d_law_773 d_law_775 d_law_776 d_law_777 (j0 := 5) (j4 := 1) rfl rfl (by decide) ?_
  refine sm_scr (c := c) (k := 4) hN (by omega) d_law_778 d_law_779 d_law_781 d_law_782 d_law_783 (j0 := 5) (j4 := 1) rfl rfl (by decide) ?_
  refine lw_md (r9 := none) d_law_784 cs_law_123 hL1 (As := [.int (sv G c 1), .int (sv G c 2), .int (sv G c 3), .int (sv G c 4)]) rfl rfl (Nat.le_of_ble_eq_true rfl) (c_Md_steps (b := b + 116) ⟨hL1.2.2.1, lo_fr.rf⟩ (sv G c 1) (sv G c 2) (sv G c 3) (sv G c 4) k2) (fun M3 hL3 => ?_)
  refine sm_aload_n d_law_787 rfl (j := 3) rfl ?_
  refine lw_th d_law_788 cs_law_100 hL3 rfl (Nat.le_of_ble_eq_true rfl) (c_Md_thrown (b := b + 116) ⟨hL3.2.2.1, lo_fr.rf⟩) ?_
  refine sm_iload d_law_791 (j := 0) rfl ?_
  refine sm_icmp_eq (tgt := 798) d_law_793 (by decide) (fun _ => ?_) (fun h9 => absurd k5 h9)
  refine sm_goto (tgt := 1600) d_law_798 (by decide) ?_
  exact sm_drop1 (law_end kk hL3 k3 (k4.2 hz))
set_option maxHeartbeats 1600000 in
set_option maxRecDepth 100000 in
theorem law_8 {G : sm_G} {b c F : Nat} (hF : 70000 ≤ F) {M : sm_M} {w w' : wd} {Z : zd} {g : Nat → Int64} (hn : 7 * c + 7 ≤ G.2.2.2.2.1) (hN : G.2.2.2.2.1 ≤ 3584) (hL : lwi G b M w Z w' g) (hr : rel w Z w') (hz : czo Z) (kk : lw_K G b (c + 1)) : sm_W G mf_law 801 [(4, .int (nI (7 * c))), (3, .ref (b + 137)), (2, .ref (b + 116)), (1, .ref b), (0, .ref G.2.2.2.1)] [] M (2 * (196608 - zc Z) + (512 - c)) (2 * (196608 - zc Z) + 6 * (512 - c)) lw_1 := by
  have hc : c ≤ 511 := by omega
  obtain ⟨R, V, k1, k2, k3, k4, k5⟩ := j_step hF hr (sv G c 1) (sv G c 2) (sv G c 3)
  have z1 := cgo_zc k4
  have z2 := czo_zc (k4.2 hz)
  refine sm_aload_n d_law_801 rfl (j := 3) rfl ?_
  refine sm_scr (c := c) (k := 1) hN (by omega) d_law_802 d_law_803 d_law_805 d_law_806 d_law_807 (j0 := 4) (j4 := 0) rfl rfl (by decide) ?_
  refine sm_scr (c := c) (k := 2) hN (by omega) d_law_808 d_law_809 d_law_811 d_law_812 d_law_813 (j0 := 4) (j4 := 0) rfl rfl (by decide) ?_
  refine sm_scr (c := c) (k := 3) hN (by omega) d_law_814 d_law_815 d_law_817 d_law_818 d_law_819 (j0 := 4) (j4 := 0) rfl rfl (by decide) ?_
  refine sm_callS (bc' := 2 * (196608 - zc R.2.2) + (512 - (c + 1))) (bs' := 2 * (196608 - zc R.2.2) + 6 * (512 - (c + 1))) d_law_820 cs_law_124 rfl (As := [.ref b, .int (sv G c 1), .int (sv G c 2), .int (sv G c 3)]) rfl rfl (Nat.le_of_ble_eq_true rfl) (by have := os_e1 (oV R.1); omega) (by have := os_e6 (oV R.1); omega) (c_Lw_step hL (sv G c 1) (sv G c 2) (sv G c 3) k1) (fun X M1 h => by cases h.1) (fun v M1 h => ?_)
  obtain ⟨h1, g1, hL1, hg⟩ := h
  cases h1
  refine sm_istore d_law_823 (by decide) rfl ?_
  refine sm_aload_n d_law_825 rfl (j := 3) rfl ?_
  refine sm_scr (c := c) (k := 1) hN (by omega) d_law_826 d_law_827 d_law_829 d_law_830 d_law_831 (j0 := 5) (j4 := 1) rfl rfl (by decide) ?_
  refine sm_scr (c := c) (k := 2) hN (by omega) d_law_832 d_law_833 d_law_835 d_law_836 d_law_837 (j0 := 5) (j4 := 1) rfl rfl (by decide) ?_
  refine sm_scr (c := c) (k := 3) hN (by omega) d_law_838 d_law_839 d_law_841 d_law_842 d_law_843 (j0 := 5) (j4 := 1) rfl rfl (by decide) ?_
  refine lw_md (r9 := none) d_law_844 cs_law_127 hL1 (As := [.int (sv G c 1), .int (sv G c 2), .int (sv G c 3)]) rfl rfl (Nat.le_of_ble_eq_true rfl) (c_Md_step (b := b + 116) ⟨hL1.2.2.1, lo_fr.rf⟩ (sv G c 1) (sv G c 2) (sv G c 3) k2) (fun M3 hL3 => ?_)
  refine sm_aload_n d_law_847 rfl (j := 3) rfl ?_
  refine lw_th d_law_848 cs_law_100 hL3 rfl (Nat.le_of_ble_eq_true rfl) (c_Md_thrown (b := b + 116) ⟨hL3.2.2.1, lo_fr.rf⟩) ?_
  refine sm_iload d_law_851 (j := 0) rfl ?_
  refine sm_icmp_eq (tgt := 858) d_law_853 (by decide) (fun _ => ?_) (fun h9 => absurd k5 h9)
  refine sm_goto (tgt := 1600) d_law_858 (by decide) ?_
  exact sm_drop1 (law_end kk hL3 k3 (k4.2 hz))
set_option maxHeartbeats 1600000 in
set_option maxRecDepth 100000 in
theorem law_9 {G : sm_G} {b c F : Nat} (hF : 70000 ≤ F) {M : sm_M} {w w' : wd} {Z : zd} {g : Nat → Int64} (hn : 7 * c + 7 ≤ G.2.2.2.2.1) (hN : G.2.2.2.2.1 ≤ 3584) (hL : lwi G b M w Z w' g) (hr : rel w Z w') (hz : czo Z) (kk : lw_K G b (c + 1)) : sm_W G mf_law 861 [(4, .int (nI (7 * c))), (3, .ref (b + 137)), (2, .ref (b + 116)), (1, .ref b), (0, .ref G.2.2.2.1)] [] M (2 * (196608 - zc Z) + (512 - c)) (2 * (196608 - zc Z) + 6 * (512 - c)) lw_1 := by
  have hc : c ≤ 511 := by omega
  obtain ⟨R, V, k1, k2, k3, k4, k5, k6⟩ := j_change hF hr (sv G c 1) (sv G c 2) (sv G c 3) (sv G c 4) (sv G c 5) (sv G c 6)
  have z1 := cgo_zc k4
  have z2 := czo_zc (k4.2 hz)
  refine sm_aload_n d_law_861 rfl (j := 3) rfl ?_
  refine sm_scr (c := c) (k := 1) hN (by omega) d_law_862 d_law_863 d_law_865 d_law_866 d_law_867 (j0 := 4) (j4 := 0) rfl rfl (by decide) ?_
  refine sm_scr (c := c) (k := 2) hN (by omega) d_law_868 d_law_869 d_law_871 d_law_872 d_law_873 (j0 := 4) (j4 := 0) rfl rfl (by decide) ?_
  refine sm_scr (c := c) (k := 3) hN (by omega) d_law_874 d_law_875 d_law_877 d_law_878 d_law_879 (j0 := 4) (j4 := 0) rfl rfl (by decide) ?_
  refine sm_scr (c := c) (k := 4) hN (by omega) d_law_880 d_law_881 d_law_883 d_law_884 d_law_885 (j0 := 4) (j4 := 0) rfl rfl (by decide) ?_
  refine sm_scr (c := c) (k := 5) hN (by omega) d_law_886 d_law_887 d_law_889 d_law_890 d_law_891 (j0 := 4) (j4 := 0) rfl rfl (by decide) ?_
  refine sm_scr6 (c := c) (k := 6) hN (by omega) d_law_892 d_law_893 d_law_895 d_law_897 d_law_898 (j0 := 4) (j4 := 0) rfl rfl (by decide) ?_
  refine sm_aload_n d_law_899 rfl (j := 1) rfl ?_
  refine sm_callS (bc' := 2 * (196608 - zc R.2.2) + (512 - (c + 1))) (bs' := 2 * (196608 - zc R.2.2) + 6 * (512 - (c + 1))) d_law_900 cs_law_128 rfl (As := [.ref b, .int (sv G c 1), .int (sv G c 2), .int (sv G c 3), .int (sv G c 4), .int (sv G c 5), .int (sv G c 6), .ref (b + 137)]) rfl rfl (Nat.le_of_ble_eq_true rfl) (by have := os_e1 (oI R.1); omega) (by have := os_e6 (oI R.1); omega) (c_Lw_change hL (sv G c 1) (sv G c 2) (sv G c 3) (sv G c 4) (sv G c 5) (sv G c 6) k1) (fun X M1 h => by cases h.1) (fun v M1 h => ?_)
  obtain ⟨h1, g1, hL1, hg⟩ := h
  cases h1
  refine sm_istore d_law_903 (by decide) rfl ?_
  refine sm_aload_n d_law_905 rfl (j := 3) rfl ?_
  refine sm_scr (c := c) (k := 1) hN (by omega) d_law_906 d_law_907 d_law_909 d_law_910 d_law_911 (j0 := 5) (j4 := 1) rfl rfl (by decide) ?_
  refine sm_scr (c := c) (k := 2) hN (by omega) d_law_912 d_law_913 d_law_915 d_law_916 d_law_917 (j0 := 5) (j4 := 1) rfl rfl (by decide) ?_
  refine sm_scr (c := c) (k := 3) hN (by omega) d_law_918 d_law_919 d_law_921 d_law_922 d_law_923 (j0 := 5) (j4 := 1) rfl rfl (by decide) ?_
  refine sm_scr (c := c) (k := 4) hN (by omega) d_law_924 d_law_925 d_law_927 d_law_928 d_law_929 (j0 := 5) (j4 := 1) rfl rfl (by decide) ?_
  refine sm_scr (c := c) (k := 5) hN (by omega) d_law_930 d_law_931 d_law_933 d_law_934 d_law_935 (j0 := 5) (j4 := 1) rfl rfl (by decide) ?_
  refine sm_scr6 (c := c) (k := 6) hN (by omega) d_law_936 d_law_937 d_law_939 d_law_941 d_law_942 (j0 := 5) (j4 := 1) rfl rfl (by decide) ?_
  refine lw_md (r9 := some (.int V.1)) d_law_943 cs_law_131 hL1 (As := [.int (sv G c 1), .int (sv G c 2), .int (sv G c 3), .int (sv G c 4), .int (sv G c 5), .int (sv G c 6)]) rfl rfl (Nat.le_of_ble_eq_true rfl) (c_Md_change (b := b + 116) ⟨hL1.2.2.1, lo_fr.rf⟩ (sv G c 1) (sv G c 2) (sv G c 3) (sv G c 4) (sv G c 5) (sv G c 6) k2) (fun M3 hL3 => ?_)
  refine sm_istore d_law_946 (by decide) rfl ?_
  refine sm_aload_n d_law_948 rfl (j := 4) rfl ?_
  refine lw_th d_law_949 cs_law_100 hL3 rfl (Nat.le_of_ble_eq_true rfl) (c_Md_thrown (b := b + 116) ⟨hL3.2.2.1, lo_fr.rf⟩) ?_
  refine sm_iload d_law_952 (j := 1) rfl ?_
  refine sm_icmp_eq (tgt := 959) d_law_954 (by decide) (fun _ => ?_) (fun h9 => absurd k5 h9)
  refine sm_iload d_law_959 (j := 1) rfl ?_
  have fin9 : sm_W G mf_law 976 [(6, .int V.1), (5, .int (cd2 "java/lang/IllegalArgumentException" R.1)), (4, .int (nI (7 * c))), (3, .ref (b + 137)), (2, .ref (b + 116)), (1, .ref b), (0, .ref G.2.2.2.1)] [] M3 (2 * (196608 - zc R.2.2) + (512 - (c + 1))) (2 * (196608 - zc R.2.2) + 6 * (512 - (c + 1))) lw_1 := by
    refine sm_goto (tgt := 1600) d_law_976 (by decide) ?_
    exact sm_drop2 (law_end kk hL3 k3 (k4.2 hz))
  refine sm_if_ne (tgt := 976) d_law_961 (by decide) (fun _ => fin9) (fun h0 => ?_)
  obtain ⟨u, hu⟩ := cd_00 h0
  have hu2 := k6 u hu
  have hg0 := hg u.toInt64 (by rw [hu]; rfl)
  refine sm_aload_n d_law_964 rfl (j := 3) rfl ?_
  refine sm_iconst (v := 0) d_law_965 (by decide) ?_
  refine sm_laload d_law_966 hL3.2.2.2 in01 ?_
  refine sm_iload d_law_967 (j := 0) rfl ?_
  refine sm_i2l d_law_969 ?_
  refine sm_lcmp d_law_970 ?_
  refine sm_if_eq (tgt := 976) d_law_971 (by decide) (fun _ => fin9) (fun h9 => absurd (lc_eq (by rw [← hu2]; exact hg0)) h9)
set_option maxHeartbeats 1600000 in
set_option maxRecDepth 100000 in
theorem law_10 {G : sm_G} {b c F : Nat} (hF : 70000 ≤ F) {M : sm_M} {w w' : wd} {Z : zd} {g : Nat → Int64} (hn : 7 * c + 7 ≤ G.2.2.2.2.1) (hN : G.2.2.2.2.1 ≤ 3584) (hL : lwi G b M w Z w' g) (hr : rel w Z w') (hz : czo Z) (kk : lw_K G b (c + 1)) : sm_W G mf_law 979 [(4, .int (nI (7 * c))), (3, .ref (b + 137)), (2, .ref (b + 116)), (1, .ref b), (0, .ref G.2.2.2.1)] [] M (2 * (196608 - zc Z) + (512 - c)) (2 * (196608 - zc Z) + 6 * (512 - c)) lw_1 := by
  have hc : c ≤ 511 := by omega
  obtain ⟨R, V, k1, k2, k3, k5, k6⟩ := j_get hF hr (sv G c 1) (sv G c 2) (sv G c 3)
  have z1 : zc Z ≤ zc Z := Nat.le_refl _
  have z2 := czo_zc hz
  refine sm_aload_n d_law_979 rfl (j := 3) rfl ?_
  refine sm_scr (c := c) (k := 1) hN (by omega) d_law_980 d_law_981 d_law_983 d_law_984 d_law_985 (j0 := 4) (j4 := 0) rfl rfl (by decide) ?_
  refine sm_scr (c := c) (k := 2) hN (by omega) d_law_986 d_law_987 d_law_989 d_law_990 d_law_991 (j0 := 4) (j4 := 0) rfl rfl (by decide) ?_
  refine sm_scr (c := c) (k := 3) hN (by omega) d_law_992 d_law_993 d_law_995 d_law_996 d_law_997 (j0 := 4) (j4 := 0) rfl rfl (by decide) ?_
  refine sm_aload_n d_law_998 rfl (j := 1) rfl ?_
  refine sm_callS (bc' := 2 * (196608 - zc Z) + (512 - (c + 1))) (bs' := 2 * (196608 - zc Z) + 6 * (512 - (c + 1))) d_law_999 cs_law_132 rfl (As := [.ref b, .int (sv G c 1), .int (sv G c 2), .int (sv G c 3), .ref (b + 137)]) rfl rfl (Nat.le_of_ble_eq_true rfl) (by have := os_e1 (oI R); omega) (by have := os_e6 (oI R); omega) (c_Lw_get hL (sv G c 1) (sv G c 2) (sv G c 3) k1) (fun X M1 h => by cases h.1) (fun v M1 h => ?_)
  obtain ⟨h1, g1, hL1, hg⟩ := h
  cases h1
  refine sm_istore d_law_1002 (by decide) rfl ?_
  refine sm_aload_n d_law_1004 rfl (j := 3) rfl ?_
  refine sm_scr (c := c) (k := 1) hN (by omega) d_law_1005 d_law_1006 d_law_1008 d_law_1009 d_law_1010 (j0 := 5) (j4 := 1) rfl rfl (by decide) ?_
  refine sm_scr (c := c) (k := 2) hN (by omega) d_law_1011 d_law_1012 d_law_1014 d_law_1015 d_law_1016 (j0 := 5) (j4 := 1) rfl rfl (by decide) ?_
  refine sm_scr (c := c) (k := 3) hN (by omega) d_law_1017 d_law_1018 d_law_1020 d_law_1021 d_law_1022 (j0 := 5) (j4 := 1) rfl rfl (by decide) ?_
  refine lw_md (r9 := some (.int V.1)) d_law_1023 cs_law_135 hL1 (As := [.int (sv G c 1), .int (sv G c 2), .int (sv G c 3)]) rfl rfl (Nat.le_of_ble_eq_true rfl) (c_Md_get (b := b + 116) ⟨hL1.2.2.1, lo_fr.rf⟩ (sv G c 1) (sv G c 2) (sv G c 3) k2) (fun M3 hL3 => ?_)
  refine sm_istore d_law_1026 (by decide) rfl ?_
  refine sm_aload_n d_law_1028 rfl (j := 4) rfl ?_
  refine lw_th d_law_1029 cs_law_100 hL3 rfl (Nat.le_of_ble_eq_true rfl) (c_Md_thrown (b := b + 116) ⟨hL3.2.2.1, lo_fr.rf⟩) ?_
  refine sm_iload d_law_1032 (j := 1) rfl ?_
  refine sm_icmp_eq (tgt := 1039) d_law_1034 (by decide) (fun _ => ?_) (fun h9 => absurd k5 h9)
  refine sm_iload d_law_1039 (j := 1) rfl ?_
  have fin9 : sm_W G mf_law 1056 [(6, .int V.1), (5, .int (cd1 R)), (4, .int (nI (7 * c))), (3, .ref (b + 137)), (2, .ref (b + 116)), (1, .ref b), (0, .ref G.2.2.2.1)] [] M3 (2 * (196608 - zc Z) + (512 - (c + 1))) (2 * (196608 - zc Z) + 6 * (512 - (c + 1))) lw_1 := by
    refine sm_goto (tgt := 1600) d_law_1056 (by decide) ?_
    exact sm_drop2 (law_end kk hL3 k3 hz)
  refine sm_if_ne (tgt := 1056) d_law_1041 (by decide) (fun _ => fin9) (fun h0 => ?_)
  obtain ⟨u, hu⟩ := cd_0 h0
  have hu2 := k6 u hu
  have hg0 := hg u.toInt64 (by rw [hu]; rfl)
  refine sm_aload_n d_law_1044 rfl (j := 3) rfl ?_
  refine sm_iconst (v := 0) d_law_1045 (by decide) ?_
  refine sm_laload d_law_1046 hL3.2.2.2 in01 ?_
  refine sm_iload d_law_1047 (j := 0) rfl ?_
  refine sm_i2l d_law_1049 ?_
  refine sm_lcmp d_law_1050 ?_
  refine sm_if_eq (tgt := 1056) d_law_1051 (by decide) (fun _ => fin9) (fun h9 => absurd (lc_eq (by rw [← hu2]; exact hg0)) h9)
set_option maxHeartbeats 1600000 in
set_option maxRecDepth 100000 in
theorem law_11 {G : sm_G} {b c F : Nat} (hF : 70000 ≤ F) {M : sm_M} {w w' : wd} {Z : zd} {g : Nat → Int64} (hn : 7 * c + 7 ≤ G.2.2.2.2.1) (hN : G.2.2.2.2.1 ≤ 3584) (hL : lwi G b M w Z w' g) (hr : rel w Z w') (hz : czo Z) (kk : lw_K G b (c + 1)) : sm_W G mf_law 1059 [(4, .int (nI (7 * c))), (3, .ref (b + 137)), (2, .ref (b + 116)), (1, .ref b), (0, .ref G.2.2.2.1)] [] M (2 * (196608 - zc Z) + (512 - c)) (2 * (196608 - zc Z) + 6 * (512 - c)) lw_1 := by
  have hc : c ≤ 511 := by omega
  obtain ⟨R, V, k1, k2, k3, k4, k5⟩ := j_clear hF hr
  have z1 := cgo_zc k4
  have z2 := czo_zc (k4.2 hz)
  refine sm_aload_n d_law_1059 rfl (j := 3) rfl ?_
  refine sm_callV (b := b) (bc' := 2 * (196608 - zc R.2.2) + (512 - (c + 1))) (bs' := 2 * (196608 - zc R.2.2) + 6 * (512 - (c + 1))) d_law_1060 cs_law_136 rfl (hL.1 0 _ cl_0) (As := []) rfl rfl (Nat.le_of_ble_eq_true rfl) (by have := os_e1 (oV R.1); omega) (by have := os_e6 (oV R.1); omega) (c_SM_clear hL.os k1) (fun X M1 h => ?_) (fun v M1 h => ?_)
  · have e := h.1; rw [k5] at e; cases e
  obtain ⟨h1, h2⟩ := h
  rw [k5] at h1
  cases h1
  have hL2 := hL.go h2
  refine sm_aload_n d_law_1063 rfl (j := 2) rfl ?_
  refine lw_md (r9 := none) d_law_1064 cs_law_139 hL2 (As := []) rfl rfl (Nat.le_of_ble_eq_true rfl) (w1' := V) (hC := by rw [← k2]; exact c_Md_clear (b := b + 116) ⟨hL2.2.2.1, lo_fr.rf⟩) (fun M2 hL3 => ?_)
  refine sm_goto (tgt := 1600) d_law_1067 (by decide) ?_
  exact law_end kk hL3 k3 (k4.2 hz)
set_option maxHeartbeats 1600000 in
set_option maxRecDepth 100000 in
theorem law_12 {G : sm_G} {b c F : Nat} (hF : 70000 ≤ F) {M : sm_M} {w w' : wd} {Z : zd} {g : Nat → Int64} (hn : 7 * c + 7 ≤ G.2.2.2.2.1) (hN : G.2.2.2.2.1 ≤ 3584) (hL : lwi G b M w Z w' g) (hr : rel w Z w') (hz : czo Z) (kk : lw_K G b (c + 1)) : sm_W G mf_law 1070 [(4, .int (nI (7 * c))), (3, .ref (b + 137)), (2, .ref (b + 116)), (1, .ref b), (0, .ref G.2.2.2.1)] [] M (2 * (196608 - zc Z) + (512 - c)) (2 * (196608 - zc Z) + 6 * (512 - c)) lw_1 := by
  have hc : c ≤ 511 := by omega
  obtain ⟨R, V, k1, k2, k3, k4, k5, k6⟩ := j_put hF hr (sv G c 1)
  have z1 := cgo_zc k4
  have z2 := czo_zc (k4.2 hz)
  refine sm_aload_n d_law_1070 rfl (j := 3) rfl ?_
  refine sm_scr (c := c) (k := 1) hN (by omega) d_law_1071 d_law_1072 d_law_1074 d_law_1075 d_law_1076 (j0 := 4) (j4 := 0) rfl rfl (by decide) ?_
  refine sm_aload_n d_law_1077 rfl (j := 1) rfl ?_
  refine sm_callS (bc' := 2 * (196608 - zc R.2.2) + (512 - (c + 1))) (bs' := 2 * (196608 - zc R.2.2) + 6 * (512 - (c + 1))) d_law_1078 cs_law_140 rfl (As := [.ref b, .int (sv G c 1), .ref (b + 137)]) rfl rfl (Nat.le_of_ble_eq_true rfl) (by have := os_e1 (oI R.1); omega) (by have := os_e6 (oI R.1); omega) (c_Lw_put hL (sv G c 1) k1) (fun X M1 h => by cases h.1) (fun v M1 h => ?_)
  obtain ⟨h1, g1, hL1, hg⟩ := h
  cases h1
  refine sm_istore d_law_1081 (by decide) rfl ?_
  refine sm_aload_n d_law_1083 rfl (j := 3) rfl ?_
  refine sm_scr (c := c) (k := 1) hN (by omega) d_law_1084 d_law_1085 d_law_1087 d_law_1088 d_law_1089 (j0 := 5) (j4 := 1) rfl rfl (by decide) ?_
  refine lw_md (r9 := some (.int V.1)) d_law_1090 cs_law_143 hL1 (As := [.int (sv G c 1)]) rfl rfl (Nat.le_of_ble_eq_true rfl) (c_Md_put (b := b + 116) ⟨hL1.2.2.1, lo_fr.rf⟩ (sv G c 1) k2) (fun M3 hL3 => ?_)
  refine sm_istore d_law_1093 (by decide) rfl ?_
  refine sm_aload_n d_law_1095 rfl (j := 4) rfl ?_
  refine lw_th d_law_1096 cs_law_100 hL3 rfl (Nat.le_of_ble_eq_true rfl) (c_Md_thrown (b := b + 116) ⟨hL3.2.2.1, lo_fr.rf⟩) ?_
  refine sm_iload d_law_1099 (j := 1) rfl ?_
  refine sm_icmp_eq (tgt := 1106) d_law_1101 (by decide) (fun _ => ?_) (fun h9 => absurd k5 h9)
  refine sm_iload d_law_1106 (j := 1) rfl ?_
  have fin9 : sm_W G mf_law 1123 [(6, .int V.1), (5, .int (cd2 "java/lang/IllegalArgumentException" R.1)), (4, .int (nI (7 * c))), (3, .ref (b + 137)), (2, .ref (b + 116)), (1, .ref b), (0, .ref G.2.2.2.1)] [] M3 (2 * (196608 - zc R.2.2) + (512 - (c + 1))) (2 * (196608 - zc R.2.2) + 6 * (512 - (c + 1))) lw_1 := by
    refine sm_goto (tgt := 1600) d_law_1123 (by decide) ?_
    exact sm_drop2 (law_end kk hL3 k3 (k4.2 hz))
  refine sm_if_ne (tgt := 1123) d_law_1108 (by decide) (fun _ => fin9) (fun h0 => ?_)
  obtain ⟨u, hu⟩ := cd_00 h0
  have hu2 := k6 u hu
  have hg0 := hg u.toInt64 (by rw [hu]; rfl)
  refine sm_aload_n d_law_1111 rfl (j := 3) rfl ?_
  refine sm_iconst (v := 0) d_law_1112 (by decide) ?_
  refine sm_laload d_law_1113 hL3.2.2.2 in01 ?_
  refine sm_iload d_law_1114 (j := 0) rfl ?_
  refine sm_i2l d_law_1116 ?_
  refine sm_lcmp d_law_1117 ?_
  refine sm_if_eq (tgt := 1123) d_law_1118 (by decide) (fun _ => fin9) (fun h9 => absurd (lc_eq (by rw [← hu2]; exact hg0)) h9)
set_option maxHeartbeats 1600000 in
set_option maxRecDepth 100000 in
theorem law_13 {G : sm_G} {b c F : Nat} (hF : 70000 ≤ F) {M : sm_M} {w w' : wd} {Z : zd} {g : Nat → Int64} (hn : 7 * c + 7 ≤ G.2.2.2.2.1) (hN : G.2.2.2.2.1 ≤ 3584) (hL : lwi G b M w Z w' g) (hr : rel w Z w') (hz : czo Z) (kk : lw_K G b (c + 1)) : sm_W G mf_law 1126 [(4, .int (nI (7 * c))), (3, .ref (b + 137)), (2, .ref (b + 116)), (1, .ref b), (0, .ref G.2.2.2.1)] [] M (2 * (196608 - zc Z) + (512 - c)) (2 * (196608 - zc Z) + 6 * (512 - c)) lw_1 := by
  have hc : c ≤ 511 := by omega
  obtain ⟨R, V, k1, k2, k3, k5, k6⟩ := j_at hF hr (sv G c 1)
  have z1 : zc Z ≤ zc Z := Nat.le_refl _
  have z2 := czo_zc hz
  refine sm_aload_n d_law_1126 rfl (j := 3) rfl ?_
  refine sm_scr (c := c) (k := 1) hN (by omega) d_law_1127 d_law_1128 d_law_1130 d_law_1131 d_law_1132 (j0 := 4) (j4 := 0) rfl rfl (by decide) ?_
  refine sm_aload_n d_law_1133 rfl (j := 1) rfl ?_
  refine sm_callS (bc' := 2 * (196608 - zc Z) + (512 - (c + 1))) (bs' := 2 * (196608 - zc Z) + 6 * (512 - (c + 1))) d_law_1134 cs_law_144 rfl (As := [.ref b, .int (sv G c 1), .ref (b + 137)]) rfl rfl (Nat.le_of_ble_eq_true rfl) (by have := os_e1 (oI R); omega) (by have := os_e6 (oI R); omega) (c_Lw_at hL (sv G c 1) k1) (fun X M1 h => by cases h.1) (fun v M1 h => ?_)
  obtain ⟨h1, g1, hL1, hg⟩ := h
  cases h1
  refine sm_istore d_law_1137 (by decide) rfl ?_
  refine sm_aload_n d_law_1139 rfl (j := 3) rfl ?_
  refine sm_scr (c := c) (k := 1) hN (by omega) d_law_1140 d_law_1141 d_law_1143 d_law_1144 d_law_1145 (j0 := 5) (j4 := 1) rfl rfl (by decide) ?_
  refine lw_md (r9 := some (.int V.1)) d_law_1146 cs_law_146 hL1 (As := [.int (sv G c 1)]) rfl rfl (Nat.le_of_ble_eq_true rfl) (c_Md_at (b := b + 116) ⟨hL1.2.2.1, lo_fr.rf⟩ (sv G c 1) k2) (fun M3 hL3 => ?_)
  refine sm_istore d_law_1149 (by decide) rfl ?_
  refine sm_aload_n d_law_1151 rfl (j := 4) rfl ?_
  refine lw_th d_law_1152 cs_law_100 hL3 rfl (Nat.le_of_ble_eq_true rfl) (c_Md_thrown (b := b + 116) ⟨hL3.2.2.1, lo_fr.rf⟩) ?_
  refine sm_iload d_law_1155 (j := 1) rfl ?_
  refine sm_icmp_eq (tgt := 1162) d_law_1157 (by decide) (fun _ => ?_) (fun h9 => absurd k5 h9)
  refine sm_iload d_law_1162 (j := 1) rfl ?_
  have fin9 : sm_W G mf_law 1179 [(6, .int V.1), (5, .int (cd1 R)), (4, .int (nI (7 * c))), (3, .ref (b + 137)), (2, .ref (b + 116)), (1, .ref b), (0, .ref G.2.2.2.1)] [] M3 (2 * (196608 - zc Z) + (512 - (c + 1))) (2 * (196608 - zc Z) + 6 * (512 - (c + 1))) lw_1 := by
    refine sm_goto (tgt := 1600) d_law_1179 (by decide) ?_
    exact sm_drop2 (law_end kk hL3 k3 hz)
  refine sm_if_ne (tgt := 1179) d_law_1164 (by decide) (fun _ => fin9) (fun h0 => ?_)
  obtain ⟨u, hu⟩ := cd_0 h0
  have hu2 := k6 u hu
  have hg0 := hg u.toInt64 (by rw [hu]; rfl)
  refine sm_aload_n d_law_1167 rfl (j := 3) rfl ?_
  refine sm_iconst (v := 0) d_law_1168 (by decide) ?_
  refine sm_laload d_law_1169 hL3.2.2.2 in01 ?_
  refine sm_iload d_law_1170 (j := 0) rfl ?_
  refine sm_i2l d_law_1172 ?_
  refine sm_lcmp d_law_1173 ?_
  refine sm_if_eq (tgt := 1179) d_law_1174 (by decide) (fun _ => fin9) (fun h9 => absurd (lc_eq (by rw [← hu2]; exact hg0)) h9)
set_option maxHeartbeats 1600000 in
set_option maxRecDepth 100000 in
theorem law_14 {G : sm_G} {b c F : Nat} (hF : 70000 ≤ F) {M : sm_M} {w w' : wd} {Z : zd} {g : Nat → Int64} (hn : 7 * c + 7 ≤ G.2.2.2.2.1) (hN : G.2.2.2.2.1 ≤ 3584) (hL : lwi G b M w Z w' g) (hr : rel w Z w') (hz : czo Z) (kk : lw_K G b (c + 1)) : sm_W G mf_law 1182 [(4, .int (nI (7 * c))), (3, .ref (b + 137)), (2, .ref (b + 116)), (1, .ref b), (0, .ref G.2.2.2.1)] [] M (2 * (196608 - zc Z) + (512 - c)) (2 * (196608 - zc Z) + 6 * (512 - c)) lw_1 := by
  have hc : c ≤ 511 := by omega
  obtain ⟨R, V, k1, k2, k3, k4, k5, k6⟩ := j_write hF hr
  have z1 := cgo_zc k4
  have z2 := czo_zc (k4.2 hz)
  refine sm_aload_n d_law_1182 rfl (j := 3) rfl ?_
  refine sm_aload_n d_law_1183 rfl (j := 1) rfl ?_
  refine sm_callS (bc' := 2 * (196608 - zc R.2.2) + (512 - (c + 1))) (bs' := 2 * (196608 - zc R.2.2) + 6 * (512 - (c + 1))) d_law_1184 cs_law_147 rfl (As := [.ref b, .ref (b + 137)]) rfl rfl (Nat.le_of_ble_eq_true rfl) (by have := os_e1 (oI R.1); omega) (by have := os_e6 (oI R.1); omega) (c_Lw_write hL k1) (fun X M1 h => by cases h.1) (fun v M1 h => ?_)
  obtain ⟨h1, g1, hL1, hg⟩ := h
  cases h1
  refine sm_istore d_law_1187 (by decide) rfl ?_
  refine sm_aload_n d_law_1189 rfl (j := 3) rfl ?_
  refine lw_md (r9 := some (.int V.1)) d_law_1190 cs_law_150 hL1 (As := []) rfl rfl (Nat.le_of_ble_eq_true rfl) (c_Md_write (b := b + 116) ⟨hL1.2.2.1, lo_fr.rf⟩ k2) (fun M3 hL3 => ?_)
  refine sm_istore d_law_1193 (by decide) rfl ?_
  refine sm_aload_n d_law_1195 rfl (j := 4) rfl ?_
  refine lw_th d_law_1196 cs_law_100 hL3 rfl (Nat.le_of_ble_eq_true rfl) (c_Md_thrown (b := b + 116) ⟨hL3.2.2.1, lo_fr.rf⟩) ?_
  refine sm_iload d_law_1199 (j := 1) rfl ?_
  refine sm_icmp_eq (tgt := 1206) d_law_1201 (by decide) (fun _ => ?_) (fun h9 => absurd k5 h9)
  refine sm_iload d_law_1206 (j := 1) rfl ?_
  have fin9 : sm_W G mf_law 1223 [(6, .int V.1), (5, .int (cd2 "java/lang/IllegalStateException" R.1)), (4, .int (nI (7 * c))), (3, .ref (b + 137)), (2, .ref (b + 116)), (1, .ref b), (0, .ref G.2.2.2.1)] [] M3 (2 * (196608 - zc R.2.2) + (512 - (c + 1))) (2 * (196608 - zc R.2.2) + 6 * (512 - (c + 1))) lw_1 := by
    refine sm_goto (tgt := 1600) d_law_1223 (by decide) ?_
    exact sm_drop2 (law_end kk hL3 k3 (k4.2 hz))
  refine sm_if_ne (tgt := 1223) d_law_1208 (by decide) (fun _ => fin9) (fun h0 => ?_)
  obtain ⟨u, hu⟩ := cd_00 h0
  have hu2 := k6 u hu
  have hg0 := hg u.toInt64 (by rw [hu]; rfl)
  refine sm_aload_n d_law_1211 rfl (j := 3) rfl ?_
  refine sm_iconst (v := 0) d_law_1212 (by decide) ?_
  refine sm_laload d_law_1213 hL3.2.2.2 in01 ?_
  refine sm_iload d_law_1214 (j := 0) rfl ?_
  refine sm_i2l d_law_1216 ?_
  refine sm_lcmp d_law_1217 ?_
  refine sm_if_eq (tgt := 1223) d_law_1218 (by decide) (fun _ => fin9) (fun h9 => absurd (lc_eq (by rw [← hu2]; exact hg0)) h9)
set_option maxHeartbeats 1600000 in
set_option maxRecDepth 100000 in
theorem law_15 {G : sm_G} {b c F : Nat} (hF : 70000 ≤ F) {M : sm_M} {w w' : wd} {Z : zd} {g : Nat → Int64} (hn : 7 * c + 7 ≤ G.2.2.2.2.1) (hN : G.2.2.2.2.1 ≤ 3584) (hL : lwi G b M w Z w' g) (hr : rel w Z w') (hz : czo Z) (kk : lw_K G b (c + 1)) : sm_W G mf_law 1226 [(4, .int (nI (7 * c))), (3, .ref (b + 137)), (2, .ref (b + 116)), (1, .ref b), (0, .ref G.2.2.2.1)] [] M (2 * (196608 - zc Z) + (512 - c)) (2 * (196608 - zc Z) + 6 * (512 - c)) lw_1 := by
  have hc : c ≤ 511 := by omega
  obtain ⟨R, V, k1, k2, k3, k4, k5⟩ := j_part hF hr (sv G c 1) (sv G c 2) (sv G c 3) (sv G c 4)
  have z1 := cgo_zc k4
  have z2 := czo_zc (k4.2 hz)
  refine sm_aload_n d_law_1226 rfl (j := 3) rfl ?_
  refine sm_scr (c := c) (k := 1) hN (by omega) d_law_1227 d_law_1228 d_law_1230 d_law_1231 d_law_1232 (j0 := 4) (j4 := 0) rfl rfl (by decide) ?_
  refine sm_scr (c := c) (k := 2) hN (by omega) d_law_1233 d_law_1234 d_law_1236 d_law_1237 d_law_1238 (j0 := 4) (j4 := 0) rfl rfl (by decide) ?_
  refine sm_scr (c := c) (k := 3) hN (by omega) d_law_1239 d_law_1240 d_law_1242 d_law_1243 d_law_1244 (j0 := 4) (j4 := 0) rfl rfl (by decide) ?_
  refine sm_scr (c := c) (k := 4) hN (by omega) d_law_1245 d_law_1246 d_law_1248 d_law_1249 d_law_1250 (j0 := 4) (j4 := 0) rfl rfl (by decide) ?_
  refine sm_callS (bc' := 2 * (196608 - zc R.2.2) + (512 - (c + 1))) (bs' := 2 * (196608 - zc R.2.2) + 6 * (512 - (c + 1))) d_law_1251 cs_law_151 rfl (As := [.ref b, .int (sv G c 1), .int (sv G c 2), .int (sv G c 3), .int (sv G c 4)]) rfl rfl (Nat.le_of_ble_eq_true rfl) (by have := os_e1 (oV R.1); omega) (by have := os_e6 (oV R.1); omega) (c_Lw_part hL (sv G c 1) (sv G c 2) (sv G c 3) (sv G c 4) k1) (fun X M1 h => by cases h.1) (fun v M1 h => ?_)
  obtain ⟨h1, g1, hL1, hg⟩ := h
  cases h1
  refine sm_istore d_law_1254 (by decide) rfl ?_
  refine sm_aload_n d_law_1256 rfl (j := 3) rfl ?_
  refine sm_scr (c := c) (k := 1) hN (by omega) d_law_1257 d_law_1258 d_law_1260 d_law_1261 d_law_1262 (j0 := 5) (j4 := 1) rfl rfl (by decide) ?_
  refine sm_scr (c := c) (k := 2) hN (by omega) d_law_1263 d_law_1264 d_law_1266 d_law_1267 d_law_1268 (j0 := 5) (j4 := 1) rfl rfl (by decide) ?_
  refine sm_scr (c := c) (k := 3) hN (by omega) d_law_1269 d_law_1270 d_law_1272 d_law_1273 d_law_1274 (j0 := 5) (j4 := 1) rfl rfl (by decide) ?_
  refine sm_scr (c := c) (k := 4) hN (by omega) d_law_1275 d_law_1276 d_law_1278 d_law_1279 d_law_1280 (j0 := 5) (j4 := 1) rfl rfl (by decide) ?_
  refine lw_md (r9 := none) d_law_1281 cs_law_153 hL1 (As := [.int (sv G c 1), .int (sv G c 2), .int (sv G c 3), .int (sv G c 4)]) rfl rfl (Nat.le_of_ble_eq_true rfl) (c_Md_part (b := b + 116) ⟨hL1.2.2.1, lo_fr.rf⟩ (sv G c 1) (sv G c 2) (sv G c 3) (sv G c 4) k2) (fun M3 hL3 => ?_)
  refine sm_aload_n d_law_1284 rfl (j := 3) rfl ?_
  refine lw_th d_law_1285 cs_law_100 hL3 rfl (Nat.le_of_ble_eq_true rfl) (c_Md_thrown (b := b + 116) ⟨hL3.2.2.1, lo_fr.rf⟩) ?_
  refine sm_iload d_law_1288 (j := 0) rfl ?_
  refine sm_icmp_eq (tgt := 1295) d_law_1290 (by decide) (fun _ => ?_) (fun h9 => absurd k5 h9)
  refine sm_goto (tgt := 1600) d_law_1295 (by decide) ?_
  exact sm_drop1 (law_end kk hL3 k3 (k4.2 hz))
set_option maxHeartbeats 1600000 in
set_option maxRecDepth 100000 in
theorem law_16 {G : sm_G} {b c F : Nat} (hF : 70000 ≤ F) {M : sm_M} {w w' : wd} {Z : zd} {g : Nat → Int64} (hn : 7 * c + 7 ≤ G.2.2.2.2.1) (hN : G.2.2.2.2.1 ≤ 3584) (hL : lwi G b M w Z w' g) (hr : rel w Z w') (hz : czo Z) (kk : lw_K G b (c + 1)) : sm_W G mf_law 1298 [(4, .int (nI (7 * c))), (3, .ref (b + 137)), (2, .ref (b + 116)), (1, .ref b), (0, .ref G.2.2.2.1)] [] M (2 * (196608 - zc Z) + (512 - c)) (2 * (196608 - zc Z) + 6 * (512 - c)) lw_1 := by
  have hc : c ≤ 511 := by omega
  obtain ⟨R, V, k1, k2, k3, k4, k5⟩ := j_mark hF hr (sv G c 1)
  have z1 := cgo_zc k4
  have z2 := czo_zc (k4.2 hz)
  refine sm_aload_n d_law_1298 rfl (j := 3) rfl ?_
  refine sm_scr (c := c) (k := 1) hN (by omega) d_law_1299 d_law_1300 d_law_1302 d_law_1303 d_law_1304 (j0 := 4) (j4 := 0) rfl rfl (by decide) ?_
  refine sm_callS (bc' := 2 * (196608 - zc R.2.2) + (512 - (c + 1))) (bs' := 2 * (196608 - zc R.2.2) + 6 * (512 - (c + 1))) d_law_1305 cs_law_154 rfl (As := [.ref b, .int (sv G c 1)]) rfl rfl (Nat.le_of_ble_eq_true rfl) (by have := os_e1 (oV R.1); omega) (by have := os_e6 (oV R.1); omega) (c_Lw_mark hL (sv G c 1) k1) (fun X M1 h => by cases h.1) (fun v M1 h => ?_)
  obtain ⟨h1, g1, hL1, hg⟩ := h
  cases h1
  refine sm_istore d_law_1308 (by decide) rfl ?_
  refine sm_aload_n d_law_1310 rfl (j := 3) rfl ?_
  refine sm_scr (c := c) (k := 1) hN (by omega) d_law_1311 d_law_1312 d_law_1314 d_law_1315 d_law_1316 (j0 := 5) (j4 := 1) rfl rfl (by decide) ?_
  refine lw_md (r9 := none) d_law_1317 cs_law_157 hL1 (As := [.int (sv G c 1)]) rfl rfl (Nat.le_of_ble_eq_true rfl) (c_Md_mark (b := b + 116) ⟨hL1.2.2.1, lo_fr.rf⟩ (sv G c 1) k2) (fun M3 hL3 => ?_)
  refine sm_aload_n d_law_1320 rfl (j := 3) rfl ?_
  refine lw_th d_law_1321 cs_law_100 hL3 rfl (Nat.le_of_ble_eq_true rfl) (c_Md_thrown (b := b + 116) ⟨hL3.2.2.1, lo_fr.rf⟩) ?_
  refine sm_iload d_law_1324 (j := 0) rfl ?_
  refine sm_icmp_eq (tgt := 1331) d_law_1326 (by decide) (fun _ => ?_) (fun h9 => absurd k5 h9)
  refine sm_goto (tgt := 1600) d_law_1331 (by decide) ?_
  exact sm_drop1 (law_end kk hL3 k3 (k4.2 hz))
set_option maxHeartbeats 1600000 in
set_option maxRecDepth 100000 in
theorem law_17 {G : sm_G} {b c F : Nat} (hF : 70000 ≤ F) {M : sm_M} {w w' : wd} {Z : zd} {g : Nat → Int64} (hn : 7 * c + 7 ≤ G.2.2.2.2.1) (hN : G.2.2.2.2.1 ≤ 3584) (hL : lwi G b M w Z w' g) (hr : rel w Z w') (hz : czo Z) (kk : lw_K G b (c + 1)) : sm_W G mf_law 1334 [(4, .int (nI (7 * c))), (3, .ref (b + 137)), (2, .ref (b + 116)), (1, .ref b), (0, .ref G.2.2.2.1)] [] M (2 * (196608 - zc Z) + (512 - c)) (2 * (196608 - zc Z) + 6 * (512 - c)) lw_1 := by
  have hc : c ≤ 511 := by omega
  obtain ⟨R, V, k1, k2, k3, k4, k5⟩ := j_spoil hF hr (sv G c 1) (sv G c 2)
  have z1 := cgo_zc k4
  have z2 := czo_zc (k4.2 hz)
  refine sm_aload_n d_law_1334 rfl (j := 3) rfl ?_
  refine sm_scr (c := c) (k := 1) hN (by omega) d_law_1335 d_law_1336 d_law_1338 d_law_1339 d_law_1340 (j0 := 4) (j4 := 0) rfl rfl (by decide) ?_
  refine sm_scr (c := c) (k := 2) hN (by omega) d_law_1341 d_law_1342 d_law_1344 d_law_1345 d_law_1346 (j0 := 4) (j4 := 0) rfl rfl (by decide) ?_
  refine sm_callS (bc' := 2 * (196608 - zc R.2.2) + (512 - (c + 1))) (bs' := 2 * (196608 - zc R.2.2) + 6 * (512 - (c + 1))) d_law_1347 cs_law_158 rfl (As := [.ref b, .int (sv G c 1), .int (sv G c 2)]) rfl rfl (Nat.le_of_ble_eq_true rfl) (by have := os_e1 (oV R.1); omega) (by have := os_e6 (oV R.1); omega) (c_Lw_spoil hL (sv G c 1) (sv G c 2) k1) (fun X M1 h => by cases h.1) (fun v M1 h => ?_)
  obtain ⟨h1, g1, hL1, hg⟩ := h
  cases h1
  refine sm_istore d_law_1350 (by decide) rfl ?_
  refine sm_aload_n d_law_1352 rfl (j := 3) rfl ?_
  refine sm_scr (c := c) (k := 1) hN (by omega) d_law_1353 d_law_1354 d_law_1356 d_law_1357 d_law_1358 (j0 := 5) (j4 := 1) rfl rfl (by decide) ?_
  refine sm_scr (c := c) (k := 2) hN (by omega) d_law_1359 d_law_1360 d_law_1362 d_law_1363 d_law_1364 (j0 := 5) (j4 := 1) rfl rfl (by decide) ?_
  refine lw_md (r9 := none) d_law_1365 cs_law_161 hL1 (As := [.int (sv G c 1), .int (sv G c 2)]) rfl rfl (Nat.le_of_ble_eq_true rfl) (c_Md_spoil (b := b + 116) ⟨hL1.2.2.1, lo_fr.rf⟩ (sv G c 1) (sv G c 2) k2) (fun M3 hL3 => ?_)
  refine sm_aload_n d_law_1368 rfl (j := 3) rfl ?_
  refine lw_th d_law_1369 cs_law_100 hL3 rfl (Nat.le_of_ble_eq_true rfl) (c_Md_thrown (b := b + 116) ⟨hL3.2.2.1, lo_fr.rf⟩) ?_
  refine sm_iload d_law_1372 (j := 0) rfl ?_
  refine sm_icmp_eq (tgt := 1379) d_law_1374 (by decide) (fun _ => ?_) (fun h9 => absurd k5 h9)
  refine sm_goto (tgt := 1600) d_law_1379 (by decide) ?_
  exact sm_drop1 (law_end kk hL3 k3 (k4.2 hz))
set_option maxHeartbeats 1600000 in
set_option maxRecDepth 100000 in
theorem law_18 {G : sm_G} {b c F : Nat} (hF : 70000 ≤ F) {M : sm_M} {w w' : wd} {Z : zd} {g : Nat → Int64} (hn : 7 * c + 7 ≤ G.2.2.2.2.1) (hN : G.2.2.2.2.1 ≤ 3584) (hL : lwi G b M w Z w' g) (hr : rel w Z w') (hz : czo Z) (kk : lw_K G b (c + 1)) : sm_W G mf_law 1382 [(4, .int (nI (7 * c))), (3, .ref (b + 137)), (2, .ref (b + 116)), (1, .ref b), (0, .ref G.2.2.2.1)] [] M (2 * (196608 - zc Z) + (512 - c)) (2 * (196608 - zc Z) + 6 * (512 - c)) lw_1 := by
  have hc : c ≤ 511 := by omega
  obtain ⟨R, V, k1, k2, k3, k4, k5⟩ := j_scan hF hr
  have z1 := cgo_zc k4
  have z2 := czo_zc (k4.2 hz)
  refine sm_aload_n d_law_1382 rfl (j := 3) rfl ?_
  refine sm_callV (b := b) (bc' := 2 * (196608 - zc R.2.2) + (512 - (c + 1))) (bs' := 2 * (196608 - zc R.2.2) + 6 * (512 - (c + 1))) d_law_1383 cs_law_162 rfl (hL.1 0 _ cl_0) (As := []) rfl rfl (Nat.le_of_ble_eq_true rfl) (by have := os_e1 (oI R.1); omega) (by have := os_e6 (oI R.1); omega) (c_SM_scan hL.os k1) (fun X M1 h => ?_) (fun v M1 h => ?_)
  · have e := h.1; rw [k5] at e; cases e
  obtain ⟨h1, h2⟩ := h
  rw [k5] at h1
  cases h1
  have hL2 := hL.go h2
  refine sm_aload_n d_law_1386 rfl (j := 2) rfl ?_
  refine lw_md (r9 := some (.int V.1)) d_law_1387 cs_law_165 hL2 (As := []) rfl rfl (Nat.le_of_ble_eq_true rfl) (c_Md_scan (b := b + 116) ⟨hL2.2.2.1, lo_fr.rf⟩ k2) (fun M2 hL3 => ?_)
  refine sm_icmp_eq (tgt := 1600) d_law_1390 (by decide) (fun _ => ?_) (fun h9 => absurd rfl h9)
  exact law_end kk hL3 k3 (k4.2 hz)
set_option maxHeartbeats 1600000 in
set_option maxRecDepth 100000 in
theorem law_19 {G : sm_G} {b c F : Nat} (hF : 70000 ≤ F) {M : sm_M} {w w' : wd} {Z : zd} {g : Nat → Int64} (hn : 7 * c + 7 ≤ G.2.2.2.2.1) (hN : G.2.2.2.2.1 ≤ 3584) (hL : lwi G b M w Z w' g) (hr : rel w Z w') (hz : czo Z) (kk : lw_K G b (c + 1)) : sm_W G mf_law 1395 [(4, .int (nI (7 * c))), (3, .ref (b + 137)), (2, .ref (b + 116)), (1, .ref b), (0, .ref G.2.2.2.1)] [] M (2 * (196608 - zc Z) + (512 - c)) (2 * (196608 - zc Z) + 6 * (512 - c)) lw_1 := by
  have hc : c ≤ 511 := by omega
  obtain ⟨k1, k3⟩ := j_place hF hr
  have z2 := czo_zc hz
  refine sm_aload_n d_law_1395 rfl (j := 3) rfl ?_
  refine sm_callV (b := b) (bc' := 2 * (196608 - zc Z) + (512 - (c + 1))) (bs' := 2 * (196608 - zc Z) + 6 * (512 - (c + 1))) d_law_1396 cs_law_166 rfl (hL.1 0 _ cl_0) (As := []) rfl rfl (Nat.le_of_ble_eq_true rfl) (by show 0 + _ ≤ _; omega) (by show 0 + _ ≤ _; omega) (c_SM_place hL.os k1) (fun X M1 h => ?_) (fun v M1 h => ?_)
  · cases h.1
  obtain ⟨h1, h2⟩ := h
  cases h1
  have hL2 := hL.go h2
  refine sm_aload_n d_law_1399 rfl (j := 2) rfl ?_
  refine lw_md (r9 := some (.int (fn_Md_place w').1)) d_law_1400 cs_law_169 hL2 (As := []) rfl rfl (Nat.le_of_ble_eq_true rfl) (c_Md_place (b := b + 116) ⟨hL2.2.2.1, lo_fr.rf⟩) (fun M2 hL3 => ?_)
  refine sm_icmp_eq (tgt := 1600) d_law_1403 (by decide) (fun _ => ?_) (fun h9 => absurd rfl h9)
  exact law_end kk hL3 k3 hz
set_option maxHeartbeats 1600000 in
set_option maxRecDepth 100000 in
theorem law_20 {G : sm_G} {b c F : Nat} (hF : 70000 ≤ F) {M : sm_M} {w w' : wd} {Z : zd} {g : Nat → Int64} (hn : 7 * c + 7 ≤ G.2.2.2.2.1) (hN : G.2.2.2.2.1 ≤ 3584) (hL : lwi G b M w Z w' g) (hr : rel w Z w') (hz : czo Z) (kk : lw_K G b (c + 1)) : sm_W G mf_law 1408 [(4, .int (nI (7 * c))), (3, .ref (b + 137)), (2, .ref (b + 116)), (1, .ref b), (0, .ref G.2.2.2.1)] [] M (2 * (196608 - zc Z) + (512 - c)) (2 * (196608 - zc Z) + 6 * (512 - c)) lw_1 := by
  have hc : c ≤ 511 := by omega
  obtain ⟨R, V, k1, k2, k3, k4, k5, k6⟩ := j_use hF hr (sv G c 1)
  have z1 := cgo_zc k4
  have z2 := czo_zc (k4.2 hz)
  refine sm_aload_n d_law_1408 rfl (j := 3) rfl ?_
  refine sm_scr (c := c) (k := 1) hN (by omega) d_law_1409 d_law_1410 d_law_1412 d_law_1413 d_law_1414 (j0 := 4) (j4 := 0) rfl rfl (by decide) ?_
  refine sm_aload_n d_law_1415 rfl (j := 1) rfl ?_
  refine sm_callS (bc' := 2 * (196608 - zc R.2.2) + (512 - (c + 1))) (bs' := 2 * (196608 - zc R.2.2) + 6 * (512 - (c + 1))) d_law_1416 cs_law_170 rfl (As := [.ref b, .int (sv G c 1), .ref (b + 137)]) rfl rfl (Nat.le_of_ble_eq_true rfl) (by have := os_e1 (oI R.1); omega) (by have := os_e6 (oI R.1); omega) (c_Lw_use hL (sv G c 1) k1) (fun X M1 h => by cases h.1) (fun v M1 h => ?_)
  obtain ⟨h1, g1, hL1, hg⟩ := h
  cases h1
  refine sm_istore d_law_1419 (by decide) rfl ?_
  refine sm_aload_n d_law_1421 rfl (j := 3) rfl ?_
  refine sm_scr (c := c) (k := 1) hN (by omega) d_law_1422 d_law_1423 d_law_1425 d_law_1426 d_law_1427 (j0 := 5) (j4 := 1) rfl rfl (by decide) ?_
  refine lw_md (r9 := some (.int V.1)) d_law_1428 cs_law_172 hL1 (As := [.int (sv G c 1)]) rfl rfl (Nat.le_of_ble_eq_true rfl) (c_Md_use (b := b + 116) ⟨hL1.2.2.1, lo_fr.rf⟩ (sv G c 1) k2) (fun M3 hL3 => ?_)
  refine sm_istore d_law_1431 (by decide) rfl ?_
  refine sm_aload_n d_law_1433 rfl (j := 4) rfl ?_
  refine lw_th d_law_1434 cs_law_100 hL3 rfl (Nat.le_of_ble_eq_true rfl) (c_Md_thrown (b := b + 116) ⟨hL3.2.2.1, lo_fr.rf⟩) ?_
  refine sm_iload d_law_1437 (j := 1) rfl ?_
  refine sm_icmp_eq (tgt := 1444) d_law_1439 (by decide) (fun _ => ?_) (fun h9 => absurd k5 h9)
  refine sm_iload d_law_1444 (j := 1) rfl ?_
  have fin9 : sm_W G mf_law 1461 [(6, .int V.1), (5, .int (cd2 "java/lang/IllegalStateException" R.1)), (4, .int (nI (7 * c))), (3, .ref (b + 137)), (2, .ref (b + 116)), (1, .ref b), (0, .ref G.2.2.2.1)] [] M3 (2 * (196608 - zc R.2.2) + (512 - (c + 1))) (2 * (196608 - zc R.2.2) + 6 * (512 - (c + 1))) lw_1 := by
    refine sm_goto (tgt := 1600) d_law_1461 (by decide) ?_
    exact sm_drop2 (law_end kk hL3 k3 (k4.2 hz))
  refine sm_if_ne (tgt := 1461) d_law_1446 (by decide) (fun _ => fin9) (fun h0 => ?_)
  obtain ⟨u, hu⟩ := cd_00 h0
  have hu2 := k6 u hu
  have hg0 := hg u.toInt64 (by rw [hu]; rfl)
  refine sm_aload_n d_law_1449 rfl (j := 3) rfl ?_
  refine sm_iconst (v := 0) d_law_1450 (by decide) ?_
  refine sm_laload d_law_1451 hL3.2.2.2 in01 ?_
  refine sm_iload d_law_1452 (j := 0) rfl ?_
  refine sm_i2l d_law_1454 ?_
  refine sm_lcmp d_law_1455 ?_
  refine sm_if_eq (tgt := 1461) d_law_1456 (by decide) (fun _ => fin9) (fun h9 => absurd (lc_eq (by rw [← hu2]; exact hg0)) h9)
set_option maxHeartbeats 1600000 in
set_option maxRecDepth 100000 in
theorem law_21 {G : sm_G} {b c F : Nat} (hF : 70000 ≤ F) {M : sm_M} {w w' : wd} {Z : zd} {g : Nat → Int64} (hn : 7 * c + 7 ≤ G.2.2.2.2.1) (hN : G.2.2.2.2.1 ≤ 3584) (hL : lwi G b M w Z w' g) (hr : rel w Z w') (hz : czo Z) (kk : lw_K G b (c + 1)) : sm_W G mf_law 1464 [(4, .int (nI (7 * c))), (3, .ref (b + 137)), (2, .ref (b + 116)), (1, .ref b), (0, .ref G.2.2.2.1)] [] M (2 * (196608 - zc Z) + (512 - c)) (2 * (196608 - zc Z) + 6 * (512 - c)) lw_1 := by
  have hc : c ≤ 511 := by omega
  obtain ⟨R, V, k1, k2, k3, k4, k5, k6⟩ := j_head hF hr (sv G c 1) (sv G c 2)
  have z1 := cgo_zc k4
  have z2 := czo_zc (k4.2 hz)
  refine sm_aload_n d_law_1464 rfl (j := 3) rfl ?_
  refine sm_scr (c := c) (k := 1) hN (by omega) d_law_1465 d_law_1466 d_law_1468 d_law_1469 d_law_1470 (j0 := 4) (j4 := 0) rfl rfl (by decide) ?_
  refine sm_scr (c := c) (k := 2) hN (by omega) d_law_1471 d_law_1472 d_law_1474 d_law_1475 d_law_1476 (j0 := 4) (j4 := 0) rfl rfl (by decide) ?_
  refine sm_aload_n d_law_1477 rfl (j := 1) rfl ?_
  refine sm_callS (bc' := 2 * (196608 - zc R.2.2) + (512 - (c + 1))) (bs' := 2 * (196608 - zc R.2.2) + 6 * (512 - (c + 1))) d_law_1478 cs_law_173 rfl (As := [.ref b, .int (sv G c 1), .int (sv G c 2), .ref (b + 137)]) rfl rfl (Nat.le_of_ble_eq_true rfl) (by have := os_e1 (oI R.1); omega) (by have := os_e6 (oI R.1); omega) (c_Lw_head hL (sv G c 1) (sv G c 2) k1) (fun X M1 h => by cases h.1) (fun v M1 h => ?_)
  obtain ⟨h1, g1, hL1, hg⟩ := h
  cases h1
  refine sm_istore d_law_1481 (by decide) rfl ?_
  refine sm_aload_n d_law_1483 rfl (j := 3) rfl ?_
  refine sm_scr (c := c) (k := 1) hN (by omega) d_law_1484 d_law_1485 d_law_1487 d_law_1488 d_law_1489 (j0 := 5) (j4 := 1) rfl rfl (by decide) ?_
  refine sm_scr (c := c) (k := 2) hN (by omega) d_law_1490 d_law_1491 d_law_1493 d_law_1494 d_law_1495 (j0 := 5) (j4 := 1) rfl rfl (by decide) ?_
  refine lw_md (r9 := some (.int V.1)) d_law_1496 cs_law_176 hL1 (As := [.int (sv G c 1), .int (sv G c 2)]) rfl rfl (Nat.le_of_ble_eq_true rfl) (c_Md_head (b := b + 116) ⟨hL1.2.2.1, lo_fr.rf⟩ (sv G c 1) (sv G c 2) k2) (fun M3 hL3 => ?_)
  refine sm_istore d_law_1499 (by decide) rfl ?_
  refine sm_aload_n d_law_1501 rfl (j := 4) rfl ?_
  refine lw_th d_law_1502 cs_law_100 hL3 rfl (Nat.le_of_ble_eq_true rfl) (c_Md_thrown (b := b + 116) ⟨hL3.2.2.1, lo_fr.rf⟩) ?_
  refine sm_iload d_law_1505 (j := 1) rfl ?_
  refine sm_icmp_eq (tgt := 1512) d_law_1507 (by decide) (fun _ => ?_) (fun h9 => absurd k5 h9)
  refine sm_iload d_law_1512 (j := 1) rfl ?_
  have fin9 : sm_W G mf_law 1529 [(6, .int V.1), (5, .int (cd2 "java/lang/IllegalStateException" R.1)), (4, .int (nI (7 * c))), (3, .ref (b + 137)), (2, .ref (b + 116)), (1, .ref b), (0, .ref G.2.2.2.1)] [] M3 (2 * (196608 - zc R.2.2) + (512 - (c + 1))) (2 * (196608 - zc R.2.2) + 6 * (512 - (c + 1))) lw_1 := by
    refine sm_goto (tgt := 1600) d_law_1529 (by decide) ?_
    exact sm_drop2 (law_end kk hL3 k3 (k4.2 hz))
  refine sm_if_ne (tgt := 1529) d_law_1514 (by decide) (fun _ => fin9) (fun h0 => ?_)
  obtain ⟨u, hu⟩ := cd_00 h0
  have hu2 := k6 u hu
  have hg0 := hg u.toInt64 (by rw [hu]; rfl)
  refine sm_aload_n d_law_1517 rfl (j := 3) rfl ?_
  refine sm_iconst (v := 0) d_law_1518 (by decide) ?_
  refine sm_laload d_law_1519 hL3.2.2.2 in01 ?_
  refine sm_iload d_law_1520 (j := 0) rfl ?_
  refine sm_i2l d_law_1522 ?_
  refine sm_lcmp d_law_1523 ?_
  refine sm_if_eq (tgt := 1529) d_law_1524 (by decide) (fun _ => fin9) (fun h9 => absurd (lc_eq (by rw [← hu2]; exact hg0)) h9)
set_option maxHeartbeats 1600000 in
set_option maxRecDepth 100000 in
theorem law_22 {G : sm_G} {b c F : Nat} (hF : 70000 ≤ F) {M : sm_M} {w w' : wd} {Z : zd} {g : Nat → Int64} (hn : 7 * c + 7 ≤ G.2.2.2.2.1) (hN : G.2.2.2.2.1 ≤ 3584) (hL : lwi G b M w Z w' g) (hr : rel w Z w') (hz : czo Z) (kk : lw_K G b (c + 1)) : sm_W G mf_law 1532 [(4, .int (nI (7 * c))), (3, .ref (b + 137)), (2, .ref (b + 116)), (1, .ref b), (0, .ref G.2.2.2.1)] [] M (2 * (196608 - zc Z) + (512 - c)) (2 * (196608 - zc Z) + 6 * (512 - c)) lw_1 := by
  have hc : c ≤ 511 := by omega
  obtain ⟨R, V, k1, k2, k3, k5, k6⟩ := j_found hF hr (sv G c 1) (sv G c 2)
  have z1 : zc Z ≤ zc Z := Nat.le_refl _
  have z2 := czo_zc hz
  refine sm_aload_n d_law_1532 rfl (j := 3) rfl ?_
  refine sm_scr (c := c) (k := 1) hN (by omega) d_law_1533 d_law_1534 d_law_1536 d_law_1537 d_law_1538 (j0 := 4) (j4 := 0) rfl rfl (by decide) ?_
  refine sm_scr (c := c) (k := 2) hN (by omega) d_law_1539 d_law_1540 d_law_1542 d_law_1543 d_law_1544 (j0 := 4) (j4 := 0) rfl rfl (by decide) ?_
  refine sm_aload_n d_law_1545 rfl (j := 1) rfl ?_
  refine sm_callS (bc' := 2 * (196608 - zc Z) + (512 - (c + 1))) (bs' := 2 * (196608 - zc Z) + 6 * (512 - (c + 1))) d_law_1546 cs_law_177 rfl (As := [.ref b, .int (sv G c 1), .int (sv G c 2), .ref (b + 137)]) rfl rfl (Nat.le_of_ble_eq_true rfl) (by have := os_e1 (oI R); omega) (by have := os_e6 (oI R); omega) (c_Lw_found hL (sv G c 1) (sv G c 2) k1) (fun X M1 h => by cases h.1) (fun v M1 h => ?_)
  obtain ⟨h1, g1, hL1, hg⟩ := h
  cases h1
  refine sm_istore d_law_1549 (by decide) rfl ?_
  refine sm_aload_n d_law_1551 rfl (j := 3) rfl ?_
  refine sm_scr (c := c) (k := 1) hN (by omega) d_law_1552 d_law_1553 d_law_1555 d_law_1556 d_law_1557 (j0 := 5) (j4 := 1) rfl rfl (by decide) ?_
  refine sm_scr (c := c) (k := 2) hN (by omega) d_law_1558 d_law_1559 d_law_1561 d_law_1562 d_law_1563 (j0 := 5) (j4 := 1) rfl rfl (by decide) ?_
  refine lw_md (r9 := some (.int V.1)) d_law_1564 cs_law_179 hL1 (As := [.int (sv G c 1), .int (sv G c 2)]) rfl rfl (Nat.le_of_ble_eq_true rfl) (c_Md_found (b := b + 116) ⟨hL1.2.2.1, lo_fr.rf⟩ (sv G c 1) (sv G c 2) k2) (fun M3 hL3 => ?_)
  refine sm_istore d_law_1567 (by decide) rfl ?_
  refine sm_aload_n d_law_1569 rfl (j := 4) rfl ?_
  refine lw_th d_law_1570 cs_law_100 hL3 rfl (Nat.le_of_ble_eq_true rfl) (c_Md_thrown (b := b + 116) ⟨hL3.2.2.1, lo_fr.rf⟩) ?_
  refine sm_iload d_law_1573 (j := 1) rfl ?_
  refine sm_icmp_eq (tgt := 1580) d_law_1575 (by decide) (fun _ => ?_) (fun h9 => absurd k5 h9)
  refine sm_iload d_law_1580 (j := 1) rfl ?_
  have fin9 : sm_W G mf_law 1597 [(6, .int V.1), (5, .int (cd2 "java/lang/IllegalStateException" R)), (4, .int (nI (7 * c))), (3, .ref (b + 137)), (2, .ref (b + 116)), (1, .ref b), (0, .ref G.2.2.2.1)] [] M3 (2 * (196608 - zc Z) + (512 - (c + 1))) (2 * (196608 - zc Z) + 6 * (512 - (c + 1))) lw_1 := by
    refine sm_goto (tgt := 1600) d_law_1597 (by decide) ?_
    exact sm_drop2 (law_end kk hL3 k3 hz)
  refine sm_if_ne (tgt := 1597) d_law_1582 (by decide) (fun _ => fin9) (fun h0 => ?_)
  obtain ⟨u, hu⟩ := cd_00 h0
  have hu2 := k6 u hu
  have hg0 := hg u.toInt64 (by rw [hu]; rfl)
  refine sm_aload_n d_law_1585 rfl (j := 3) rfl ?_
  refine sm_iconst (v := 0) d_law_1586 (by decide) ?_
  refine sm_laload d_law_1587 hL3.2.2.2 in01 ?_
  refine sm_iload d_law_1588 (j := 0) rfl ?_
  refine sm_i2l d_law_1590 ?_
  refine sm_lcmp d_law_1591 ?_
  refine sm_if_eq (tgt := 1597) d_law_1592 (by decide) (fun _ => fin9) (fun h9 => absurd (lc_eq (by rw [← hu2]; exact hg0)) h9)
end JOIN0
section JOIN1
/-! the law's loop; the fresh objects -/
set_option maxRecDepth 100000 in
set_option maxHeartbeats 1600000 in
theorem law_loop {G : sm_G} {b F : Nat} (hF : 70000 ≤ F) (hN : G.2.2.2.2.1 ≤ 3584) : ∀ (d c : Nat), c + d = 512 → lw_K G b c := by
  intro d
  induction d with
  | zero =>
    intro c hc M w Z w' g hL hr hz
    have e : c = 512 := by omega
    subst e
    refine sm_iload d_law_23 (j := 0) rfl ?_
    refine sm_aload_n d_law_25 rfl (j := 4) rfl ?_
    refine sm_slen (v := nI G.2.2.2.2.1) d_law_26 rfl ?_
    refine sm_bipush (v := 7) d_law_27 (by decide) ?_
    refine sm_isub d_law_29 ?_
    refine sm_icmp_gt (tgt := 1606) d_law_30 (by decide) (fun _ => ?_) (fun h9 => absurd ((law_le hN (by omega)).mpr (by omega)) h9)
    refine sm_iconst (v := 1) d_law_1606 (by decide) ?_
    exact sm_ireturn d_law_1607 rfl rfl rfl
  | succ d ih =>
    intro c hc M w Z w' g hL hr hz
    have kk := ih (c + 1) (by omega)
    refine sm_iload d_law_23 (j := 0) rfl ?_
    refine sm_aload_n d_law_25 rfl (j := 4) rfl ?_
    refine sm_slen (v := nI G.2.2.2.2.1) d_law_26 rfl ?_
    refine sm_bipush (v := 7) d_law_27 (by decide) ?_
    refine sm_isub d_law_29 ?_
    refine sm_icmp_gt (tgt := 1606) d_law_30 (by decide) (fun _ => ?_) (fun h9 => ?_)
    · refine sm_iconst (v := 1) d_law_1606 (by decide) ?_
      exact sm_ireturn d_law_1607 rfl rfl rfl
    · have hn : 7 * c + 7 ≤ G.2.2.2.2.1 := Nat.le_of_not_lt (fun q => h9 ((law_le hN (by omega)).mpr q))
      refine sm_aload_n d_law_33 rfl (j := 4) rfl ?_
      refine sm_iload d_law_34 (j := 0) rfl ?_
      refine sm_sld d_law_36 (vp_in_iff.mpr (by rw [bn_i (by omega)]; omega)) ?_
      refine sm_bipush (v := 31) d_law_37 (by decide) ?_
      refine sm_iand d_law_39 ?_
      generalize G.2.2.2.2.2 (nI (7 * c)).toNatClampNeg &&& 31 = t
      by_cases h : t.toInt < 0 ∨ 22 < t.toInt
      · refine sm_tableOut (tgt := 1600) d_law_40 h (by decide) ?_
        exact sm_W.more (law_end kk hL hr hz) (by omega) (by omega)
      · rcases law_sw t h with e | e | e | e | e | e | e | e | e | e | e | e | e | e | e | e | e | e | e | e | e | e | e
        · exact sm_tableIn (tgt := 148) d_law_40 (by omega) (by omega) (by rw [e]; rfl) (by decide) (law_0 hF hn hN hL hr hz kk)
        · exact sm_tableIn (tgt := 159) d_law_40 (by omega) (by omega) (by rw [e]; rfl) (by decide) (law_1 hF hn hN hL hr hz kk)
        · exact sm_tableIn (tgt := 231) d_law_40 (by omega) (by omega) (by rw [e]; rfl) (by decide) (law_2 hF hn hN hL hr hz kk)
        · exact sm_tableIn (tgt := 303) d_law_40 (by omega) (by omega) (by rw [e]; rfl) (by decide) (law_3 hF hn hN hL hr hz kk)
        · exact sm_tableIn (tgt := 411) d_law_40 (by omega) (by omega) (by rw [e]; rfl) (by decide) (law_4 hF hn hN hL hr hz kk)
        · exact sm_tableIn (tgt := 543) d_law_40 (by omega) (by omega) (by rw [e]; rfl) (by decide) (law_5 hF hn hN hL hr hz kk)
        · exact sm_tableIn (tgt := 657) d_law_40 (by omega) (by omega) (by rw [e]; rfl) (by decide) (law_6 hF hn hN hL hr hz kk)
        · exact sm_tableIn (tgt := 729) d_law_40 (by omega) (by omega) (by rw [e]; rfl) (by decide) (law_7 hF hn hN hL hr hz kk)
        · exact sm_tableIn (tgt := 801) d_law_40 (by omega) (by omega) (by rw [e]; rfl) (by decide) (law_8 hF hn hN hL hr hz kk)
        · exact sm_tableIn (tgt := 861) d_law_40 (by omega) (by omega) (by rw [e]; rfl) (by decide) (law_9 hF hn hN hL hr hz kk)
        · exact sm_tableIn (tgt := 979) d_law_40 (by omega) (by omega) (by rw [e]; rfl) (by decide) (law_10 hF hn hN hL hr hz kk)
        · exact sm_tableIn (tgt := 1059) d_law_40 (by omega) (by omega) (by rw [e]; rfl) (by decide) (law_11 hF hn hN hL hr hz kk)
        · exact sm_tableIn (tgt := 1070) d_law_40 (by omega) (by omega) (by rw [e]; rfl) (by decide) (law_12 hF hn hN hL hr hz kk)
        · exact sm_tableIn (tgt := 1126) d_law_40 (by omega) (by omega) (by rw [e]; rfl) (by decide) (law_13 hF hn hN hL hr hz kk)
        · exact sm_tableIn (tgt := 1182) d_law_40 (by omega) (by omega) (by rw [e]; rfl) (by decide) (law_14 hF hn hN hL hr hz kk)
        · exact sm_tableIn (tgt := 1226) d_law_40 (by omega) (by omega) (by rw [e]; rfl) (by decide) (law_15 hF hn hN hL hr hz kk)
        · exact sm_tableIn (tgt := 1298) d_law_40 (by omega) (by omega) (by rw [e]; rfl) (by decide) (law_16 hF hn hN hL hr hz kk)
        · exact sm_tableIn (tgt := 1334) d_law_40 (by omega) (by omega) (by rw [e]; rfl) (by decide) (law_17 hF hn hN hL hr hz kk)
        · exact sm_tableIn (tgt := 1382) d_law_40 (by omega) (by omega) (by rw [e]; rfl) (by decide) (law_18 hF hn hN hL hr hz kk)
        · exact sm_tableIn (tgt := 1395) d_law_40 (by omega) (by omega) (by rw [e]; rfl) (by decide) (law_19 hF hn hN hL hr hz kk)
        · exact sm_tableIn (tgt := 1408) d_law_40 (by omega) (by omega) (by rw [e]; rfl) (by decide) (law_20 hF hn hN hL hr hz kk)
        · exact sm_tableIn (tgt := 1464) d_law_40 (by omega) (by omega) (by rw [e]; rfl) (by decide) (law_21 hF hn hN hL hr hz kk)
        · exact sm_tableIn (tgt := 1532) d_law_40 (by omega) (by omega) (by rw [e]; rfl) (by decide) (law_22 hF hn hN hL hr hz kk)
theorem w0c_z {a : Nat} (h0 : a ≠ 0) (h1 : a ≠ 1) (h2 : a ≠ 2) : w0c a = fun _ => 0 := by
  funext j
  unfold w0c fn_Pl_reset fn_Pl_setGeneral
  simp (disch := omega) only [u2n, f2n]
theorem w0c_p {a : Nat} (h0 : a ≠ 0) : w0c a = fn_Pl_reset wz a := by
  funext j
  unfold w0c
  simp (disch := omega) only [u2n]
  rfl
theorem w0m_z {a : Nat} (h0 : a ≠ 0) : w0m a = fun _ => 0 := by
  funext j
  unfold w0m
  rw [if_neg (by omega), if_neg (by omega)]
set_option maxRecDepth 100000 in
set_option maxHeartbeats 1600000 in
theorem cm_fresh {G : sm_G} {b : Nat} {M : sm_M} (h0 : M.1 b = some (smO b)) (hc : ∀ i e, (sm1 G b ++ (sm3 G b ++ sm4 G b ++ [smL b]))[i]? = some e → M.1 (b + 1 + i) = some e) : lo_at G cm_L b M w0c := by
  have g1 : ∀ i e, (sm1 G b)[i]? = some e → M.1 (b + (1 + i)) = some e := fun i e h => by
    have hlt : i < (sm1 G b).length := (List.getElem?_eq_some_iff.mp h).1
    have := hc i e (by rw [List.getElem?_append_left hlt]; exact h)
    rw [Nat.add_assoc] at this
    exact this
  have g2 : ∀ i e, (sm3 G b ++ sm4 G b ++ [smL b])[i]? = some e → M.1 (b + (101 + i)) = some e := fun i e h => by
    have := hc (100 + i) e (by rw [sm1_ix]; exact h)
    rw [show b + 1 + (100 + i) = b + (101 + i) by omega] at this
    exact this
  have g3 : ∀ c i e, c < 16 → i < 6 → (cpq G b c)[i]? = some e → M.1 (b + (5 + 6 * c + i)) = some e := fun c i e hc hi h => by
    have := g1 (4 + (6 * c + i)) e (by
      show (plP G b :: _ :: _ :: _ :: cpF G b 16)[4 + (6 * c + i)]? = _
      rw [Nat.add_comm 4, List.getElem?_cons_succ, List.getElem?_cons_succ, List.getElem?_cons_succ, List.getElem?_cons_succ, cpF_get G b hc hi]
      exact h)
    rw [show b + (1 + (4 + (6 * c + i))) = b + (5 + 6 * c + i) by omega] at this
    exact this
  intro a t hL
  have hlt := cl_lt hL
  by_cases hr : 5 ≤ a ∧ a < 101
  · obtain ⟨c, i, hc16, hi6, rfl⟩ : ∃ c i, c < 16 ∧ i < 6 ∧ a = 5 + 6 * c + i := ⟨(a - 5) / 6, (a - 5) % 6, by omega, by omega, by omega⟩
    rw [w0c_z (by omega) (by omega) (by omega)]
    rcases (show i = 0 ∨ i = 1 ∨ i = 2 ∨ i = 3 ∨ i = 4 ∨ i = 5 by omega) with rfl | rfl | rfl | rfl | rfl | rfl
    · have e9 := hL.symm.trans (cl_Cp hc16)
      cases e9
      exact g3 c 0 _ hc16 hi6 rfl
    · rw [show 5 + 6 * c + 1 = 6 + 6 * c by omega] at hL ⊢
      have e9 := hL.symm.trans (cl_Cd hc16)
      cases e9
      have := g3 c 1 _ hc16 hi6 rfl
      rw [show 5 + 6 * c + 1 = 6 + 6 * c by omega] at this
      exact this
    · rw [show 5 + 6 * c + 2 = 7 + 6 * c by omega] at hL ⊢
      have e9 := hL.symm.trans (cl_Pw hc16)
      cases e9
      have := g3 c 2 _ hc16 hi6 rfl
      rw [show 5 + 6 * c + 2 = 7 + 6 * c by omega] at this
      exact this
    · rw [show 5 + 6 * c + 3 = 8 + 6 * c by omega] at hL ⊢
      have e9 := hL.symm.trans (cl_Ph hc16)
      cases e9
      have := g3 c 3 _ hc16 hi6 rfl
      rw [show 5 + 6 * c + 3 = 8 + 6 * c by omega] at this
      exact this
    · rw [show 5 + 6 * c + 4 = 9 + 6 * c by omega] at hL ⊢
      have e9 := hL.symm.trans (cl_St hc16)
      cases e9
      have := g3 c 4 _ hc16 hi6 rfl
      rw [show 5 + 6 * c + 4 = 9 + 6 * c by omega] at this
      exact this
    · rw [show 5 + 6 * c + 5 = 10 + 6 * c by omega] at hL ⊢
      have e9 := hL.symm.trans (cl_Va hc16)
      cases e9
      have := g3 c 5 _ hc16 hi6 rfl
      rw [show 5 + 6 * c + 5 = 10 + 6 * c by omega] at this
      exact this
  · have hS : a = 0 ∨ a = 1 ∨ a = 2 ∨ a = 3 ∨ a = 4 ∨ a = 101 ∨ a = 102 ∨ a = 103 ∨ a = 104 ∨ a = 105 ∨ a = 106 ∨ a = 107 ∨ a = 108 ∨ a = 109 ∨ a = 110 ∨ a = 111 ∨ a = 112 ∨ a = 113 ∨ a = 114 ∨ a = 115 := by omega
    rcases hS with rfl | rfl | rfl | rfl | rfl | rfl | rfl | rfl | rfl | rfl | rfl | rfl | rfl | rfl | rfl | rfl | rfl | rfl | rfl | rfl
    · cases hL.symm.trans cl_0
      exact h0
    · cases hL.symm.trans cl_1
      rw [w0c_p (by decide)]
      exact g1 0 _ rfl
    · cases hL.symm.trans cl_2
      rw [w0c_p (by decide)]
      exact g1 1 _ rfl
    · cases hL.symm.trans (rfl : cm_L 3 = none)
    · cases hL.symm.trans cl_4
      rw [w0c_z (by decide) (by decide) (by decide)]
      exact g1 3 _ rfl
    · cases hL.symm.trans (rfl : cm_L 101 = none)
    · cases hL.symm.trans (rfl : cm_L 102 = none)
    · cases hL.symm.trans (rfl : cm_L 103 = none)
    · cases hL.symm.trans (rfl : cm_L 104 = none)
    · cases hL.symm.trans cl_105
      rw [w0c_z (by decide) (by decide) (by decide)]
      exact g2 4 _ rfl
    · cases hL.symm.trans (rfl : cm_L 106 = none)
    · cases hL.symm.trans (rfl : cm_L 107 = none)
    · cases hL.symm.trans cl_108
      rw [w0c_z (by decide) (by decide) (by decide)]
      exact g2 7 _ rfl
    · cases hL.symm.trans cl_109
      rw [w0c_z (by decide) (by decide) (by decide)]
      exact g2 8 _ rfl
    · cases hL.symm.trans cl_110
      rw [w0c_z (by decide) (by decide) (by decide)]
      exact g2 9 _ rfl
    · cases hL.symm.trans cl_111
      rw [w0c_z (by decide) (by decide) (by decide)]
      exact g2 10 _ rfl
    · cases hL.symm.trans cl_112
      rw [w0c_z (by decide) (by decide) (by decide)]
      exact g2 11 _ rfl
    · cases hL.symm.trans cl_113
      rw [w0c_z (by decide) (by decide) (by decide)]
      exact g2 12 _ rfl
    · cases hL.symm.trans cl_114
      rw [w0c_z (by decide) (by decide) (by decide)]
      exact g2 13 _ rfl
    · cases hL.symm.trans cl_115
      exact g2 14 _ rfl
theorem cz_fresh {G : sm_G} {b : Nat} {M : sm_M} (hz : b + 138 ≤ M.2) (hc : ∀ i e, (sm1 G b ++ (sm3 G b ++ sm4 G b ++ [smL b]))[i]? = some e → M.1 (b + 1 + i) = some e) : cz_at G b M zz0 := by
  have g1 : ∀ i e, (sm1 G b)[i]? = some e → M.1 (b + (1 + i)) = some e := fun i e h => by
    have hlt : i < (sm1 G b).length := (List.getElem?_eq_some_iff.mp h).1
    have := hc i e (by rw [List.getElem?_append_left hlt]; exact h)
    rw [Nat.add_assoc] at this
    exact this
  have g2 : ∀ i e, (sm3 G b ++ sm4 G b ++ [smL b])[i]? = some e → M.1 (b + (101 + i)) = some e := fun i e h => by
    have := hc (100 + i) e (by rw [sm1_ix]; exact h)
    rw [show b + 1 + (100 + i) = b + (101 + i) by omega] at this
    exact this
  have row : ∀ r q, M.1 r = some (rw0 q) → M.1 q = some (by0 G) → r < M.2 → q < M.2 → rw_at G M r q 256 [] := fun r q h1 h2 h3 h4 => ⟨fun _ => 0, h1, h2, by decide, ⟨0, by decide, by decide⟩, ⟨h3, h4⟩, fun _ => rfl, fun i hi => by cases hi⟩
  refine ⟨g1 2 _ rfl, hz, b + 102, b + 104, b + 107, row _ _ (g2 0 _ rfl) (g2 1 _ rfl) (by omega) (by omega), row _ _ (g2 2 _ rfl) (g2 3 _ rfl) (by omega) (by omega), row _ _ (g2 5 _ rfl) (g2 6 _ rfl) (by omega) (by omega), ⟨.inl rfl, .inr (.inl rfl), .inr (.inr (.inl rfl))⟩, by omega, by omega, by omega⟩
end JOIN1
section JOIN2
/-! the law from its entry -/
theorem md_fresh0 {G : sm_G} {b : Nat} {M : sm_M} (h0 : M.1 (b + 116) = some (.inr (10, [.int 0, .ref (b + 117), .int 0, .int 0, .ref (b + 117 + 1), .ref (b + 117 + 2), .ref (b + 117 + 3), .ref (b + 117 + 4), .int 0, .int (1), .int 0, .int 0, .int 0, .ref (b + 117 + 5), .ref (b + 117 + 6), .ref (b + 117 + 7), .ref (b + 117 + 8), .int 0, .ref (b + 117 + 9), .ref (b + 117 + 10), .int 0, .int 0, .int (-1), .int 0, .ref (b + 117 + 11), .ref (b + 117 + 12), .ref (b + 117 + 13), .ref (b + 117 + 14), .int 0, .ref (b + 117 + 15), .ref (b + 117 + 16), .ref (b + 117 + 17), .ref (b + 117 + 18), .ref (b + 117 + 19), .int 0, .int 0, .int 0])))
    (hc : ∀ i n, ([8, 16, 16, 16, 16, 128, 528, 528, 1552, 192, 65536, 16500, 16500, 16500, 16500, 256, 256, 256, 256, 256] : List Nat)[i]? = some n → M.1 (b + 117 + i) = some (.inl (G.2.1 1, n, .inl fun _ => 0))) : lo_at G md_L (b + 116) M w0m := by
  intro a t hL
  have hlt := md_lt hL
  by_cases ha : a = 0
  · subst ha
    have e9 : md_L 0 = some t := hL
    unfold md_L at e9
    cases e9
    exact h0
  · rw [w0m_z ha]
    have key : ∀ i n, a = i + 1 → t = .inl n → ([8, 16, 16, 16, 16, 128, 528, 528, 1552, 192, 65536, 16500, 16500, 16500, 16500, 256, 256, 256, 256, 256] : List Nat)[i]? = some n → M.1 (b + 116 + a) = some (lo_cell G (b + 116) (fun _ => 0) t) := fun i n e1 e2 h => by
      subst e1
      subst e2
      have := hc i n h
      rw [show b + 117 + i = b + 116 + (i + 1) by omega] at this
      exact this
    rcases (show a = 1 ∨ a = 2 ∨ a = 3 ∨ a = 4 ∨ a = 5 ∨ a = 6 ∨ a = 7 ∨ a = 8 ∨ a = 9 ∨ a = 10 ∨ a = 11 ∨ a = 12 ∨ a = 13 ∨ a = 14 ∨ a = 15 ∨ a = 16 ∨ a = 17 ∨ a = 18 ∨ a = 19 ∨ a = 20 by omega) with rfl | rfl | rfl | rfl | rfl | rfl | rfl | rfl | rfl | rfl | rfl | rfl | rfl | rfl | rfl | rfl | rfl | rfl | rfl | rfl
    · exact key 0 8 rfl (Option.some.inj hL.symm) rfl
    · exact key 1 16 rfl (Option.some.inj hL.symm) rfl
    · exact key 2 16 rfl (Option.some.inj hL.symm) rfl
    · exact key 3 16 rfl (Option.some.inj hL.symm) rfl
    · exact key 4 16 rfl (Option.some.inj hL.symm) rfl
    · exact key 5 128 rfl (Option.some.inj hL.symm) rfl
    · exact key 6 528 rfl (Option.some.inj hL.symm) rfl
    · exact key 7 528 rfl (Option.some.inj hL.symm) rfl
    · exact key 8 1552 rfl (Option.some.inj hL.symm) rfl
    · exact key 9 192 rfl (Option.some.inj hL.symm) rfl
    · exact key 10 65536 rfl (Option.some.inj hL.symm) rfl
    · exact key 11 16500 rfl (Option.some.inj hL.symm) rfl
    · exact key 12 16500 rfl (Option.some.inj hL.symm) rfl
    · exact key 13 16500 rfl (Option.some.inj hL.symm) rfl
    · exact key 14 16500 rfl (Option.some.inj hL.symm) rfl
    · exact key 15 256 rfl (Option.some.inj hL.symm) rfl
    · exact key 16 256 rfl (Option.some.inj hL.symm) rfl
    · exact key 17 256 rfl (Option.some.inj hL.symm) rfl
    · exact key 18 256 rfl (Option.some.inj hL.symm) rfl
    · exact key 19 256 rfl (Option.some.inj hL.symm) rfl
set_option maxRecDepth 100000 in
set_option maxHeartbeats 4000000 in
theorem law_start {G : sm_G} {M : sm_M} (hN : G.2.2.2.2.1 ≤ 3584) : sm_W G mf_law 0 [(0, .ref G.2.2.2.1)] [] M 601024 7293034 lw_1 := by
  refine sm_W.more (bc' := 392329 + 1) (bs' := 539808 + 7) (sm_new d_law_0 nw_Lw_8 ?_) (by decide) (by decide)
  refine sm_dup d_law_3 rfl ?_
  refine sm_callI (b := M.2) (bc' := 392214) (bs' := 530606) d_law_4 cs_law_86 rfl (As := []) rfl rfl (Nat.le_of_ble_eq_true rfl) (by decide) (by decide) (c_SM_init (b := M.2) rfl (va_up_self _ _ _)) (fun X M' h => by cases h.1) (fun v M2 h => ?_)
  obtain ⟨e, T2⟩ := h
  cases e
  have z2 : M2.2 = M.2 + 116 := by
    rw [T2.1, List.length_append, sm1_len]
    rfl
  refine sm_astore_n d_law_7 rfl (by decide) rfl ?_
  refine sm_W.more (bc' := 392213 + 1) (bs' := 530569 + 37) (sm_new d_law_8 nw_Lw_87 ?_) (by decide) (by decide)
  rw [z2]
  refine sm_dup d_law_11 rfl ?_
  refine sm_callI (b := M.2 + 116) (bc' := 392193) (bs' := 394753) d_law_12 cs_law_89 rfl (As := []) rfl rfl (Nat.le_of_ble_eq_true rfl) (by decide) (by decide) (c_Md_init (q := M.2 + 117) rfl (va_up_self _ _ _) (Nat.lt_succ_self _)) (fun X M' h => by cases h.1) (fun v M4 h => ?_)
  obtain ⟨e, T4⟩ := h
  cases e
  have z4 : M4.2 = M.2 + 137 := by
    rw [T4.1]
    rfl
  refine sm_astore_n d_law_15 rfl (by decide) rfl ?_
  refine sm_iconst (v := 1) d_law_16 (by decide) ?_
  refine sm_W.more (bc' := 392192 + 1) (bs' := 394752 + 1) (sm_newarr (ty := .long) (ti := 2) (N' := 1) (a0 := (1, .inr (.inl fun _ => 0))) d_law_17 mw_1668 rfl (fun C h => by cases h) rfl (fun cA => rfl) (by decide) (by decide) (by decide) ?_) (by decide) (by decide)
  rw [z4]
  refine sm_astore_n d_law_19 rfl (by decide) rfl ?_
  refine sm_iconst (v := 0) d_law_20 (by decide) ?_
  refine sm_istore d_law_21 (by decide) rfl ?_
  have f4 : ∀ x, x < M.2 + 116 → (va_up M4.1 (M.2 + 137) (some (.inl (G.2.1 2, 1, .inr (.inl fun _ => 0))))) x = M2.1 x := fun x hx =>
    (va_up_ne _ _ (by omega)).trans ((T4.2.2.2 x (Nat.lt_succ_of_lt hx) (by omega)).trans (va_up_ne _ _ (by omega)))
  have c2 : ∀ i e, (sm1 G M.2 ++ (sm3 G M.2 ++ sm4 G M.2 ++ [smL M.2]))[i]? = some e → (va_up M4.1 (M.2 + 137) (some (.inl (G.2.1 2, 1, .inr (.inl fun _ => 0))))) (M.2 + 1 + i) = some e := fun i e hi => by
    have hl : i < (sm1 G M.2 ++ (sm3 G M.2 ++ sm4 G M.2 ++ [smL M.2])).length := (List.getElem?_eq_some_iff.mp hi).1
    have hl2 : (sm1 G M.2 ++ (sm3 G M.2 ++ sm4 G M.2 ++ [smL M.2])).length = 115 := by
      rw [List.length_append, sm1_len]
      rfl
    exact (f4 _ (by omega)).trans (T2.2.2.1 i e hi)
  have hL : lwi G M.2 (va_up M4.1 (M.2 + 137) (some (.inl (G.2.1 2, 1, .inr (.inl fun _ => 0)))), M.2 + 137 + 1) w0c zz0 w0m (fun _ => 0) := by
    refine ⟨cm_fresh ((f4 _ (by omega)).trans T2.2.1) c2, cz_fresh (Nat.le_refl _) c2, md_fresh0 ((va_up_ne _ _ (by omega)).trans T4.2.1) (fun i n hi => ?_), va_up_self _ _ _⟩
    have hl : i < 20 := (List.getElem?_eq_some_iff.mp hi).1
    refine (va_up_ne _ _ (by omega)).trans (T4.2.2.1 i _ ?_)
    rcases (show i = 0 ∨ i = 1 ∨ i = 2 ∨ i = 3 ∨ i = 4 ∨ i = 5 ∨ i = 6 ∨ i = 7 ∨ i = 8 ∨ i = 9 ∨ i = 10 ∨ i = 11 ∨ i = 12 ∨ i = 13 ∨ i = 14 ∨ i = 15 ∨ i = 16 ∨ i = 17 ∨ i = 18 ∨ i = 19 by omega) with rfl | rfl | rfl | rfl | rfl | rfl | rfl | rfl | rfl | rfl | rfl | rfl | rfl | rfl | rfl | rfl | rfl | rfl | rfl | rfl <;> (cases hi; rfl)
  exact sm_W.more (law_loop (F := 70000) (Nat.le_refl _) hN 512 0 rfl _ w0c zz0 w0m (fun _ => 0) hL rel0 czo0) (by rw [zc0]; decide) (by rw [zc0]; decide)
end JOIN2
section JOIN3
/-! what holds at the entry -/
theorem sr_0 : Cond.stringRef "StreamMarks" 67 "no picture has these corners" ∈ lw_tbl := sm_t4 _ (List.mem_of_getElem? (i := 65) rfl)
theorem sr_1 : Cond.stringRef "StreamMarks" 85 "there is no picture" ∈ lw_tbl := sm_t4 _ (List.mem_of_getElem? (i := 114) rfl)
theorem sr_2 : Cond.stringRef "StreamMarks" 96 "the first tile misses the picture" ∈ lw_tbl := sm_t4 _ (List.mem_of_getElem? (i := 122) rfl)
theorem sr_3 : Cond.stringRef "StreamMarks" 104 "too many tiles" ∈ lw_tbl := sm_t4 _ (List.mem_of_getElem? (i := 125) rfl)
theorem sr_4 : Cond.stringRef "StreamMarks" 110 "no component has these numbers" ∈ lw_tbl := sm_t4 _ (List.mem_of_getElem? (i := 134) rfl)
theorem sr_5 : Cond.stringRef "StreamMarks" 115 "no more components" ∈ lw_tbl := sm_t4 _ (List.mem_of_getElem? (i := 135) rfl)
theorem sr_6 : Cond.stringRef "StreamMarks" 125 "no such order or layers" ∈ lw_tbl := sm_t4 _ (List.mem_of_getElem? (i := 145) rfl)
theorem sr_7 : Cond.stringRef "StreamMarks" 323 "no such component" ∈ lw_tbl := sm_t4 _ (List.mem_of_getElem? (i := 169) rfl)
theorem sr_8 : Cond.stringRef "StreamMarks" 145 "no coding has these numbers" ∈ lw_tbl := sm_t4 _ (List.mem_of_getElem? (i := 177) rfl)
theorem sr_9 : Cond.stringRef "StreamMarks" 156 "no precinct has these exponents" ∈ lw_tbl := sm_t4 _ (List.mem_of_getElem? (i := 187) rfl)
theorem sr_10 : Cond.stringRef "StreamMarks" 169 "no steps have these numbers" ∈ lw_tbl := sm_t4 _ (List.mem_of_getElem? (i := 198) rfl)
theorem sr_11 : Cond.stringRef "StreamMarks" 187 "no such value of steps" ∈ lw_tbl := sm_t4 _ (List.mem_of_getElem? (i := 207) rfl)
theorem sr_12 : Cond.stringRef "StreamMarks" 197 "no change has these numbers" ∈ lw_tbl := sm_t4 _ (List.mem_of_getElem? (i := 217) rfl)
theorem sr_13 : Cond.stringRef "StreamMarks" 202 "no more changes" ∈ lw_tbl := sm_t4 _ (List.mem_of_getElem? (i := 218) rfl)
theorem sr_14 : Cond.stringRef "StreamMarks" 325 "no such level" ∈ lw_tbl := sm_t4 _ (List.mem_of_getElem? (i := 235) rfl)
theorem sr_15 : Cond.stringRef "StreamMarks" 222 "the plan has none such" ∈ lw_tbl := sm_t5 _ (List.mem_of_getElem? (i := 16) rfl)
theorem sr_16 : Cond.stringRef "StreamMarks" 228 "not a byte" ∈ lw_tbl := sm_t5 _ (List.mem_of_getElem? (i := 25) rfl)
theorem sr_17 : Cond.stringRef "StreamMarks" 330 "the stream is full" ∈ lw_tbl := sm_t5 _ (List.mem_of_getElem? (i := 40) rfl)
theorem sr_18 : Cond.stringRef "StreamMarks" 243 "no such byte" ∈ lw_tbl := sm_t5 _ (List.mem_of_getElem? (i := 59) rfl)
theorem sr_19 : Cond.stringRef "StreamMarks" 248 "there is no picture or component" ∈ lw_tbl := sm_t5 _ (List.mem_of_getElem? (i := 68) rfl)
theorem sr_20 : Cond.stringRef "StreamMarks" 261 "no part has these numbers" ∈ lw_tbl := sm_t5 _ (List.mem_of_getElem? (i := 158) rfl)
theorem sr_21 : Cond.stringRef "StreamMarks" 275 "not a mark" ∈ lw_tbl := sm_t5 _ (List.mem_of_getElem? (i := 170) rfl)
theorem sr_22 : Cond.stringRef "StreamMarks" 313 "the stream is not scanned" ∈ lw_tbl := sm_t5 _ (List.mem_of_getElem? (i := 193) rfl)
theorem sr_23 : Cond.stringRef "StreamMarks" 336 "no such tile" ∈ lw_tbl := sm_t5 _ (List.mem_of_getElem? (i := 194) rfl)
theorem sr_24 : Cond.stringRef "StreamMarks" 311 "no such byte of heads" ∈ lw_tbl := sm_t5 _ (List.mem_of_getElem? (i := 216) rfl)
theorem sr_25 : Cond.stringRef "StreamMarks" 316 "no such part" ∈ lw_tbl := sm_t5 _ (List.mem_of_getElem? (i := 224) rfl)
theorem sr_all : ∀ q ∈ sm_strs, Cond.stringRef q.1 q.2.1 q.2.2 ∈ lw_tbl := List.forall_mem_cons.mpr ⟨sr_0, List.forall_mem_cons.mpr ⟨sr_1, List.forall_mem_cons.mpr ⟨sr_2, List.forall_mem_cons.mpr ⟨sr_3, List.forall_mem_cons.mpr ⟨sr_4, List.forall_mem_cons.mpr ⟨sr_5, List.forall_mem_cons.mpr ⟨sr_6, List.forall_mem_cons.mpr ⟨sr_7, List.forall_mem_cons.mpr ⟨sr_8, List.forall_mem_cons.mpr ⟨sr_9, List.forall_mem_cons.mpr ⟨sr_10, List.forall_mem_cons.mpr ⟨sr_11, List.forall_mem_cons.mpr ⟨sr_12, List.forall_mem_cons.mpr ⟨sr_13, List.forall_mem_cons.mpr ⟨sr_14, List.forall_mem_cons.mpr ⟨sr_15, List.forall_mem_cons.mpr ⟨sr_16, List.forall_mem_cons.mpr ⟨sr_17, List.forall_mem_cons.mpr ⟨sr_18, List.forall_mem_cons.mpr ⟨sr_19, List.forall_mem_cons.mpr ⟨sr_20, List.forall_mem_cons.mpr ⟨sr_21, List.forall_mem_cons.mpr ⟨sr_22, List.forall_mem_cons.mpr ⟨sr_23, List.forall_mem_cons.mpr ⟨sr_24, List.forall_mem_cons.mpr ⟨sr_25, fun _ h => absurd h List.not_mem_nil⟩⟩⟩⟩⟩⟩⟩⟩⟩⟩⟩⟩⟩⟩⟩⟩⟩⟩⟩⟩⟩⟩⟩⟩⟩⟩
theorem ls_us : Cond.laysStatic Bundle.tN "UNASSIGNED_STACK" Bundle.steD ∈ lw_tbl := sm_t4 _ (List.mem_of_getElem? (i := 50) rfl)
theorem ls_ss : Cond.laysStatic Bundle.tN "SUPPRESSED_SENTINEL" Bundle.listD ∈ lw_tbl := sm_t4 _ (List.mem_of_getElem? (i := 52) rfl)
theorem nc_all : ∀ q ∈ sm_ncs, Cond.not (.castable q.1 q.2) ∈ flatC (Cond.and given_1 narrow_1) := by decide +kernel
theorem en_S {C n d : String} {b : Nat} {s : State} (h1 : (Cond.laysStatic C n d).before #[Value.ref b] s = true) (h2 : (Cond.initialized C).before #[Value.ref b] s = true) (h3 : (Cond.isRef (.static C n d)).before #[Value.ref b] s = true) : sm_S C n d (fun q => s.heap.size ≤ q) s s.heap := by
  refine ⟨va_Zqof h1 h2 h3 (fun a h => Nat.not_le.mpr h), ?_⟩
  obtain ⟨c, k, i, f, a, cell, g1, g2, g3, g4, g5, g6, g7, g8, g9⟩ := Cond.laysStatic_spec h1
  exact ⟨c, k, i, f, a, cell, ⟨g1, g2, g3, g4, g9⟩, ⟨g5, g6, g7, g8⟩, Nat.not_le.mpr (Array.getElem?_eq_some_iff.mp g5).1⟩
theorem en_N {s : State} {b : Nat} (hts : ∀ w ∈ lw_tbl, w.before #[Value.ref b] s = true) : ∀ w ∈ sm_NW, va_Nw w s := by
  intro w hw
  have h1 := hts w (List.mem_filter.mp hw).1
  have h2 := (List.mem_filter.mp hw).2
  cases w <;> first | (simp [sm_isN] at h2; done) | exact va_Nw.of rfl h1 | (rename_i t9; cases t9 <;> first | (simp [sm_isN] at h2; done) | exact va_AO.of h1)
theorem en_K {s : State} {b : Nat} (hts : ∀ w ∈ lw_tbl, w.before #[Value.ref b] s = true) : ∃ (D : va_G) (ids : Nat → ClassId), ∀ (n : Nat) (X : Nat × Nat × (Nat → Int32)), va_K D sm_cl (sm_tys (D, ids, n, X)) s := by
  have hws : ∀ w ∈ sm_WS, w.before #[Value.ref b] s = true := fun w hw => hts w (List.mem_filter.mp hw).1
  obtain ⟨c0, i0, k0⟩ := u_known (ws := sm_WS) hws uw_SM (hws _ mw_25)
  obtain ⟨c1, i1, k1⟩ := u_known (ws := sm_WS) hws uw_Pl (hws _ mw_33)
  obtain ⟨c2, i2, k2⟩ := u_known (ws := sm_WS) hws uw_Cp (hws _ mw_40)
  obtain ⟨c3, i3, k3⟩ := u_known (ws := sm_WS) hws uw_Cd (hws _ mw_46)
  obtain ⟨c4, i4, k4⟩ := u_known (ws := sm_WS) hws uw_St (hws _ mw_85)
  obtain ⟨c5, i5, k5⟩ := u_known (ws := sm_WS) hws uw_Rw (hws _ mw_199)
  obtain ⟨c6, i6, k6⟩ := u_known (ws := sm_WS) hws uw_Sc (hws _ mw_215)
  obtain ⟨c7, i7, k7⟩ := u_known (ws := sm_WS) hws uw_Ps (hws _ mw_223)
  obtain ⟨c8, i8, k8⟩ := u_known (ws := sm_WS) hws uw_Pt (hws _ mw_233)
  obtain ⟨c9, i9, k9⟩ := u_known (ws := sm_WS) hws uw_Ld (hws _ mw_305)
  obtain ⟨c10, i10, k10⟩ := u_known (ws := sm_WS) hws uw_Md (hws _ mw_1187)
  obtain ⟨aB, kB, pB, b1, b2, b3⟩ := Cond.arrayClass_spec (hws _ mw_213)
  obtain ⟨aI, kI, pI, e1, e2, e3⟩ := Cond.arrayClass_spec (hws _ mw_83)
  obtain ⟨aJ, kJ, pJ, j1, j2, j3⟩ := Cond.arrayClass_spec (hws _ mw_1668)
  obtain ⟨pO, aO, kO, o1, -, o2, o3, o4⟩ := Cond.arrayOver_spec (hts _ (List.mem_filter.mp mn_39c).1)
  refine ⟨(fun k => [c0, c1, c2, c3, c4, c5, c6, c7, c8, c9, c10].getD k 0, fun k => [i0, i1, i2, i3, i4, i5, i6, i7, i8, i9, i10].getD k (fun _ => 0)), fun k => [aB, aI, aJ, aO].getD k 0, fun n X => ⟨fun c q hq => ?_, fun k q hk => ?_⟩⟩
  · have hlt : c < 11 := (List.getElem?_eq_some_iff.mp hq).1
    rcases (show c = 0 ∨ c = 1 ∨ c = 2 ∨ c = 3 ∨ c = 4 ∨ c = 5 ∨ c = 6 ∨ c = 7 ∨ c = 8 ∨ c = 9 ∨ c = 10 by omega) with rfl | rfl | rfl | rfl | rfl | rfl | rfl | rfl | rfl | rfl | rfl <;> (cases hq; assumption)
  · have hlt : k < 4 := (List.getElem?_eq_some_iff.mp hk).1
    rcases (show k = 0 ∨ k = 1 ∨ k = 2 ∨ k = 3 by omega) with rfl | rfl | rfl | rfl
    · cases hk
      exact ⟨fun n z => ⟨fun k h => (by cases h), kB, b2, pB, b3⟩, b1⟩
    · cases hk
      exact ⟨fun n z => ⟨fun k h => (by cases h), kI, e2, pI, e3⟩, e1⟩
    · cases hk
      exact ⟨fun n z => ⟨fun k h => (by cases h), kJ, j2, pJ, j3⟩, j1⟩
    · cases hk
      exact ⟨fun n z => ⟨fun k h => (by cases h), kO, o2, pO, o3⟩, kO, pO, o2, o3, o1, o4⟩
end JOIN3
section JOIN4
/-! the claim out of the walk of the law -/
def R_law : String := "StreamMarksLaw"
def lw_P (b : Addr) (xs : List Int32) (args : Array Value) (s : State) : Prop := args = #[.ref b] ∧ s.IntsAt b xs ∧ xs.length ≤ 3584 ∧ (Jvm.Cond.and given_1 narrow_1).before args s = true
def lw_Q (_ : Array Value) (s : State) (o : Outcome) (t : State) : Prop := o = .returned (some (.int 1)) ∧ Framed s o t [] 601024 7293034
def lw_Z (below : List Frame) (a : Array Value) (s : State) : State → Prop := fun t => ∃ o, t.status = .running ∧ Ended t below o ∧ lw_Q a s o t
/-- what holds at the law's entry: the machine, the code, the tables' words (any of lw_tbl by 'hts w (by decide +kernel)'), the script of L ints xs at the cell b, what the Statement gives of the start (any of its parts by flat_of_before) -/
def lw_At (p : Program) (s : State) (m : MethodId) (meth : Method) (c : Code) (b L : Nat) (xs : Nat → Int32) : Prop :=
  p.tables.exec = Jvm.exec ∧ c.code = code ∧ meth.sig.returnType = ret ∧ c.maxLocals = 7 ∧ s.vm.findClass R_law = some m.cls ∧ (∀ w ∈ lw_tbl, w.before #[Value.ref b] s = true) ∧ va_X b L xs s s.heap ∧ b < s.heap.size ∧ meth.locks = false ∧ (Jvm.Cond.and given_1 narrow_1).before #[Value.ref b] s = true
theorem whole_start {p : Program} {e : Env} {s : State} {m : MethodId} {below : List Frame} {meth : Method} {c : Code} (l : Launch) (hst : l.stackTraces = false) {b L : Nat} {xs : Nat → Int32} (hL : L ≤ 3584) (hname : meth.name = x.name) (htab : c.exceptionTable.toList = []) (C0 : lw_At p s m meth c b L xs) : W p l e room_1 s m #[Value.ref b] below meth c s.heap [] 0 0 (lw_Z below #[Value.ref b] s) (entryFrame m ([Value.ref b] : List Value).toArray 7) := by
  obtain ⟨hx, hb, hr, hml, hown, hts, hX, hbl, hlocks, hgv⟩ := C0
  have hws : ∀ w ∈ sm_WS, w.before #[Value.ref b] s = true := fun w hw => hts w (List.mem_filter.mp hw).1
  have hfl := flat_of_before _ hgv
  obtain ⟨D, ids, hK⟩ := en_K hts
  have hstr : ∀ q ∈ sm_strs, ∃ a, vk_R q.1 q.2.1 q.2.2 a s := fun q hq => by
    have h1 := hts _ (sr_all q hq)
    have hcls : q.1 = "StreamMarks" := by
      have h9 : ∀ q ∈ sm_strs, q.1 = "StreamMarks" := by decide +kernel
      exact h9 q hq
    obtain ⟨cC, hcC⟩ : ∃ cC, s.vm.findClass q.1 = some cC := by
      rw [hcls]
      obtain ⟨c0, i0, k0⟩ := u_known (ws := sm_WS) hws uw_SM (hws _ mw_25)
      exact ⟨c0, k0.2.1⟩
    obtain ⟨k, cf, i, a, -, -, -, -, -, h2⟩ := Cond.stringRef_spec hcC h1
    exact ⟨a, vk_R.of h1 h2⟩
  have hnc : ∀ q ∈ sm_ncs, va_Nc q.1 q.2 s := fun q hq => va_Nc.of (hfl _ (nc_all q hq))
  have hG : ∃ G : sm_G, G = (D, ids, s.heap.size, (b, L, xs)) := ⟨_, rfl⟩
  obtain ⟨G, hG⟩ := hG
  have hKG : sm_K G s := by
    subst hG
    exact ⟨hK _ _, en_N hts, hstr, hnc⟩
  have hZ : sm_Z G s s.heap := by
    subst hG
    exact ⟨en_S (hts _ ls_us) (hws _ mw_14) (hfl _ (by decide +kernel)), en_S (hts _ ls_ss) (hws _ mw_14) (hfl _ (by decide +kernel))⟩
  have hbase : G.2.2.1 = s.heap.size := by subst hG; rfl
  have hXG : sm_X G s s.heap := by
    subst hG
    exact ⟨hX, hbl⟩
  have hN : G.2.2.2.2.1 ≤ 3584 := by subst hG; exact hL
  have hbG : G.2.2.2.1 = b := by subst hG; rfl
  clear hG
  have E : sm_E G mf_law p l room_1 s m #[Value.ref b] meth c := ⟨hx, hb, hml, hown, hws, hr, hlocks, hname, htab, hst, Nat.le_refl _, Nat.le_refl _, hKG, hZ, Nat.le_of_eq hbase, hXG⟩
  have R0 : sm_R G ((fun _ => none), s.heap.size) s.heap := ⟨rfl, fun a e h => (by cases h)⟩
  have K0 := law_start (M := ((fun _ => none), s.heap.size)) hN
  rw [hbG] at K0
  have K := K0 p l e room_1 s m #[Value.ref b] below meth c s.heap [] _ 0 0 E R0 va_S.rf (lv_entry [Value.ref b] (n := 7) (by decide)) (Nat.le_of_eq (Nat.zero_add _)) (Nat.le_of_eq (Nat.zero_add _))
  rw [← lg_entry_eq] at K
  intro T hT X
  obtain ⟨t, a1, o, b1, b2, M', L9, hR', hF, hW, hsm, hL9, hcase⟩ := K T hT X
  rcases hcase with ⟨v, rfl, hv⟩ | ⟨q, X9, ce, -, hv, -⟩
  · have hv : (Sum.inl v : sm_O) = .inl (some (.int 1)) := hv
    cases hv
    refine ⟨t, a1, _, b1, b2, rfl, ⟨_, rfl⟩, hW, ?_⟩
    obtain ⟨e1, e2, e3, e4, e5, e6⟩ := hsm
    refine ⟨e1, e2, e3, e4, e5, fun a c9 h9 => ?_⟩
    obtain ⟨c8, f1, f2, f3, f4⟩ := e6 a c9 h9
    refine ⟨c8, f1, f2, f3, fun i _ => f4 i (fun hm => ?_)⟩
    have g1 := hL9 _ hm
    have g2 : a < s.heap.size := (Array.getElem?_eq_some_iff.mp h9).1
    have g3 : G.2.2.1 ≤ a := g1
    omega
  · have hv : (Sum.inr X9 : sm_O) = .inl (some (.int 1)) := hv
    cases hv
set_option maxHeartbeats 4000000 in
theorem lw_walk (l : Launch) (hst : l.stackTraces = false) (b : Addr) (xs : List Int32) : MetFree l x (headSpec (Jvm.Cond.code x code maxLocals ret :: tables_1) room_1) (lw_P b xs) (fun _ _ _ _ _ => True) lw_Q := by
  refine MetFree.of_bodyS (code := code) (maxLocals := maxLocals) (ret := ret) (by decide) ?_ ?_
  · intro args s m h hn
    obtain ⟨meth, c, h1, h2, h3, h4, h5, h6, -, -⟩ := Cond.code_spec hn (atoms_spec (ws := Jvm.Cond.code x code maxLocals ret :: tables_1) h _ List.mem_cons_self)
    exact ⟨meth, c, h1, h2, h3, h4, h5, h6⟩
  · intro p e s m args below meth c s₁ B hml0 hP _
    obtain ⟨rfl, hx, hbd, hgv⟩ := hP
    obtain ⟨scr, harrAt, hlist, hof, hsmall⟩ := hx
    obtain ⟨hcb, hkn, -, -⟩ := State.arrayAt?_spec harrAt
    have hown : s.vm.findClass R_law = some m.cls := findClass_of_methodNamed B.named
    have hts0 : ∀ c ∈ (Jvm.Cond.code x code maxLocals ret :: tables_1), c.before #[Value.ref b] s = true := atoms_spec (ws := Jvm.Cond.code x code maxLocals ret :: tables_1) B.pre
    have hts : ∀ w ∈ lw_tbl, w.before #[Value.ref b] s = true := k2_hts_sels lw_privs (fun w hw => hts0 w (List.mem_cons_of_mem _ hw)) lw_privs_ok
    have hml : c.maxLocals = 7 := B.maxLocals_eq (hts0 _ List.mem_cons_self)
    have htab : c.exceptionTable.toList = [] := by
      obtain ⟨meth9, c9, g1, g2, g3, g4, g5, g6, g7, -⟩ := Cond.code_spec B.named (hts0 _ List.mem_cons_self)
      cases Option.some.inj (g1.symm.trans B.method)
      cases Option.some.inj (g2.symm.trans (Stand.of_body B).code)
      rw [Array.isEmpty_iff.mp g7]
    have X₀ : Stand p l e room_1 s m #[Value.ref b] below meth c s₁ [] 0 0 := Stand.of_body B
    have hh0 : s₁.heap = s.heap := by rw [B.state]; rfl
    have hsz : scr.slots.size = xs.length := by rw [← Array.length_toList, hlist, List.length_map]
    have hval : ∀ j : Nat, j < xs.length → scr.slots[j]? = some (.int (xs.getD j 0)) := fun j hj => by
      rw [← Array.getElem?_toList, hlist]
      simp [hj]
    have hbl : b < s.heap.size := (Array.getElem?_eq_some_iff.mp hcb).1
    have hX : va_X b xs.length (fun j => xs.getD j 0) s s.heap := ⟨scr, hcb, hof, hkn, hsz, hval⟩
    have K : W p l e room_1 s m #[Value.ref b] below meth c s₁.heap [] 0 0 (lw_Z below #[Value.ref b] s) (entryFrame m ([Value.ref b] : List Value).toArray 7) := by
      rw [hh0]
      exact whole_start l hst hbd (name_of_methodNamed B.named B.method).1 htab ⟨B.exec, B.bytes, B.returns, hml, hown, hts, hX, hbl, B.notSynchronized, hgv⟩
    obtain ⟨t, a1, o, b1, b2, b3⟩ := K s₁ rfl X₀
    exact ⟨t, o, a1, b1, b2, b3⟩
theorem lw_pre_spec {args : Array Value} {s : State} (h : (Jvm.Cond.and given_1 narrow_1).before args s = true) (hr : rest_1_c.before args s = true) : ∃ (b : Addr) (xs : List Int32), lw_P b xs args s := by
  have hs := flat_of_before _ h
  have hq := flat_of_before _ hr
  have hc : (Cond.count 1).before args s = true := hs _ (by decide +kernel)
  have harr : (Cond.arrayOf (.arg 0) .int).before args s = true := hs _ (by decide +kernel)
  have hle : (Cond.le (.length (.arg 0)) (.int 3584)).before args s = true := hs _ (by decide +kernel)
  have hlen : (Cond.isInt (.length (.arg 0))).before args s = true := hq _ (by decide +kernel)
  have hall : (Cond.all (.arg 0) (.isInt (.elem (.arg 0) (.index 0)))).before args s = true := hq _ (by decide +kernel)
  obtain ⟨b, xs, hb, hx⟩ := State.ints_of_pre rfl harr hlen hall
  have hsm : xs.length < 2 ^ 31 := hx.choose_spec.2.2.2
  have hev : (Term.length (.arg 0)).eval args s none [] s = some (.int xs.length.toInt32) := hx.length_eval hb
  have hv := Cond.le_ints hev (show (Term.int 3584).eval args s none [] s = some (.int 3584) from rfl)
  have hd : xs.length.toInt32 ≤ 3584 := by
    simpa [Cond.before, Cond.holds, hv] using hle
  have hN : xs.length ≤ 3584 := (Int32.ofNat_le_ofNat hsm (by decide)).mp (show Int32.ofNat xs.length ≤ Int32.ofNat 3584 from hd)
  exact ⟨b, xs, Cond.one_arg hc (show args[0]? = some (.ref b) from hb), hx, hN, h⟩
theorem lw_comes (l : Launch) (hst : l.stackTraces = false) : Comes l x (Jvm.Cond.code x code maxLocals ret :: tables_1) room_1 (fun tb e args s => Calls_1 tb e args s ∧ rest_1 tb e args s ∧ Pre_1 tb e args s)
    (fun _ _ args s o t => lw_Q args s o t) := by
  intro p e ha hc hk s m args below hf hfit hheap happ hpre
  obtain ⟨b, xs, hP⟩ := lw_pre_spec hpre.2.2 hpre.2.1
  obtain ⟨k, o, h1, h2, h3, hQ⟩ := lw_walk l hst b xs p e ha hc hk s m args below hf ((Spec.applies_iff_loose hf).mp happ).1 hP trivial
  exact ⟨k, o, h1, h2, h3, hQ⟩
theorem lw_frame {s t : State} {o : Outcome} {args : Array Value} (h : Framed s o t [] 601024 7293034) :
    Framed s o t (fieldLocs frame_1_writes args s ++ arrayLocs frame_1_arrays args s ++ staticLocs frame_1_statics s) 601024 7293034 := h
theorem lw_limb (L : Cond) (hL : ∀ (args : Array Value) (s t : State), L.after args s (.returned (some (.int 1))) t = true) :
    ArmFor flags0 classFile x code maxLocals ret World_1 tables_1 room_1 Calls_1 rest_1 Pre_1
      (fun tb e a s o t => postC L tb e a s o t ∧ Framed s o t (fieldLocs frame_1_writes a s ++ arrayLocs frame_1_arrays a s ++ staticLocs frame_1_statics s) 601024 7293034) := by
  intro l hfl _ _ p e ha hc hk s m args below hf hfit hheap happ hpre
  have hst : l.stackTraces = false := by
    unfold Launch.stackTraces
    rw [hfl]
    decide +kernel
  obtain ⟨k, o, h1, h2, h3, rfl, hF⟩ := lw_comes l hst p e ha hc hk s m args below hf hfit hheap happ hpre
  exact ⟨k, _, h1, h2, h3, hL args s _, lw_frame hF⟩
theorem i_vc : Claimed_1_1 ∧ Claimed_1_2 := ⟨lw_limb limb_1_1 (fun args s t => by simp [limb_1_1, Cond.after, Cond.holds, Cond.value]), lw_limb limb_1_2 (fun args s t => Cond.after_iff.mpr (by
  first | (rw [show limb_1_2 = Cond.eq .result (.int 1) from rfl, Cond.eq_ints (x := 1) (y := 1) rfl rfl]; simp; done) | (simp [limb_1_2, Cond.value, Term.eval]; done)))⟩
end JOIN4
