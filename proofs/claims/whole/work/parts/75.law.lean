/-! the law's body, call by call -/
def lw_1 : sm_O → sm_M → Prop := fun o _ => o = .inl (some (.int 1))
def sv (G : sm_G) (c k : Nat) : Int32 := G.2.2.2.2.2 (7 * c + k)
theorem os_e1 (r : sm_O) : os_e r 1 ≤ 1 := by
  unfold os_e
  split <;> omega
theorem os_e6 (r : sm_O) : os_e r 6 ≤ 6 := by
  unfold os_e
  split <;> omega
theorem cd_0 {τ : Type} {o : τ ⊕ String} (h : cd1 o = 0) : ∃ u, o = .inl u := by
  cases o with
  | inl u => exact ⟨u, rfl⟩
  | inr x => exact absurd (show (1 : Int32) = 0 from h) (by decide)
theorem cd_00 {τ : Type} {e : String} {o : τ ⊕ String} (h : cd2 e o = 0) : ∃ u, o = .inl u := by
  cases o with
  | inl u => exact ⟨u, rfl⟩
  | inr x =>
    have h : (if x = e then (1 : Int32) else 2) = 0 := h
    split at h
    · exact absurd h (by decide)
    · exact absurd h (by decide)
theorem lc_eq {x y : Int64} (h : x = y) : lg_cmp x y = 0 := by
  subst h
  unfold lg_cmp
  simp
/-- what is left of the law at the head of its loop, with c calls behind it -/
def lw_K (G : sm_G) (b c : Nat) : Prop := ∀ (M : sm_M) (w : wd) (Z : zd) (w' : wd) (g : Nat → Int64), lwi G b M w Z w' g → rel w Z w' → czo Z → sm_W G mf_law 23 [(4, .int (nI (7 * c))), (3, .ref (b + 137)), (2, .ref (b + 116)), (1, .ref b), (0, .ref G.2.2.2.1)] [] M (2 * (196608 - zc Z) + (512 - c)) (2 * (196608 - zc Z) + 6 * (512 - c)) lw_1
section LWB
variable {G : sm_G} {b c : Nat} {M M1 : sm_M} {w w1 w' w1' : wd} {Z Z1 : zd} {g : Nat → Int64} {pc : Nat} {lv : List (Nat × Value)} {st rest : List Value} {bc bs : Nat} {Q : sm_O → sm_M → Prop}
theorem law_end (kk : lw_K G b (c + 1)) (hL : lwi G b M w Z w' g) (hr : rel w Z w') (hz : czo Z) : sm_W G mf_law 1600 [(4, .int (nI (7 * c))), (3, .ref (b + 137)), (2, .ref (b + 116)), (1, .ref b), (0, .ref G.2.2.2.1)] [] M (2 * (196608 - zc Z) + (512 - (c + 1))) (2 * (196608 - zc Z) + 6 * (512 - (c + 1))) lw_1 := by
  refine sm_iinc (v := nI (7 * (c + 1))) d_law_1600 (j := 0) rfl ?_ (by decide) rfl ?_
  · exact (show nI (7 * c) + nI 7 = _ from (bn_add _ _).trans (by rw [show 7 * c + 7 = 7 * (c + 1) by omega]))
  refine sm_goto (tgt := 23) d_law_1603 (by decide) ?_
  exact kk M w Z w' g hL hr hz
theorem sm_drop1 {v : Value} {l0 : List (Nat × Value)} {f : sm_F} (h : sm_W G f pc l0 st M bc bs Q) : sm_W G f pc ((5, v) :: l0) st M bc bs Q :=
  fun p l e R s m args below meth c H locs ls cells slots E r S L hc hs => h p l e R s m args below meth c H locs ls cells slots E r S ⟨L.1, L.2.1, fun q hq => L.2.2 q (List.mem_cons_of_mem _ hq)⟩ hc hs
theorem sm_drop2 {v u : Value} {l0 : List (Nat × Value)} {f : sm_F} (h : sm_W G f pc l0 st M bc bs Q) : sm_W G f pc ((6, u) :: (5, v) :: l0) st M bc bs Q :=
  fun p l e R s m args below meth c H locs ls cells slots E r S L hc hs => h p l e R s m args below meth c H locs ls cells slots E r S ⟨L.1, L.2.1, fun q hq => L.2.2 q (List.mem_cons_of_mem _ (List.mem_cons_of_mem _ hq))⟩ hc hs
theorem lw_md {index n : Nat} {g9 : sm_F} {As : List Value} {r9 : Option Value} {C : String} {T9 : u_T} {N : Nat} (hd : decode code pc = .ok (.invokevirtual index, 3)) (hg : sm_Call mf_law index g9 n ∧ Cond.instanceMethod g9.1 ∈ sm_WS ∧ Cond.selects C g9.1 g9.1 ∈ sm_WS ∧ sm_cl[10]? = some (C, T9, N)) (hL : lwi G b M w Z w' g) (hn : As.length = n) (hst : st = As.reverse ++ .ref (b + 116) :: rest) (hrest : (rest.map fun v => v.category).sum ≤ 12) (hC : sm_C G g9 (.ref (b + 116 + 0) :: As) M 0 0 (wd_Q G md_L (b + 116) M r9 w1'))
    (k : ∀ M1, lwi G b M1 w Z w1' g → sm_W G mf_law (pc + 3) lv (r9.toList ++ rest) M1 bc bs Q) : sm_W G mf_law pc lv st M bc bs Q := by
  refine sm_callV (b := b + 116) (ci := 10) (mc := 0) (ms := 0) (bc' := bc) (bs' := bs) hd hg rfl (hL.2.2.1 0 _ rfl) hn hst hrest (Nat.le_of_eq (Nat.zero_add _)) (Nat.le_of_eq (Nat.zero_add _)) hC (fun X M' h => by cases h.1) (fun v M' h => ?_)
  obtain ⟨h1, h2⟩ := h
  cases h1
  exact k M' (hL.md h2)
theorem lw_th {index n : Nat} {g9 : sm_F} {v : Value} {C : String} {T9 : u_T} {N : Nat} (hd : decode code pc = .ok (.invokevirtual index, 3)) (hg : sm_Call mf_law index g9 n ∧ Cond.instanceMethod g9.1 ∈ sm_WS ∧ Cond.selects C g9.1 g9.1 ∈ sm_WS ∧ sm_cl[10]? = some (C, T9, N)) (hL : lwi G b M w Z w' g) (hn : ([] : List Value).length = n) (hrest : (rest.map fun v => v.category).sum ≤ 12) (hC : sm_C G g9 [.ref (b + 116 + 0)] M 0 0 (sm_pu M v))
    (k : sm_W G mf_law (pc + 3) lv (v :: rest) M bc bs Q) : sm_W G mf_law pc lv (.ref (b + 116) :: rest) M bc bs Q :=
  sm_callVp (b := b + 116) (ci := 10) (As := []) hd hg rfl (hL.2.2.1 0 _ rfl) hn rfl hrest hC k
theorem sv_ix {k : Nat} {kv : Int32} (hk : kv = nI k) (hn : 7 * c + k < G.2.2.2.2.1) (hN : G.2.2.2.2.1 ≤ 3584) : vp_in (nI (7 * c) + kv) G.2.2.2.2.1 ∧ G.2.2.2.2.2 (nI (7 * c) + kv).toNatClampNeg = sv G c k := by
  subst hk
  rw [bn_add]
  refine ⟨vp_in_iff.mpr (by rw [bn_i (by omega)]; omega), ?_⟩
  unfold sv
  rw [sm_cl0 (by rw [bn_i (by omega)]; omega), bn_nn _ (by omega)]
theorem sm_scr {k j0 j4 : Nat} {ki : Int} (hN : G.2.2.2.2.1 ≤ 3584) (hn : 7 * c + k < G.2.2.2.2.1) (d1 : decode code pc = .ok (.aload_n 0, 1)) (d2 : decode code (pc + 1) = .ok (.iload 4, 2)) (d3 : decode code (pc + 3) = .ok (.iconst ki, 1)) (d4 : decode code (pc + 4) = .ok (.iadd, 1)) (d5 : decode code (pc + 5) = .ok (.iaload, 1)) (h0 : lv[j0]? = some (0, .ref G.2.2.2.1)) (h4 : lv[j4]? = some (4, .int (nI (7 * c)))) (hk : Int32.ofInt ki = nI k)
    (k9 : sm_W G mf_law (pc + 6) lv (.int (sv G c k) :: rest) M bc bs Q) : sm_W G mf_law pc lv rest M bc bs Q := by
  refine sm_aload_n d1 rfl (j := j0) h0 ?_
  refine sm_iload d2 (j := j4) h4 ?_
  refine sm_iconst (v := nI k) d3 hk ?_
  refine sm_iadd d4 ?_
  obtain ⟨e1, e2⟩ := sv_ix (c := c) (k := k) rfl hn hN
  refine sm_sld d5 e1 ?_
  rw [e2]
  exact k9
theorem sm_scr6 {k j0 j4 : Nat} {ki : Int} (hN : G.2.2.2.2.1 ≤ 3584) (hn : 7 * c + k < G.2.2.2.2.1) (d1 : decode code pc = .ok (.aload_n 0, 1)) (d2 : decode code (pc + 1) = .ok (.iload 4, 2)) (d3 : decode code (pc + 3) = .ok (.bipush ki, 2)) (d4 : decode code (pc + 5) = .ok (.iadd, 1)) (d5 : decode code (pc + 6) = .ok (.iaload, 1)) (h0 : lv[j0]? = some (0, .ref G.2.2.2.1)) (h4 : lv[j4]? = some (4, .int (nI (7 * c)))) (hk : (Int8.ofInt ki).toInt32 = nI k)
    (k9 : sm_W G mf_law (pc + 7) lv (.int (sv G c k) :: rest) M bc bs Q) : sm_W G mf_law pc lv rest M bc bs Q := by
  refine sm_aload_n d1 rfl (j := j0) h0 ?_
  refine sm_iload d2 (j := j4) h4 ?_
  refine sm_bipush (v := nI k) d3 hk ?_
  refine sm_iadd d4 ?_
  obtain ⟨e1, e2⟩ := sv_ix (c := c) (k := k) rfl hn hN
  refine sm_sld d5 e1 ?_
  rw [e2]
  exact k9
theorem sm_bool {x : Int32} {o1 o2 : Int} {t0 t1 : Nat} (d1 : decode code pc = .ok (.ifCond .eq o1, 3)) (e1 : (pc : Int) + o1 = (t0 : Int)) (d2 : decode code (pc + 3) = .ok (.iconst 1, 1)) (d3 : decode code (pc + 4) = .ok (.goto o2, 3)) (e3 : ((pc + 4 : Nat) : Int) + o2 = (t1 : Int)) (d4 : decode code t0 = .ok (.iconst 0, 1)) (ht : t1 = t0 + 1)
    (k9 : sm_W G mf_law t1 lv (.int (bi (decide (¬ x = 0))) :: rest) M bc bs Q) : sm_W G mf_law pc lv (.int x :: rest) M bc bs Q := by
  refine sm_if_eq (tgt := t0) d1 e1 (fun h => ?_) (fun h => ?_)
  · refine sm_iconst (v := 0) d4 (by decide) ?_
    rw [decide_eq_false (fun q => q h)] at k9
    subst ht
    exact k9
  · refine sm_iconst (v := 1) d2 (by decide) ?_
    refine sm_goto (tgt := t1) d3 e3 ?_
    rw [decide_eq_true h] at k9
    exact k9
end LWB

set_option maxHeartbeats 1600000 in
set_option maxRecDepth 100000 in
theorem law_0 {G : sm_G} {b c F : Nat} (hF : 70000 ≤ F) {M : sm_M} {w w' : wd} {Z : zd} {g : Nat → Int64} (hn : 7 * c + 7 ≤ G.2.2.2.2.1) (hN : G.2.2.2.2.1 ≤ 3584) (hL : lwi G b M w Z w' g) (hr : rel w Z w') (hz : czo Z) (kk : lw_K G b (c + 1)) : sm_W G mf_law 148 [(4, .int (nI (7 * c))), (3, .ref (b + 137)), (2, .ref (b + 116)), (1, .ref b), (0, .ref G.2.2.2.1)] [] M (2 * (196608 - zc Z) + (512 - c)) (2 * (196608 - zc Z) + 6 * (512 - c)) lw_1 := by
  have hc : c ≤ 511 := by omega
  obtain ⟨R, V, k1, k2, k3, k4, k5⟩ := j_plan hF hr
  have z1 := cgo_zc k4
  have z2 := czo_zc (k4.2 hz)
  refine sm_aload_n d_law_148 rfl (j := 3) rfl ?_
  refine sm_callV (b := b) (bc' := 2 * (196608 - zc R.2.2) + (512 - (c + 1))) (bs' := 2 * (196608 - zc R.2.2) + 6 * (512 - (c + 1))) d_law_149 cs_law_90 rfl (hL.1 0 _ cl_0) (As := []) rfl rfl (Nat.le_of_ble_eq_true rfl) (by have := os_e1 (oV R.1); omega) (by have := os_e6 (oV R.1); omega) (c_SM_plan hL.os k1) (fun X M1 h => ?_) (fun v M1 h => ?_)
  · have e := h.1; rw [k5] at e; cases e
  obtain ⟨h1, h2⟩ := h
  rw [k5] at h1
  cases h1
  have hL2 := hL.go h2
  refine sm_aload_n d_law_152 rfl (j := 2) rfl ?_
  refine lw_md (r9 := none) d_law_153 cs_law_93 hL2 (As := []) rfl rfl (Nat.le_of_ble_eq_true rfl) (c_Md_plan (b := b + 116) ⟨hL2.2.2.1, lo_fr.rf⟩ k2) (fun M2 hL3 => ?_)
  refine sm_goto (tgt := 1600) d_law_156 (by decide) ?_
  exact law_end kk hL3 k3 (k4.2 hz)
set_option maxHeartbeats 1600000 in
set_option maxRecDepth 100000 in
theorem law_1 {G : sm_G} {b c F : Nat} (hF : 70000 ≤ F) {M : sm_M} {w w' : wd} {Z : zd} {g : Nat → Int64} (hn : 7 * c + 7 ≤ G.2.2.2.2.1) (hN : G.2.2.2.2.1 ≤ 3584) (hL : lwi G b M w Z w' g) (hr : rel w Z w') (hz : czo Z) (kk : lw_K G b (c + 1)) : sm_W G mf_law 159 [(4, .int (nI (7 * c))), (3, .ref (b + 137)), (2, .ref (b + 116)), (1, .ref b), (0, .ref G.2.2.2.1)] [] M (2 * (196608 - zc Z) + (512 - c)) (2 * (196608 - zc Z) + 6 * (512 - c)) lw_1 := by
  have hc : c ≤ 511 := by omega
  obtain ⟨R, V, k1, k2, k3, k4, k5⟩ := j_picture hF hr (sv G c 1) (sv G c 2) (sv G c 3) (sv G c 4)
  have z1 := cgo_zc k4
  have z2 := czo_zc (k4.2 hz)
  refine sm_aload_n d_law_159 rfl (j := 3) rfl ?_
  refine sm_scr (c := c) (k := 1) hN (by omega) d_law_160 d_law_161 d_law_163 d_law_164 d_law_165 (j0 := 4) (j4 := 0) rfl rfl (by decide) ?_
  refine sm_scr (c := c) (k := 2) hN (by omega) d_law_166 d_law_167 d_law_169 d_law_170 d_law_171 (j0 := 4) (j4 := 0) rfl rfl (by decide) ?_
  refine sm_scr (c := c) (k := 3) hN (by omega) d_law_172 d_law_173 d_law_175 d_law_176 d_law_177 (j0 := 4) (j4 := 0) rfl rfl (by decide) ?_
  refine sm_scr (c := c) (k := 4) hN (by omega) d_law_178 d_law_179 d_law_181 d_law_182 d_law_183 (j0 := 4) (j4 := 0) rfl rfl (by decide) ?_
  refine sm_callS (bc' := 2 * (196608 - zc R.2.2) + (512 - (c + 1))) (bs' := 2 * (196608 - zc R.2.2) + 6 * (512 - (c + 1))) d_law_184 cs_law_94 rfl (As := [.ref b, .int (sv G c 1), .int (sv G c 2), .int (sv G c 3), .int (sv G c 4)]) rfl rfl (Nat.le_of_ble_eq_true rfl) (by have := os_e1 (oV R.1); omega) (by have := os_e6 (oV R.1); omega) (c_Lw_picture hL (sv G c 1) (sv G c 2) (sv G c 3) (sv G c 4) k1) (fun X M1 h => by cases h.1) (fun v M1 h => ?_)
  obtain ⟨h1, g1, hL1, hg⟩ := h
  cases h1
  refine sm_istore d_law_187 (by decide) rfl ?_
  refine sm_aload_n d_law_189 rfl (j := 3) rfl ?_
  refine sm_scr (c := c) (k := 1) hN (by omega) d_law_190 d_law_191 d_law_193 d_law_194 d_law_195 (j0 := 5) (j4 := 1) rfl rfl (by decide) ?_
  refine sm_scr (c := c) (k := 2) hN (by omega) d_law_196 d_law_197 d_law_199 d_law_200 d_law_201 (j0 := 5) (j4 := 1) rfl rfl (by decide) ?_
  refine sm_scr (c := c) (k := 3) hN (by omega) d_law_202 d_law_203 d_law_205 d_law_206 d_law_207 (j0 := 5) (j4 := 1) rfl rfl (by decide) ?_
  refine sm_scr (c := c) (k := 4) hN (by omega) d_law_208 d_law_209 d_law_211 d_law_212 d_law_213 (j0 := 5) (j4 := 1) rfl rfl (by decide) ?_
  refine lw_md (r9 := none) d_law_214 cs_law_99 hL1 (As := [.int (sv G c 1), .int (sv G c 2), .int (sv G c 3), .int (sv G c 4)]) rfl rfl (Nat.le_of_ble_eq_true rfl) (w1' := V) (hC := by rw [← k2]; exact c_Md_picture (b := b + 116) ⟨hL1.2.2.1, lo_fr.rf⟩ (sv G c 1) (sv G c 2) (sv G c 3) (sv G c 4)) (fun M3 hL3 => ?_)
  refine sm_aload_n d_law_217 rfl (j := 3) rfl ?_
  refine lw_th d_law_218 cs_law_100 hL3 rfl (Nat.le_of_ble_eq_true rfl) (c_Md_thrown (b := b + 116) ⟨hL3.2.2.1, lo_fr.rf⟩) ?_
  refine sm_iload d_law_221 (j := 0) rfl ?_
  refine sm_icmp_eq (tgt := 228) d_law_223 (by decide) (fun _ => ?_) (fun h9 => absurd k5 h9)
  refine sm_goto (tgt := 1600) d_law_228 (by decide) ?_
  exact sm_drop1 (law_end kk hL3 k3 (k4.2 hz))
set_option maxHeartbeats 1600000 in
set_option maxRecDepth 100000 in
theorem law_2 {G : sm_G} {b c F : Nat} (hF : 70000 ≤ F) {M : sm_M} {w w' : wd} {Z : zd} {g : Nat → Int64} (hn : 7 * c + 7 ≤ G.2.2.2.2.1) (hN : G.2.2.2.2.1 ≤ 3584) (hL : lwi G b M w Z w' g) (hr : rel w Z w') (hz : czo Z) (kk : lw_K G b (c + 1)) : sm_W G mf_law 231 [(4, .int (nI (7 * c))), (3, .ref (b + 137)), (2, .ref (b + 116)), (1, .ref b), (0, .ref G.2.2.2.1)] [] M (2 * (196608 - zc Z) + (512 - c)) (2 * (196608 - zc Z) + 6 * (512 - c)) lw_1 := by
  have hc : c ≤ 511 := by omega
  obtain ⟨R, V, k1, k2, k3, k4, k5⟩ := j_tiles hF hr (sv G c 1) (sv G c 2) (sv G c 3) (sv G c 4)
  have z1 := cgo_zc k4
  have z2 := czo_zc (k4.2 hz)
  refine sm_aload_n d_law_231 rfl (j := 3) rfl ?_
  refine sm_scr (c := c) (k := 1) hN (by omega) d_law_232 d_law_233 d_law_235 d_law_236 d_law_237 (j0 := 4) (j4 := 0) rfl rfl (by decide) ?_
  refine sm_scr (c := c) (k := 2) hN (by omega) d_law_238 d_law_239 d_law_241 d_law_242 d_law_243 (j0 := 4) (j4 := 0) rfl rfl (by decide) ?_
  refine sm_scr (c := c) (k := 3) hN (by omega) d_law_244 d_law_245 d_law_247 d_law_248 d_law_249 (j0 := 4) (j4 := 0) rfl rfl (by decide) ?_
  refine sm_scr (c := c) (k := 4) hN (by omega) d_law_250 d_law_251 d_law_253 d_law_254 d_law_255 (j0 := 4) (j4 := 0) rfl rfl (by decide) ?_
  refine sm_callS (bc' := 2 * (196608 - zc R.2.2) + (512 - (c + 1))) (bs' := 2 * (196608 - zc R.2.2) + 6 * (512 - (c + 1))) d_law_256 cs_law_103 rfl (As := [.ref b, .int (sv G c 1), .int (sv G c 2), .int (sv G c 3), .int (sv G c 4)]) rfl rfl (Nat.le_of_ble_eq_true rfl) (by have := os_e1 (oV R.1); omega) (by have := os_e6 (oV R.1); omega) (c_Lw_tiles hL (sv G c 1) (sv G c 2) (sv G c 3) (sv G c 4) k1) (fun X M1 h => by cases h.1) (fun v M1 h => ?_)
  obtain ⟨h1, g1, hL1, hg⟩ := h
  cases h1
  refine sm_istore d_law_259 (by decide) rfl ?_
  refine sm_aload_n d_law_261 rfl (j := 3) rfl ?_
  refine sm_scr (c := c) (k := 1) hN (by omega) d_law_262 d_law_263 d_law_265 d_law_266 d_law_267 (j0 := 5) (j4 := 1) rfl rfl (by decide) ?_
  refine sm_scr (c := c) (k := 2) hN (by omega) d_law_268 d_law_269 d_law_271 d_law_272 d_law_273 (j0 := 5) (j4 := 1) rfl rfl (by decide) ?_
  refine sm_scr (c := c) (k := 3) hN (by omega) d_law_274 d_law_275 d_law_277 d_law_278 d_law_279 (j0 := 5) (j4 := 1) rfl rfl (by decide) ?_
  refine sm_scr (c := c) (k := 4) hN (by omega) d_law_280 d_law_281 d_law_283 d_law_284 d_law_285 (j0 := 5) (j4 := 1) rfl rfl (by decide) ?_
  refine lw_md (r9 := none) d_law_286 cs_law_105 hL1 (As := [.int (sv G c 1), .int (sv G c 2), .int (sv G c 3), .int (sv G c 4)]) rfl rfl (Nat.le_of_ble_eq_true rfl) (c_Md_tiles (b := b + 116) ⟨hL1.2.2.1, lo_fr.rf⟩ (sv G c 1) (sv G c 2) (sv G c 3) (sv G c 4) k2) (fun M3 hL3 => ?_)
  refine sm_aload_n d_law_289 rfl (j := 3) rfl ?_
  refine lw_th d_law_290 cs_law_100 hL3 rfl (Nat.le_of_ble_eq_true rfl) (c_Md_thrown (b := b + 116) ⟨hL3.2.2.1, lo_fr.rf⟩) ?_
  refine sm_iload d_law_293 (j := 0) rfl ?_
  refine sm_icmp_eq (tgt := 300) d_law_295 (by decide) (fun _ => ?_) (fun h9 => absurd k5 h9)
  refine sm_goto (tgt := 1600) d_law_300 (by decide) ?_
  exact sm_drop1 (law_end kk hL3 k3 (k4.2 hz))
set_option maxHeartbeats 1600000 in
set_option maxRecDepth 100000 in
theorem law_3 {G : sm_G} {b c F : Nat} (hF : 70000 ≤ F) {M : sm_M} {w w' : wd} {Z : zd} {g : Nat → Int64} (hn : 7 * c + 7 ≤ G.2.2.2.2.1) (hN : G.2.2.2.2.1 ≤ 3584) (hL : lwi G b M w Z w' g) (hr : rel w Z w') (hz : czo Z) (kk : lw_K G b (c + 1)) : sm_W G mf_law 303 [(4, .int (nI (7 * c))), (3, .ref (b + 137)), (2, .ref (b + 116)), (1, .ref b), (0, .ref G.2.2.2.1)] [] M (2 * (196608 - zc Z) + (512 - c)) (2 * (196608 - zc Z) + 6 * (512 - c)) lw_1 := by
  have hc : c ≤ 511 := by omega
  obtain ⟨R, V, k1, k2, k3, k4, k5, k6⟩ := j_component hF hr (sv G c 1) (decide (¬ sv G c 2 = 0)) (sv G c 3) (sv G c 4)
  have z1 := cgo_zc k4
  have z2 := czo_zc (k4.2 hz)
  refine sm_aload_n d_law_303 rfl (j := 3) rfl ?_
  refine sm_scr (c := c) (k := 1) hN (by omega) d_law_304 d_law_305 d_law_307 d_law_308 d_law_309 (j0 := 4) (j4 := 0) rfl rfl (by decide) ?_
  refine sm_scr (c := c) (k := 2) hN (by omega) d_law_310 d_law_311 d_law_313 d_law_314 d_law_315 (j0 := 4) (j4 := 0) rfl rfl (by decide) ?_
  refine sm_bool (t0 := 323) (t1 := 324) d_law_316 (by decide) d_law_319 d_law_320 (by decide) d_law_323 rfl ?_
  refine sm_scr (c := c) (k := 3) hN (by omega) d_law_324 d_law_325 d_law_327 d_law_328 d_law_329 (j0 := 4) (j4 := 0) rfl rfl (by decide) ?_
  refine sm_scr (c := c) (k := 4) hN (by omega) d_law_330 d_law_331 d_law_333 d_law_334 d_law_335 (j0 := 4) (j4 := 0) rfl rfl (by decide) ?_
  refine sm_aload_n d_law_336 rfl (j := 1) rfl ?_
  refine sm_callS (bc' := 2 * (196608 - zc R.2.2) + (512 - (c + 1))) (bs' := 2 * (196608 - zc R.2.2) + 6 * (512 - (c + 1))) d_law_337 cs_law_106 rfl (As := [.ref b, .int (sv G c 1), .int (bi (decide (¬ sv G c 2 = 0))), .int (sv G c 3), .int (sv G c 4), .ref (b + 137)]) rfl rfl (Nat.le_of_ble_eq_true rfl) (by have := os_e1 (oI R.1); omega) (by have := os_e6 (oI R.1); omega) (c_Lw_component hL (sv G c 1) (decide (¬ sv G c 2 = 0)) (sv G c 3) (sv G c 4) k1) (fun X M1 h => by cases h.1) (fun v M1 h => ?_)
  obtain ⟨h1, g1, hL1, hg⟩ := h
  cases h1
  refine sm_istore d_law_340 (by decide) rfl ?_
  refine sm_aload_n d_law_342 rfl (j := 3) rfl ?_
  refine sm_scr (c := c) (k := 1) hN (by omega) d_law_343 d_law_344 d_law_346 d_law_347 d_law_348 (j0 := 5) (j4 := 1) rfl rfl (by decide) ?_
  refine sm_scr (c := c) (k := 2) hN (by omega) d_law_349 d_law_350 d_law_352 d_law_353 d_law_354 (j0 := 5) (j4 := 1) rfl rfl (by decide) ?_
  refine sm_bool (t0 := 362) (t1 := 363) d_law_355 (by decide) d_law_358 d_law_359 (by decide) d_law_362 rfl ?_
  refine sm_scr (c := c) (k := 3) hN (by omega) d_law_363 d_law_364 d_law_366 d_law_367 d_law_368 (j0 := 5) (j4 := 1) rfl rfl (by decide) ?_
  refine sm_scr (c := c) (k := 4) hN (by omega) d_law_369 d_law_370 d_law_372 d_law_373 d_law_374 (j0 := 5) (j4 := 1) rfl rfl (by decide) ?_
  refine lw_md (r9 := some (.int V.1)) d_law_375 cs_law_109 hL1 (As := [.int (sv G c 1), .int (bi (decide (¬ sv G c 2 = 0))), .int (sv G c 3), .int (sv G c 4)]) rfl rfl (Nat.le_of_ble_eq_true rfl) (c_Md_component (b := b + 116) ⟨hL1.2.2.1, lo_fr.rf⟩ (sv G c 1) (decide (¬ sv G c 2 = 0)) (sv G c 3) (sv G c 4) k2) (fun M3 hL3 => ?_)
  refine sm_istore d_law_378 (by decide) rfl ?_
  refine sm_aload_n d_law_380 rfl (j := 4) rfl ?_
  refine lw_th d_law_381 cs_law_100 hL3 rfl (Nat.le_of_ble_eq_true rfl) (c_Md_thrown (b := b + 116) ⟨hL3.2.2.1, lo_fr.rf⟩) ?_
  refine sm_iload d_law_384 (j := 1) rfl ?_
  refine sm_icmp_eq (tgt := 391) d_law_386 (by decide) (fun _ => ?_) (fun h9 => absurd k5 h9)
  refine sm_iload d_law_391 (j := 1) rfl ?_
  have fin9 : sm_W G mf_law 408 [(6, .int V.1), (5, .int (cd2 "java/lang/IllegalArgumentException" R.1)), (4, .int (nI (7 * c))), (3, .ref (b + 137)), (2, .ref (b + 116)), (1, .ref b), (0, .ref G.2.2.2.1)] [] M3 (2 * (196608 - zc R.2.2) + (512 - (c + 1))) (2 * (196608 - zc R.2.2) + 6 * (512 - (c + 1))) lw_1 := by
    refine sm_goto (tgt := 1600) d_law_408 (by decide) ?_
    exact sm_drop2 (law_end kk hL3 k3 (k4.2 hz))
  refine sm_if_ne (tgt := 408) d_law_393 (by decide) (fun _ => fin9) (fun h0 => ?_)
  obtain ⟨u, hu⟩ := cd_00 h0
  have hu2 := k6 u hu
  have hg0 := hg u.toInt64 (by rw [hu]; rfl)
  refine sm_aload_n d_law_396 rfl (j := 3) rfl ?_
  refine sm_iconst (v := 0) d_law_397 (by decide) ?_
  refine sm_laload d_law_398 hL3.2.2.2 in01 ?_
  refine sm_iload d_law_399 (j := 0) rfl ?_
  refine sm_i2l d_law_401 ?_
  refine sm_lcmp d_law_402 ?_
  refine sm_if_eq (tgt := 408) d_law_403 (by decide) (fun _ => fin9) (fun h9 => absurd (lc_eq (by rw [← hu2]; exact hg0)) h9)
set_option maxHeartbeats 1600000 in
set_option maxRecDepth 100000 in
theorem law_4 {G : sm_G} {b c F : Nat} (hF : 70000 ≤ F) {M : sm_M} {w w' : wd} {Z : zd} {g : Nat → Int64} (hn : 7 * c + 7 ≤ G.2.2.2.2.1) (hN : G.2.2.2.2.1 ≤ 3584) (hL : lwi G b M w Z w' g) (hr : rel w Z w') (hz : czo Z) (kk : lw_K G b (c + 1)) : sm_W G mf_law 411 [(4, .int (nI (7 * c))), (3, .ref (b + 137)), (2, .ref (b + 116)), (1, .ref b), (0, .ref G.2.2.2.1)] [] M (2 * (196608 - zc Z) + (512 - c)) (2 * (196608 - zc Z) + 6 * (512 - c)) lw_1 := by
  have hc : c ≤ 511 := by omega
  obtain ⟨R, V, k1, k2, k3, k4, k5⟩ := j_general hF hr (sv G c 1) (sv G c 2) (decide (¬ sv G c 3 = 0)) (decide (¬ sv G c 4 = 0)) (decide (¬ sv G c 5 = 0))
  have z1 := cgo_zc k4
  have z2 := czo_zc (k4.2 hz)
  refine sm_aload_n d_law_411 rfl (j := 3) rfl ?_
  refine sm_scr (c := c) (k := 1) hN (by omega) d_law_412 d_law_413 d_law_415 d_law_416 d_law_417 (j0 := 4) (j4 := 0) rfl rfl (by decide) ?_
  refine sm_scr (c := c) (k := 2) hN (by omega) d_law_418 d_law_419 d_law_421 d_law_422 d_law_423 (j0 := 4) (j4 := 0) rfl rfl (by decide) ?_
  refine sm_scr (c := c) (k := 3) hN (by omega) d_law_424 d_law_425 d_law_427 d_law_428 d_law_429 (j0 := 4) (j4 := 0) rfl rfl (by decide) ?_
  refine sm_bool (t0 := 437) (t1 := 438) d_law_430 (by decide) d_law_433 d_law_434 (by decide) d_law_437 rfl ?_
  refine sm_scr (c := c) (k := 4) hN (by omega) d_law_438 d_law_439 d_law_441 d_law_442 d_law_443 (j0 := 4) (j4 := 0) rfl rfl (by decide) ?_
  refine sm_bool (t0 := 451) (t1 := 452) d_law_444 (by decide) d_law_447 d_law_448 (by decide) d_law_451 rfl ?_
  refine sm_scr (c := c) (k := 5) hN (by omega) d_law_452 d_law_453 d_law_455 d_law_456 d_law_457 (j0 := 4) (j4 := 0) rfl rfl (by decide) ?_
  refine sm_bool (t0 := 465) (t1 := 466) d_law_458 (by decide) d_law_461 d_law_462 (by decide) d_law_465 rfl ?_
  refine sm_callS (bc' := 2 * (196608 - zc R.2.2) + (512 - (c + 1))) (bs' := 2 * (196608 - zc R.2.2) + 6 * (512 - (c + 1))) d_law_466 cs_law_110 rfl (As := [.ref b, .int (sv G c 1), .int (sv G c 2), .int (bi (decide (¬ sv G c 3 = 0))), .int (bi (decide (¬ sv G c 4 = 0))), .int (bi (decide (¬ sv G c 5 = 0)))]) rfl rfl (Nat.le_of_ble_eq_true rfl) (by have := os_e1 (oV R.1); omega) (by have := os_e6 (oV R.1); omega) (c_Lw_general hL (sv G c 1) (sv G c 2) (decide (¬ sv G c 3 = 0)) (decide (¬ sv G c 4 = 0)) (decide (¬ sv G c 5 = 0)) k1) (fun X M1 h => by cases h.1) (fun v M1 h => ?_)
  obtain ⟨h1, g1, hL1, hg⟩ := h
  cases h1
  refine sm_istore d_law_469 (by decide) rfl ?_
  refine sm_aload_n d_law_471 rfl (j := 3) rfl ?_
  refine sm_scr (c := c) (k := 1) hN (by omega) d_law_472 d_law_473 d_law_475 d_law_476 d_law_477 (j0 := 5) (j4 := 1) rfl rfl (by decide) ?_
  refine sm_scr (c := c) (k := 2) hN (by omega) d_law_478 d_law_479 d_law_481 d_law_482 d_law_483 (j0 := 5) (j4 := 1) rfl rfl (by decide) ?_
  refine sm_scr (c := c) (k := 3) hN (by omega) d_law_484 d_law_485 d_law_487 d_law_488 d_law_489 (j0 := 5) (j4 := 1) rfl rfl (by decide) ?_
  refine sm_bool (t0 := 497) (t1 := 498) d_law_490 (by decide) d_law_493 d_law_494 (by decide) d_law_497 rfl ?_
  refine sm_scr (c := c) (k := 4) hN (by omega) d_law_498 d_law_499 d_law_501 d_law_502 d_law_503 (j0 := 5) (j4 := 1) rfl rfl (by decide) ?_
  refine sm_bool (t0 := 511) (t1 := 512) d_law_504 (by decide) d_law_507 d_law_508 (by decide) d_law_511 rfl ?_
  refine sm_scr (c := c) (k := 5) hN (by omega) d_law_512 d_law_513 d_law_515 d_law_516 d_law_517 (j0 := 5) (j4 := 1) rfl rfl (by decide) ?_
  refine sm_bool (t0 := 525) (t1 := 526) d_law_518 (by decide) d_law_521 d_law_522 (by decide) d_law_525 rfl ?_
  refine lw_md (r9 := none) d_law_526 cs_law_113 hL1 (As := [.int (sv G c 1), .int (sv G c 2), .int (bi (decide (¬ sv G c 3 = 0))), .int (bi (decide (¬ sv G c 4 = 0))), .int (bi (decide (¬ sv G c 5 = 0)))]) rfl rfl (Nat.le_of_ble_eq_true rfl) (w1' := V) (hC := by rw [← k2]; exact c_Md_general (b := b + 116) ⟨hL1.2.2.1, lo_fr.rf⟩ (sv G c 1) (sv G c 2) (decide (¬ sv G c 3 = 0)) (decide (¬ sv G c 4 = 0)) (decide (¬ sv G c 5 = 0))) (fun M3 hL3 => ?_)
  refine sm_aload_n d_law_529 rfl (j := 3) rfl ?_
  refine lw_th d_law_530 cs_law_100 hL3 rfl (Nat.le_of_ble_eq_true rfl) (c_Md_thrown (b := b + 116) ⟨hL3.2.2.1, lo_fr.rf⟩) ?_
  refine sm_iload d_law_533 (j := 0) rfl ?_
  refine sm_icmp_eq (tgt := 540) d_law_535 (by decide) (fun _ => ?_) (fun h9 => absurd k5 h9)
  refine sm_goto (tgt := 1600) d_law_540 (by decide) ?_
  exact sm_drop1 (law_end kk hL3 k3 (k4.2 hz))
set_option maxHeartbeats 1600000 in
set_option maxRecDepth 100000 in
theorem law_5 {G : sm_G} {b c F : Nat} (hF : 70000 ≤ F) {M : sm_M} {w w' : wd} {Z : zd} {g : Nat → Int64} (hn : 7 * c + 7 ≤ G.2.2.2.2.1) (hN : G.2.2.2.2.1 ≤ 3584) (hL : lwi G b M w Z w' g) (hr : rel w Z w') (hz : czo Z) (kk : lw_K G b (c + 1)) : sm_W G mf_law 543 [(4, .int (nI (7 * c))), (3, .ref (b + 137)), (2, .ref (b + 116)), (1, .ref b), (0, .ref G.2.2.2.1)] [] M (2 * (196608 - zc Z) + (512 - c)) (2 * (196608 - zc Z) + 6 * (512 - c)) lw_1 := by
  have hc : c ≤ 511 := by omega
  obtain ⟨R, V, k1, k2, k3, k4, k5⟩ := j_coding hF hr (sv G c 1) (sv G c 2) (sv G c 3) (sv G c 4) (sv G c 5) (decide (¬ sv G c 6 = 0))
  have z1 := cgo_zc k4
  have z2 := czo_zc (k4.2 hz)
  refine sm_aload_n d_law_543 rfl (j := 3) rfl ?_
  refine sm_scr (c := c) (k := 1) hN (by omega) d_law_544 d_law_545 d_law_547 d_law_548 d_law_549 (j0 := 4) (j4 := 0) rfl rfl (by decide) ?_
  refine sm_scr (c := c) (k := 2) hN (by omega) d_law_550 d_law_551 d_law_553 d_law_554 d_law_555 (j0 := 4) (j4 := 0) rfl rfl (by decide) ?_
  refine sm_scr (c := c) (k := 3) hN (by omega) d_law_556 d_law_557 d_law_559 d_law_560 d_law_561 (j0 := 4) (j4 := 0) rfl rfl (by decide) ?_
  refine sm_scr (c := c) (k := 4) hN (by omega) d_law_562 d_law_563 d_law_565 d_law_566 d_law_567 (j0 := 4) (j4 := 0) rfl rfl (by decide) ?_
  refine sm_scr (c := c) (k := 5) hN (by omega) d_law_568 d_law_569 d_law_571 d_law_572 d_law_573 (j0 := 4) (j4 := 0) rfl rfl (by decide) ?_
  refine sm_scr6 (c := c) (k := 6) hN (by omega) d_law_574 d_law_575 d_law_577 d_law_579 d_law_580 (j0 := 4) (j4 := 0) rfl rfl (by decide) ?_
  refine sm_bool (t0 := 588) (t1 := 589) d_law_581 (by decide) d_law_584 d_law_585 (by decide) d_law_588 rfl ?_
  refine sm_callS (bc' := 2 * (196608 - zc R.2.2) + (512 - (c + 1))) (bs' := 2 * (196608 - zc R.2.2) + 6 * (512 - (c + 1))) d_law_589 cs_law_114 rfl (As := [.ref b, .int (sv G c 1), .int (sv G c 2), .int (sv G c 3), .int (sv G c 4), .int (sv G c 5), .int (bi (decide (¬ sv G c 6 = 0)))]) rfl rfl (Nat.le_of_ble_eq_true rfl) (by have := os_e1 (oV R.1); omega) (by have := os_e6 (oV R.1); omega) (c_Lw_coding hL (sv G c 1) (sv G c 2) (sv G c 3) (sv G c 4) (sv G c 5) (decide (¬ sv G c 6 = 0)) k1) (fun X M1 h => by cases h.1) (fun v M1 h => ?_)
  obtain ⟨h1, g1, hL1, hg⟩ := h
  cases h1
  refine sm_istore d_law_592 (by decide) rfl ?_
  refine sm_aload_n d_law_594 rfl (j := 3) rfl ?_
  refine sm_scr (c := c) (k := 1) hN (by omega) d_law_595 d_law_596 d_law_598 d_law_599 d_law_600 (j0 := 5) (j4 := 1) rfl rfl (by decide) ?_
  refine sm_scr (c := c) (k := 2) hN (by omega) d_law_601 d_law_602 d_law_604 d_law_605 d_law_606 (j0 := 5) (j4 := 1) rfl rfl (by decide) ?_
  refine sm_scr (c := c) (k := 3) hN (by omega) d_law_607 d_law_608 d_law_610 d_law_611 d_law_612 (j0 := 5) (j4 := 1) rfl rfl (by decide) ?_
  refine sm_scr (c := c) (k := 4) hN (by omega) d_law_613 d_law_614 d_law_616 d_law_617 d_law_618 (j0 := 5) (j4 := 1) rfl rfl (by decide) ?_
  refine sm_scr (c := c) (k := 5) hN (by omega) d_law_619 d_law_620 d_law_622 d_law_623 d_law_624 (j0 := 5) (j4 := 1) rfl rfl (by decide) ?_
  refine sm_scr6 (c := c) (k := 6) hN (by omega) d_law_625 d_law_626 d_law_628 d_law_630 d_law_631 (j0 := 5) (j4 := 1) rfl rfl (by decide) ?_
  refine sm_bool (t0 := 639) (t1 := 640) d_law_632 (by decide) d_law_635 d_law_636 (by decide) d_law_639 rfl ?_
  refine lw_md (r9 := none) d_law_640 cs_law_117 hL1 (As := [.int (sv G c 1), .int (sv G c 2), .int (sv G c 3), .int (sv G c 4), .int (sv G c 5), .int (bi (decide (¬ sv G c 6 = 0)))]) rfl rfl (Nat.le_of_ble_eq_true rfl) (c_Md_coding (b := b + 116) ⟨hL1.2.2.1, lo_fr.rf⟩ (sv G c 1) (sv G c 2) (sv G c 3) (sv G c 4) (sv G c 5) (decide (¬ sv G c 6 = 0)) k2) (fun M3 hL3 => ?_)
  refine sm_aload_n d_law_643 rfl (j := 3) rfl ?_
  refine lw_th d_law_644 cs_law_100 hL3 rfl (Nat.le_of_ble_eq_true rfl) (c_Md_thrown (b := b + 116) ⟨hL3.2.2.1, lo_fr.rf⟩) ?_
  refine sm_iload d_law_647 (j := 0) rfl ?_
  refine sm_icmp_eq (tgt := 654) d_law_649 (by decide) (fun _ => ?_) (fun h9 => absurd k5 h9)
  refine sm_goto (tgt := 1600) d_law_654 (by decide) ?_
  exact sm_drop1 (law_end kk hL3 k3 (k4.2 hz))
set_option maxHeartbeats 1600000 in
set_option maxRecDepth 100000 in
theorem law_6 {G : sm_G} {b c F : Nat} (hF : 70000 ≤ F) {M : sm_M} {w w' : wd} {Z : zd} {g : Nat → Int64} (hn : 7 * c + 7 ≤ G.2.2.2.2.1) (hN : G.2.2.2.2.1 ≤ 3584) (hL : lwi G b M w Z w' g) (hr : rel w Z w') (hz : czo Z) (kk : lw_K G b (c + 1)) : sm_W G mf_law 657 [(4, .int (nI (7 * c))), (3, .ref (b + 137)), (2, .ref (b + 116)), (1, .ref b), (0, .ref G.2.2.2.1)] [] M (2 * (196608 - zc Z) + (512 - c)) (2 * (196608 - zc Z) + 6 * (512 - c)) lw_1 := by
  have hc : c ≤ 511 := by omega
  obtain ⟨R, V, k1, k2, k3, k4, k5⟩ := j_precincts hF hr (sv G c 1) (sv G c 2) (sv G c 3) (sv G c 4)
  have z1 := cgo_zc k4
  have z2 := czo_zc (k4.2 hz)
  refine sm_aload_n d_law_657 rfl (j := 3) rfl ?_
  refine sm_scr (c := c) (k := 1) hN (by omega) d_law_658 d_law_659 d_law_661 d_law_662 d_law_663 (j0 := 4) (j4 := 0) rfl rfl (by decide) ?_
  refine sm_scr (c := c) (k := 2) hN (by omega) d_law_664 d_law_665 d_law_667 d_law_668 d_law_669 (j0 := 4) (j4 := 0) rfl rfl (by decide) ?_
  refine sm_scr (c := c) (k := 3) hN (by omega) d_law_670 d_law_671 d_law_673 d_law_674 d_law_675 (j0 := 4) (j4 := 0) rfl rfl (by decide) ?_
  refine sm_scr (c := c) (k := 4) hN (by omega) d_law_676 d_law_677 d_law_679 d_law_680 d_law_681 (j0 := 4) (j4 := 0) rfl rfl (by decide) ?_
  refine sm_callS (bc' := 2 * (196608 - zc R.2.2) + (512 - (c + 1))) (bs' := 2 * (196608 - zc R.2.2) + 6 * (512 - (c + 1))) d_law_682 cs_law_118 rfl (As := [.ref b, .int (sv G c 1), .int (sv G c 2), .int (sv G c 3), .int (sv G c 4)]) rfl rfl (Nat.le_of_ble_eq_true rfl) (by have := os_e1 (oV R.1); omega) (by have := os_e6 (oV R.1); omega) (c_Lw_precincts hL (sv G c 1) (sv G c 2) (sv G c 3) (sv G c 4) k1) (fun X M1 h => by cases h.1) (fun v M1 h => ?_)
  obtain ⟨h1, g1, hL1, hg⟩ := h
  cases h1
  refine sm_istore d_law_685 (by decide) rfl ?_
  refine sm_aload_n d_law_687 rfl (j := 3) rfl ?_
  refine sm_scr (c := c) (k := 1) hN (by omega) d_law_688 d_law_689 d_law_691 d_law_692 d_law_693 (j0 := 5) (j4 := 1) rfl rfl (by decide) ?_
  refine sm_scr (c := c) (k := 2) hN (by omega) d_law_694 d_law_695 d_law_697 d_law_698 d_law_699 (j0 := 5) (j4 := 1) rfl rfl (by decide) ?_
  refine sm_scr (c := c) (k := 3) hN (by omega) d_law_700 d_law_701 d_law_703 d_law_704 d_law_705 (j0 := 5) (j4 := 1) rfl rfl (by decide) ?_
  refine sm_scr (c := c) (k := 4) hN (by omega) d_law_706 d_law_707 d_law_709 d_law_710 d_law_711 (j0 := 5) (j4 := 1) rfl rfl (by decide) ?_
  refine lw_md (r9 := none) d_law_712 cs_law_120 hL1 (As := [.int (sv G c 1), .int (sv G c 2), .int (sv G c 3), .int (sv G c 4)]) rfl rfl (Nat.le_of_ble_eq_true rfl) (c_Md_precincts (b := b + 116) ⟨hL1.2.2.1, lo_fr.rf⟩ (sv G c 1) (sv G c 2) (sv G c 3) (sv G c 4) k2) (fun M3 hL3 => ?_)
  refine sm_aload_n d_law_715 rfl (j := 3) rfl ?_
  refine lw_th d_law_716 cs_law_100 hL3 rfl (Nat.le_of_ble_eq_true rfl) (c_Md_thrown (b := b + 116) ⟨hL3.2.2.1, lo_fr.rf⟩) ?_
  refine sm_iload d_law_719 (j := 0) rfl ?_
  refine sm_icmp_eq (tgt := 726) d_law_721 (by decide) (fun _ => ?_) (fun h9 => absurd k5 h9)
  refine sm_goto (tgt := 1600) d_law_726 (by decide) ?_
  exact sm_drop1 (law_end kk hL3 k3 (k4.2 hz))
set_option maxHeartbeats 1600000 in
set_option maxRecDepth 100000 in
theorem law_7 {G : sm_G} {b c F : Nat} (hF : 70000 ≤ F) {M : sm_M} {w w' : wd} {Z : zd} {g : Nat → Int64} (hn : 7 * c + 7 ≤ G.2.2.2.2.1) (hN : G.2.2.2.2.1 ≤ 3584) (hL : lwi G b M w Z w' g) (hr : rel w Z w') (hz : czo Z) (kk : lw_K G b (c + 1)) : sm_W G mf_law 729 [(4, .int (nI (7 * c))), (3, .ref (b + 137)), (2, .ref (b + 116)), (1, .ref b), (0, .ref G.2.2.2.1)] [] M (2 * (196608 - zc Z) + (512 - c)) (2 * (196608 - zc Z) + 6 * (512 - c)) lw_1 := by
  have hc : c ≤ 511 := by omega
  obtain ⟨R, V, k1, k2, k3, k4, k5⟩ := j_steps hF hr (sv G c 1) (sv G c 2) (sv G c 3) (sv G c 4)
  have z1 := cgo_zc k4
  have z2 := czo_zc (k4.2 hz)
  refine sm_aload_n d_law_729 rfl (j := 3) rfl ?_
  refine sm_scr (c := c) (k := 1) hN (by omega) d_law_730 d_law_731 d_law_733 d_law_734 d_law_735 (j0 := 4) (j4 := 0) rfl rfl (by decide) ?_
  refine sm_scr (c := c) (k := 2) hN (by omega) d_law_736 d_law_737 d_law_739 d_law_740 d_law_741 (j0 := 4) (j4 := 0) rfl rfl (by decide) ?_
  refine sm_scr (c := c) (k := 3) hN (by omega) d_law_742 d_law_743 d_law_745 d_law_746 d_law_747 (j0 := 4) (j4 := 0) rfl rfl (by decide) ?_
  refine sm_scr (c := c) (k := 4) hN (by omega) d_law_748 d_law_749 d_law_751 d_law_752 d_law_753 (j0 := 4) (j4 := 0) rfl rfl (by decide) ?_
  refine sm_callS (bc' := 2 * (196608 - zc R.2.2) + (512 - (c + 1))) (bs' := 2 * (196608 - zc R.2.2) + 6 * (512 - (c + 1))) d_law_754 cs_law_121 rfl (As := [.ref b, .int (sv G c 1), .int (sv G c 2), .int (sv G c 3), .int (sv G c 4)]) rfl rfl (Nat.le_of_ble_eq_true rfl) (by have := os_e1 (oV R.1); omega) (by have := os_e6 (oV R.1); omega) (c_Lw_steps hL (sv G c 1) (sv G c 2) (sv G c 3) (sv G c 4) k1) (fun X M1 h => by cases h.1) (fun v M1 h => ?_)
  obtain ⟨h1, g1, hL1, hg⟩ := h
  cases h1
  refine sm_istore d_law_757 (by decide) rfl ?_
  refine sm_aload_n d_law_759 rfl (j := 3) rfl ?_
  refine sm_scr (c := c) (k := 1) hN (by omega) d_law_760 d_law_761 d_law_763 d_law_764 d_law_765 (j0 := 5) (j4 := 1) rfl rfl (by decide) ?_
  refine sm_scr (c := c) (k := 2) hN (by omega) d_law_766 d_law_767 d_law_769 d_law_770 d_law_771 (j0 := 5) (j4 := 1) rfl rfl (by decide) ?_
  refine sm_scr (c := c) (k := 3) hN (by omega) d_law_772 d_law_773 d_law_775 d_law_776 d_law_777 (j0 := 5) (j4 := 1) rfl rfl (by decide) ?_
  refine sm_scr (c := c) (k := 4) hN (by omega) d_law_778 d_law_779 d_law_781 d_law_782 d_law_783 (j0 := 5) (j4 := 1) rfl rfl (by decide) ?_
  refine lw_md (r9 := none) d_law_784 cs_law_123 hL1 (As := [.int (sv G c 1), .int (sv G c 2), .int (sv G c 3), .int (sv G c 4)]) rfl rfl (Nat.le_of_ble_eq_true rfl) (c_Md_steps (b := b + 116) ⟨hL1.2.2.1, lo_fr.rf⟩ (sv G c 1) (sv G c 2) (sv G c 3) (sv G c 4) k2) (fun M3 hL3 => ?_)
  refine sm_aload_n d_law_787 rfl (j := 3) rfl ?_
  refine lw_th d_law_788 cs_law_100 hL3 rfl (Nat.le_of_ble_eq_true rfl) (c_Md_thrown (b := b + 116) ⟨hL3.2.2.1, lo_fr.rf⟩) ?_
  refine sm_iload d_law_791 (j := 0) rfl ?_
  refine sm_icmp_eq (tgt := 798) d_law_793 (by decide) (fun _ => ?_) (fun h9 => absurd k5 h9)
  refine sm_goto (tgt := 1600) d_law_798 (by decide) ?_
  exact sm_drop1 (law_end kk hL3 k3 (k4.2 hz))
set_option maxHeartbeats 1600000 in
set_option maxRecDepth 100000 in
theorem law_8 {G : sm_G} {b c F : Nat} (hF : 70000 ≤ F) {M : sm_M} {w w' : wd} {Z : zd} {g : Nat → Int64} (hn : 7 * c + 7 ≤ G.2.2.2.2.1) (hN : G.2.2.2.2.1 ≤ 3584) (hL : lwi G b M w Z w' g) (hr : rel w Z w') (hz : czo Z) (kk : lw_K G b (c + 1)) : sm_W G mf_law 801 [(4, .int (nI (7 * c))), (3, .ref (b + 137)), (2, .ref (b + 116)), (1, .ref b), (0, .ref G.2.2.2.1)] [] M (2 * (196608 - zc Z) + (512 - c)) (2 * (196608 - zc Z) + 6 * (512 - c)) lw_1 := by
  have hc : c ≤ 511 := by omega
  obtain ⟨R, V, k1, k2, k3, k4, k5⟩ := j_step hF hr (sv G c 1) (sv G c 2) (sv G c 3)
  have z1 := cgo_zc k4
  have z2 := czo_zc (k4.2 hz)
  refine sm_aload_n d_law_801 rfl (j := 3) rfl ?_
  refine sm_scr (c := c) (k := 1) hN (by omega) d_law_802 d_law_803 d_law_805 d_law_806 d_law_807 (j0 := 4) (j4 := 0) rfl rfl (by decide) ?_
  refine sm_scr (c := c) (k := 2) hN (by omega) d_law_808 d_law_809 d_law_811 d_law_812 d_law_813 (j0 := 4) (j4 := 0) rfl rfl (by decide) ?_
  refine sm_scr (c := c) (k := 3) hN (by omega) d_law_814 d_law_815 d_law_817 d_law_818 d_law_819 (j0 := 4) (j4 := 0) rfl rfl (by decide) ?_
  refine sm_callS (bc' := 2 * (196608 - zc R.2.2) + (512 - (c + 1))) (bs' := 2 * (196608 - zc R.2.2) + 6 * (512 - (c + 1))) d_law_820 cs_law_124 rfl (As := [.ref b, .int (sv G c 1), .int (sv G c 2), .int (sv G c 3)]) rfl rfl (Nat.le_of_ble_eq_true rfl) (by have := os_e1 (oV R.1); omega) (by have := os_e6 (oV R.1); omega) (c_Lw_step hL (sv G c 1) (sv G c 2) (sv G c 3) k1) (fun X M1 h => by cases h.1) (fun v M1 h => ?_)
  obtain ⟨h1, g1, hL1, hg⟩ := h
  cases h1
  refine sm_istore d_law_823 (by decide) rfl ?_
  refine sm_aload_n d_law_825 rfl (j := 3) rfl ?_
  refine sm_scr (c := c) (k := 1) hN (by omega) d_law_826 d_law_827 d_law_829 d_law_830 d_law_831 (j0 := 5) (j4 := 1) rfl rfl (by decide) ?_
  refine sm_scr (c := c) (k := 2) hN (by omega) d_law_832 d_law_833 d_law_835 d_law_836 d_law_837 (j0 := 5) (j4 := 1) rfl rfl (by decide) ?_
  refine sm_scr (c := c) (k := 3) hN (by omega) d_law_838 d_law_839 d_law_841 d_law_842 d_law_843 (j0 := 5) (j4 := 1) rfl rfl (by decide) ?_
  refine lw_md (r9 := none) d_law_844 cs_law_127 hL1 (As := [.int (sv G c 1), .int (sv G c 2), .int (sv G c 3)]) rfl rfl (Nat.le_of_ble_eq_true rfl) (c_Md_step (b := b + 116) ⟨hL1.2.2.1, lo_fr.rf⟩ (sv G c 1) (sv G c 2) (sv G c 3) k2) (fun M3 hL3 => ?_)
  refine sm_aload_n d_law_847 rfl (j := 3) rfl ?_
  refine lw_th d_law_848 cs_law_100 hL3 rfl (Nat.le_of_ble_eq_true rfl) (c_Md_thrown (b := b + 116) ⟨hL3.2.2.1, lo_fr.rf⟩) ?_
  refine sm_iload d_law_851 (j := 0) rfl ?_
  refine sm_icmp_eq (tgt := 858) d_law_853 (by decide) (fun _ => ?_) (fun h9 => absurd k5 h9)
  refine sm_goto (tgt := 1600) d_law_858 (by decide) ?_
  exact sm_drop1 (law_end kk hL3 k3 (k4.2 hz))
set_option maxHeartbeats 1600000 in
set_option maxRecDepth 100000 in
theorem law_9 {G : sm_G} {b c F : Nat} (hF : 70000 ≤ F) {M : sm_M} {w w' : wd} {Z : zd} {g : Nat → Int64} (hn : 7 * c + 7 ≤ G.2.2.2.2.1) (hN : G.2.2.2.2.1 ≤ 3584) (hL : lwi G b M w Z w' g) (hr : rel w Z w') (hz : czo Z) (kk : lw_K G b (c + 1)) : sm_W G mf_law 861 [(4, .int (nI (7 * c))), (3, .ref (b + 137)), (2, .ref (b + 116)), (1, .ref b), (0, .ref G.2.2.2.1)] [] M (2 * (196608 - zc Z) + (512 - c)) (2 * (196608 - zc Z) + 6 * (512 - c)) lw_1 := by
  have hc : c ≤ 511 := by omega
  obtain ⟨R, V, k1, k2, k3, k4, k5, k6⟩ := j_change hF hr (sv G c 1) (sv G c 2) (sv G c 3) (sv G c 4) (sv G c 5) (sv G c 6)
  have z1 := cgo_zc k4
  have z2 := czo_zc (k4.2 hz)
  refine sm_aload_n d_law_861 rfl (j := 3) rfl ?_
  refine sm_scr (c := c) (k := 1) hN (by omega) d_law_862 d_law_863 d_law_865 d_law_866 d_law_867 (j0 := 4) (j4 := 0) rfl rfl (by decide) ?_
  refine sm_scr (c := c) (k := 2) hN (by omega) d_law_868 d_law_869 d_law_871 d_law_872 d_law_873 (j0 := 4) (j4 := 0) rfl rfl (by decide) ?_
  refine sm_scr (c := c) (k := 3) hN (by omega) d_law_874 d_law_875 d_law_877 d_law_878 d_law_879 (j0 := 4) (j4 := 0) rfl rfl (by decide) ?_
  refine sm_scr (c := c) (k := 4) hN (by omega) d_law_880 d_law_881 d_law_883 d_law_884 d_law_885 (j0 := 4) (j4 := 0) rfl rfl (by decide) ?_
  refine sm_scr (c := c) (k := 5) hN (by omega) d_law_886 d_law_887 d_law_889 d_law_890 d_law_891 (j0 := 4) (j4 := 0) rfl rfl (by decide) ?_
  refine sm_scr6 (c := c) (k := 6) hN (by omega) d_law_892 d_law_893 d_law_895 d_law_897 d_law_898 (j0 := 4) (j4 := 0) rfl rfl (by decide) ?_
  refine sm_aload_n d_law_899 rfl (j := 1) rfl ?_
  refine sm_callS (bc' := 2 * (196608 - zc R.2.2) + (512 - (c + 1))) (bs' := 2 * (196608 - zc R.2.2) + 6 * (512 - (c + 1))) d_law_900 cs_law_128 rfl (As := [.ref b, .int (sv G c 1), .int (sv G c 2), .int (sv G c 3), .int (sv G c 4), .int (sv G c 5), .int (sv G c 6), .ref (b + 137)]) rfl rfl (Nat.le_of_ble_eq_true rfl) (by have := os_e1 (oI R.1); omega) (by have := os_e6 (oI R.1); omega) (c_Lw_change hL (sv G c 1) (sv G c 2) (sv G c 3) (sv G c 4) (sv G c 5) (sv G c 6) k1) (fun X M1 h => by cases h.1) (fun v M1 h => ?_)
  obtain ⟨h1, g1, hL1, hg⟩ := h
  cases h1
  refine sm_istore d_law_903 (by decide) rfl ?_
  refine sm_aload_n d_law_905 rfl (j := 3) rfl ?_
  refine sm_scr (c := c) (k := 1) hN (by omega) d_law_906 d_law_907 d_law_909 d_law_910 d_law_911 (j0 := 5) (j4 := 1) rfl rfl (by decide) ?_
  refine sm_scr (c := c) (k := 2) hN (by omega) d_law_912 d_law_913 d_law_915 d_law_916 d_law_917 (j0 := 5) (j4 := 1) rfl rfl (by decide) ?_
  refine sm_scr (c := c) (k := 3) hN (by omega) d_law_918 d_law_919 d_law_921 d_law_922 d_law_923 (j0 := 5) (j4 := 1) rfl rfl (by decide) ?_
  refine sm_scr (c := c) (k := 4) hN (by omega) d_law_924 d_law_925 d_law_927 d_law_928 d_law_929 (j0 := 5) (j4 := 1) rfl rfl (by decide) ?_
  refine sm_scr (c := c) (k := 5) hN (by omega) d_law_930 d_law_931 d_law_933 d_law_934 d_law_935 (j0 := 5) (j4 := 1) rfl rfl (by decide) ?_
  refine sm_scr6 (c := c) (k := 6) hN (by omega) d_law_936 d_law_937 d_law_939 d_law_941 d_law_942 (j0 := 5) (j4 := 1) rfl rfl (by decide) ?_
  refine lw_md (r9 := some (.int V.1)) d_law_943 cs_law_131 hL1 (As := [.int (sv G c 1), .int (sv G c 2), .int (sv G c 3), .int (sv G c 4), .int (sv G c 5), .int (sv G c 6)]) rfl rfl (Nat.le_of_ble_eq_true rfl) (c_Md_change (b := b + 116) ⟨hL1.2.2.1, lo_fr.rf⟩ (sv G c 1) (sv G c 2) (sv G c 3) (sv G c 4) (sv G c 5) (sv G c 6) k2) (fun M3 hL3 => ?_)
  refine sm_istore d_law_946 (by decide) rfl ?_
  refine sm_aload_n d_law_948 rfl (j := 4) rfl ?_
  refine lw_th d_law_949 cs_law_100 hL3 rfl (Nat.le_of_ble_eq_true rfl) (c_Md_thrown (b := b + 116) ⟨hL3.2.2.1, lo_fr.rf⟩) ?_
  refine sm_iload d_law_952 (j := 1) rfl ?_
  refine sm_icmp_eq (tgt := 959) d_law_954 (by decide) (fun _ => ?_) (fun h9 => absurd k5 h9)
  refine sm_iload d_law_959 (j := 1) rfl ?_
  have fin9 : sm_W G mf_law 976 [(6, .int V.1), (5, .int (cd2 "java/lang/IllegalArgumentException" R.1)), (4, .int (nI (7 * c))), (3, .ref (b + 137)), (2, .ref (b + 116)), (1, .ref b), (0, .ref G.2.2.2.1)] [] M3 (2 * (196608 - zc R.2.2) + (512 - (c + 1))) (2 * (196608 - zc R.2.2) + 6 * (512 - (c + 1))) lw_1 := by
    refine sm_goto (tgt := 1600) d_law_976 (by decide) ?_
    exact sm_drop2 (law_end kk hL3 k3 (k4.2 hz))
  refine sm_if_ne (tgt := 976) d_law_961 (by decide) (fun _ => fin9) (fun h0 => ?_)
  obtain ⟨u, hu⟩ := cd_00 h0
  have hu2 := k6 u hu
  have hg0 := hg u.toInt64 (by rw [hu]; rfl)
  refine sm_aload_n d_law_964 rfl (j := 3) rfl ?_
  refine sm_iconst (v := 0) d_law_965 (by decide) ?_
  refine sm_laload d_law_966 hL3.2.2.2 in01 ?_
  refine sm_iload d_law_967 (j := 0) rfl ?_
  refine sm_i2l d_law_969 ?_
  refine sm_lcmp d_law_970 ?_
  refine sm_if_eq (tgt := 976) d_law_971 (by decide) (fun _ => fin9) (fun h9 => absurd (lc_eq (by rw [← hu2]; exact hg0)) h9)
set_option maxHeartbeats 1600000 in
set_option maxRecDepth 100000 in
theorem law_10 {G : sm_G} {b c F : Nat} (hF : 70000 ≤ F) {M : sm_M} {w w' : wd} {Z : zd} {g : Nat → Int64} (hn : 7 * c + 7 ≤ G.2.2.2.2.1) (hN : G.2.2.2.2.1 ≤ 3584) (hL : lwi G b M w Z w' g) (hr : rel w Z w') (hz : czo Z) (kk : lw_K G b (c + 1)) : sm_W G mf_law 979 [(4, .int (nI (7 * c))), (3, .ref (b + 137)), (2, .ref (b + 116)), (1, .ref b), (0, .ref G.2.2.2.1)] [] M (2 * (196608 - zc Z) + (512 - c)) (2 * (196608 - zc Z) + 6 * (512 - c)) lw_1 := by
  have hc : c ≤ 511 := by omega
  obtain ⟨R, V, k1, k2, k3, k5, k6⟩ := j_get hF hr (sv G c 1) (sv G c 2) (sv G c 3)
  have z1 : zc Z ≤ zc Z := Nat.le_refl _
  have z2 := czo_zc hz
  refine sm_aload_n d_law_979 rfl (j := 3) rfl ?_
  refine sm_scr (c := c) (k := 1) hN (by omega) d_law_980 d_law_981 d_law_983 d_law_984 d_law_985 (j0 := 4) (j4 := 0) rfl rfl (by decide) ?_
  refine sm_scr (c := c) (k := 2) hN (by omega) d_law_986 d_law_987 d_law_989 d_law_990 d_law_991 (j0 := 4) (j4 := 0) rfl rfl (by decide) ?_
  refine sm_scr (c := c) (k := 3) hN (by omega) d_law_992 d_law_993 d_law_995 d_law_996 d_law_997 (j0 := 4) (j4 := 0) rfl rfl (by decide) ?_
  refine sm_aload_n d_law_998 rfl (j := 1) rfl ?_
  refine sm_callS (bc' := 2 * (196608 - zc Z) + (512 - (c + 1))) (bs' := 2 * (196608 - zc Z) + 6 * (512 - (c + 1))) d_law_999 cs_law_132 rfl (As := [.ref b, .int (sv G c 1), .int (sv G c 2), .int (sv G c 3), .ref (b + 137)]) rfl rfl (Nat.le_of_ble_eq_true rfl) (by have := os_e1 (oI R); omega) (by have := os_e6 (oI R); omega) (c_Lw_get hL (sv G c 1) (sv G c 2) (sv G c 3) k1) (fun X M1 h => by cases h.1) (fun v M1 h => ?_)
  obtain ⟨h1, g1, hL1, hg⟩ := h
  cases h1
  refine sm_istore d_law_1002 (by decide) rfl ?_
  refine sm_aload_n d_law_1004 rfl (j := 3) rfl ?_
  refine sm_scr (c := c) (k := 1) hN (by omega) d_law_1005 d_law_1006 d_law_1008 d_law_1009 d_law_1010 (j0 := 5) (j4 := 1) rfl rfl (by decide) ?_
  refine sm_scr (c := c) (k := 2) hN (by omega) d_law_1011 d_law_1012 d_law_1014 d_law_1015 d_law_1016 (j0 := 5) (j4 := 1) rfl rfl (by decide) ?_
  refine sm_scr (c := c) (k := 3) hN (by omega) d_law_1017 d_law_1018 d_law_1020 d_law_1021 d_law_1022 (j0 := 5) (j4 := 1) rfl rfl (by decide) ?_
  refine lw_md (r9 := some (.int V.1)) d_law_1023 cs_law_135 hL1 (As := [.int (sv G c 1), .int (sv G c 2), .int (sv G c 3)]) rfl rfl (Nat.le_of_ble_eq_true rfl) (c_Md_get (b := b + 116) ⟨hL1.2.2.1, lo_fr.rf⟩ (sv G c 1) (sv G c 2) (sv G c 3) k2) (fun M3 hL3 => ?_)
  refine sm_istore d_law_1026 (by decide) rfl ?_
  refine sm_aload_n d_law_1028 rfl (j := 4) rfl ?_
  refine lw_th d_law_1029 cs_law_100 hL3 rfl (Nat.le_of_ble_eq_true rfl) (c_Md_thrown (b := b + 116) ⟨hL3.2.2.1, lo_fr.rf⟩) ?_
  refine sm_iload d_law_1032 (j := 1) rfl ?_
  refine sm_icmp_eq (tgt := 1039) d_law_1034 (by decide) (fun _ => ?_) (fun h9 => absurd k5 h9)
  refine sm_iload d_law_1039 (j := 1) rfl ?_
  have fin9 : sm_W G mf_law 1056 [(6, .int V.1), (5, .int (cd1 R)), (4, .int (nI (7 * c))), (3, .ref (b + 137)), (2, .ref (b + 116)), (1, .ref b), (0, .ref G.2.2.2.1)] [] M3 (2 * (196608 - zc Z) + (512 - (c + 1))) (2 * (196608 - zc Z) + 6 * (512 - (c + 1))) lw_1 := by
    refine sm_goto (tgt := 1600) d_law_1056 (by decide) ?_
    exact sm_drop2 (law_end kk hL3 k3 hz)
  refine sm_if_ne (tgt := 1056) d_law_1041 (by decide) (fun _ => fin9) (fun h0 => ?_)
  obtain ⟨u, hu⟩ := cd_0 h0
  have hu2 := k6 u hu
  have hg0 := hg u.toInt64 (by rw [hu]; rfl)
  refine sm_aload_n d_law_1044 rfl (j := 3) rfl ?_
  refine sm_iconst (v := 0) d_law_1045 (by decide) ?_
  refine sm_laload d_law_1046 hL3.2.2.2 in01 ?_
  refine sm_iload d_law_1047 (j := 0) rfl ?_
  refine sm_i2l d_law_1049 ?_
  refine sm_lcmp d_law_1050 ?_
  refine sm_if_eq (tgt := 1056) d_law_1051 (by decide) (fun _ => fin9) (fun h9 => absurd (lc_eq (by rw [← hu2]; exact hg0)) h9)
set_option maxHeartbeats 1600000 in
set_option maxRecDepth 100000 in
theorem law_11 {G : sm_G} {b c F : Nat} (hF : 70000 ≤ F) {M : sm_M} {w w' : wd} {Z : zd} {g : Nat → Int64} (hn : 7 * c + 7 ≤ G.2.2.2.2.1) (hN : G.2.2.2.2.1 ≤ 3584) (hL : lwi G b M w Z w' g) (hr : rel w Z w') (hz : czo Z) (kk : lw_K G b (c + 1)) : sm_W G mf_law 1059 [(4, .int (nI (7 * c))), (3, .ref (b + 137)), (2, .ref (b + 116)), (1, .ref b), (0, .ref G.2.2.2.1)] [] M (2 * (196608 - zc Z) + (512 - c)) (2 * (196608 - zc Z) + 6 * (512 - c)) lw_1 := by
  have hc : c ≤ 511 := by omega
  obtain ⟨R, V, k1, k2, k3, k4, k5⟩ := j_clear hF hr
  have z1 := cgo_zc k4
  have z2 := czo_zc (k4.2 hz)
  refine sm_aload_n d_law_1059 rfl (j := 3) rfl ?_
  refine sm_callV (b := b) (bc' := 2 * (196608 - zc R.2.2) + (512 - (c + 1))) (bs' := 2 * (196608 - zc R.2.2) + 6 * (512 - (c + 1))) d_law_1060 cs_law_136 rfl (hL.1 0 _ cl_0) (As := []) rfl rfl (Nat.le_of_ble_eq_true rfl) (by have := os_e1 (oV R.1); omega) (by have := os_e6 (oV R.1); omega) (c_SM_clear hL.os k1) (fun X M1 h => ?_) (fun v M1 h => ?_)
  · have e := h.1; rw [k5] at e; cases e
  obtain ⟨h1, h2⟩ := h
  rw [k5] at h1
  cases h1
  have hL2 := hL.go h2
  refine sm_aload_n d_law_1063 rfl (j := 2) rfl ?_
  refine lw_md (r9 := none) d_law_1064 cs_law_139 hL2 (As := []) rfl rfl (Nat.le_of_ble_eq_true rfl) (w1' := V) (hC := by rw [← k2]; exact c_Md_clear (b := b + 116) ⟨hL2.2.2.1, lo_fr.rf⟩) (fun M2 hL3 => ?_)
  refine sm_goto (tgt := 1600) d_law_1067 (by decide) ?_
  exact law_end kk hL3 k3 (k4.2 hz)
set_option maxHeartbeats 1600000 in
set_option maxRecDepth 100000 in
theorem law_12 {G : sm_G} {b c F : Nat} (hF : 70000 ≤ F) {M : sm_M} {w w' : wd} {Z : zd} {g : Nat → Int64} (hn : 7 * c + 7 ≤ G.2.2.2.2.1) (hN : G.2.2.2.2.1 ≤ 3584) (hL : lwi G b M w Z w' g) (hr : rel w Z w') (hz : czo Z) (kk : lw_K G b (c + 1)) : sm_W G mf_law 1070 [(4, .int (nI (7 * c))), (3, .ref (b + 137)), (2, .ref (b + 116)), (1, .ref b), (0, .ref G.2.2.2.1)] [] M (2 * (196608 - zc Z) + (512 - c)) (2 * (196608 - zc Z) + 6 * (512 - c)) lw_1 := by
  have hc : c ≤ 511 := by omega
  obtain ⟨R, V, k1, k2, k3, k4, k5, k6⟩ := j_put hF hr (sv G c 1)
  have z1 := cgo_zc k4
  have z2 := czo_zc (k4.2 hz)
  refine sm_aload_n d_law_1070 rfl (j := 3) rfl ?_
  refine sm_scr (c := c) (k := 1) hN (by omega) d_law_1071 d_law_1072 d_law_1074 d_law_1075 d_law_1076 (j0 := 4) (j4 := 0) rfl rfl (by decide) ?_
  refine sm_aload_n d_law_1077 rfl (j := 1) rfl ?_
  refine sm_callS (bc' := 2 * (196608 - zc R.2.2) + (512 - (c + 1))) (bs' := 2 * (196608 - zc R.2.2) + 6 * (512 - (c + 1))) d_law_1078 cs_law_140 rfl (As := [.ref b, .int (sv G c 1), .ref (b + 137)]) rfl rfl (Nat.le_of_ble_eq_true rfl) (by have := os_e1 (oI R.1); omega) (by have := os_e6 (oI R.1); omega) (c_Lw_put hL (sv G c 1) k1) (fun X M1 h => by cases h.1) (fun v M1 h => ?_)
  obtain ⟨h1, g1, hL1, hg⟩ := h
  cases h1
  refine sm_istore d_law_1081 (by decide) rfl ?_
  refine sm_aload_n d_law_1083 rfl (j := 3) rfl ?_
  refine sm_scr (c := c) (k := 1) hN (by omega) d_law_1084 d_law_1085 d_law_1087 d_law_1088 d_law_1089 (j0 := 5) (j4 := 1) rfl rfl (by decide) ?_
  refine lw_md (r9 := some (.int V.1)) d_law_1090 cs_law_143 hL1 (As := [.int (sv G c 1)]) rfl rfl (Nat.le_of_ble_eq_true rfl) (c_Md_put (b := b + 116) ⟨hL1.2.2.1, lo_fr.rf⟩ (sv G c 1) k2) (fun M3 hL3 => ?_)
  refine sm_istore d_law_1093 (by decide) rfl ?_
  refine sm_aload_n d_law_1095 rfl (j := 4) rfl ?_
  refine lw_th d_law_1096 cs_law_100 hL3 rfl (Nat.le_of_ble_eq_true rfl) (c_Md_thrown (b := b + 116) ⟨hL3.2.2.1, lo_fr.rf⟩) ?_
  refine sm_iload d_law_1099 (j := 1) rfl ?_
  refine sm_icmp_eq (tgt := 1106) d_law_1101 (by decide) (fun _ => ?_) (fun h9 => absurd k5 h9)
  refine sm_iload d_law_1106 (j := 1) rfl ?_
  have fin9 : sm_W G mf_law 1123 [(6, .int V.1), (5, .int (cd2 "java/lang/IllegalArgumentException" R.1)), (4, .int (nI (7 * c))), (3, .ref (b + 137)), (2, .ref (b + 116)), (1, .ref b), (0, .ref G.2.2.2.1)] [] M3 (2 * (196608 - zc R.2.2) + (512 - (c + 1))) (2 * (196608 - zc R.2.2) + 6 * (512 - (c + 1))) lw_1 := by
    refine sm_goto (tgt := 1600) d_law_1123 (by decide) ?_
    exact sm_drop2 (law_end kk hL3 k3 (k4.2 hz))
  refine sm_if_ne (tgt := 1123) d_law_1108 (by decide) (fun _ => fin9) (fun h0 => ?_)
  obtain ⟨u, hu⟩ := cd_00 h0
  have hu2 := k6 u hu
  have hg0 := hg u.toInt64 (by rw [hu]; rfl)
  refine sm_aload_n d_law_1111 rfl (j := 3) rfl ?_
  refine sm_iconst (v := 0) d_law_1112 (by decide) ?_
  refine sm_laload d_law_1113 hL3.2.2.2 in01 ?_
  refine sm_iload d_law_1114 (j := 0) rfl ?_
  refine sm_i2l d_law_1116 ?_
  refine sm_lcmp d_law_1117 ?_
  refine sm_if_eq (tgt := 1123) d_law_1118 (by decide) (fun _ => fin9) (fun h9 => absurd (lc_eq (by rw [← hu2]; exact hg0)) h9)
set_option maxHeartbeats 1600000 in
set_option maxRecDepth 100000 in
theorem law_13 {G : sm_G} {b c F : Nat} (hF : 70000 ≤ F) {M : sm_M} {w w' : wd} {Z : zd} {g : Nat → Int64} (hn : 7 * c + 7 ≤ G.2.2.2.2.1) (hN : G.2.2.2.2.1 ≤ 3584) (hL : lwi G b M w Z w' g) (hr : rel w Z w') (hz : czo Z) (kk : lw_K G b (c + 1)) : sm_W G mf_law 1126 [(4, .int (nI (7 * c))), (3, .ref (b + 137)), (2, .ref (b + 116)), (1, .ref b), (0, .ref G.2.2.2.1)] [] M (2 * (196608 - zc Z) + (512 - c)) (2 * (196608 - zc Z) + 6 * (512 - c)) lw_1 := by
  have hc : c ≤ 511 := by omega
  obtain ⟨R, V, k1, k2, k3, k5, k6⟩ := j_at hF hr (sv G c 1)
  have z1 : zc Z ≤ zc Z := Nat.le_refl _
  have z2 := czo_zc hz
  refine sm_aload_n d_law_1126 rfl (j := 3) rfl ?_
  refine sm_scr (c := c) (k := 1) hN (by omega) d_law_1127 d_law_1128 d_law_1130 d_law_1131 d_law_1132 (j0 := 4) (j4 := 0) rfl rfl (by decide) ?_
  refine sm_aload_n d_law_1133 rfl (j := 1) rfl ?_
  refine sm_callS (bc' := 2 * (196608 - zc Z) + (512 - (c + 1))) (bs' := 2 * (196608 - zc Z) + 6 * (512 - (c + 1))) d_law_1134 cs_law_144 rfl (As := [.ref b, .int (sv G c 1), .ref (b + 137)]) rfl rfl (Nat.le_of_ble_eq_true rfl) (by have := os_e1 (oI R); omega) (by have := os_e6 (oI R); omega) (c_Lw_at hL (sv G c 1) k1) (fun X M1 h => by cases h.1) (fun v M1 h => ?_)
  obtain ⟨h1, g1, hL1, hg⟩ := h
  cases h1
  refine sm_istore d_law_1137 (by decide) rfl ?_
  refine sm_aload_n d_law_1139 rfl (j := 3) rfl ?_
  refine sm_scr (c := c) (k := 1) hN (by omega) d_law_1140 d_law_1141 d_law_1143 d_law_1144 d_law_1145 (j0 := 5) (j4 := 1) rfl rfl (by decide) ?_
  refine lw_md (r9 := some (.int V.1)) d_law_1146 cs_law_146 hL1 (As := [.int (sv G c 1)]) rfl rfl (Nat.le_of_ble_eq_true rfl) (c_Md_at (b := b + 116) ⟨hL1.2.2.1, lo_fr.rf⟩ (sv G c 1) k2) (fun M3 hL3 => ?_)
  refine sm_istore d_law_1149 (by decide) rfl ?_
  refine sm_aload_n d_law_1151 rfl (j := 4) rfl ?_
  refine lw_th d_law_1152 cs_law_100 hL3 rfl (Nat.le_of_ble_eq_true rfl) (c_Md_thrown (b := b + 116) ⟨hL3.2.2.1, lo_fr.rf⟩) ?_
  refine sm_iload d_law_1155 (j := 1) rfl ?_
  refine sm_icmp_eq (tgt := 1162) d_law_1157 (by decide) (fun _ => ?_) (fun h9 => absurd k5 h9)
  refine sm_iload d_law_1162 (j := 1) rfl ?_
  have fin9 : sm_W G mf_law 1179 [(6, .int V.1), (5, .int (cd1 R)), (4, .int (nI (7 * c))), (3, .ref (b + 137)), (2, .ref (b + 116)), (1, .ref b), (0, .ref G.2.2.2.1)] [] M3 (2 * (196608 - zc Z) + (512 - (c + 1))) (2 * (196608 - zc Z) + 6 * (512 - (c + 1))) lw_1 := by
    refine sm_goto (tgt := 1600) d_law_1179 (by decide) ?_
    exact sm_drop2 (law_end kk hL3 k3 hz)
  refine sm_if_ne (tgt := 1179) d_law_1164 (by decide) (fun _ => fin9) (fun h0 => ?_)
  obtain ⟨u, hu⟩ := cd_0 h0
  have hu2 := k6 u hu
  have hg0 := hg u.toInt64 (by rw [hu]; rfl)
  refine sm_aload_n d_law_1167 rfl (j := 3) rfl ?_
  refine sm_iconst (v := 0) d_law_1168 (by decide) ?_
  refine sm_laload d_law_1169 hL3.2.2.2 in01 ?_
  refine sm_iload d_law_1170 (j := 0) rfl ?_
  refine sm_i2l d_law_1172 ?_
  refine sm_lcmp d_law_1173 ?_
  refine sm_if_eq (tgt := 1179) d_law_1174 (by decide) (fun _ => fin9) (fun h9 => absurd (lc_eq (by rw [← hu2]; exact hg0)) h9)
set_option maxHeartbeats 1600000 in
set_option maxRecDepth 100000 in
theorem law_14 {G : sm_G} {b c F : Nat} (hF : 70000 ≤ F) {M : sm_M} {w w' : wd} {Z : zd} {g : Nat → Int64} (hn : 7 * c + 7 ≤ G.2.2.2.2.1) (hN : G.2.2.2.2.1 ≤ 3584) (hL : lwi G b M w Z w' g) (hr : rel w Z w') (hz : czo Z) (kk : lw_K G b (c + 1)) : sm_W G mf_law 1182 [(4, .int (nI (7 * c))), (3, .ref (b + 137)), (2, .ref (b + 116)), (1, .ref b), (0, .ref G.2.2.2.1)] [] M (2 * (196608 - zc Z) + (512 - c)) (2 * (196608 - zc Z) + 6 * (512 - c)) lw_1 := by
  have hc : c ≤ 511 := by omega
  obtain ⟨R, V, k1, k2, k3, k4, k5, k6⟩ := j_write hF hr
  have z1 := cgo_zc k4
  have z2 := czo_zc (k4.2 hz)
  refine sm_aload_n d_law_1182 rfl (j := 3) rfl ?_
  refine sm_aload_n d_law_1183 rfl (j := 1) rfl ?_
  refine sm_callS (bc' := 2 * (196608 - zc R.2.2) + (512 - (c + 1))) (bs' := 2 * (196608 - zc R.2.2) + 6 * (512 - (c + 1))) d_law_1184 cs_law_147 rfl (As := [.ref b, .ref (b + 137)]) rfl rfl (Nat.le_of_ble_eq_true rfl) (by have := os_e1 (oI R.1); omega) (by have := os_e6 (oI R.1); omega) (c_Lw_write hL k1) (fun X M1 h => by cases h.1) (fun v M1 h => ?_)
  obtain ⟨h1, g1, hL1, hg⟩ := h
  cases h1
  refine sm_istore d_law_1187 (by decide) rfl ?_
  refine sm_aload_n d_law_1189 rfl (j := 3) rfl ?_
  refine lw_md (r9 := some (.int V.1)) d_law_1190 cs_law_150 hL1 (As := []) rfl rfl (Nat.le_of_ble_eq_true rfl) (c_Md_write (b := b + 116) ⟨hL1.2.2.1, lo_fr.rf⟩ k2) (fun M3 hL3 => ?_)
  refine sm_istore d_law_1193 (by decide) rfl ?_
  refine sm_aload_n d_law_1195 rfl (j := 4) rfl ?_
  refine lw_th d_law_1196 cs_law_100 hL3 rfl (Nat.le_of_ble_eq_true rfl) (c_Md_thrown (b := b + 116) ⟨hL3.2.2.1, lo_fr.rf⟩) ?_
  refine sm_iload d_law_1199 (j := 1) rfl ?_
  refine sm_icmp_eq (tgt := 1206) d_law_1201 (by decide) (fun _ => ?_) (fun h9 => absurd k5 h9)
  refine sm_iload d_law_1206 (j := 1) rfl ?_
  have fin9 : sm_W G mf_law 1223 [(6, .int V.1), (5, .int (cd2 "java/lang/IllegalStateException" R.1)), (4, .int (nI (7 * c))), (3, .ref (b + 137)), (2, .ref (b + 116)), (1, .ref b), (0, .ref G.2.2.2.1)] [] M3 (2 * (196608 - zc R.2.2) + (512 - (c + 1))) (2 * (196608 - zc R.2.2) + 6 * (512 - (c + 1))) lw_1 := by
    refine sm_goto (tgt := 1600) d_law_1223 (by decide) ?_
    exact sm_drop2 (law_end kk hL3 k3 (k4.2 hz))
  refine sm_if_ne (tgt := 1223) d_law_1208 (by decide) (fun _ => fin9) (fun h0 => ?_)
  obtain ⟨u, hu⟩ := cd_00 h0
  have hu2 := k6 u hu
  have hg0 := hg u.toInt64 (by rw [hu]; rfl)
  refine sm_aload_n d_law_1211 rfl (j := 3) rfl ?_
  refine sm_iconst (v := 0) d_law_1212 (by decide) ?_
  refine sm_laload d_law_1213 hL3.2.2.2 in01 ?_
  refine sm_iload d_law_1214 (j := 0) rfl ?_
  refine sm_i2l d_law_1216 ?_
  refine sm_lcmp d_law_1217 ?_
  refine sm_if_eq (tgt := 1223) d_law_1218 (by decide) (fun _ => fin9) (fun h9 => absurd (lc_eq (by rw [← hu2]; exact hg0)) h9)
set_option maxHeartbeats 1600000 in
set_option maxRecDepth 100000 in
theorem law_15 {G : sm_G} {b c F : Nat} (hF : 70000 ≤ F) {M : sm_M} {w w' : wd} {Z : zd} {g : Nat → Int64} (hn : 7 * c + 7 ≤ G.2.2.2.2.1) (hN : G.2.2.2.2.1 ≤ 3584) (hL : lwi G b M w Z w' g) (hr : rel w Z w') (hz : czo Z) (kk : lw_K G b (c + 1)) : sm_W G mf_law 1226 [(4, .int (nI (7 * c))), (3, .ref (b + 137)), (2, .ref (b + 116)), (1, .ref b), (0, .ref G.2.2.2.1)] [] M (2 * (196608 - zc Z) + (512 - c)) (2 * (196608 - zc Z) + 6 * (512 - c)) lw_1 := by
  have hc : c ≤ 511 := by omega
  obtain ⟨R, V, k1, k2, k3, k4, k5⟩ := j_part hF hr (sv G c 1) (sv G c 2) (sv G c 3) (sv G c 4)
  have z1 := cgo_zc k4
  have z2 := czo_zc (k4.2 hz)
  refine sm_aload_n d_law_1226 rfl (j := 3) rfl ?_
  refine sm_scr (c := c) (k := 1) hN (by omega) d_law_1227 d_law_1228 d_law_1230 d_law_1231 d_law_1232 (j0 := 4) (j4 := 0) rfl rfl (by decide) ?_
  refine sm_scr (c := c) (k := 2) hN (by omega) d_law_1233 d_law_1234 d_law_1236 d_law_1237 d_law_1238 (j0 := 4) (j4 := 0) rfl rfl (by decide) ?_
  refine sm_scr (c := c) (k := 3) hN (by omega) d_law_1239 d_law_1240 d_law_1242 d_law_1243 d_law_1244 (j0 := 4) (j4 := 0) rfl rfl (by decide) ?_
  refine sm_scr (c := c) (k := 4) hN (by omega) d_law_1245 d_law_1246 d_law_1248 d_law_1249 d_law_1250 (j0 := 4) (j4 := 0) rfl rfl (by decide) ?_
  refine sm_callS (bc' := 2 * (196608 - zc R.2.2) + (512 - (c + 1))) (bs' := 2 * (196608 - zc R.2.2) + 6 * (512 - (c + 1))) d_law_1251 cs_law_151 rfl (As := [.ref b, .int (sv G c 1), .int (sv G c 2), .int (sv G c 3), .int (sv G c 4)]) rfl rfl (Nat.le_of_ble_eq_true rfl) (by have := os_e1 (oV R.1); omega) (by have := os_e6 (oV R.1); omega) (c_Lw_part hL (sv G c 1) (sv G c 2) (sv G c 3) (sv G c 4) k1) (fun X M1 h => by cases h.1) (fun v M1 h => ?_)
  obtain ⟨h1, g1, hL1, hg⟩ := h
  cases h1
  refine sm_istore d_law_1254 (by decide) rfl ?_
  refine sm_aload_n d_law_1256 rfl (j := 3) rfl ?_
  refine sm_scr (c := c) (k := 1) hN (by omega) d_law_1257 d_law_1258 d_law_1260 d_law_1261 d_law_1262 (j0 := 5) (j4 := 1) rfl rfl (by decide) ?_
  refine sm_scr (c := c) (k := 2) hN (by omega) d_law_1263 d_law_1264 d_law_1266 d_law_1267 d_law_1268 (j0 := 5) (j4 := 1) rfl rfl (by decide) ?_
  refine sm_scr (c := c) (k := 3) hN (by omega) d_law_1269 d_law_1270 d_law_1272 d_law_1273 d_law_1274 (j0 := 5) (j4 := 1) rfl rfl (by decide) ?_
  refine sm_scr (c := c) (k := 4) hN (by omega) d_law_1275 d_law_1276 d_law_1278 d_law_1279 d_law_1280 (j0 := 5) (j4 := 1) rfl rfl (by decide) ?_
  refine lw_md (r9 := none) d_law_1281 cs_law_153 hL1 (As := [.int (sv G c 1), .int (sv G c 2), .int (sv G c 3), .int (sv G c 4)]) rfl rfl (Nat.le_of_ble_eq_true rfl) (c_Md_part (b := b + 116) ⟨hL1.2.2.1, lo_fr.rf⟩ (sv G c 1) (sv G c 2) (sv G c 3) (sv G c 4) k2) (fun M3 hL3 => ?_)
  refine sm_aload_n d_law_1284 rfl (j := 3) rfl ?_
  refine lw_th d_law_1285 cs_law_100 hL3 rfl (Nat.le_of_ble_eq_true rfl) (c_Md_thrown (b := b + 116) ⟨hL3.2.2.1, lo_fr.rf⟩) ?_
  refine sm_iload d_law_1288 (j := 0) rfl ?_
  refine sm_icmp_eq (tgt := 1295) d_law_1290 (by decide) (fun _ => ?_) (fun h9 => absurd k5 h9)
  refine sm_goto (tgt := 1600) d_law_1295 (by decide) ?_
  exact sm_drop1 (law_end kk hL3 k3 (k4.2 hz))
set_option maxHeartbeats 1600000 in
set_option maxRecDepth 100000 in
theorem law_16 {G : sm_G} {b c F : Nat} (hF : 70000 ≤ F) {M : sm_M} {w w' : wd} {Z : zd} {g : Nat → Int64} (hn : 7 * c + 7 ≤ G.2.2.2.2.1) (hN : G.2.2.2.2.1 ≤ 3584) (hL : lwi G b M w Z w' g) (hr : rel w Z w') (hz : czo Z) (kk : lw_K G b (c + 1)) : sm_W G mf_law 1298 [(4, .int (nI (7 * c))), (3, .ref (b + 137)), (2, .ref (b + 116)), (1, .ref b), (0, .ref G.2.2.2.1)] [] M (2 * (196608 - zc Z) + (512 - c)) (2 * (196608 - zc Z) + 6 * (512 - c)) lw_1 := by
  have hc : c ≤ 511 := by omega
  obtain ⟨R, V, k1, k2, k3, k4, k5⟩ := j_mark hF hr (sv G c 1)
  have z1 := cgo_zc k4
  have z2 := czo_zc (k4.2 hz)
  refine sm_aload_n d_law_1298 rfl (j := 3) rfl ?_
  refine sm_scr (c := c) (k := 1) hN (by omega) d_law_1299 d_law_1300 d_law_1302 d_law_1303 d_law_1304 (j0 := 4) (j4 := 0) rfl rfl (by decide) ?_
  refine sm_callS (bc' := 2 * (196608 - zc R.2.2) + (512 - (c + 1))) (bs' := 2 * (196608 - zc R.2.2) + 6 * (512 - (c + 1))) d_law_1305 cs_law_154 rfl (As := [.ref b, .int (sv G c 1)]) rfl rfl (Nat.le_of_ble_eq_true rfl) (by have := os_e1 (oV R.1); omega) (by have := os_e6 (oV R.1); omega) (c_Lw_mark hL (sv G c 1) k1) (fun X M1 h => by cases h.1) (fun v M1 h => ?_)
  obtain ⟨h1, g1, hL1, hg⟩ := h
  cases h1
  refine sm_istore d_law_1308 (by decide) rfl ?_
  refine sm_aload_n d_law_1310 rfl (j := 3) rfl ?_
  refine sm_scr (c := c) (k := 1) hN (by omega) d_law_1311 d_law_1312 d_law_1314 d_law_1315 d_law_1316 (j0 := 5) (j4 := 1) rfl rfl (by decide) ?_
  refine lw_md (r9 := none) d_law_1317 cs_law_157 hL1 (As := [.int (sv G c 1)]) rfl rfl (Nat.le_of_ble_eq_true rfl) (c_Md_mark (b := b + 116) ⟨hL1.2.2.1, lo_fr.rf⟩ (sv G c 1) k2) (fun M3 hL3 => ?_)
  refine sm_aload_n d_law_1320 rfl (j := 3) rfl ?_
  refine lw_th d_law_1321 cs_law_100 hL3 rfl (Nat.le_of_ble_eq_true rfl) (c_Md_thrown (b := b + 116) ⟨hL3.2.2.1, lo_fr.rf⟩) ?_
  refine sm_iload d_law_1324 (j := 0) rfl ?_
  refine sm_icmp_eq (tgt := 1331) d_law_1326 (by decide) (fun _ => ?_) (fun h9 => absurd k5 h9)
  refine sm_goto (tgt := 1600) d_law_1331 (by decide) ?_
  exact sm_drop1 (law_end kk hL3 k3 (k4.2 hz))
set_option maxHeartbeats 1600000 in
set_option maxRecDepth 100000 in
theorem law_17 {G : sm_G} {b c F : Nat} (hF : 70000 ≤ F) {M : sm_M} {w w' : wd} {Z : zd} {g : Nat → Int64} (hn : 7 * c + 7 ≤ G.2.2.2.2.1) (hN : G.2.2.2.2.1 ≤ 3584) (hL : lwi G b M w Z w' g) (hr : rel w Z w') (hz : czo Z) (kk : lw_K G b (c + 1)) : sm_W G mf_law 1334 [(4, .int (nI (7 * c))), (3, .ref (b + 137)), (2, .ref (b + 116)), (1, .ref b), (0, .ref G.2.2.2.1)] [] M (2 * (196608 - zc Z) + (512 - c)) (2 * (196608 - zc Z) + 6 * (512 - c)) lw_1 := by
  have hc : c ≤ 511 := by omega
  obtain ⟨R, V, k1, k2, k3, k4, k5⟩ := j_spoil hF hr (sv G c 1) (sv G c 2)
  have z1 := cgo_zc k4
  have z2 := czo_zc (k4.2 hz)
  refine sm_aload_n d_law_1334 rfl (j := 3) rfl ?_
  refine sm_scr (c := c) (k := 1) hN (by omega) d_law_1335 d_law_1336 d_law_1338 d_law_1339 d_law_1340 (j0 := 4) (j4 := 0) rfl rfl (by decide) ?_
  refine sm_scr (c := c) (k := 2) hN (by omega) d_law_1341 d_law_1342 d_law_1344 d_law_1345 d_law_1346 (j0 := 4) (j4 := 0) rfl rfl (by decide) ?_
  refine sm_callS (bc' := 2 * (196608 - zc R.2.2) + (512 - (c + 1))) (bs' := 2 * (196608 - zc R.2.2) + 6 * (512 - (c + 1))) d_law_1347 cs_law_158 rfl (As := [.ref b, .int (sv G c 1), .int (sv G c 2)]) rfl rfl (Nat.le_of_ble_eq_true rfl) (by have := os_e1 (oV R.1); omega) (by have := os_e6 (oV R.1); omega) (c_Lw_spoil hL (sv G c 1) (sv G c 2) k1) (fun X M1 h => by cases h.1) (fun v M1 h => ?_)
  obtain ⟨h1, g1, hL1, hg⟩ := h
  cases h1
  refine sm_istore d_law_1350 (by decide) rfl ?_
  refine sm_aload_n d_law_1352 rfl (j := 3) rfl ?_
  refine sm_scr (c := c) (k := 1) hN (by omega) d_law_1353 d_law_1354 d_law_1356 d_law_1357 d_law_1358 (j0 := 5) (j4 := 1) rfl rfl (by decide) ?_
  refine sm_scr (c := c) (k := 2) hN (by omega) d_law_1359 d_law_1360 d_law_1362 d_law_1363 d_law_1364 (j0 := 5) (j4 := 1) rfl rfl (by decide) ?_
  refine lw_md (r9 := none) d_law_1365 cs_law_161 hL1 (As := [.int (sv G c 1), .int (sv G c 2)]) rfl rfl (Nat.le_of_ble_eq_true rfl) (c_Md_spoil (b := b + 116) ⟨hL1.2.2.1, lo_fr.rf⟩ (sv G c 1) (sv G c 2) k2) (fun M3 hL3 => ?_)
  refine sm_aload_n d_law_1368 rfl (j := 3) rfl ?_
  refine lw_th d_law_1369 cs_law_100 hL3 rfl (Nat.le_of_ble_eq_true rfl) (c_Md_thrown (b := b + 116) ⟨hL3.2.2.1, lo_fr.rf⟩) ?_
  refine sm_iload d_law_1372 (j := 0) rfl ?_
  refine sm_icmp_eq (tgt := 1379) d_law_1374 (by decide) (fun _ => ?_) (fun h9 => absurd k5 h9)
  refine sm_goto (tgt := 1600) d_law_1379 (by decide) ?_
  exact sm_drop1 (law_end kk hL3 k3 (k4.2 hz))
set_option maxHeartbeats 1600000 in
set_option maxRecDepth 100000 in
theorem law_18 {G : sm_G} {b c F : Nat} (hF : 70000 ≤ F) {M : sm_M} {w w' : wd} {Z : zd} {g : Nat → Int64} (hn : 7 * c + 7 ≤ G.2.2.2.2.1) (hN : G.2.2.2.2.1 ≤ 3584) (hL : lwi G b M w Z w' g) (hr : rel w Z w') (hz : czo Z) (kk : lw_K G b (c + 1)) : sm_W G mf_law 1382 [(4, .int (nI (7 * c))), (3, .ref (b + 137)), (2, .ref (b + 116)), (1, .ref b), (0, .ref G.2.2.2.1)] [] M (2 * (196608 - zc Z) + (512 - c)) (2 * (196608 - zc Z) + 6 * (512 - c)) lw_1 := by
  have hc : c ≤ 511 := by omega
  obtain ⟨R, V, k1, k2, k3, k4, k5⟩ := j_scan hF hr
  have z1 := cgo_zc k4
  have z2 := czo_zc (k4.2 hz)
  refine sm_aload_n d_law_1382 rfl (j := 3) rfl ?_
  refine sm_callV (b := b) (bc' := 2 * (196608 - zc R.2.2) + (512 - (c + 1))) (bs' := 2 * (196608 - zc R.2.2) + 6 * (512 - (c + 1))) d_law_1383 cs_law_162 rfl (hL.1 0 _ cl_0) (As := []) rfl rfl (Nat.le_of_ble_eq_true rfl) (by have := os_e1 (oI R.1); omega) (by have := os_e6 (oI R.1); omega) (c_SM_scan hL.os k1) (fun X M1 h => ?_) (fun v M1 h => ?_)
  · have e := h.1; rw [k5] at e; cases e
  obtain ⟨h1, h2⟩ := h
  rw [k5] at h1
  cases h1
  have hL2 := hL.go h2
  refine sm_aload_n d_law_1386 rfl (j := 2) rfl ?_
  refine lw_md (r9 := some (.int V.1)) d_law_1387 cs_law_165 hL2 (As := []) rfl rfl (Nat.le_of_ble_eq_true rfl) (c_Md_scan (b := b + 116) ⟨hL2.2.2.1, lo_fr.rf⟩ k2) (fun M2 hL3 => ?_)
  refine sm_icmp_eq (tgt := 1600) d_law_1390 (by decide) (fun _ => ?_) (fun h9 => absurd rfl h9)
  exact law_end kk hL3 k3 (k4.2 hz)
set_option maxHeartbeats 1600000 in
set_option maxRecDepth 100000 in
theorem law_19 {G : sm_G} {b c F : Nat} (hF : 70000 ≤ F) {M : sm_M} {w w' : wd} {Z : zd} {g : Nat → Int64} (hn : 7 * c + 7 ≤ G.2.2.2.2.1) (hN : G.2.2.2.2.1 ≤ 3584) (hL : lwi G b M w Z w' g) (hr : rel w Z w') (hz : czo Z) (kk : lw_K G b (c + 1)) : sm_W G mf_law 1395 [(4, .int (nI (7 * c))), (3, .ref (b + 137)), (2, .ref (b + 116)), (1, .ref b), (0, .ref G.2.2.2.1)] [] M (2 * (196608 - zc Z) + (512 - c)) (2 * (196608 - zc Z) + 6 * (512 - c)) lw_1 := by
  have hc : c ≤ 511 := by omega
  obtain ⟨k1, k3⟩ := j_place hF hr
  have z2 := czo_zc hz
  refine sm_aload_n d_law_1395 rfl (j := 3) rfl ?_
  refine sm_callV (b := b) (bc' := 2 * (196608 - zc Z) + (512 - (c + 1))) (bs' := 2 * (196608 - zc Z) + 6 * (512 - (c + 1))) d_law_1396 cs_law_166 rfl (hL.1 0 _ cl_0) (As := []) rfl rfl (Nat.le_of_ble_eq_true rfl) (by show 0 + _ ≤ _; omega) (by show 0 + _ ≤ _; omega) (c_SM_place hL.os k1) (fun X M1 h => ?_) (fun v M1 h => ?_)
  · cases h.1
  obtain ⟨h1, h2⟩ := h
  cases h1
  have hL2 := hL.go h2
  refine sm_aload_n d_law_1399 rfl (j := 2) rfl ?_
  refine lw_md (r9 := some (.int (fn_Md_place w').1)) d_law_1400 cs_law_169 hL2 (As := []) rfl rfl (Nat.le_of_ble_eq_true rfl) (c_Md_place (b := b + 116) ⟨hL2.2.2.1, lo_fr.rf⟩) (fun M2 hL3 => ?_)
  refine sm_icmp_eq (tgt := 1600) d_law_1403 (by decide) (fun _ => ?_) (fun h9 => absurd rfl h9)
  exact law_end kk hL3 k3 hz
set_option maxHeartbeats 1600000 in
set_option maxRecDepth 100000 in
theorem law_20 {G : sm_G} {b c F : Nat} (hF : 70000 ≤ F) {M : sm_M} {w w' : wd} {Z : zd} {g : Nat → Int64} (hn : 7 * c + 7 ≤ G.2.2.2.2.1) (hN : G.2.2.2.2.1 ≤ 3584) (hL : lwi G b M w Z w' g) (hr : rel w Z w') (hz : czo Z) (kk : lw_K G b (c + 1)) : sm_W G mf_law 1408 [(4, .int (nI (7 * c))), (3, .ref (b + 137)), (2, .ref (b + 116)), (1, .ref b), (0, .ref G.2.2.2.1)] [] M (2 * (196608 - zc Z) + (512 - c)) (2 * (196608 - zc Z) + 6 * (512 - c)) lw_1 := by
  have hc : c ≤ 511 := by omega
  obtain ⟨R, V, k1, k2, k3, k4, k5, k6⟩ := j_use hF hr (sv G c 1)
  have z1 := cgo_zc k4
  have z2 := czo_zc (k4.2 hz)
  refine sm_aload_n d_law_1408 rfl (j := 3) rfl ?_
  refine sm_scr (c := c) (k := 1) hN (by omega) d_law_1409 d_law_1410 d_law_1412 d_law_1413 d_law_1414 (j0 := 4) (j4 := 0) rfl rfl (by decide) ?_
  refine sm_aload_n d_law_1415 rfl (j := 1) rfl ?_
  refine sm_callS (bc' := 2 * (196608 - zc R.2.2) + (512 - (c + 1))) (bs' := 2 * (196608 - zc R.2.2) + 6 * (512 - (c + 1))) d_law_1416 cs_law_170 rfl (As := [.ref b, .int (sv G c 1), .ref (b + 137)]) rfl rfl (Nat.le_of_ble_eq_true rfl) (by have := os_e1 (oI R.1); omega) (by have := os_e6 (oI R.1); omega) (c_Lw_use hL (sv G c 1) k1) (fun X M1 h => by cases h.1) (fun v M1 h => ?_)
  obtain ⟨h1, g1, hL1, hg⟩ := h
  cases h1
  refine sm_istore d_law_1419 (by decide) rfl ?_
  refine sm_aload_n d_law_1421 rfl (j := 3) rfl ?_
  refine sm_scr (c := c) (k := 1) hN (by omega) d_law_1422 d_law_1423 d_law_1425 d_law_1426 d_law_1427 (j0 := 5) (j4 := 1) rfl rfl (by decide) ?_
  refine lw_md (r9 := some (.int V.1)) d_law_1428 cs_law_172 hL1 (As := [.int (sv G c 1)]) rfl rfl (Nat.le_of_ble_eq_true rfl) (c_Md_use (b := b + 116) ⟨hL1.2.2.1, lo_fr.rf⟩ (sv G c 1) k2) (fun M3 hL3 => ?_)
  refine sm_istore d_law_1431 (by decide) rfl ?_
  refine sm_aload_n d_law_1433 rfl (j := 4) rfl ?_
  refine lw_th d_law_1434 cs_law_100 hL3 rfl (Nat.le_of_ble_eq_true rfl) (c_Md_thrown (b := b + 116) ⟨hL3.2.2.1, lo_fr.rf⟩) ?_
  refine sm_iload d_law_1437 (j := 1) rfl ?_
  refine sm_icmp_eq (tgt := 1444) d_law_1439 (by decide) (fun _ => ?_) (fun h9 => absurd k5 h9)
  refine sm_iload d_law_1444 (j := 1) rfl ?_
  have fin9 : sm_W G mf_law 1461 [(6, .int V.1), (5, .int (cd2 "java/lang/IllegalStateException" R.1)), (4, .int (nI (7 * c))), (3, .ref (b + 137)), (2, .ref (b + 116)), (1, .ref b), (0, .ref G.2.2.2.1)] [] M3 (2 * (196608 - zc R.2.2) + (512 - (c + 1))) (2 * (196608 - zc R.2.2) + 6 * (512 - (c + 1))) lw_1 := by
    refine sm_goto (tgt := 1600) d_law_1461 (by decide) ?_
    exact sm_drop2 (law_end kk hL3 k3 (k4.2 hz))
  refine sm_if_ne (tgt := 1461) d_law_1446 (by decide) (fun _ => fin9) (fun h0 => ?_)
  obtain ⟨u, hu⟩ := cd_00 h0
  have hu2 := k6 u hu
  have hg0 := hg u.toInt64 (by rw [hu]; rfl)
  refine sm_aload_n d_law_1449 rfl (j := 3) rfl ?_
  refine sm_iconst (v := 0) d_law_1450 (by decide) ?_
  refine sm_laload d_law_1451 hL3.2.2.2 in01 ?_
  refine sm_iload d_law_1452 (j := 0) rfl ?_
  refine sm_i2l d_law_1454 ?_
  refine sm_lcmp d_law_1455 ?_
  refine sm_if_eq (tgt := 1461) d_law_1456 (by decide) (fun _ => fin9) (fun h9 => absurd (lc_eq (by rw [← hu2]; exact hg0)) h9)
set_option maxHeartbeats 1600000 in
set_option maxRecDepth 100000 in
theorem law_21 {G : sm_G} {b c F : Nat} (hF : 70000 ≤ F) {M : sm_M} {w w' : wd} {Z : zd} {g : Nat → Int64} (hn : 7 * c + 7 ≤ G.2.2.2.2.1) (hN : G.2.2.2.2.1 ≤ 3584) (hL : lwi G b M w Z w' g) (hr : rel w Z w') (hz : czo Z) (kk : lw_K G b (c + 1)) : sm_W G mf_law 1464 [(4, .int (nI (7 * c))), (3, .ref (b + 137)), (2, .ref (b + 116)), (1, .ref b), (0, .ref G.2.2.2.1)] [] M (2 * (196608 - zc Z) + (512 - c)) (2 * (196608 - zc Z) + 6 * (512 - c)) lw_1 := by
  have hc : c ≤ 511 := by omega
  obtain ⟨R, V, k1, k2, k3, k4, k5, k6⟩ := j_head hF hr (sv G c 1) (sv G c 2)
  have z1 := cgo_zc k4
  have z2 := czo_zc (k4.2 hz)
  refine sm_aload_n d_law_1464 rfl (j := 3) rfl ?_
  refine sm_scr (c := c) (k := 1) hN (by omega) d_law_1465 d_law_1466 d_law_1468 d_law_1469 d_law_1470 (j0 := 4) (j4 := 0) rfl rfl (by decide) ?_
  refine sm_scr (c := c) (k := 2) hN (by omega) d_law_1471 d_law_1472 d_law_1474 d_law_1475 d_law_1476 (j0 := 4) (j4 := 0) rfl rfl (by decide) ?_
  refine sm_aload_n d_law_1477 rfl (j := 1) rfl ?_
  refine sm_callS (bc' := 2 * (196608 - zc R.2.2) + (512 - (c + 1))) (bs' := 2 * (196608 - zc R.2.2) + 6 * (512 - (c + 1))) d_law_1478 cs_law_173 rfl (As := [.ref b, .int (sv G c 1), .int (sv G c 2), .ref (b + 137)]) rfl rfl (Nat.le_of_ble_eq_true rfl) (by have := os_e1 (oI R.1); omega) (by have := os_e6 (oI R.1); omega) (c_Lw_head hL (sv G c 1) (sv G c 2) k1) (fun X M1 h => by cases h.1) (fun v M1 h => ?_)
  obtain ⟨h1, g1, hL1, hg⟩ := h
  cases h1
  refine sm_istore d_law_1481 (by decide) rfl ?_
  refine sm_aload_n d_law_1483 rfl (j := 3) rfl ?_
  refine sm_scr (c := c) (k := 1) hN (by omega) d_law_1484 d_law_1485 d_law_1487 d_law_1488 d_law_1489 (j0 := 5) (j4 := 1) rfl rfl (by decide) ?_
  refine sm_scr (c := c) (k := 2) hN (by omega) d_law_1490 d_law_1491 d_law_1493 d_law_1494 d_law_1495 (j0 := 5) (j4 := 1) rfl rfl (by decide) ?_
  refine lw_md (r9 := some (.int V.1)) d_law_1496 cs_law_176 hL1 (As := [.int (sv G c 1), .int (sv G c 2)]) rfl rfl (Nat.le_of_ble_eq_true rfl) (c_Md_head (b := b + 116) ⟨hL1.2.2.1, lo_fr.rf⟩ (sv G c 1) (sv G c 2) k2) (fun M3 hL3 => ?_)
  refine sm_istore d_law_1499 (by decide) rfl ?_
  refine sm_aload_n d_law_1501 rfl (j := 4) rfl ?_
  refine lw_th d_law_1502 cs_law_100 hL3 rfl (Nat.le_of_ble_eq_true rfl) (c_Md_thrown (b := b + 116) ⟨hL3.2.2.1, lo_fr.rf⟩) ?_
  refine sm_iload d_law_1505 (j := 1) rfl ?_
  refine sm_icmp_eq (tgt := 1512) d_law_1507 (by decide) (fun _ => ?_) (fun h9 => absurd k5 h9)
  refine sm_iload d_law_1512 (j := 1) rfl ?_
  have fin9 : sm_W G mf_law 1529 [(6, .int V.1), (5, .int (cd2 "java/lang/IllegalStateException" R.1)), (4, .int (nI (7 * c))), (3, .ref (b + 137)), (2, .ref (b + 116)), (1, .ref b), (0, .ref G.2.2.2.1)] [] M3 (2 * (196608 - zc R.2.2) + (512 - (c + 1))) (2 * (196608 - zc R.2.2) + 6 * (512 - (c + 1))) lw_1 := by
    refine sm_goto (tgt := 1600) d_law_1529 (by decide) ?_
    exact sm_drop2 (law_end kk hL3 k3 (k4.2 hz))
  refine sm_if_ne (tgt := 1529) d_law_1514 (by decide) (fun _ => fin9) (fun h0 => ?_)
  obtain ⟨u, hu⟩ := cd_00 h0
  have hu2 := k6 u hu
  have hg0 := hg u.toInt64 (by rw [hu]; rfl)
  refine sm_aload_n d_law_1517 rfl (j := 3) rfl ?_
  refine sm_iconst (v := 0) d_law_1518 (by decide) ?_
  refine sm_laload d_law_1519 hL3.2.2.2 in01 ?_
  refine sm_iload d_law_1520 (j := 0) rfl ?_
  refine sm_i2l d_law_1522 ?_
  refine sm_lcmp d_law_1523 ?_
  refine sm_if_eq (tgt := 1529) d_law_1524 (by decide) (fun _ => fin9) (fun h9 => absurd (lc_eq (by rw [← hu2]; exact hg0)) h9)
set_option maxHeartbeats 1600000 in
set_option maxRecDepth 100000 in
theorem law_22 {G : sm_G} {b c F : Nat} (hF : 70000 ≤ F) {M : sm_M} {w w' : wd} {Z : zd} {g : Nat → Int64} (hn : 7 * c + 7 ≤ G.2.2.2.2.1) (hN : G.2.2.2.2.1 ≤ 3584) (hL : lwi G b M w Z w' g) (hr : rel w Z w') (hz : czo Z) (kk : lw_K G b (c + 1)) : sm_W G mf_law 1532 [(4, .int (nI (7 * c))), (3, .ref (b + 137)), (2, .ref (b + 116)), (1, .ref b), (0, .ref G.2.2.2.1)] [] M (2 * (196608 - zc Z) + (512 - c)) (2 * (196608 - zc Z) + 6 * (512 - c)) lw_1 := by
  have hc : c ≤ 511 := by omega
  obtain ⟨R, V, k1, k2, k3, k5, k6⟩ := j_found hF hr (sv G c 1) (sv G c 2)
  have z1 : zc Z ≤ zc Z := Nat.le_refl _
  have z2 := czo_zc hz
  refine sm_aload_n d_law_1532 rfl (j := 3) rfl ?_
  refine sm_scr (c := c) (k := 1) hN (by omega) d_law_1533 d_law_1534 d_law_1536 d_law_1537 d_law_1538 (j0 := 4) (j4 := 0) rfl rfl (by decide) ?_
  refine sm_scr (c := c) (k := 2) hN (by omega) d_law_1539 d_law_1540 d_law_1542 d_law_1543 d_law_1544 (j0 := 4) (j4 := 0) rfl rfl (by decide) ?_
  refine sm_aload_n d_law_1545 rfl (j := 1) rfl ?_
  refine sm_callS (bc' := 2 * (196608 - zc Z) + (512 - (c + 1))) (bs' := 2 * (196608 - zc Z) + 6 * (512 - (c + 1))) d_law_1546 cs_law_177 rfl (As := [.ref b, .int (sv G c 1), .int (sv G c 2), .ref (b + 137)]) rfl rfl (Nat.le_of_ble_eq_true rfl) (by have := os_e1 (oI R); omega) (by have := os_e6 (oI R); omega) (c_Lw_found hL (sv G c 1) (sv G c 2) k1) (fun X M1 h => by cases h.1) (fun v M1 h => ?_)
  obtain ⟨h1, g1, hL1, hg⟩ := h
  cases h1
  refine sm_istore d_law_1549 (by decide) rfl ?_
  refine sm_aload_n d_law_1551 rfl (j := 3) rfl ?_
  refine sm_scr (c := c) (k := 1) hN (by omega) d_law_1552 d_law_1553 d_law_1555 d_law_1556 d_law_1557 (j0 := 5) (j4 := 1) rfl rfl (by decide) ?_
  refine sm_scr (c := c) (k := 2) hN (by omega) d_law_1558 d_law_1559 d_law_1561 d_law_1562 d_law_1563 (j0 := 5) (j4 := 1) rfl rfl (by decide) ?_
  refine lw_md (r9 := some (.int V.1)) d_law_1564 cs_law_179 hL1 (As := [.int (sv G c 1), .int (sv G c 2)]) rfl rfl (Nat.le_of_ble_eq_true rfl) (c_Md_found (b := b + 116) ⟨hL1.2.2.1, lo_fr.rf⟩ (sv G c 1) (sv G c 2) k2) (fun M3 hL3 => ?_)
  refine sm_istore d_law_1567 (by decide) rfl ?_
  refine sm_aload_n d_law_1569 rfl (j := 4) rfl ?_
  refine lw_th d_law_1570 cs_law_100 hL3 rfl (Nat.le_of_ble_eq_true rfl) (c_Md_thrown (b := b + 116) ⟨hL3.2.2.1, lo_fr.rf⟩) ?_
  refine sm_iload d_law_1573 (j := 1) rfl ?_
  refine sm_icmp_eq (tgt := 1580) d_law_1575 (by decide) (fun _ => ?_) (fun h9 => absurd k5 h9)
  refine sm_iload d_law_1580 (j := 1) rfl ?_
  have fin9 : sm_W G mf_law 1597 [(6, .int V.1), (5, .int (cd2 "java/lang/IllegalStateException" R)), (4, .int (nI (7 * c))), (3, .ref (b + 137)), (2, .ref (b + 116)), (1, .ref b), (0, .ref G.2.2.2.1)] [] M3 (2 * (196608 - zc Z) + (512 - (c + 1))) (2 * (196608 - zc Z) + 6 * (512 - (c + 1))) lw_1 := by
    refine sm_goto (tgt := 1600) d_law_1597 (by decide) ?_
    exact sm_drop2 (law_end kk hL3 k3 hz)
  refine sm_if_ne (tgt := 1597) d_law_1582 (by decide) (fun _ => fin9) (fun h0 => ?_)
  obtain ⟨u, hu⟩ := cd_00 h0
  have hu2 := k6 u hu
  have hg0 := hg u.toInt64 (by rw [hu]; rfl)
  refine sm_aload_n d_law_1585 rfl (j := 3) rfl ?_
  refine sm_iconst (v := 0) d_law_1586 (by decide) ?_
  refine sm_laload d_law_1587 hL3.2.2.2 in01 ?_
  refine sm_iload d_law_1588 (j := 0) rfl ?_
  refine sm_i2l d_law_1590 ?_
  refine sm_lcmp d_law_1591 ?_
  refine sm_if_eq (tgt := 1597) d_law_1592 (by decide) (fun _ => fin9) (fun h9 => absurd (lc_eq (by rw [← hu2]; exact hg0)) h9)
