/-! StreamMarksModel, on; written by wip/tools/model.py -/
def fn_Md_partAt_355 (k258 : wd → Int32 → Int32 → Int32 → Bool → Int32 → Option (Int32 × wd)) (F : Nat) (w : wd) (x2 : Int32) (x8 : Int32) (x9 : Int32) (x10 : Bool) (s0 : Int32) (s1 : Int32) : Option (Int32 × wd) := k258 w x2 x8 x9 x10 (s1 + s0)
set_option maxHeartbeats 1600000 in
set_option maxRecDepth 100000 in
theorem w_Md_partAt_355 {G : sm_G} {b : Nat} {M0 : sm_M} {bc bs : Nat} {R : Int32 × wd} {F : Nat} {k258 : wd → Int32 → Int32 → Int32 → Bool → Int32 → Option (Int32 × wd)} (hk258 : ∀ (M : sm_M) (w : wd) (x2 : Int32) (x8 : Int32) (x9 : Int32) (x10 : Bool) (x11 : Int32), lo_in G md_L b M0 M w → k258 w x2 x8 x9 x10 x11 = some R → sm_W G mf_Md_partAt 258 [(0, .ref (b + 0)), (2, .int x2), (8, .int x8), (9, .int x9), (10, .int (bi x10)), (11, .int x11)] [] M bc bs (wd_Q G md_L b M0 (some (.int R.1)) R.2)) : ∀ (M : sm_M) (w : wd) (x2 : Int32) (x8 : Int32) (x9 : Int32) (x10 : Bool) (s0 : Int32) (s1 : Int32), lo_in G md_L b M0 M w → fn_Md_partAt_355 k258 F w x2 x8 x9 x10 s0 s1 = some R → sm_W G mf_Md_partAt 355 [(0, .ref (b + 0)), (2, .int x2), (8, .int x8), (9, .int x9), (10, .int (bi x10))] [.int s0, .int s1] M bc bs (wd_Q G md_L b M0 (some (.int R.1)) R.2) := by
  intro M w x2 x8 x9 x10 s0 s1 hI  hf
  unfold fn_Md_partAt_355 at hf
  refine sm_iadd d_Md_partAt_355 ?_
  refine sm_istore d_Md_partAt_356 (by decide) rfl ?_
  refine sm_goto (tgt := 258) d_Md_partAt_358 (by decide) ?_
  exact sm_pick [1, 2, 3, 4, 5, 0] (hk258 _ _ _ _ _ _ _ hI hf) rfl

def fn_Md_partAt_258 (F : Nat) : Nat → wd → Int32 → Int32 → Int32 → Bool → Int32 → Option (Int32 × wd)
 | 0, _, _, _, _, _, _ => none
 | n9 + 1, w, x2, x8, x9, x10, x11 => ((fn_Md_isCut w x11 x8).bind fun r22 => (if r22 = true then some ((fn_Md_no w (1 : Int32) x11).1, (fn_Md_no w (1 : Int32) x11).2) else ((fn_Md_markAt w x11).bind fun r25 => (if r25 = (147 : Int32) then (if 0 ≤ (w 0 28).toInt ∧ (w 0 28).toInt < 256 then ((fn_Md_u1 (up2 w 16 ((w 0 28).toInt.toNat) x9) (x2 + (6 : Int32))).bind fun r42 => (if 0 ≤ ((up2 w 16 ((w 0 28).toInt.toNat) x9) 0 28).toInt ∧ ((up2 w 16 ((w 0 28).toInt.toNat) x9) 0 28).toInt < 256 then ((fn_Md_u1 (up2 (up2 w 16 ((w 0 28).toInt.toNat) x9) 17 (((up2 w 16 ((w 0 28).toInt.toNat) x9) 0 28).toInt.toNat) r42) (x2 + (7 : Int32))).bind fun r47 => (if 0 ≤ ((up2 (up2 w 16 ((w 0 28).toInt.toNat) x9) 17 (((up2 w 16 ((w 0 28).toInt.toNat) x9) 0 28).toInt.toNat) r42) 0 28).toInt ∧ ((up2 (up2 w 16 ((w 0 28).toInt.toNat) x9) 17 (((up2 w 16 ((w 0 28).toInt.toNat) x9) 0 28).toInt.toNat) r42) 0 28).toInt < 256 then (if 0 ≤ ((up2 (up2 (up2 w 16 ((w 0 28).toInt.toNat) x9) 17 (((up2 w 16 ((w 0 28).toInt.toNat) x9) 0 28).toInt.toNat) r42) 18 (((up2 (up2 w 16 ((w 0 28).toInt.toNat) x9) 17 (((up2 w 16 ((w 0 28).toInt.toNat) x9) 0 28).toInt.toNat) r42) 0 28).toInt.toNat) r47) 0 28).toInt ∧ ((up2 (up2 (up2 w 16 ((w 0 28).toInt.toNat) x9) 17 (((up2 w 16 ((w 0 28).toInt.toNat) x9) 0 28).toInt.toNat) r42) 18 (((up2 (up2 w 16 ((w 0 28).toInt.toNat) x9) 17 (((up2 w 16 ((w 0 28).toInt.toNat) x9) 0 28).toInt.toNat) r42) 0 28).toInt.toNat) r47) 0 28).toInt < 256 then (if 0 ≤ ((up2 (up2 (up2 (up2 w 16 ((w 0 28).toInt.toNat) x9) 17 (((up2 w 16 ((w 0 28).toInt.toNat) x9) 0 28).toInt.toNat) r42) 18 (((up2 (up2 w 16 ((w 0 28).toInt.toNat) x9) 17 (((up2 w 16 ((w 0 28).toInt.toNat) x9) 0 28).toInt.toNat) r42) 0 28).toInt.toNat) r47) 19 (((up2 (up2 (up2 w 16 ((w 0 28).toInt.toNat) x9) 17 (((up2 w 16 ((w 0 28).toInt.toNat) x9) 0 28).toInt.toNat) r42) 18 (((up2 (up2 w 16 ((w 0 28).toInt.toNat) x9) 17 (((up2 w 16 ((w 0 28).toInt.toNat) x9) 0 28).toInt.toNat) r42) 0 28).toInt.toNat) r47) 0 28).toInt.toNat) (x11 + (2 : Int32))) 0 28).toInt ∧ ((up2 (up2 (up2 (up2 w 16 ((w 0 28).toInt.toNat) x9) 17 (((up2 w 16 ((w 0 28).toInt.toNat) x9) 0 28).toInt.toNat) r42) 18 (((up2 (up2 w 16 ((w 0 28).toInt.toNat) x9) 17 (((up2 w 16 ((w 0 28).toInt.toNat) x9) 0 28).toInt.toNat) r42) 0 28).toInt.toNat) r47) 19 (((up2 (up2 (up2 w 16 ((w 0 28).toInt.toNat) x9) 17 (((up2 w 16 ((w 0 28).toInt.toNat) x9) 0 28).toInt.toNat) r42) 18 (((up2 (up2 w 16 ((w 0 28).toInt.toNat) x9) 17 (((up2 w 16 ((w 0 28).toInt.toNat) x9) 0 28).toInt.toNat) r42) 0 28).toInt.toNat) r47) 0 28).toInt.toNat) (x11 + (2 : Int32))) 0 28).toInt < 256 then some ((0 : Int32), (up2 (up2 (up2 (up2 (up2 (up2 (up2 w 16 ((w 0 28).toInt.toNat) x9) 17 (((up2 w 16 ((w 0 28).toInt.toNat) x9) 0 28).toInt.toNat) r42) 18 (((up2 (up2 w 16 ((w 0 28).toInt.toNat) x9) 17 (((up2 w 16 ((w 0 28).toInt.toNat) x9) 0 28).toInt.toNat) r42) 0 28).toInt.toNat) r47) 19 (((up2 (up2 (up2 w 16 ((w 0 28).toInt.toNat) x9) 17 (((up2 w 16 ((w 0 28).toInt.toNat) x9) 0 28).toInt.toNat) r42) 18 (((up2 (up2 w 16 ((w 0 28).toInt.toNat) x9) 17 (((up2 w 16 ((w 0 28).toInt.toNat) x9) 0 28).toInt.toNat) r42) 0 28).toInt.toNat) r47) 0 28).toInt.toNat) (x11 + (2 : Int32))) 20 (((up2 (up2 (up2 (up2 w 16 ((w 0 28).toInt.toNat) x9) 17 (((up2 w 16 ((w 0 28).toInt.toNat) x9) 0 28).toInt.toNat) r42) 18 (((up2 (up2 w 16 ((w 0 28).toInt.toNat) x9) 17 (((up2 w 16 ((w 0 28).toInt.toNat) x9) 0 28).toInt.toNat) r42) 0 28).toInt.toNat) r47) 19 (((up2 (up2 (up2 w 16 ((w 0 28).toInt.toNat) x9) 17 (((up2 w 16 ((w 0 28).toInt.toNat) x9) 0 28).toInt.toNat) r42) 18 (((up2 (up2 w 16 ((w 0 28).toInt.toNat) x9) 17 (((up2 w 16 ((w 0 28).toInt.toNat) x9) 0 28).toInt.toNat) r42) 0 28).toInt.toNat) r47) 0 28).toInt.toNat) (x11 + (2 : Int32))) 0 28).toInt.toNat) ((x8 - x11) - (2 : Int32))) 0 28 (((up2 (up2 (up2 (up2 (up2 w 16 ((w 0 28).toInt.toNat) x9) 17 (((up2 w 16 ((w 0 28).toInt.toNat) x9) 0 28).toInt.toNat) r42) 18 (((up2 (up2 w 16 ((w 0 28).toInt.toNat) x9) 17 (((up2 w 16 ((w 0 28).toInt.toNat) x9) 0 28).toInt.toNat) r42) 0 28).toInt.toNat) r47) 19 (((up2 (up2 (up2 w 16 ((w 0 28).toInt.toNat) x9) 17 (((up2 w 16 ((w 0 28).toInt.toNat) x9) 0 28).toInt.toNat) r42) 18 (((up2 (up2 w 16 ((w 0 28).toInt.toNat) x9) 17 (((up2 w 16 ((w 0 28).toInt.toNat) x9) 0 28).toInt.toNat) r42) 0 28).toInt.toNat) r47) 0 28).toInt.toNat) (x11 + (2 : Int32))) 20 (((up2 (up2 (up2 (up2 w 16 ((w 0 28).toInt.toNat) x9) 17 (((up2 w 16 ((w 0 28).toInt.toNat) x9) 0 28).toInt.toNat) r42) 18 (((up2 (up2 w 16 ((w 0 28).toInt.toNat) x9) 17 (((up2 w 16 ((w 0 28).toInt.toNat) x9) 0 28).toInt.toNat) r42) 0 28).toInt.toNat) r47) 19 (((up2 (up2 (up2 w 16 ((w 0 28).toInt.toNat) x9) 17 (((up2 w 16 ((w 0 28).toInt.toNat) x9) 0 28).toInt.toNat) r42) 18 (((up2 (up2 w 16 ((w 0 28).toInt.toNat) x9) 17 (((up2 w 16 ((w 0 28).toInt.toNat) x9) 0 28).toInt.toNat) r42) 0 28).toInt.toNat) r47) 0 28).toInt.toNat) (x11 + (2 : Int32))) 0 28).toInt.toNat) ((x8 - x11) - (2 : Int32))) 0 28) + (1 : Int32))) 0 36 x8)) else none) else none) else none)) else none)) else none) else (if (fn_Md_mayStand r25 (bi x10)) = true then ((fn_Md_look F w r25 x11 x9).bind fun r29 => (if r29.1 ≤ 0 then (if (fn_Md_hasLength r25) = true then ((fn_Md_u2 r29.2 (x11 + (2 : Int32))).bind fun r35 => fn_Md_partAt_355 (fn_Md_partAt_258 F n9) F r29.2 x2 x8 x9 x10 r35 (x11 + (2 : Int32))) else fn_Md_partAt_355 (fn_Md_partAt_258 F n9) F r29.2 x2 x8 x9 x10 (0 : Int32) (x11 + (2 : Int32))) else some (r29.1, r29.2))) else some ((fn_Md_no w (2 : Int32) x11).1, (fn_Md_no w (2 : Int32) x11).2))))))
set_option maxHeartbeats 1600000 in
set_option maxRecDepth 100000 in
theorem w_Md_partAt_258 {G : sm_G} {b : Nat} {M0 : sm_M} {bc bs : Nat} {R : Int32 × wd} {F : Nat} : ∀ (n9 : Nat), ∀ (M : sm_M) (w : wd) (x2 : Int32) (x8 : Int32) (x9 : Int32) (x10 : Bool) (x11 : Int32), lo_in G md_L b M0 M w → fn_Md_partAt_258 F n9 w x2 x8 x9 x10 x11 = some R → sm_W G mf_Md_partAt 258 [(0, .ref (b + 0)), (2, .int x2), (8, .int x8), (9, .int x9), (10, .int (bi x10)), (11, .int x11)] [] M bc bs (wd_Q G md_L b M0 (some (.int R.1)) R.2) := by
  intro n9
  induction n9 with
  | zero => intro M w x2 x8 x9 x10 x11 hI  hf; cases hf
  | succ n9 ih =>
    intro M w x2 x8 x9 x10 x11 hI  hf
    rw [fn_Md_partAt_258] at hf
    refine sm_aload_n d_Md_partAt_258 rfl (j := 0) rfl ?_
    refine sm_iload d_Md_partAt_259 (j := 5) rfl ?_
    refine sm_iload d_Md_partAt_261 (j := 2) rfl ?_
    obtain ⟨r22, e23, hf⟩ := lo_bnd hf
    refine lo_callV d_Md_partAt_263 cs_Md_partAt_297 rfl hI ml_0 (As := [.int x11, .int x8]) rfl rfl (Nat.le_of_ble_eq_true rfl) (c_Md_isCut hI x11 x8 e23) ?_
    refine sm_if_eq (tgt := 277) d_Md_partAt_266 (by decide) (fun h24 => ?_) (fun h24 => ?_)
    · rw [if_neg (bi0 h24)] at hf
      refine sm_aload_n d_Md_partAt_277 rfl (j := 0) rfl ?_
      refine sm_iload d_Md_partAt_278 (j := 5) rfl ?_
      obtain ⟨r25, e26, hf⟩ := lo_bnd hf
      refine lo_callV d_Md_partAt_280 cs_Md_partAt_300 rfl hI ml_0 (As := [.int x11]) rfl rfl (Nat.le_of_ble_eq_true rfl) (c_Md_markAt hI x11 e26) ?_
      refine sm_istore d_Md_partAt_283 (by decide) rfl ?_
      refine sm_iload d_Md_partAt_285 (j := 0) rfl ?_
      refine sm_sipush (v := 147) d_Md_partAt_287 (by decide) ?_
      refine sm_icmp_ne (tgt := 296) d_Md_partAt_290 (by decide) (fun h27 => ?_) (fun h27 => ?_)
      · rw [if_neg h27] at hf
        refine sm_iload d_Md_partAt_296 (j := 0) rfl ?_
        refine sm_iload d_Md_partAt_298 (j := 5) rfl ?_
        refine sm_callSp d_Md_partAt_300 cs_Md_partAt_309 rfl (As := [.int r25, .int (bi x10)]) rfl rfl (Nat.le_of_ble_eq_true rfl) (c_Md_mayStand r25 (bi x10)) ?_
        refine sm_if_ne (tgt := 314) d_Md_partAt_303 (by decide) (fun h28 => ?_) (fun h28 => ?_)
        · rw [if_pos (bi1 h28)] at hf
          refine sm_aload_n d_Md_partAt_314 rfl (j := 1) rfl ?_
          refine sm_iload d_Md_partAt_315 (j := 0) rfl ?_
          refine sm_iload d_Md_partAt_317 (j := 6) rfl ?_
          refine sm_iload d_Md_partAt_319 (j := 4) rfl ?_
          obtain ⟨r29, e30, hf⟩ := lo_bnd hf
          refine lo_callVm d_Md_partAt_321 cs_Md_partAt_303 rfl hI ml_0 (As := [.int r25, .int x11, .int x9]) rfl rfl (Nat.le_of_ble_eq_true rfl) (c_Md_look hI r25 x11 x9 e30) (fun M31 hI32 => ?_)
          refine sm_istore_n d_Md_partAt_324 rfl (by decide) rfl ?_
          refine sm_iload_n d_Md_partAt_325 rfl (j := 0) rfl ?_
          refine sm_if_le (tgt := 331) d_Md_partAt_326 (by decide) (fun h33 => ?_) (fun h33 => ?_)
          · rw [if_pos h33] at hf
            refine sm_iload d_Md_partAt_331 (j := 7) rfl ?_
            refine sm_iconst (v := 2) d_Md_partAt_333 (by decide) ?_
            refine sm_iadd d_Md_partAt_334 ?_
            refine sm_iload d_Md_partAt_335 (j := 1) rfl ?_
            refine sm_callSp d_Md_partAt_337 cs_Md_partAt_236 rfl (As := [.int r25]) rfl rfl (Nat.le_of_ble_eq_true rfl) (c_Md_hasLength r25) ?_
            refine sm_if_eq (tgt := 354) d_Md_partAt_340 (by decide) (fun h34 => ?_) (fun h34 => ?_)
            · rw [if_neg (bi0 h34)] at hf
              refine sm_iconst (v := 0) d_Md_partAt_354 (by decide) ?_
              exact sm_pick [2, 3, 4, 5, 6] (w_Md_partAt_355 ih _ _ _ _ _ _ _ _ hI32 hf) rfl
            · rw [if_pos (bi1 h34)] at hf
              refine sm_aload_n d_Md_partAt_343 rfl (j := 2) rfl ?_
              refine sm_iload d_Md_partAt_344 (j := 7) rfl ?_
              refine sm_iconst (v := 2) d_Md_partAt_346 (by decide) ?_
              refine sm_iadd d_Md_partAt_347 ?_
              obtain ⟨r35, e36, hf⟩ := lo_bnd hf
              refine lo_callV d_Md_partAt_348 cs_Md_partAt_230 rfl hI32 ml_0 (As := [.int (x11 + (2 : Int32))]) rfl rfl (Nat.le_of_ble_eq_true rfl) (c_Md_u2 hI32 (x11 + (2 : Int32)) e36) ?_
              refine sm_goto (tgt := 355) d_Md_partAt_351 (by decide) ?_
              exact sm_pick [2, 3, 4, 5, 6] (w_Md_partAt_355 ih _ _ _ _ _ _ _ _ hI32 hf) rfl
          · rw [if_neg h33] at hf
            refine sm_iload_n d_Md_partAt_329 rfl (j := 0) rfl ?_
            cases hf
            refine sm_ireturn d_Md_partAt_330 rfl (by rfl) ?_
            exact ⟨rfl, hI32⟩
        · rw [if_neg (bi0 h28)] at hf
          refine sm_aload_n d_Md_partAt_306 rfl (j := 1) rfl ?_
          refine sm_iconst (v := 2) d_Md_partAt_307 (by decide) ?_
          refine sm_iload d_Md_partAt_308 (j := 6) rfl ?_
          refine lo_callVm d_Md_partAt_310 cs_Md_partAt_281 rfl hI ml_0 (As := [.int (2 : Int32), .int x11]) rfl rfl (Nat.le_of_ble_eq_true rfl) (c_Md_no hI (2 : Int32) x11) (fun M37 hI38 => ?_)
          cases hf
          refine sm_ireturn d_Md_partAt_313 rfl (by rfl) ?_
          exact ⟨rfl, hI38⟩
      · rw [if_pos h27] at hf
        refine sm_goto (tgt := 361) d_Md_partAt_293 (by decide) ?_
        refine sm_aload_n d_Md_partAt_361 rfl (j := 1) rfl ?_
        refine lo_get (v := .ref (b + 16)) d_Md_partAt_362 fg_Md_63 hI ml_0 rfl ?_
        refine sm_aload_n d_Md_partAt_365 rfl (j := 1) rfl ?_
        refine lo_get (v := .int (w 0 28)) d_Md_partAt_366 fg_Md_312 hI ml_0 rfl ?_
        refine sm_iload d_Md_partAt_369 (j := 4) rfl ?_
        obtain ⟨h39, hf⟩ := lo_chk hf
        refine lo_ast (j := (w 0 28).toInt.toNat) d_Md_partAt_371 hI ml_16 h39 rfl (fun M40 hI41 => ?_)
        refine sm_aload_n d_Md_partAt_372 rfl (j := 1) rfl ?_
        refine lo_get (v := .ref (b + 17)) d_Md_partAt_373 fg_Md_66 hI41 ml_0 rfl ?_
        refine sm_aload_n d_Md_partAt_376 rfl (j := 1) rfl ?_
        refine lo_get (v := .int ((up2 w 16 ((w 0 28).toInt.toNat) x9) 0 28)) d_Md_partAt_377 fg_Md_312 hI41 ml_0 rfl ?_
        refine sm_aload_n d_Md_partAt_380 rfl (j := 1) rfl ?_
        refine sm_iload_n d_Md_partAt_381 rfl (j := 2) rfl ?_
        refine sm_bipush (v := 6) d_Md_partAt_382 (by decide) ?_
        refine sm_iadd d_Md_partAt_384 ?_
        obtain ⟨r42, e43, hf⟩ := lo_bnd hf
        refine lo_callV d_Md_partAt_385 cs_Md_partAt_233 rfl hI41 ml_0 (As := [.int (x2 + (6 : Int32))]) rfl rfl (Nat.le_of_ble_eq_true rfl) (c_Md_u1 hI41 (x2 + (6 : Int32)) e43) ?_
        obtain ⟨h44, hf⟩ := lo_chk hf
        refine lo_ast (j := ((up2 w 16 ((w 0 28).toInt.toNat) x9) 0 28).toInt.toNat) d_Md_partAt_388 hI41 ml_17 h44 rfl (fun M45 hI46 => ?_)
        refine sm_aload_n d_Md_partAt_389 rfl (j := 1) rfl ?_
        refine lo_get (v := .ref (b + 18)) d_Md_partAt_390 fg_Md_69 hI46 ml_0 rfl ?_
        refine sm_aload_n d_Md_partAt_393 rfl (j := 1) rfl ?_
        refine lo_get (v := .int ((up2 (up2 w 16 ((w 0 28).toInt.toNat) x9) 17 (((up2 w 16 ((w 0 28).toInt.toNat) x9) 0 28).toInt.toNat) r42) 0 28)) d_Md_partAt_394 fg_Md_312 hI46 ml_0 rfl ?_
        refine sm_aload_n d_Md_partAt_397 rfl (j := 1) rfl ?_
        refine sm_iload_n d_Md_partAt_398 rfl (j := 2) rfl ?_
        refine sm_bipush (v := 7) d_Md_partAt_399 (by decide) ?_
        refine sm_iadd d_Md_partAt_401 ?_
        obtain ⟨r47, e48, hf⟩ := lo_bnd hf
        refine lo_callV d_Md_partAt_402 cs_Md_partAt_233 rfl hI46 ml_0 (As := [.int (x2 + (7 : Int32))]) rfl rfl (Nat.le_of_ble_eq_true rfl) (c_Md_u1 hI46 (x2 + (7 : Int32)) e48) ?_
        obtain ⟨h49, hf⟩ := lo_chk hf
        refine lo_ast (j := ((up2 (up2 w 16 ((w 0 28).toInt.toNat) x9) 17 (((up2 w 16 ((w 0 28).toInt.toNat) x9) 0 28).toInt.toNat) r42) 0 28).toInt.toNat) d_Md_partAt_405 hI46 ml_18 h49 rfl (fun M50 hI51 => ?_)
        refine sm_aload_n d_Md_partAt_406 rfl (j := 1) rfl ?_
        refine lo_get (v := .ref (b + 19)) d_Md_partAt_407 fg_Md_72 hI51 ml_0 rfl ?_
        refine sm_aload_n d_Md_partAt_410 rfl (j := 1) rfl ?_
        refine lo_get (v := .int ((up2 (up2 (up2 w 16 ((w 0 28).toInt.toNat) x9) 17 (((up2 w 16 ((w 0 28).toInt.toNat) x9) 0 28).toInt.toNat) r42) 18 (((up2 (up2 w 16 ((w 0 28).toInt.toNat) x9) 17 (((up2 w 16 ((w 0 28).toInt.toNat) x9) 0 28).toInt.toNat) r42) 0 28).toInt.toNat) r47) 0 28)) d_Md_partAt_411 fg_Md_312 hI51 ml_0 rfl ?_
        refine sm_iload d_Md_partAt_414 (j := 6) rfl ?_
        refine sm_iconst (v := 2) d_Md_partAt_416 (by decide) ?_
        refine sm_iadd d_Md_partAt_417 ?_
        obtain ⟨h52, hf⟩ := lo_chk hf
        refine lo_ast (j := ((up2 (up2 (up2 w 16 ((w 0 28).toInt.toNat) x9) 17 (((up2 w 16 ((w 0 28).toInt.toNat) x9) 0 28).toInt.toNat) r42) 18 (((up2 (up2 w 16 ((w 0 28).toInt.toNat) x9) 17 (((up2 w 16 ((w 0 28).toInt.toNat) x9) 0 28).toInt.toNat) r42) 0 28).toInt.toNat) r47) 0 28).toInt.toNat) d_Md_partAt_418 hI51 ml_19 h52 rfl (fun M53 hI54 => ?_)
        refine sm_aload_n d_Md_partAt_419 rfl (j := 1) rfl ?_
        refine lo_get (v := .ref (b + 20)) d_Md_partAt_420 fg_Md_75 hI54 ml_0 rfl ?_
        refine sm_aload_n d_Md_partAt_423 rfl (j := 1) rfl ?_
        refine lo_get (v := .int ((up2 (up2 (up2 (up2 w 16 ((w 0 28).toInt.toNat) x9) 17 (((up2 w 16 ((w 0 28).toInt.toNat) x9) 0 28).toInt.toNat) r42) 18 (((up2 (up2 w 16 ((w 0 28).toInt.toNat) x9) 17 (((up2 w 16 ((w 0 28).toInt.toNat) x9) 0 28).toInt.toNat) r42) 0 28).toInt.toNat) r47) 19 (((up2 (up2 (up2 w 16 ((w 0 28).toInt.toNat) x9) 17 (((up2 w 16 ((w 0 28).toInt.toNat) x9) 0 28).toInt.toNat) r42) 18 (((up2 (up2 w 16 ((w 0 28).toInt.toNat) x9) 17 (((up2 w 16 ((w 0 28).toInt.toNat) x9) 0 28).toInt.toNat) r42) 0 28).toInt.toNat) r47) 0 28).toInt.toNat) (x11 + (2 : Int32))) 0 28)) d_Md_partAt_424 fg_Md_312 hI54 ml_0 rfl ?_
        refine sm_iload d_Md_partAt_427 (j := 3) rfl ?_
        refine sm_iload d_Md_partAt_429 (j := 6) rfl ?_
        refine sm_isub d_Md_partAt_431 ?_
        refine sm_iconst (v := 2) d_Md_partAt_432 (by decide) ?_
        refine sm_isub d_Md_partAt_433 ?_
        obtain ⟨h55, hf⟩ := lo_chk hf
        refine lo_ast (j := ((up2 (up2 (up2 (up2 w 16 ((w 0 28).toInt.toNat) x9) 17 (((up2 w 16 ((w 0 28).toInt.toNat) x9) 0 28).toInt.toNat) r42) 18 (((up2 (up2 w 16 ((w 0 28).toInt.toNat) x9) 17 (((up2 w 16 ((w 0 28).toInt.toNat) x9) 0 28).toInt.toNat) r42) 0 28).toInt.toNat) r47) 19 (((up2 (up2 (up2 w 16 ((w 0 28).toInt.toNat) x9) 17 (((up2 w 16 ((w 0 28).toInt.toNat) x9) 0 28).toInt.toNat) r42) 18 (((up2 (up2 w 16 ((w 0 28).toInt.toNat) x9) 17 (((up2 w 16 ((w 0 28).toInt.toNat) x9) 0 28).toInt.toNat) r42) 0 28).toInt.toNat) r47) 0 28).toInt.toNat) (x11 + (2 : Int32))) 0 28).toInt.toNat) d_Md_partAt_434 hI54 ml_20 h55 rfl (fun M56 hI57 => ?_)
        refine sm_aload_n d_Md_partAt_435 rfl (j := 1) rfl ?_
        refine sm_dup d_Md_partAt_436 rfl ?_
        refine lo_get (v := .int ((up2 (up2 (up2 (up2 (up2 w 16 ((w 0 28).toInt.toNat) x9) 17 (((up2 w 16 ((w 0 28).toInt.toNat) x9) 0 28).toInt.toNat) r42) 18 (((up2 (up2 w 16 ((w 0 28).toInt.toNat) x9) 17 (((up2 w 16 ((w 0 28).toInt.toNat) x9) 0 28).toInt.toNat) r42) 0 28).toInt.toNat) r47) 19 (((up2 (up2 (up2 w 16 ((w 0 28).toInt.toNat) x9) 17 (((up2 w 16 ((w 0 28).toInt.toNat) x9) 0 28).toInt.toNat) r42) 18 (((up2 (up2 w 16 ((w 0 28).toInt.toNat) x9) 17 (((up2 w 16 ((w 0 28).toInt.toNat) x9) 0 28).toInt.toNat) r42) 0 28).toInt.toNat) r47) 0 28).toInt.toNat) (x11 + (2 : Int32))) 20 (((up2 (up2 (up2 (up2 w 16 ((w 0 28).toInt.toNat) x9) 17 (((up2 w 16 ((w 0 28).toInt.toNat) x9) 0 28).toInt.toNat) r42) 18 (((up2 (up2 w 16 ((w 0 28).toInt.toNat) x9) 17 (((up2 w 16 ((w 0 28).toInt.toNat) x9) 0 28).toInt.toNat) r42) 0 28).toInt.toNat) r47) 19 (((up2 (up2 (up2 w 16 ((w 0 28).toInt.toNat) x9) 17 (((up2 w 16 ((w 0 28).toInt.toNat) x9) 0 28).toInt.toNat) r42) 18 (((up2 (up2 w 16 ((w 0 28).toInt.toNat) x9) 17 (((up2 w 16 ((w 0 28).toInt.toNat) x9) 0 28).toInt.toNat) r42) 0 28).toInt.toNat) r47) 0 28).toInt.toNat) (x11 + (2 : Int32))) 0 28).toInt.toNat) ((x8 - x11) - (2 : Int32))) 0 28)) d_Md_partAt_437 fg_Md_312 hI57 ml_0 rfl ?_
        refine sm_iconst (v := 1) d_Md_partAt_440 (by decide) ?_
        refine sm_iadd d_Md_partAt_441 ?_
        refine lo_put d_Md_partAt_442 fp_Md_312 (by decide) hI57 ml_0 rfl (by rfl) (by rfl) (fun M58 hI59 => ?_)
        refine sm_aload_n d_Md_partAt_445 rfl (j := 1) rfl ?_
        refine sm_iload d_Md_partAt_446 (j := 3) rfl ?_
        refine lo_put d_Md_partAt_448 fp_Md_180 (by decide) hI59 ml_0 rfl (by rfl) (by rfl) (fun M60 hI61 => ?_)
        refine sm_iconst (v := 0) d_Md_partAt_451 (by decide) ?_
        cases hf
        refine sm_ireturn d_Md_partAt_452 rfl (by rfl) ?_
        exact ⟨rfl, hI61⟩
    · rw [if_pos (bi1 h24)] at hf
      refine sm_aload_n d_Md_partAt_269 rfl (j := 0) rfl ?_
      refine sm_iconst (v := 1) d_Md_partAt_270 (by decide) ?_
      refine sm_iload d_Md_partAt_271 (j := 5) rfl ?_
      refine lo_callVm d_Md_partAt_273 cs_Md_partAt_281 rfl hI ml_0 (As := [.int (1 : Int32), .int x11]) rfl rfl (Nat.le_of_ble_eq_true rfl) (c_Md_no hI (1 : Int32) x11) (fun M62 hI63 => ?_)
      cases hf
      refine sm_ireturn d_Md_partAt_276 rfl (by rfl) ?_
      exact ⟨rfl, hI63⟩

def fn_Md_partAt_250 (F : Nat) (w : wd) (x1 : Int32) (x2 : Int32) (x8 : Int32) (x9 : Int32) (s0 : Bool) : Option (Int32 × wd) := fn_Md_partAt_258 F F w x2 x8 x9 s0 (x1 + (12 : Int32))
set_option maxHeartbeats 1600000 in
set_option maxRecDepth 100000 in
theorem w_Md_partAt_250 {G : sm_G} {b : Nat} {M0 : sm_M} {bc bs : Nat} {R : Int32 × wd} {F : Nat} : ∀ (M : sm_M) (w : wd) (x1 : Int32) (x2 : Int32) (x8 : Int32) (x9 : Int32) (s0 : Bool), lo_in G md_L b M0 M w → fn_Md_partAt_250 F w x1 x2 x8 x9 s0 = some R → sm_W G mf_Md_partAt 250 [(0, .ref (b + 0)), (1, .int x1), (2, .int x2), (8, .int x8), (9, .int x9)] [.int (bi s0)] M bc bs (wd_Q G md_L b M0 (some (.int R.1)) R.2) := by
  intro M w x1 x2 x8 x9 s0 hI  hf
  unfold fn_Md_partAt_250 at hf
  refine sm_istore d_Md_partAt_250 (by decide) rfl ?_
  refine sm_iload_n d_Md_partAt_252 rfl (j := 2) rfl ?_
  refine sm_bipush (v := 12) d_Md_partAt_253 (by decide) ?_
  refine sm_iadd d_Md_partAt_255 ?_
  refine sm_istore d_Md_partAt_256 (by decide) rfl ?_
  exact sm_pick [2, 4, 5, 6, 1, 0] (w_Md_partAt_258 _ _ _ _ _ _ _ _ hI hf) rfl

def fn_Md_partAt_227 (F : Nat) (w : wd) (x1 : Int32) (x2 : Int32) (s0 : Int32) : Option (Int32 × wd) := ((fn_Md_u2 w x2).bind fun r17 => ((fn_Md_partsOf F w r17).bind fun r19 => (if r19 = 0 then fn_Md_partAt_250 F w x1 x2 s0 r17 true else fn_Md_partAt_250 F w x1 x2 s0 r17 false)))
set_option maxHeartbeats 1600000 in
set_option maxRecDepth 100000 in
theorem w_Md_partAt_227 {G : sm_G} {b : Nat} {M0 : sm_M} {bc bs : Nat} {R : Int32 × wd} {F : Nat} : ∀ (M : sm_M) (w : wd) (x1 : Int32) (x2 : Int32) (s0 : Int32), lo_in G md_L b M0 M w → fn_Md_partAt_227 F w x1 x2 s0 = some R → sm_W G mf_Md_partAt 227 [(0, .ref (b + 0)), (1, .int x1), (2, .int x2)] [.int s0] M bc bs (wd_Q G md_L b M0 (some (.int R.1)) R.2) := by
  intro M w x1 x2 s0 hI  hf
  unfold fn_Md_partAt_227 at hf
  refine sm_istore d_Md_partAt_227 (by decide) rfl ?_
  refine sm_aload_n d_Md_partAt_229 rfl (j := 1) rfl ?_
  refine sm_iload_n d_Md_partAt_230 rfl (j := 3) rfl ?_
  obtain ⟨r17, e18, hf⟩ := lo_bnd hf
  refine lo_callV d_Md_partAt_231 cs_Md_partAt_230 rfl hI ml_0 (As := [.int x2]) rfl rfl (Nat.le_of_ble_eq_true rfl) (c_Md_u2 hI x2 e18) ?_
  refine sm_istore d_Md_partAt_234 (by decide) rfl ?_
  refine sm_aload_n d_Md_partAt_236 rfl (j := 2) rfl ?_
  refine sm_iload d_Md_partAt_237 (j := 0) rfl ?_
  obtain ⟨r19, e20, hf⟩ := lo_bnd hf
  refine lo_callV d_Md_partAt_239 cs_Md_partAt_315 rfl hI ml_0 (As := [.int r17]) rfl rfl (Nat.le_of_ble_eq_true rfl) (c_Md_partsOf hI r17 e20) ?_
  refine sm_if_ne (tgt := 249) d_Md_partAt_242 (by decide) (fun h21 => ?_) (fun h21 => ?_)
  · rw [if_neg h21] at hf
    refine sm_iconst (v := 0) d_Md_partAt_249 (by decide) ?_
    exact sm_pick [2, 3, 4, 1, 0] (w_Md_partAt_250 _ _ _ _ _ _ _ hI hf) rfl
  · rw [if_pos h21] at hf
    refine sm_iconst (v := 1) d_Md_partAt_245 (by decide) ?_
    refine sm_goto (tgt := 250) d_Md_partAt_246 (by decide) ?_
    exact sm_pick [2, 3, 4, 1, 0] (w_Md_partAt_250 _ _ _ _ _ _ _ hI hf) rfl

def fn_Md_partAt_208 (F : Nat) (w : wd) (x1 : Int32) (x2 : Int32) (x4 : Int64) (x6 : Bool) : Option (Int32 × wd) := (if x6 = true then fn_Md_partAt_227 F w x1 x2 ((w 0 20) - (2 : Int32)) else fn_Md_partAt_227 F w x1 x2 (x1 + x4.toInt32))
set_option maxHeartbeats 1600000 in
set_option maxRecDepth 100000 in
theorem w_Md_partAt_208 {G : sm_G} {b : Nat} {M0 : sm_M} {bc bs : Nat} {R : Int32 × wd} {F : Nat} : ∀ (M : sm_M) (w : wd) (x1 : Int32) (x2 : Int32) (x4 : Int64) (x6 : Bool), lo_in G md_L b M0 M w → fn_Md_partAt_208 F w x1 x2 x4 x6 = some R → sm_W G mf_Md_partAt 208 [(0, .ref (b + 0)), (1, .int x1), (2, .int x2), (4, .long x4), (6, .int (bi x6))] [] M bc bs (wd_Q G md_L b M0 (some (.int R.1)) R.2) := by
  intro M w x1 x2 x4 x6 hI  hf
  unfold fn_Md_partAt_208 at hf
  refine sm_iload d_Md_partAt_208 (j := 4) rfl ?_
  refine sm_if_eq (tgt := 222) d_Md_partAt_210 (by decide) (fun h16 => ?_) (fun h16 => ?_)
  · rw [if_neg (bi0 h16)] at hf
    refine sm_iload_n d_Md_partAt_222 rfl (j := 1) rfl ?_
    refine sm_lload d_Md_partAt_223 (j := 3) rfl ?_
    refine sm_l2i d_Md_partAt_225 ?_
    refine sm_iadd d_Md_partAt_226 ?_
    exact sm_pick [0, 1, 2] (w_Md_partAt_227 _ _ _ _ _ hI hf) rfl
  · rw [if_pos (bi1 h16)] at hf
    refine sm_aload_n d_Md_partAt_213 rfl (j := 0) rfl ?_
    refine lo_get (v := .int (w 0 20)) d_Md_partAt_214 fg_Md_174 hI ml_0 rfl ?_
    refine sm_iconst (v := 2) d_Md_partAt_217 (by decide) ?_
    refine sm_isub d_Md_partAt_218 ?_
    refine sm_goto (tgt := 227) d_Md_partAt_219 (by decide) ?_
    exact sm_pick [0, 1, 2] (w_Md_partAt_227 _ _ _ _ _ hI hf) rfl

def fn_Md_partAt_159 (F : Nat) (w : wd) (x1 : Int32) (x2 : Int32) (x4 : Int64) (x6 : Bool) (s0 : Bool) : Option (Int32 × wd) := (if s0 = true then some ((fn_Md_no w (1 : Int32) x1).1, (fn_Md_no w (1 : Int32) x1).2) else (if (w 0 28) = 0 then ((fn_Md_met F w (82 : Int32) (-1 : Int32)).bind fun r64 => (if r64 = 0 then some ((fn_Md_no w (6 : Int32) x1).1, (fn_Md_no w (6 : Int32) x1).2) else ((fn_Md_met F w (92 : Int32) (-1 : Int32)).bind fun r69 => (if r69 = 0 then some ((fn_Md_no w (6 : Int32) x1).1, (fn_Md_no w (6 : Int32) x1).2) else fn_Md_partAt_208 F w x1 x2 x4 x6)))) else fn_Md_partAt_208 F w x1 x2 x4 x6))
set_option maxHeartbeats 1600000 in
set_option maxRecDepth 100000 in
theorem w_Md_partAt_159 {G : sm_G} {b : Nat} {M0 : sm_M} {bc bs : Nat} {R : Int32 × wd} {F : Nat} : ∀ (M : sm_M) (w : wd) (x1 : Int32) (x2 : Int32) (x4 : Int64) (x6 : Bool) (s0 : Bool), lo_in G md_L b M0 M w → fn_Md_partAt_159 F w x1 x2 x4 x6 s0 = some R → sm_W G mf_Md_partAt 159 [(0, .ref (b + 0)), (1, .int x1), (2, .int x2), (4, .long x4), (6, .int (bi x6))] [.int (bi s0)] M bc bs (wd_Q G md_L b M0 (some (.int R.1)) R.2) := by
  intro M w x1 x2 x4 x6 s0 hI  hf
  unfold fn_Md_partAt_159 at hf
  refine sm_istore d_Md_partAt_159 (by decide) rfl ?_
  refine sm_iload d_Md_partAt_161 (j := 0) rfl ?_
  refine sm_if_eq (tgt := 173) d_Md_partAt_163 (by decide) (fun h14 => ?_) (fun h14 => ?_)
  · rw [if_neg (bi0 h14)] at hf
    refine sm_aload_n d_Md_partAt_173 rfl (j := 1) rfl ?_
    refine lo_get (v := .int (w 0 28)) d_Md_partAt_174 fg_Md_312 hI ml_0 rfl ?_
    refine sm_if_ne (tgt := 208) d_Md_partAt_177 (by decide) (fun h15 => ?_) (fun h15 => ?_)
    · rw [if_neg h15] at hf
      exact sm_pick [1, 2, 3, 4, 5] (w_Md_partAt_208 _ _ _ _ _ _ hI hf) rfl
    · rw [if_pos h15] at hf
      refine sm_aload_n d_Md_partAt_180 rfl (j := 1) rfl ?_
      refine sm_bipush (v := 82) d_Md_partAt_181 (by decide) ?_
      refine sm_iconst (v := -1) d_Md_partAt_183 (by decide) ?_
      obtain ⟨r64, e65, hf⟩ := lo_bnd hf
      refine lo_callV d_Md_partAt_184 cs_Md_partAt_275 rfl hI ml_0 (As := [.int (82 : Int32), .int (-1 : Int32)]) rfl rfl (Nat.le_of_ble_eq_true rfl) (c_Md_met hI (82 : Int32) (-1 : Int32) e65) ?_
      refine sm_if_eq (tgt := 200) d_Md_partAt_187 (by decide) (fun h66 => ?_) (fun h66 => ?_)
      · rw [if_pos h66] at hf
        refine sm_aload_n d_Md_partAt_200 rfl (j := 1) rfl ?_
        refine sm_bipush (v := 6) d_Md_partAt_201 (by decide) ?_
        refine sm_iload_n d_Md_partAt_203 rfl (j := 2) rfl ?_
        refine lo_callVm d_Md_partAt_204 cs_Md_partAt_281 rfl hI ml_0 (As := [.int (6 : Int32), .int x1]) rfl rfl (Nat.le_of_ble_eq_true rfl) (c_Md_no hI (6 : Int32) x1) (fun M67 hI68 => ?_)
        cases hf
        refine sm_ireturn d_Md_partAt_207 rfl (by rfl) ?_
        exact ⟨rfl, hI68⟩
      · rw [if_neg h66] at hf
        refine sm_aload_n d_Md_partAt_190 rfl (j := 1) rfl ?_
        refine sm_bipush (v := 92) d_Md_partAt_191 (by decide) ?_
        refine sm_iconst (v := -1) d_Md_partAt_193 (by decide) ?_
        obtain ⟨r69, e70, hf⟩ := lo_bnd hf
        refine lo_callV d_Md_partAt_194 cs_Md_partAt_275 rfl hI ml_0 (As := [.int (92 : Int32), .int (-1 : Int32)]) rfl rfl (Nat.le_of_ble_eq_true rfl) (c_Md_met hI (92 : Int32) (-1 : Int32) e70) ?_
        refine sm_if_ne (tgt := 208) d_Md_partAt_197 (by decide) (fun h71 => ?_) (fun h71 => ?_)
        · rw [if_neg h71] at hf
          exact sm_pick [1, 2, 3, 4, 5] (w_Md_partAt_208 _ _ _ _ _ _ hI hf) rfl
        · rw [if_pos h71] at hf
          refine sm_aload_n d_Md_partAt_200 rfl (j := 1) rfl ?_
          refine sm_bipush (v := 6) d_Md_partAt_201 (by decide) ?_
          refine sm_iload_n d_Md_partAt_203 rfl (j := 2) rfl ?_
          refine lo_callVm d_Md_partAt_204 cs_Md_partAt_281 rfl hI ml_0 (As := [.int (6 : Int32), .int x1]) rfl rfl (Nat.le_of_ble_eq_true rfl) (c_Md_no hI (6 : Int32) x1) (fun M72 hI73 => ?_)
          cases hf
          refine sm_ireturn d_Md_partAt_207 rfl (by rfl) ?_
          exact ⟨rfl, hI73⟩
  · rw [if_pos (bi1 h14)] at hf
    refine sm_aload_n d_Md_partAt_166 rfl (j := 1) rfl ?_
    refine sm_iconst (v := 1) d_Md_partAt_167 (by decide) ?_
    refine sm_iload_n d_Md_partAt_168 rfl (j := 2) rfl ?_
    refine lo_callVm d_Md_partAt_169 cs_Md_partAt_281 rfl hI ml_0 (As := [.int (1 : Int32), .int x1]) rfl rfl (Nat.le_of_ble_eq_true rfl) (c_Md_no hI (1 : Int32) x1) (fun M74 hI75 => ?_)
    cases hf
    refine sm_ireturn d_Md_partAt_172 rfl (by rfl) ?_
    exact ⟨rfl, hI75⟩

def fn_Md_partAt_132 (F : Nat) (w : wd) (x1 : Int32) (x2 : Int32) (x4 : Int64) (x6 : Bool) : Option (Int32 × wd) := fn_Md_partAt_159 F w x1 x2 x4 x6 true
set_option maxHeartbeats 1600000 in
set_option maxRecDepth 100000 in
theorem w_Md_partAt_132 {G : sm_G} {b : Nat} {M0 : sm_M} {bc bs : Nat} {R : Int32 × wd} {F : Nat} : ∀ (M : sm_M) (w : wd) (x1 : Int32) (x2 : Int32) (x4 : Int64) (x6 : Bool), lo_in G md_L b M0 M w → fn_Md_partAt_132 F w x1 x2 x4 x6 = some R → sm_W G mf_Md_partAt 132 [(0, .ref (b + 0)), (1, .int x1), (2, .int x2), (4, .long x4), (6, .int (bi x6))] [] M bc bs (wd_Q G md_L b M0 (some (.int R.1)) R.2) := by
  intro M w x1 x2 x4 x6 hI  hf
  unfold fn_Md_partAt_132 at hf
  refine sm_iconst (v := 1) d_Md_partAt_132 (by decide) ?_
  refine sm_goto (tgt := 159) d_Md_partAt_133 (by decide) ?_
  exact sm_pick [0, 1, 2, 3, 4] (w_Md_partAt_159 _ _ _ _ _ _ _ hI hf) rfl

def fn_Md_partAt_80 (F : Nat) (w : wd) (x1 : Int32) (x2 : Int32) (x4 : Int64) (s0 : Bool) : Option (Int32 × wd) := (if s0 = true then (if ((w 0 20) - (2 : Int32)) < (x1 + (12 : Int32)) then fn_Md_partAt_132 F w x1 x2 x4 s0 else ((fn_Md_u1 w ((w 0 20) - (2 : Int32))).bind fun r77 => (if r77 = (255 : Int32) then ((fn_Md_u1 w ((w 0 20) - (1 : Int32))).bind fun r80 => (if r80 = (217 : Int32) then fn_Md_partAt_159 F w x1 x2 x4 s0 false else fn_Md_partAt_132 F w x1 x2 x4 s0)) else fn_Md_partAt_132 F w x1 x2 x4 s0))) else (if (x1.toInt64 + x4) ≤ (w 0 20).toInt64 then fn_Md_partAt_159 F w x1 x2 x4 s0 false else fn_Md_partAt_159 F w x1 x2 x4 s0 true))
set_option maxHeartbeats 1600000 in
set_option maxRecDepth 100000 in
theorem w_Md_partAt_80 {G : sm_G} {b : Nat} {M0 : sm_M} {bc bs : Nat} {R : Int32 × wd} {F : Nat} : ∀ (M : sm_M) (w : wd) (x1 : Int32) (x2 : Int32) (x4 : Int64) (s0 : Bool), lo_in G md_L b M0 M w → fn_Md_partAt_80 F w x1 x2 x4 s0 = some R → sm_W G mf_Md_partAt 80 [(0, .ref (b + 0)), (1, .int x1), (2, .int x2), (4, .long x4)] [.int (bi s0)] M bc bs (wd_Q G md_L b M0 (some (.int R.1)) R.2) := by
  intro M w x1 x2 x4 s0 hI  hf
  unfold fn_Md_partAt_80 at hf
  refine sm_istore d_Md_partAt_80 (by decide) rfl ?_
  refine sm_iload d_Md_partAt_82 (j := 0) rfl ?_
  refine sm_if_eq (tgt := 140) d_Md_partAt_84 (by decide) (fun h12 => ?_) (fun h12 => ?_)
  · rw [if_neg (bi0 h12)] at hf
    refine sm_iload_n d_Md_partAt_140 rfl (j := 2) rfl ?_
    refine sm_i2l d_Md_partAt_141 ?_
    refine sm_lload d_Md_partAt_142 (j := 4) rfl ?_
    refine sm_ladd d_Md_partAt_144 ?_
    refine sm_aload_n d_Md_partAt_145 rfl (j := 1) rfl ?_
    refine lo_get (v := .int (w 0 20)) d_Md_partAt_146 fg_Md_174 hI ml_0 rfl ?_
    refine sm_i2l d_Md_partAt_149 ?_
    refine sm_lcmp d_Md_partAt_150 ?_
    refine sm_if_le (tgt := 158) d_Md_partAt_151 (by decide) (fun h13 => ?_) (fun h13 => ?_)
    · rw [if_pos ((lg_cmp_le _ _).mp h13)] at hf
      refine sm_iconst (v := 0) d_Md_partAt_158 (by decide) ?_
      exact sm_pick [1, 2, 3, 4, 0] (w_Md_partAt_159 _ _ _ _ _ _ _ hI hf) rfl
    · rw [if_neg (mt (lg_cmp_le _ _).mpr h13)] at hf
      refine sm_iconst (v := 1) d_Md_partAt_154 (by decide) ?_
      refine sm_goto (tgt := 159) d_Md_partAt_155 (by decide) ?_
      exact sm_pick [1, 2, 3, 4, 0] (w_Md_partAt_159 _ _ _ _ _ _ _ hI hf) rfl
  · rw [if_pos (bi1 h12)] at hf
    refine sm_aload_n d_Md_partAt_87 rfl (j := 1) rfl ?_
    refine lo_get (v := .int (w 0 20)) d_Md_partAt_88 fg_Md_174 hI ml_0 rfl ?_
    refine sm_iconst (v := 2) d_Md_partAt_91 (by decide) ?_
    refine sm_isub d_Md_partAt_92 ?_
    refine sm_iload_n d_Md_partAt_93 rfl (j := 2) rfl ?_
    refine sm_bipush (v := 12) d_Md_partAt_94 (by decide) ?_
    refine sm_iadd d_Md_partAt_96 ?_
    refine sm_icmp_lt (tgt := 132) d_Md_partAt_97 (by decide) (fun h76 => ?_) (fun h76 => ?_)
    · rw [if_pos h76] at hf
      exact sm_pick [1, 2, 3, 4, 0] (w_Md_partAt_132 _ _ _ _ _ _ hI hf) rfl
    · rw [if_neg h76] at hf
      refine sm_aload_n d_Md_partAt_100 rfl (j := 1) rfl ?_
      refine sm_aload_n d_Md_partAt_101 rfl (j := 1) rfl ?_
      refine lo_get (v := .int (w 0 20)) d_Md_partAt_102 fg_Md_174 hI ml_0 rfl ?_
      refine sm_iconst (v := 2) d_Md_partAt_105 (by decide) ?_
      refine sm_isub d_Md_partAt_106 ?_
      obtain ⟨r77, e78, hf⟩ := lo_bnd hf
      refine lo_callV d_Md_partAt_107 cs_Md_partAt_233 rfl hI ml_0 (As := [.int ((w 0 20) - (2 : Int32))]) rfl rfl (Nat.le_of_ble_eq_true rfl) (c_Md_u1 hI ((w 0 20) - (2 : Int32)) e78) ?_
      refine sm_sipush (v := 255) d_Md_partAt_110 (by decide) ?_
      refine sm_icmp_ne (tgt := 132) d_Md_partAt_113 (by decide) (fun h79 => ?_) (fun h79 => ?_)
      · rw [if_neg h79] at hf
        exact sm_pick [1, 2, 3, 4, 0] (w_Md_partAt_132 _ _ _ _ _ _ hI hf) rfl
      · rw [if_pos h79] at hf
        refine sm_aload_n d_Md_partAt_116 rfl (j := 1) rfl ?_
        refine sm_aload_n d_Md_partAt_117 rfl (j := 1) rfl ?_
        refine lo_get (v := .int (w 0 20)) d_Md_partAt_118 fg_Md_174 hI ml_0 rfl ?_
        refine sm_iconst (v := 1) d_Md_partAt_121 (by decide) ?_
        refine sm_isub d_Md_partAt_122 ?_
        obtain ⟨r80, e81, hf⟩ := lo_bnd hf
        refine lo_callV d_Md_partAt_123 cs_Md_partAt_233 rfl hI ml_0 (As := [.int ((w 0 20) - (1 : Int32))]) rfl rfl (Nat.le_of_ble_eq_true rfl) (c_Md_u1 hI ((w 0 20) - (1 : Int32)) e81) ?_
        refine sm_sipush (v := 217) d_Md_partAt_126 (by decide) ?_
        refine sm_icmp_eq (tgt := 136) d_Md_partAt_129 (by decide) (fun h82 => ?_) (fun h82 => ?_)
        · rw [if_pos h82] at hf
          refine sm_iconst (v := 0) d_Md_partAt_136 (by decide) ?_
          refine sm_goto (tgt := 159) d_Md_partAt_137 (by decide) ?_
          exact sm_pick [1, 2, 3, 4, 0] (w_Md_partAt_159 _ _ _ _ _ _ _ hI hf) rfl
        · rw [if_neg h82] at hf
          exact sm_pick [1, 2, 3, 4, 0] (w_Md_partAt_132 _ _ _ _ _ _ hI hf) rfl

def fn_Md_partAt_47 (F : Nat) (w : wd) (x1 : Int32) (x2 : Int32) (s0 : Int32) : Option (Int32 × wd) := (if s0 ≤ 0 then ((fn_Md_u4 w (x2 + (2 : Int32))).bind fun r9 => (if r9 = (0 : Int64) then fn_Md_partAt_80 F w x1 x2 r9 true else fn_Md_partAt_80 F w x1 x2 r9 false)) else some ((fn_Md_no w s0 x1).1, (fn_Md_no w s0 x1).2))
set_option maxHeartbeats 1600000 in
set_option maxRecDepth 100000 in
theorem w_Md_partAt_47 {G : sm_G} {b : Nat} {M0 : sm_M} {bc bs : Nat} {R : Int32 × wd} {F : Nat} : ∀ (M : sm_M) (w : wd) (x1 : Int32) (x2 : Int32) (s0 : Int32), lo_in G md_L b M0 M w → fn_Md_partAt_47 F w x1 x2 s0 = some R → sm_W G mf_Md_partAt 47 [(0, .ref (b + 0)), (1, .int x1), (2, .int x2)] [.int s0] M bc bs (wd_Q G md_L b M0 (some (.int R.1)) R.2) := by
  intro M w x1 x2 s0 hI  hf
  unfold fn_Md_partAt_47 at hf
  refine sm_istore_n d_Md_partAt_47 rfl (by decide) rfl ?_
  refine sm_iload_n d_Md_partAt_48 rfl (j := 0) rfl ?_
  refine sm_if_le (tgt := 59) d_Md_partAt_49 (by decide) (fun h8 => ?_) (fun h8 => ?_)
  · rw [if_pos h8] at hf
    refine sm_aload_n d_Md_partAt_59 rfl (j := 1) rfl ?_
    refine sm_iload_n d_Md_partAt_60 rfl (j := 3) rfl ?_
    refine sm_iconst (v := 2) d_Md_partAt_61 (by decide) ?_
    refine sm_iadd d_Md_partAt_62 ?_
    obtain ⟨r9, e10, hf⟩ := lo_bnd hf
    refine lo_callV d_Md_partAt_63 cs_Md_partAt_253 rfl hI ml_0 (As := [.int (x2 + (2 : Int32))]) rfl rfl (Nat.le_of_ble_eq_true rfl) (c_Md_u4 hI (x2 + (2 : Int32)) e10) ?_
    refine sm_lstore d_Md_partAt_66 (by decide) rfl ?_
    refine sm_lload d_Md_partAt_68 (j := 0) rfl ?_
    refine sm_lconst (v := 0) d_Md_partAt_70 (by decide) ?_
    refine sm_lcmp d_Md_partAt_71 ?_
    refine sm_if_ne (tgt := 79) d_Md_partAt_72 (by decide) (fun h11 => ?_) (fun h11 => ?_)
    · rw [if_neg (mt (lg_cmp_eq _ _).mpr h11)] at hf
      refine sm_iconst (v := 0) d_Md_partAt_79 (by decide) ?_
      exact sm_pick [2, 3, 4, 0] (w_Md_partAt_80 _ _ _ _ _ _ hI hf) rfl
    · rw [if_pos ((lg_cmp_eq _ _).mp h11)] at hf
      refine sm_iconst (v := 1) d_Md_partAt_75 (by decide) ?_
      refine sm_goto (tgt := 80) d_Md_partAt_76 (by decide) ?_
      exact sm_pick [2, 3, 4, 0] (w_Md_partAt_80 _ _ _ _ _ _ hI hf) rfl
  · rw [if_neg h8] at hf
    refine sm_aload_n d_Md_partAt_52 rfl (j := 1) rfl ?_
    refine sm_iload_n d_Md_partAt_53 rfl (j := 0) rfl ?_
    refine sm_iload_n d_Md_partAt_54 rfl (j := 2) rfl ?_
    refine lo_callVm d_Md_partAt_55 cs_Md_partAt_281 rfl hI ml_0 (As := [.int s0, .int x1]) rfl rfl (Nat.le_of_ble_eq_true rfl) (c_Md_no hI s0 x1) (fun M83 hI84 => ?_)
    cases hf
    refine sm_ireturn d_Md_partAt_58 rfl (by rfl) ?_
    exact ⟨rfl, hI84⟩

def fn_Md_partAt (F : Nat) (w : wd) (x1 : Int32) : Option (Int32 × wd) := ((fn_Md_fitsLength w (144 : Int32) x1).bind fun r1 => (if r1 = true then (if (w 0 28) = (256 : Int32) then fn_Md_partAt_47 F w x1 (x1 + (4 : Int32)) (7 : Int32) else ((fn_Md_isPart F w (x1 + (4 : Int32))).bind fun r5 => (if r5 = true then fn_Md_partAt_47 F w x1 (x1 + (4 : Int32)) (0 : Int32) else fn_Md_partAt_47 F w x1 (x1 + (4 : Int32)) (5 : Int32)))) else fn_Md_partAt_47 F w x1 (x1 + (4 : Int32)) (3 : Int32)))
set_option maxHeartbeats 1600000 in
set_option maxRecDepth 100000 in
theorem c_Md_partAt {G : sm_G} {b : Nat} {M0 M : sm_M}  {w : wd} {F : Nat} (hI : lo_in G md_L b M0 M w)  (x1 : Int32)  {R : Int32 × wd} (hf : fn_Md_partAt F w x1 = some R) : sm_C G mf_Md_partAt [.ref (b + 0), .int x1] M 0 0 (wd_Q G md_L b M (some (.int R.1)) R.2) := by
  unfold fn_Md_partAt at hf
  have hI := hI.here
  refine sm_ofW rfl (Nat.le_of_ble_eq_true rfl) ?_
  refine sm_iload_n d_Md_partAt_0 rfl (j := 1) rfl ?_
  refine sm_iconst (v := 4) d_Md_partAt_1 (by decide) ?_
  refine sm_iadd d_Md_partAt_2 ?_
  refine sm_istore_n d_Md_partAt_3 rfl (by decide) rfl ?_
  refine sm_aload_n d_Md_partAt_4 rfl (j := 1) rfl ?_
  refine sm_sipush (v := 144) d_Md_partAt_5 (by decide) ?_
  refine sm_iload_n d_Md_partAt_8 rfl (j := 2) rfl ?_
  obtain ⟨r1, e2, hf⟩ := lo_bnd hf
  refine lo_callV d_Md_partAt_9 cs_Md_partAt_284 rfl hI ml_0 (As := [.int (144 : Int32), .int x1]) rfl rfl (Nat.le_of_ble_eq_true rfl) (c_Md_fitsLength hI (144 : Int32) x1 e2) ?_
  refine sm_if_ne (tgt := 19) d_Md_partAt_12 (by decide) (fun h3 => ?_) (fun h3 => ?_)
  · rw [if_pos (bi1 h3)] at hf
    refine sm_aload_n d_Md_partAt_19 rfl (j := 1) rfl ?_
    refine lo_get (v := .int (w 0 28)) d_Md_partAt_20 fg_Md_312 hI ml_0 rfl ?_
    refine sm_sipush (v := 256) d_Md_partAt_23 (by decide) ?_
    refine sm_icmp_ne (tgt := 34) d_Md_partAt_26 (by decide) (fun h4 => ?_) (fun h4 => ?_)
    · rw [if_neg h4] at hf
      refine sm_aload_n d_Md_partAt_34 rfl (j := 1) rfl ?_
      refine sm_iload_n d_Md_partAt_35 rfl (j := 0) rfl ?_
      obtain ⟨r5, e6, hf⟩ := lo_bnd hf
      refine lo_callV d_Md_partAt_36 cs_Md_partAt_321 rfl hI ml_0 (As := [.int (x1 + (4 : Int32))]) rfl rfl (Nat.le_of_ble_eq_true rfl) (c_Md_isPart hI (x1 + (4 : Int32)) e6) ?_
      refine sm_if_ne (tgt := 46) d_Md_partAt_39 (by decide) (fun h7 => ?_) (fun h7 => ?_)
      · rw [if_pos (bi1 h7)] at hf
        refine sm_iconst (v := 0) d_Md_partAt_46 (by decide) ?_
        exact sm_pick [1, 2, 0] (w_Md_partAt_47 _ _ _ _ _ hI hf) rfl
      · rw [if_neg (bi0 h7)] at hf
        refine sm_iconst (v := 5) d_Md_partAt_42 (by decide) ?_
        refine sm_goto (tgt := 47) d_Md_partAt_43 (by decide) ?_
        exact sm_pick [1, 2, 0] (w_Md_partAt_47 _ _ _ _ _ hI hf) rfl
    · rw [if_pos h4] at hf
      refine sm_bipush (v := 7) d_Md_partAt_29 (by decide) ?_
      refine sm_goto (tgt := 47) d_Md_partAt_31 (by decide) ?_
      exact sm_pick [1, 2, 0] (w_Md_partAt_47 _ _ _ _ _ hI hf) rfl
  · rw [if_neg (bi0 h3)] at hf
    refine sm_iconst (v := 3) d_Md_partAt_15 (by decide) ?_
    refine sm_goto (tgt := 47) d_Md_partAt_16 (by decide) ?_
    exact sm_pick [1, 2, 0] (w_Md_partAt_47 _ _ _ _ _ hI hf) rfl

def fn_Md_isAllThere_72 (k28 : wd → Bool → Int32 → Option (Bool)) (F : Nat) (w : wd) (x2 : Int32) (s0 : Bool) : Option (Bool) := k28 w s0 (x2 + 1)
set_option maxHeartbeats 1600000 in
set_option maxRecDepth 100000 in
theorem w_Md_isAllThere_72 {G : sm_G} {b : Nat} {M0 : sm_M} {bc bs : Nat} {R : Bool} {F : Nat} {k28 : wd → Bool → Int32 → Option (Bool)} (hk28 : ∀ (w : wd) (x1 : Bool) (x2 : Int32), lo_in G md_L b M0 M0 w → k28 w x1 x2 = some R → sm_W G mf_Md_isAllThere 28 [(0, .ref (b + 0)), (1, .int (bi x1)), (2, .int x2)] [] M0 bc bs (sm_pu M0 (.int (bi R)))) : ∀ (w : wd) (x2 : Int32) (s0 : Bool), lo_in G md_L b M0 M0 w → fn_Md_isAllThere_72 k28 F w x2 s0 = some R → sm_W G mf_Md_isAllThere 72 [(0, .ref (b + 0)), (2, .int x2)] [.int (bi s0)] M0 bc bs (sm_pu M0 (.int (bi R))) := by
  intro w x2 s0 hI  hf
  unfold fn_Md_isAllThere_72 at hf
  refine sm_istore_n d_Md_isAllThere_72 rfl (by decide) rfl ?_
  refine sm_iinc (v := (x2 + 1)) d_Md_isAllThere_73 (j := 2) rfl rfl (by decide) rfl ?_
  refine sm_goto (tgt := 28) d_Md_isAllThere_76 (by decide) ?_
  exact sm_pick [2, 1, 0] (hk28 _ _ _ hI hf) rfl

def fn_Md_isAllThere_71 (k28 : wd → Bool → Int32 → Option (Bool)) (F : Nat) (w : wd) (x2 : Int32) : Option (Bool) := fn_Md_isAllThere_72 k28 F w x2 false
set_option maxHeartbeats 1600000 in
set_option maxRecDepth 100000 in
theorem w_Md_isAllThere_71 {G : sm_G} {b : Nat} {M0 : sm_M} {bc bs : Nat} {R : Bool} {F : Nat} {k28 : wd → Bool → Int32 → Option (Bool)} (hk28 : ∀ (w : wd) (x1 : Bool) (x2 : Int32), lo_in G md_L b M0 M0 w → k28 w x1 x2 = some R → sm_W G mf_Md_isAllThere 28 [(0, .ref (b + 0)), (1, .int (bi x1)), (2, .int x2)] [] M0 bc bs (sm_pu M0 (.int (bi R)))) : ∀ (w : wd) (x2 : Int32), lo_in G md_L b M0 M0 w → fn_Md_isAllThere_71 k28 F w x2 = some R → sm_W G mf_Md_isAllThere 71 [(0, .ref (b + 0)), (2, .int x2)] [] M0 bc bs (sm_pu M0 (.int (bi R))) := by
  intro w x2 hI  hf
  unfold fn_Md_isAllThere_71 at hf
  refine sm_iconst (v := 0) d_Md_isAllThere_71 (by decide) ?_
  exact sm_pick [0, 1] (w_Md_isAllThere_72 hk28 _ _ _ hI hf) rfl

def fn_Md_isAllThere_67 (k28 : wd → Bool → Int32 → Option (Bool)) (F : Nat) (w : wd) (x2 : Int32) : Option (Bool) := fn_Md_isAllThere_72 k28 F w x2 true
set_option maxHeartbeats 1600000 in
set_option maxRecDepth 100000 in
theorem w_Md_isAllThere_67 {G : sm_G} {b : Nat} {M0 : sm_M} {bc bs : Nat} {R : Bool} {F : Nat} {k28 : wd → Bool → Int32 → Option (Bool)} (hk28 : ∀ (w : wd) (x1 : Bool) (x2 : Int32), lo_in G md_L b M0 M0 w → k28 w x1 x2 = some R → sm_W G mf_Md_isAllThere 28 [(0, .ref (b + 0)), (1, .int (bi x1)), (2, .int x2)] [] M0 bc bs (sm_pu M0 (.int (bi R)))) : ∀ (w : wd) (x2 : Int32), lo_in G md_L b M0 M0 w → fn_Md_isAllThere_67 k28 F w x2 = some R → sm_W G mf_Md_isAllThere 67 [(0, .ref (b + 0)), (2, .int x2)] [] M0 bc bs (sm_pu M0 (.int (bi R))) := by
  intro w x2 hI  hf
  unfold fn_Md_isAllThere_67 at hf
  refine sm_iconst (v := 1) d_Md_isAllThere_67 (by decide) ?_
  refine sm_goto (tgt := 72) d_Md_isAllThere_68 (by decide) ?_
  exact sm_pick [0, 1] (w_Md_isAllThere_72 hk28 _ _ _ hI hf) rfl

def fn_Md_isAllThere_28 (F : Nat) : Nat → wd → Bool → Int32 → Option (Bool)
 | 0, _, _, _ => none
 | n9 + 1, w, x1, x2 => (if (w 0 34) ≤ x2 then some x1 else ((fn_Md_partsOf F w x2).bind fun r5 => (if x1 = true then (if r5 ≤ 0 then fn_Md_isAllThere_71 (fn_Md_isAllThere_28 F n9) F w x2 else ((fn_Md_saidOf F w x2).bind fun r9 => (if r9 = 0 then fn_Md_isAllThere_67 (fn_Md_isAllThere_28 F n9) F w x2 else ((fn_Md_saidOf F w x2).bind fun r12 => (if r12 = r5 then fn_Md_isAllThere_67 (fn_Md_isAllThere_28 F n9) F w x2 else fn_Md_isAllThere_71 (fn_Md_isAllThere_28 F n9) F w x2))))) else fn_Md_isAllThere_71 (fn_Md_isAllThere_28 F n9) F w x2)))
set_option maxHeartbeats 1600000 in
set_option maxRecDepth 100000 in
theorem w_Md_isAllThere_28 {G : sm_G} {b : Nat} {M0 : sm_M} {bc bs : Nat} {R : Bool} {F : Nat} : ∀ (n9 : Nat), ∀ (w : wd) (x1 : Bool) (x2 : Int32), lo_in G md_L b M0 M0 w → fn_Md_isAllThere_28 F n9 w x1 x2 = some R → sm_W G mf_Md_isAllThere 28 [(0, .ref (b + 0)), (1, .int (bi x1)), (2, .int x2)] [] M0 bc bs (sm_pu M0 (.int (bi R))) := by
  intro n9
  induction n9 with
  | zero => intro w x1 x2 hI  hf; cases hf
  | succ n9 ih =>
    intro w x1 x2 hI  hf
    rw [fn_Md_isAllThere_28] at hf
    refine sm_iload_n d_Md_isAllThere_28 rfl (j := 2) rfl ?_
    refine sm_aload_n d_Md_isAllThere_29 rfl (j := 0) rfl ?_
    refine lo_get (v := .int (w 0 34)) d_Md_isAllThere_30 fg_Md_306 hI ml_0 rfl ?_
    refine sm_icmp_ge (tgt := 79) d_Md_isAllThere_33 (by decide) (fun h4 => ?_) (fun h4 => ?_)
    · rw [if_pos h4] at hf
      refine sm_iload_n d_Md_isAllThere_79 rfl (j := 1) rfl ?_
      cases hf
      refine sm_ireturn d_Md_isAllThere_80 rfl (bi_n _) ?_
      exact ⟨rfl, rfl⟩
    · rw [if_neg h4] at hf
      refine sm_aload_n d_Md_isAllThere_36 rfl (j := 0) rfl ?_
      refine sm_iload_n d_Md_isAllThere_37 rfl (j := 2) rfl ?_
      obtain ⟨r5, e6, hf⟩ := lo_bnd hf
      refine lo_callV d_Md_isAllThere_38 cs_Md_isAllThere_315 rfl hI ml_0 (As := [.int x2]) rfl rfl (Nat.le_of_ble_eq_true rfl) (c_Md_partsOf hI x2 e6) ?_
      refine sm_istore_n d_Md_isAllThere_41 rfl (by decide) rfl ?_
      refine sm_iload_n d_Md_isAllThere_42 rfl (j := 2) rfl ?_
      refine sm_if_eq (tgt := 71) d_Md_isAllThere_43 (by decide) (fun h7 => ?_) (fun h7 => ?_)
      · rw [if_neg (bi0 h7)] at hf
        exact sm_pick [1, 3] (w_Md_isAllThere_71 ih _ _ hI hf) rfl
      · rw [if_pos (bi1 h7)] at hf
        refine sm_iload_n d_Md_isAllThere_46 rfl (j := 0) rfl ?_
        refine sm_if_le (tgt := 71) d_Md_isAllThere_47 (by decide) (fun h8 => ?_) (fun h8 => ?_)
        · rw [if_pos h8] at hf
          exact sm_pick [1, 3] (w_Md_isAllThere_71 ih _ _ hI hf) rfl
        · rw [if_neg h8] at hf
          refine sm_aload_n d_Md_isAllThere_50 rfl (j := 1) rfl ?_
          refine sm_iload_n d_Md_isAllThere_51 rfl (j := 3) rfl ?_
          obtain ⟨r9, e10, hf⟩ := lo_bnd hf
          refine lo_callV d_Md_isAllThere_52 cs_Md_isAllThere_318 rfl hI ml_0 (As := [.int x2]) rfl rfl (Nat.le_of_ble_eq_true rfl) (c_Md_saidOf hI x2 e10) ?_
          refine sm_if_eq (tgt := 67) d_Md_isAllThere_55 (by decide) (fun h11 => ?_) (fun h11 => ?_)
          · rw [if_pos h11] at hf
            exact sm_pick [1, 3] (w_Md_isAllThere_67 ih _ _ hI hf) rfl
          · rw [if_neg h11] at hf
            refine sm_aload_n d_Md_isAllThere_58 rfl (j := 1) rfl ?_
            refine sm_iload_n d_Md_isAllThere_59 rfl (j := 3) rfl ?_
            obtain ⟨r12, e13, hf⟩ := lo_bnd hf
            refine lo_callV d_Md_isAllThere_60 cs_Md_isAllThere_318 rfl hI ml_0 (As := [.int x2]) rfl rfl (Nat.le_of_ble_eq_true rfl) (c_Md_saidOf hI x2 e13) ?_
            refine sm_iload_n d_Md_isAllThere_63 rfl (j := 0) rfl ?_
            refine sm_icmp_ne (tgt := 71) d_Md_isAllThere_64 (by decide) (fun h14 => ?_) (fun h14 => ?_)
            · rw [if_neg h14] at hf
              exact sm_pick [1, 3] (w_Md_isAllThere_71 ih _ _ hI hf) rfl
            · rw [if_pos h14] at hf
              exact sm_pick [1, 3] (w_Md_isAllThere_67 ih _ _ hI hf) rfl

def fn_Md_isAllThere_25 (F : Nat) (w : wd) (s0 : Bool) : Option (Bool) := fn_Md_isAllThere_28 F F w s0 (0 : Int32)
set_option maxHeartbeats 1600000 in
set_option maxRecDepth 100000 in
theorem w_Md_isAllThere_25 {G : sm_G} {b : Nat} {M0 : sm_M} {bc bs : Nat} {R : Bool} {F : Nat} : ∀ (w : wd) (s0 : Bool), lo_in G md_L b M0 M0 w → fn_Md_isAllThere_25 F w s0 = some R → sm_W G mf_Md_isAllThere 25 [(0, .ref (b + 0))] [.int (bi s0)] M0 bc bs (sm_pu M0 (.int (bi R))) := by
  intro w s0 hI  hf
  unfold fn_Md_isAllThere_25 at hf
  refine sm_istore_n d_Md_isAllThere_25 rfl (by decide) rfl ?_
  refine sm_iconst (v := 0) d_Md_isAllThere_26 (by decide) ?_
  refine sm_istore_n d_Md_isAllThere_27 rfl (by decide) rfl ?_
  exact sm_pick [2, 1, 0] (w_Md_isAllThere_28 _ _ _ _ hI hf) rfl

def fn_Md_isAllThere_24 (F : Nat) (w : wd) : Option (Bool) := fn_Md_isAllThere_25 F w false
set_option maxHeartbeats 1600000 in
set_option maxRecDepth 100000 in
theorem w_Md_isAllThere_24 {G : sm_G} {b : Nat} {M0 : sm_M} {bc bs : Nat} {R : Bool} {F : Nat} : ∀ (w : wd) , lo_in G md_L b M0 M0 w → fn_Md_isAllThere_24 F w = some R → sm_W G mf_Md_isAllThere 24 [(0, .ref (b + 0))] [] M0 bc bs (sm_pu M0 (.int (bi R))) := by
  intro w  hI  hf
  unfold fn_Md_isAllThere_24 at hf
  refine sm_iconst (v := 0) d_Md_isAllThere_24 (by decide) ?_
  exact sm_pick [0] (w_Md_isAllThere_25 _ _ hI hf) rfl

def fn_Md_isAllThere (F : Nat) (w : wd) : Option (Bool) := ((fn_Md_met F w (82 : Int32) (-1 : Int32)).bind fun r1 => (if r1 ≤ 0 then fn_Md_isAllThere_24 F w else ((fn_Md_met F w (92 : Int32) (-1 : Int32)).bind fun r15 => (if r15 ≤ 0 then fn_Md_isAllThere_24 F w else fn_Md_isAllThere_25 F w true))))
set_option maxHeartbeats 1600000 in
set_option maxRecDepth 100000 in
theorem c_Md_isAllThere {G : sm_G} {b : Nat} {M0 M : sm_M}  {w : wd} {F : Nat} (hI : lo_in G md_L b M0 M w)  {R : Bool} (hf : fn_Md_isAllThere F w = some R) : sm_C G mf_Md_isAllThere [.ref (b + 0)] M 0 0 (sm_pu M (.int (bi R))) := by
  unfold fn_Md_isAllThere at hf
  have hI := hI.here
  refine sm_ofW rfl (Nat.le_of_ble_eq_true rfl) ?_
  refine sm_aload_n d_Md_isAllThere_0 rfl (j := 0) rfl ?_
  refine sm_bipush (v := 82) d_Md_isAllThere_1 (by decide) ?_
  refine sm_iconst (v := -1) d_Md_isAllThere_3 (by decide) ?_
  obtain ⟨r1, e2, hf⟩ := lo_bnd hf
  refine lo_callV d_Md_isAllThere_4 cs_Md_isAllThere_275 rfl hI ml_0 (As := [.int (82 : Int32), .int (-1 : Int32)]) rfl rfl (Nat.le_of_ble_eq_true rfl) (c_Md_met hI (82 : Int32) (-1 : Int32) e2) ?_
  refine sm_if_le (tgt := 24) d_Md_isAllThere_7 (by decide) (fun h3 => ?_) (fun h3 => ?_)
  · rw [if_pos h3] at hf
    exact sm_pick [0] (w_Md_isAllThere_24 _ hI hf) rfl
  · rw [if_neg h3] at hf
    refine sm_aload_n d_Md_isAllThere_10 rfl (j := 0) rfl ?_
    refine sm_bipush (v := 92) d_Md_isAllThere_11 (by decide) ?_
    refine sm_iconst (v := -1) d_Md_isAllThere_13 (by decide) ?_
    obtain ⟨r15, e16, hf⟩ := lo_bnd hf
    refine lo_callV d_Md_isAllThere_14 cs_Md_isAllThere_275 rfl hI ml_0 (As := [.int (92 : Int32), .int (-1 : Int32)]) rfl rfl (Nat.le_of_ble_eq_true rfl) (c_Md_met hI (92 : Int32) (-1 : Int32) e16) ?_
    refine sm_if_le (tgt := 24) d_Md_isAllThere_17 (by decide) (fun h17 => ?_) (fun h17 => ?_)
    · rw [if_pos h17] at hf
      exact sm_pick [0] (w_Md_isAllThere_24 _ hI hf) rfl
    · rw [if_neg h17] at hf
      refine sm_iconst (v := 1) d_Md_isAllThere_20 (by decide) ?_
      refine sm_goto (tgt := 25) d_Md_isAllThere_21 (by decide) ?_
      exact sm_pick [0] (w_Md_isAllThere_25 _ _ hI hf) rfl

