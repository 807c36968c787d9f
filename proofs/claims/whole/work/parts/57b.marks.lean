/-! marks, on; written by wip/tools/cls2.py -/
def fn_SM_get_39 (Z : zd) (w : wd) (x1 : Int32) (x2 : Int32) : Int32 ⊕ String := (if x1 < (40 : Int32) then (.inr "java/util/NoSuchElementException") else (if (45 : Int32) < x1 then (.inr "java/util/NoSuchElementException") else (if x2 < 0 then (.inr "java/util/NoSuchElementException") else (if (w 1 9) ≤ x2 then (.inr "java/util/NoSuchElementException") else (.inl (fn_Pl_numberOfChange w x2 (x1 - (40 : Int32))))))))
set_option maxHeartbeats 1600000 in
set_option maxRecDepth 100000 in
theorem w_SM_get_39 {G : sm_G} {b : Nat} {M0 : sm_M} {R : Int32 ⊕ String} : ∀ (M : sm_M) (Z : zd) (w : wd) (x1 : Int32) (x2 : Int32), os_in G b M0 M w Z → fn_SM_get_39 Z w x1 x2 = R → sm_W G mf_SM_get 39 [(0, .ref (b + 0)), (1, .int x1), (2, .int x2)] [] M (os_e (oI R) 1) (os_e (oI R) 6) (os_Q G b M0 (oI R) w Z) := by
  intro M Z w x1 x2 hS  hf
  unfold fn_SM_get_39 at hf
  refine sm_iload_n d_SM_get_39 rfl (j := 1) rfl ?_
  refine sm_bipush (v := 40) d_SM_get_40 (by decide) ?_
  refine sm_icmp_lt (tgt := 79) d_SM_get_42 (by decide) (fun h3 => ?_) (fun h3 => ?_)
  · rw [if_pos h3] at hf
    subst hf
    refine sm_throwN d_SM_get_79 d_SM_get_82 d_SM_get_83 d_SM_get_85 d_SM_get_88 th_SM_220_222 rfl (by decide) (by decide) (by show 1 ≤ 1; exact Nat.le_refl _) (by show 6 ≤ 6; exact Nat.le_refl _) (fun n9 hn9 => ⟨rfl, os_bump hS hn9⟩)
  · rw [if_neg h3] at hf
    refine sm_iload_n d_SM_get_45 rfl (j := 1) rfl ?_
    refine sm_bipush (v := 45) d_SM_get_46 (by decide) ?_
    refine sm_icmp_gt (tgt := 79) d_SM_get_48 (by decide) (fun h4 => ?_) (fun h4 => ?_)
    · rw [if_pos h4] at hf
      subst hf
      refine sm_throwN d_SM_get_79 d_SM_get_82 d_SM_get_83 d_SM_get_85 d_SM_get_88 th_SM_220_222 rfl (by decide) (by decide) (by show 1 ≤ 1; exact Nat.le_refl _) (by show 6 ≤ 6; exact Nat.le_refl _) (fun n9 hn9 => ⟨rfl, os_bump hS hn9⟩)
    · rw [if_neg h4] at hf
      refine sm_iload_n d_SM_get_51 rfl (j := 2) rfl ?_
      refine sm_if_lt (tgt := 79) d_SM_get_52 (by decide) (fun h5 => ?_) (fun h5 => ?_)
      · rw [if_pos h5] at hf
        subst hf
        refine sm_throwN d_SM_get_79 d_SM_get_82 d_SM_get_83 d_SM_get_85 d_SM_get_88 th_SM_220_222 rfl (by decide) (by decide) (by show 1 ≤ 1; exact Nat.le_refl _) (by show 6 ≤ 6; exact Nat.le_refl _) (fun n9 hn9 => ⟨rfl, os_bump hS hn9⟩)
      · rw [if_neg h5] at hf
        refine sm_iload_n d_SM_get_55 rfl (j := 2) rfl ?_
        refine sm_aload_n d_SM_get_56 rfl (j := 0) rfl ?_
        refine lo_get (v := .ref (b + 1)) d_SM_get_57 fg_SM_10 (os_I hS) cl_0 rfl ?_
        refine lo_get (v := .int (w 1 9)) d_SM_get_60 fg_SM_199 (os_I hS) cl_1 rfl ?_
        refine sm_icmp_ge (tgt := 79) d_SM_get_63 (by decide) (fun h6 => ?_) (fun h6 => ?_)
        · rw [if_pos h6] at hf
          subst hf
          refine sm_throwN d_SM_get_79 d_SM_get_82 d_SM_get_83 d_SM_get_85 d_SM_get_88 th_SM_220_222 rfl (by decide) (by decide) (by show 1 ≤ 1; exact Nat.le_refl _) (by show 6 ≤ 6; exact Nat.le_refl _) (fun n9 hn9 => ⟨rfl, os_bump hS hn9⟩)
        · rw [if_neg h6] at hf
          refine sm_aload_n d_SM_get_66 rfl (j := 0) rfl ?_
          refine lo_get (v := .ref (b + 1)) d_SM_get_67 fg_SM_10 (os_I hS) cl_0 rfl ?_
          refine sm_iload_n d_SM_get_70 rfl (j := 2) rfl ?_
          refine sm_iload_n d_SM_get_71 rfl (j := 1) rfl ?_
          refine sm_bipush (v := 40) d_SM_get_72 (by decide) ?_
          refine sm_isub d_SM_get_74 ?_
          refine lo_callV d_SM_get_75 cs_SM_get_216 rfl (os_I hS) cl_1 (As := [.int x2, .int (x1 - (40 : Int32))]) rfl rfl (Nat.le_of_ble_eq_true rfl) (c_Pl_numberOfChange (os_I hS) (os_Z hS) x2 (x1 - (40 : Int32))) ?_
          subst hf
          refine sm_ireturn d_SM_get_78 rfl (by rfl) ?_
          exact ⟨rfl, hS⟩

def fn_SM_get_19 (Z : zd) (w : wd) (x1 : Int32) (x2 : Int32) (x3 : Int32) : Int32 ⊕ String := (if x1 < (20 : Int32) then fn_SM_get_39 Z w x1 x2 else (if (34 : Int32) < x1 then fn_SM_get_39 Z w x1 x2 else (match (fn_SM_numberOfComponent Z w x1 x2 x3) with | .inl r8 => (.inl r8) | .inr X9 => (.inr X9))))
set_option maxHeartbeats 1600000 in
set_option maxRecDepth 100000 in
theorem w_SM_get_19 {G : sm_G} {b : Nat} {M0 : sm_M} {R : Int32 ⊕ String} : ∀ (M : sm_M) (Z : zd) (w : wd) (x1 : Int32) (x2 : Int32) (x3 : Int32), os_in G b M0 M w Z → fn_SM_get_19 Z w x1 x2 x3 = R → sm_W G mf_SM_get 19 [(0, .ref (b + 0)), (1, .int x1), (2, .int x2), (3, .int x3)] [] M (os_e (oI R) 1) (os_e (oI R) 6) (os_Q G b M0 (oI R) w Z) := by
  intro M Z w x1 x2 x3 hS  hf
  unfold fn_SM_get_19 at hf
  refine sm_iload_n d_SM_get_19 rfl (j := 1) rfl ?_
  refine sm_bipush (v := 20) d_SM_get_20 (by decide) ?_
  refine sm_icmp_lt (tgt := 39) d_SM_get_22 (by decide) (fun h2 => ?_) (fun h2 => ?_)
  · rw [if_pos h2] at hf
    exact sm_pick [0, 1, 2] (w_SM_get_39 _ _ _ _ _ hS hf) rfl
  · rw [if_neg h2] at hf
    refine sm_iload_n d_SM_get_25 rfl (j := 1) rfl ?_
    refine sm_bipush (v := 34) d_SM_get_26 (by decide) ?_
    refine sm_icmp_gt (tgt := 39) d_SM_get_28 (by decide) (fun h7 => ?_) (fun h7 => ?_)
    · rw [if_pos h7] at hf
      exact sm_pick [0, 1, 2] (w_SM_get_39 _ _ _ _ _ hS hf) rfl
    · rw [if_neg h7] at hf
      refine sm_aload_n d_SM_get_31 rfl (j := 0) rfl ?_
      refine sm_iload_n d_SM_get_32 rfl (j := 1) rfl ?_
      refine sm_iload_n d_SM_get_33 rfl (j := 2) rfl ?_
      refine sm_iload_n d_SM_get_34 rfl (j := 3) rfl ?_
      rcases e10 : (fn_SM_numberOfComponent Z w x1 x2 x3) with r8 | X9
      · rw [e10] at hf
        dsimp only at hf
        refine os_callI d_SM_get_35 cs_SM_get_212 rfl hS cl_0 (As := [.int x1, .int x2, .int x3]) rfl rfl (Nat.le_of_ble_eq_true rfl) (th_I (c_SM_numberOfComponent hS x1 x2 x3 e10)) (fun M12 hS11 => ?_)
        subst hf
        refine sm_ireturn d_SM_get_38 rfl (by rfl) ?_
        exact ⟨rfl, hS11⟩
      · rw [e10] at hf
        dsimp only at hf
        subst hf
        refine os_callX d_SM_get_35 cs_SM_get_212 rfl hS cl_0 (As := [.int x1, .int x2, .int x3]) rfl rfl (Nat.le_of_ble_eq_true rfl) (th_XI (c_SM_numberOfComponent hS x1 x2 x3 e10)) (by show 1 ≤ 1; exact Nat.le_refl _) (by show 6 ≤ 6; exact Nat.le_refl _) (fun M12 hS11 => ⟨rfl, hS11⟩)

def fn_SM_get (Z : zd) (w : wd) (x1 : Int32) (x2 : Int32) (x3 : Int32) : Int32 ⊕ String := (if x1 < 0 then fn_SM_get_19 Z w x1 x2 x3 else (if (14 : Int32) < x1 then fn_SM_get_19 Z w x1 x2 x3 else (.inl (fn_Pl_number w x1))))
set_option maxHeartbeats 1600000 in
set_option maxRecDepth 100000 in
theorem c_SM_get {G : sm_G} {b : Nat} {M0 M : sm_M} {Z : zd} {w : wd} (hS : os_in G b M0 M w Z) (x1 : Int32) (x2 : Int32) (x3 : Int32) {R : Int32 ⊕ String} (hf : fn_SM_get Z w x1 x2 x3 = R) : sm_C G mf_SM_get [.ref (b + 0), .int x1, .int x2, .int x3] M (os_e (oI R) 1) (os_e (oI R) 6) (os_Q G b M (oI R) w Z) := by
  unfold fn_SM_get at hf
  have hS := hS.here
  refine sm_ofW rfl (Nat.le_of_ble_eq_true rfl) ?_
  refine sm_iload_n d_SM_get_0 rfl (j := 1) rfl ?_
  refine sm_if_lt (tgt := 19) d_SM_get_1 (by decide) (fun h1 => ?_) (fun h1 => ?_)
  · rw [if_pos h1] at hf
    exact sm_pick [0, 1, 2, 3] (w_SM_get_19 _ _ _ _ _ _ hS hf) rfl
  · rw [if_neg h1] at hf
    refine sm_iload_n d_SM_get_4 rfl (j := 1) rfl ?_
    refine sm_bipush (v := 14) d_SM_get_5 (by decide) ?_
    refine sm_icmp_gt (tgt := 19) d_SM_get_7 (by decide) (fun h13 => ?_) (fun h13 => ?_)
    · rw [if_pos h13] at hf
      exact sm_pick [0, 1, 2, 3] (w_SM_get_19 _ _ _ _ _ _ hS hf) rfl
    · rw [if_neg h13] at hf
      refine sm_aload_n d_SM_get_10 rfl (j := 0) rfl ?_
      refine lo_get (v := .ref (b + 1)) d_SM_get_11 fg_SM_10 (os_I hS) cl_0 rfl ?_
      refine sm_iload_n d_SM_get_14 rfl (j := 1) rfl ?_
      refine lo_callV d_SM_get_15 cs_SM_get_208 rfl (os_I hS) cl_1 (As := [.int x1]) rfl rfl (Nat.le_of_ble_eq_true rfl) (c_Pl_number (os_I hS) (os_Z hS) x1) ?_
      subst hf
      refine sm_ireturn d_SM_get_18 rfl (by rfl) ?_
      exact ⟨rfl, hS⟩

def fn_SM_clear (Z : zd) (w : wd) : (Unit ⊕ String) × wd × zd := (.inl (), (up2 w 0 5 (0 : Int32)), (zs1 Z ([], Z.1.2)))
set_option maxHeartbeats 1600000 in
set_option maxRecDepth 100000 in
theorem c_SM_clear {G : sm_G} {b : Nat} {M0 M : sm_M} {Z : zd} {w : wd} (hS : os_in G b M0 M w Z) {R : (Unit ⊕ String) × wd × zd} (hf : fn_SM_clear Z w = R) : sm_C G mf_SM_clear [.ref (b + 0)] M (2 * (zc R.2.2 - zc Z) + os_e (oV R.1) 1) (2 * (zc R.2.2 - zc Z) + os_e (oV R.1) 6) (os_Q G b M (oV R.1) R.2.1 R.2.2) := by
  unfold fn_SM_clear at hf
  have hS := hS.here
  refine sm_ofW rfl (Nat.le_of_ble_eq_true rfl) ?_
  refine sm_aload_n d_SM_clear_0 rfl (j := 0) rfl ?_
  refine lo_get (v := .ref (b + 101)) d_SM_clear_1 fg_SM_19 (os_I hS) cl_0 rfl ?_
  refine os_setB1 d_SM_clear_4 cs_SM_clear_225 rfl hS (As := []) rfl rfl (Nat.le_of_ble_eq_true rfl) (fun q9 hq9 => c_Rw_clearAll hq9) (fun M1 hS2 => ?_)
  refine sm_aload_n d_SM_clear_7 rfl (j := 0) rfl ?_
  refine sm_iconst (v := 0) d_SM_clear_8 (by decide) ?_
  refine lo_put d_SM_clear_9 fp_SM_48 (by decide) (os_I hS2) cl_0 rfl (by rfl) (by rfl) (fun M3 hI4 => ?_)
  have hS5 := os_mv hS2 hI4
  subst hf
  refine sm_return d_SM_clear_12 rfl ?_
  exact ⟨rfl, hS5⟩

def fn_SM_put (Z : zd) (w : wd) (x1 : Int32) : Option ((Int32 ⊕ String) × wd × zd) := (if x1 < 0 then some (.inr "java/lang/IllegalArgumentException", w, Z) else (if x1 ≤ (255 : Int32) then (match (fn_SM_demandRoom Z w (1 : Int32)) with | .inl _ => (if Z.1.1.length + ([by8 x1]).length ≤ 65536 then (mchk (zs1 Z (rwp Z.1 [by8 x1])) (fun R9 : (Int32 ⊕ String) × wd × zd => R9.2.2) (some (.inl (nI (zs1 Z (rwp Z.1 [by8 x1])).1.1.length), (up2 w 0 5 (0 : Int32)), (zs1 Z (rwp Z.1 [by8 x1]))))) else none) | .inr X4 => some (.inr X4, w, Z)) else some (.inr "java/lang/IllegalArgumentException", w, Z)))
set_option maxHeartbeats 1600000 in
set_option maxRecDepth 100000 in
theorem c_SM_put {G : sm_G} {b : Nat} {M0 M : sm_M} {Z : zd} {w : wd} (hS : os_in G b M0 M w Z) (x1 : Int32) {R : (Int32 ⊕ String) × wd × zd} (hf : fn_SM_put Z w x1 = some R) : sm_C G mf_SM_put [.ref (b + 0), .int x1] M (2 * (zc R.2.2 - zc Z) + os_e (oI R.1) 1) (2 * (zc R.2.2 - zc Z) + os_e (oI R.1) 6) (os_Q G b M (oI R.1) R.2.1 R.2.2) := by
  unfold fn_SM_put at hf
  have hS := hS.here
  refine sm_ofW rfl (Nat.le_of_ble_eq_true rfl) ?_
  refine sm_iload_n d_SM_put_0 rfl (j := 1) rfl ?_
  refine sm_if_lt (tgt := 11) d_SM_put_1 (by decide) (fun h1 => ?_) (fun h1 => ?_)
  · rw [if_pos h1] at hf
    cases hf
    refine sm_throwS d_SM_put_11 d_SM_put_14 d_SM_put_15 d_SM_put_17 d_SM_put_20 th_SM_65_228 rfl (by decide) (by decide) (by show 1 ≤ _ + 1; exact Nat.le_add_left _ _) (by show 6 ≤ _ + 6; exact Nat.le_add_left _ _) (fun n9 hn9 => ⟨rfl, os_bump hS hn9⟩)
  · rw [if_neg h1] at hf
    refine sm_iload_n d_SM_put_4 rfl (j := 1) rfl ?_
    refine sm_sipush (v := 255) d_SM_put_5 (by decide) ?_
    refine sm_icmp_le (tgt := 21) d_SM_put_8 (by decide) (fun h2 => ?_) (fun h2 => ?_)
    · rw [if_pos h2] at hf
      refine sm_aload_n d_SM_put_21 rfl (j := 0) rfl ?_
      refine sm_iconst (v := 1) d_SM_put_22 (by decide) ?_
      rcases e5 : (fn_SM_demandRoom Z w (1 : Int32)) with r3 | X4
      · rw [e5] at hf
        dsimp only at hf
        refine os_callI d_SM_put_23 cs_SM_put_230 rfl hS cl_0 (As := [.int (1 : Int32)]) rfl rfl (Nat.le_of_ble_eq_true rfl) (th_V (c_SM_demandRoom hS (1 : Int32) e5)) (fun M7 hS6 => ?_)
        refine sm_aload_n d_SM_put_26 rfl (j := 0) rfl ?_
        refine lo_get (v := .ref (b + 101)) d_SM_put_27 fg_SM_19 (os_I hS6) cl_0 rfl ?_
        refine sm_iload_n d_SM_put_30 rfl (j := 1) rfl ?_
        replace hf := lo_chk hf
        obtain ⟨g10, hf⟩ := hf
        replace hf := mchk_s hf
        obtain ⟨g11, hf⟩ := hf
        refine os_app1 d_SM_put_31 cs_SM_put_234 rfl hS6 (As := [.int x1]) rfl rfl (Nat.le_of_ble_eq_true rfl) (fun q9 hq9 => r_addU1 hq9 x1 g10) g11 (fun M8 hS9 => ?_)
        refine sm_aload_n d_SM_put_34 rfl (j := 0) rfl ?_
        refine sm_iconst (v := 0) d_SM_put_35 (by decide) ?_
        refine lo_put d_SM_put_36 fp_SM_48 (by decide) (os_I hS9) cl_0 rfl (by rfl) (by rfl) (fun M12 hI13 => ?_)
        have hS14 := os_mv hS9 hI13
        refine sm_aload_n d_SM_put_39 rfl (j := 0) rfl ?_
        refine lo_get (v := .ref (b + 101)) d_SM_put_40 fg_SM_19 (os_I hS14) cl_0 rfl ?_
        refine cm_cnt1 d_SM_put_43 fg_SM_237 (os_I hS14) (os_Z hS14) ?_
        cases hf
        refine sm_ireturn d_SM_put_46 rfl (by rfl) ?_
        exact ⟨rfl, hS14⟩
      · rw [e5] at hf
        dsimp only at hf
        cases hf
        refine os_callX d_SM_put_23 cs_SM_put_230 rfl hS cl_0 (As := [.int (1 : Int32)]) rfl rfl (Nat.le_of_ble_eq_true rfl) (th_XV (c_SM_demandRoom hS (1 : Int32) e5)) (by show 1 ≤ _ + 1; exact Nat.le_add_left _ _) (by show 6 ≤ _ + 6; exact Nat.le_add_left _ _) (fun M7 hS6 => ⟨rfl, hS6⟩)
    · rw [if_neg h2] at hf
      cases hf
      refine sm_throwS d_SM_put_11 d_SM_put_14 d_SM_put_15 d_SM_put_17 d_SM_put_20 th_SM_65_228 rfl (by decide) (by decide) (by show 1 ≤ _ + 1; exact Nat.le_add_left _ _) (by show 6 ≤ _ + 6; exact Nat.le_add_left _ _) (fun n9 hn9 => ⟨rfl, os_bump hS hn9⟩)

def fn_SM_at (Z : zd) (w : wd) (x1 : Int32) : Int32 ⊕ String := (if x1 = (-1 : Int32) then (.inl (nI Z.1.1.length)) else (if (decide (0 ≤ x1.toInt ∧ x1.toInt < Z.1.1.length)) = true then (.inl (nI (rw_u1 Z.1.1 x1.toInt))) else (.inr "java/util/NoSuchElementException")))
set_option maxHeartbeats 1600000 in
set_option maxRecDepth 100000 in
theorem c_SM_at {G : sm_G} {b : Nat} {M0 M : sm_M} {Z : zd} {w : wd} (hS : os_in G b M0 M w Z) (x1 : Int32) {R : Int32 ⊕ String} (hf : fn_SM_at Z w x1 = R) : sm_C G mf_SM_at [.ref (b + 0), .int x1] M (os_e (oI R) 1) (os_e (oI R) 6) (os_Q G b M (oI R) w Z) := by
  unfold fn_SM_at at hf
  have hS := hS.here
  refine sm_ofW rfl (Nat.le_of_ble_eq_true rfl) ?_
  refine sm_iload_n d_SM_at_0 rfl (j := 1) rfl ?_
  refine sm_iconst (v := -1) d_SM_at_1 (by decide) ?_
  refine sm_icmp_ne (tgt := 13) d_SM_at_2 (by decide) (fun h1 => ?_) (fun h1 => ?_)
  · rw [if_neg h1] at hf
    refine sm_aload_n d_SM_at_13 rfl (j := 0) rfl ?_
    refine lo_get (v := .ref (b + 101)) d_SM_at_14 fg_SM_19 (os_I hS) cl_0 rfl ?_
    refine sm_iload_n d_SM_at_17 rfl (j := 1) rfl ?_
    refine cm_callR d_SM_at_18 cs_SM_at_240 rfl (cz_c1 (os_I hS) (os_Z hS)) (As := [.int x1]) rfl rfl (Nat.le_of_ble_eq_true rfl) (cz_has1 (os_I hS) (os_Z hS) x1) ?_
    refine sm_if_ne (tgt := 34) d_SM_at_21 (by decide) (fun h2 => ?_) (fun h2 => ?_)
    · rw [if_pos (bi1 h2)] at hf
      refine sm_aload_n d_SM_at_34 rfl (j := 0) rfl ?_
      refine lo_get (v := .ref (b + 101)) d_SM_at_35 fg_SM_19 (os_I hS) cl_0 rfl ?_
      refine sm_iload_n d_SM_at_38 rfl (j := 1) rfl ?_
      refine cm_callR d_SM_at_39 cs_SM_at_245 rfl (cz_c1 (os_I hS) (os_Z hS)) (As := [.int x1]) rfl rfl (Nat.le_of_ble_eq_true rfl) (cz_u11 (os_I hS) (os_Z hS) x1) ?_
      subst hf
      refine sm_ireturn d_SM_at_42 rfl (by rfl) ?_
      exact ⟨rfl, hS⟩
    · rw [if_neg (bi0 h2)] at hf
      subst hf
      refine sm_throwN d_SM_at_24 d_SM_at_27 d_SM_at_28 d_SM_at_30 d_SM_at_33 th_SM_220_243 rfl (by decide) (by decide) (by show 1 ≤ 1; exact Nat.le_refl _) (by show 6 ≤ 6; exact Nat.le_refl _) (fun n9 hn9 => ⟨rfl, os_bump hS hn9⟩)
  · rw [if_pos h1] at hf
    refine sm_aload_n d_SM_at_5 rfl (j := 0) rfl ?_
    refine lo_get (v := .ref (b + 101)) d_SM_at_6 fg_SM_19 (os_I hS) cl_0 rfl ?_
    refine cm_cnt1 d_SM_at_9 fg_SM_237 (os_I hS) (os_Z hS) ?_
    subst hf
    refine sm_ireturn d_SM_at_12 rfl (by rfl) ?_
    exact ⟨rfl, hS⟩

def fn_SM_write (F : Nat) (Z : zd) (w : wd) : Option ((Int32 ⊕ String) × wd × zd) := (if (fn_Pl_hasPicture w) = true then (if (w 1 2) = 0 then some (.inr "java/lang/IllegalStateException", w, Z) else ((fn_Wr_writePlan F w).bind fun r5 => (if (zs2 Z ([], Z.2.1.2)).2.1.1.length + r5.length ≤ 65536 then (mchk (zs2 (zs2 Z ([], Z.2.1.2)) (rwp (zs2 Z ([], Z.2.1.2)).2.1 r5)) (fun R9 : (Int32 ⊕ String) × wd × zd => R9.2.2) ((match (fn_SM_demandRoom (zs2 (zs2 Z ([], Z.2.1.2)) (rwp (zs2 Z ([], Z.2.1.2)).2.1 r5)) w (nI (zs2 (zs2 Z ([], Z.2.1.2)) (rwp (zs2 Z ([], Z.2.1.2)).2.1 r5)).2.1.1.length)) with | .inl _ => (if (zs2 (zs2 Z ([], Z.2.1.2)) (rwp (zs2 Z ([], Z.2.1.2)).2.1 r5)).1.1.length + (rw_rg (zs2 (zs2 Z ([], Z.2.1.2)) (rwp (zs2 Z ([], Z.2.1.2)).2.1 r5)).2.1.1 (0 : Int32) 0 (nI (zs2 (zs2 Z ([], Z.2.1.2)) (rwp (zs2 Z ([], Z.2.1.2)).2.1 r5)).2.1.1.length).toInt.toNat).length ≤ 65536 then (mchk (zs1 (zs2 (zs2 Z ([], Z.2.1.2)) (rwp (zs2 Z ([], Z.2.1.2)).2.1 r5)) (rwp (zs2 (zs2 Z ([], Z.2.1.2)) (rwp (zs2 Z ([], Z.2.1.2)).2.1 r5)).1 (rw_rg (zs2 (zs2 Z ([], Z.2.1.2)) (rwp (zs2 Z ([], Z.2.1.2)).2.1 r5)).2.1.1 (0 : Int32) 0 (nI (zs2 (zs2 Z ([], Z.2.1.2)) (rwp (zs2 Z ([], Z.2.1.2)).2.1 r5)).2.1.1.length).toInt.toNat))) (fun R9 : (Int32 ⊕ String) × wd × zd => R9.2.2) (some (.inl (nI (zs1 (zs2 (zs2 Z ([], Z.2.1.2)) (rwp (zs2 Z ([], Z.2.1.2)).2.1 r5)) (rwp (zs2 (zs2 Z ([], Z.2.1.2)) (rwp (zs2 Z ([], Z.2.1.2)).2.1 r5)).1 (rw_rg (zs2 (zs2 Z ([], Z.2.1.2)) (rwp (zs2 Z ([], Z.2.1.2)).2.1 r5)).2.1.1 (0 : Int32) 0 (nI (zs2 (zs2 Z ([], Z.2.1.2)) (rwp (zs2 Z ([], Z.2.1.2)).2.1 r5)).2.1.1.length).toInt.toNat))).2.1.1.length), (up2 w 0 5 (0 : Int32)), (zs1 (zs2 (zs2 Z ([], Z.2.1.2)) (rwp (zs2 Z ([], Z.2.1.2)).2.1 r5)) (rwp (zs2 (zs2 Z ([], Z.2.1.2)) (rwp (zs2 Z ([], Z.2.1.2)).2.1 r5)).1 (rw_rg (zs2 (zs2 Z ([], Z.2.1.2)) (rwp (zs2 Z ([], Z.2.1.2)).2.1 r5)).2.1.1 (0 : Int32) 0 (nI (zs2 (zs2 Z ([], Z.2.1.2)) (rwp (zs2 Z ([], Z.2.1.2)).2.1 r5)).2.1.1.length).toInt.toNat)))))) else none) | .inr X12 => some (.inr X12, w, (zs2 (zs2 Z ([], Z.2.1.2)) (rwp (zs2 Z ([], Z.2.1.2)).2.1 r5)))))) else none))) else some (.inr "java/lang/IllegalStateException", w, Z))
set_option maxHeartbeats 1600000 in
set_option maxRecDepth 100000 in
theorem c_SM_write {G : sm_G} {b : Nat} {M0 M : sm_M} {Z : zd} {w : wd} {F : Nat} (hS : os_in G b M0 M w Z) {R : (Int32 ⊕ String) × wd × zd} (hf : fn_SM_write F Z w = some R) : sm_C G mf_SM_write [.ref (b + 0)] M (2 * (zc R.2.2 - zc Z) + os_e (oI R.1) 1) (2 * (zc R.2.2 - zc Z) + os_e (oI R.1) 6) (os_Q G b M (oI R.1) R.2.1 R.2.2) := by
  unfold fn_SM_write at hf
  have hS := hS.here
  refine sm_ofW rfl (Nat.le_of_ble_eq_true rfl) ?_
  refine sm_aload_n d_SM_write_0 rfl (j := 0) rfl ?_
  refine lo_get (v := .ref (b + 1)) d_SM_write_1 fg_SM_10 (os_I hS) cl_0 rfl ?_
  refine lo_callV d_SM_write_4 cs_SM_write_79 rfl (os_I hS) cl_1 (As := []) rfl rfl (Nat.le_of_ble_eq_true rfl) (c_Pl_hasPicture (os_I hS) (os_Z hS)) ?_
  refine sm_if_eq (tgt := 20) d_SM_write_7 (by decide) (fun h1 => ?_) (fun h1 => ?_)
  · rw [if_neg (bi0 h1)] at hf
    cases hf
    refine sm_throwS d_SM_write_20 d_SM_write_23 d_SM_write_24 d_SM_write_26 d_SM_write_29 th_SM_83_248 rfl (by decide) (by decide) (by show 1 ≤ _ + 1; exact Nat.le_add_left _ _) (by show 6 ≤ _ + 6; exact Nat.le_add_left _ _) (fun n9 hn9 => ⟨rfl, os_bump hS hn9⟩)
  · rw [if_pos (bi1 h1)] at hf
    refine sm_aload_n d_SM_write_10 rfl (j := 0) rfl ?_
    refine lo_get (v := .ref (b + 1)) d_SM_write_11 fg_SM_10 (os_I hS) cl_0 rfl ?_
    refine lo_get (v := .int (w 1 2)) d_SM_write_14 fg_SM_112 (os_I hS) cl_1 rfl ?_
    refine sm_if_ne (tgt := 30) d_SM_write_17 (by decide) (fun h2 => ?_) (fun h2 => ?_)
    · rw [if_neg h2] at hf
      refine sm_aload_n d_SM_write_30 rfl (j := 0) rfl ?_
      refine lo_get (v := .ref (b + 103)) d_SM_write_31 fg_SM_23 (os_I hS) cl_0 rfl ?_
      refine os_setB2 d_SM_write_34 cs_SM_write_225 rfl hS (As := []) rfl rfl (Nat.le_of_ble_eq_true rfl) (fun q9 hq9 => c_Rw_clearAll hq9) (fun M3 hS4 => ?_)
      refine sm_aload_n d_SM_write_37 rfl (j := 0) rfl ?_
      refine lo_get (v := .ref (b + 1)) d_SM_write_38 fg_SM_10 (os_I hS4) cl_0 rfl ?_
      refine sm_aload_n d_SM_write_41 rfl (j := 0) rfl ?_
      refine lo_get (v := .ref (b + 103)) d_SM_write_42 fg_SM_23 (os_I hS4) cl_0 rfl ?_
      replace hf := lo_bnd hf
      obtain ⟨r5, e6, hf⟩ := hf
      replace hf := lo_chk hf
      obtain ⟨g7, hf⟩ := hf
      replace hf := mchk_s hf
      obtain ⟨g8, hf⟩ := hf
      refine os_callW d_SM_write_45 cs_SM_write_250 rfl hS4 (As := [.ref (b + 1), .ref (b + 103)]) rfl rfl (Nat.le_of_ble_eq_true rfl) (c_Wr_writePlan hS4 e6 g7) g8 (fun M9 hS10 => ?_)
      refine sm_aload_n d_SM_write_48 rfl (j := 0) rfl ?_
      refine sm_aload_n d_SM_write_49 rfl (j := 0) rfl ?_
      refine lo_get (v := .ref (b + 103)) d_SM_write_50 fg_SM_23 (os_I hS10) cl_0 rfl ?_
      refine cm_cnt2 d_SM_write_53 fg_SM_237 (os_I hS10) (os_Z hS10) ?_
      rcases e13 : (fn_SM_demandRoom (zs2 (zs2 Z ([], Z.2.1.2)) (rwp (zs2 Z ([], Z.2.1.2)).2.1 r5)) w (nI (zs2 (zs2 Z ([], Z.2.1.2)) (rwp (zs2 Z ([], Z.2.1.2)).2.1 r5)).2.1.1.length)) with r11 | X12
      · rw [e13] at hf
        dsimp only at hf
        refine os_callI d_SM_write_56 cs_SM_write_230 rfl hS10 cl_0 (As := [.int (nI (zs2 (zs2 Z ([], Z.2.1.2)) (rwp (zs2 Z ([], Z.2.1.2)).2.1 r5)).2.1.1.length)]) rfl rfl (Nat.le_of_ble_eq_true rfl) (th_V (c_SM_demandRoom hS10 (nI (zs2 (zs2 Z ([], Z.2.1.2)) (rwp (zs2 Z ([], Z.2.1.2)).2.1 r5)).2.1.1.length) e13)) (fun M15 hS14 => ?_)
        refine sm_aload_n d_SM_write_59 rfl (j := 0) rfl ?_
        refine lo_get (v := .ref (b + 101)) d_SM_write_60 fg_SM_19 (os_I hS14) cl_0 rfl ?_
        refine sm_aload_n d_SM_write_63 rfl (j := 0) rfl ?_
        refine lo_get (v := .ref (b + 103)) d_SM_write_64 fg_SM_23 (os_I hS14) cl_0 rfl ?_
        refine sm_iconst (v := 0) d_SM_write_67 (by decide) ?_
        refine sm_aload_n d_SM_write_68 rfl (j := 0) rfl ?_
        refine lo_get (v := .ref (b + 103)) d_SM_write_69 fg_SM_23 (os_I hS14) cl_0 rfl ?_
        refine cm_cnt2 d_SM_write_72 fg_SM_237 (os_I hS14) (os_Z hS14) ?_
        replace hf := lo_chk hf
        obtain ⟨g18, hf⟩ := hf
        replace hf := mchk_s hf
        obtain ⟨g19, hf⟩ := hf
        refine os_app1 d_SM_write_75 cs_SM_write_256 rfl hS14 (As := [.ref (b + 103), .int (0 : Int32), .int (nI (zs2 (zs2 Z ([], Z.2.1.2)) (rwp (zs2 Z ([], Z.2.1.2)).2.1 r5)).2.1.1.length)]) rfl rfl (Nat.le_of_ble_eq_true rfl) (r_range12 hS14 (0 : Int32) (nI (zs2 (zs2 Z ([], Z.2.1.2)) (rwp (zs2 Z ([], Z.2.1.2)).2.1 r5)).2.1.1.length) g18) g19 (fun M16 hS17 => ?_)
        refine sm_aload_n d_SM_write_78 rfl (j := 0) rfl ?_
        refine sm_iconst (v := 0) d_SM_write_79 (by decide) ?_
        refine lo_put d_SM_write_80 fp_SM_48 (by decide) (os_I hS17) cl_0 rfl (by rfl) (by rfl) (fun M20 hI21 => ?_)
        have hS22 := os_mv hS17 hI21
        refine sm_aload_n d_SM_write_83 rfl (j := 0) rfl ?_
        refine lo_get (v := .ref (b + 103)) d_SM_write_84 fg_SM_23 (os_I hS22) cl_0 rfl ?_
        refine cm_cnt2 d_SM_write_87 fg_SM_237 (os_I hS22) (os_Z hS22) ?_
        cases hf
        refine sm_ireturn d_SM_write_90 rfl (by rfl) ?_
        exact ⟨rfl, hS22⟩
      · rw [e13] at hf
        dsimp only at hf
        cases hf
        refine os_callX d_SM_write_56 cs_SM_write_230 rfl hS10 cl_0 (As := [.int (nI (zs2 (zs2 Z ([], Z.2.1.2)) (rwp (zs2 Z ([], Z.2.1.2)).2.1 r5)).2.1.1.length)]) rfl rfl (Nat.le_of_ble_eq_true rfl) (th_XV (c_SM_demandRoom hS10 (nI (zs2 (zs2 Z ([], Z.2.1.2)) (rwp (zs2 Z ([], Z.2.1.2)).2.1 r5)).2.1.1.length) e13)) (by show 1 ≤ _ + 1; exact Nat.le_add_left _ _) (by show 6 ≤ _ + 6; exact Nat.le_add_left _ _) (fun M15 hS14 => ⟨rfl, hS14⟩)
    · rw [if_pos h2] at hf
      cases hf
      refine sm_throwS d_SM_write_20 d_SM_write_23 d_SM_write_24 d_SM_write_26 d_SM_write_29 th_SM_83_248 rfl (by decide) (by decide) (by show 1 ≤ _ + 1; exact Nat.le_add_left _ _) (by show 6 ≤ _ + 6; exact Nat.le_add_left _ _) (fun n9 hn9 => ⟨rfl, os_bump hS hn9⟩)

def fn_SM_part (Z : zd) (w : wd) (x1 : Int32) (x2 : Int32) (x3 : Int32) (x4 : Int32) : Option ((Unit ⊕ String) × wd × zd) := (if x1 < 0 then some (.inr "java/lang/IllegalArgumentException", w, Z) else (if (65535 : Int32) < x1 then some (.inr "java/lang/IllegalArgumentException", w, Z) else (if x2 < 0 then some (.inr "java/lang/IllegalArgumentException", w, Z) else (if (255 : Int32) < x2 then some (.inr "java/lang/IllegalArgumentException", w, Z) else (if x3 < 0 then some (.inr "java/lang/IllegalArgumentException", w, Z) else (if (255 : Int32) < x3 then some (.inr "java/lang/IllegalArgumentException", w, Z) else (if x4 < 0 then some (.inr "java/lang/IllegalArgumentException", w, Z) else (if x4 ≤ (65536 : Int32) then (match (fn_SM_demandRoom Z w (14 : Int32)) with | .inl _ => (if Z.1.1.length + (rw_bs (144 : Int32) (10 : Int32)).length ≤ 65536 then (mchk (zs1 Z (rwp Z.1 (rw_bs (144 : Int32) (10 : Int32)))) (fun R9 : (Unit ⊕ String) × wd × zd => R9.2.2) ((if (zs1 Z (rwp Z.1 (rw_bs (144 : Int32) (10 : Int32)))).1.1.length + (rw_b2 x1).length ≤ 65536 then (mchk (zs1 (zs1 Z (rwp Z.1 (rw_bs (144 : Int32) (10 : Int32)))) (rwp (zs1 Z (rwp Z.1 (rw_bs (144 : Int32) (10 : Int32)))).1 (rw_b2 x1))) (fun R9 : (Unit ⊕ String) × wd × zd => R9.2.2) ((if (zs1 (zs1 Z (rwp Z.1 (rw_bs (144 : Int32) (10 : Int32)))) (rwp (zs1 Z (rwp Z.1 (rw_bs (144 : Int32) (10 : Int32)))).1 (rw_b2 x1))).1.1.length + (rw_b4 ((14 : Int32) + x4)).length ≤ 65536 then (mchk (zs1 (zs1 (zs1 Z (rwp Z.1 (rw_bs (144 : Int32) (10 : Int32)))) (rwp (zs1 Z (rwp Z.1 (rw_bs (144 : Int32) (10 : Int32)))).1 (rw_b2 x1))) (rwp (zs1 (zs1 Z (rwp Z.1 (rw_bs (144 : Int32) (10 : Int32)))) (rwp (zs1 Z (rwp Z.1 (rw_bs (144 : Int32) (10 : Int32)))).1 (rw_b2 x1))).1 (rw_b4 ((14 : Int32) + x4)))) (fun R9 : (Unit ⊕ String) × wd × zd => R9.2.2) ((if (zs1 (zs1 (zs1 Z (rwp Z.1 (rw_bs (144 : Int32) (10 : Int32)))) (rwp (zs1 Z (rwp Z.1 (rw_bs (144 : Int32) (10 : Int32)))).1 (rw_b2 x1))) (rwp (zs1 (zs1 Z (rwp Z.1 (rw_bs (144 : Int32) (10 : Int32)))) (rwp (zs1 Z (rwp Z.1 (rw_bs (144 : Int32) (10 : Int32)))).1 (rw_b2 x1))).1 (rw_b4 ((14 : Int32) + x4)))).1.1.length + ([by8 x2]).length ≤ 65536 then (mchk (zs1 (zs1 (zs1 (zs1 Z (rwp Z.1 (rw_bs (144 : Int32) (10 : Int32)))) (rwp (zs1 Z (rwp Z.1 (rw_bs (144 : Int32) (10 : Int32)))).1 (rw_b2 x1))) (rwp (zs1 (zs1 Z (rwp Z.1 (rw_bs (144 : Int32) (10 : Int32)))) (rwp (zs1 Z (rwp Z.1 (rw_bs (144 : Int32) (10 : Int32)))).1 (rw_b2 x1))).1 (rw_b4 ((14 : Int32) + x4)))) (rwp (zs1 (zs1 (zs1 Z (rwp Z.1 (rw_bs (144 : Int32) (10 : Int32)))) (rwp (zs1 Z (rwp Z.1 (rw_bs (144 : Int32) (10 : Int32)))).1 (rw_b2 x1))) (rwp (zs1 (zs1 Z (rwp Z.1 (rw_bs (144 : Int32) (10 : Int32)))) (rwp (zs1 Z (rwp Z.1 (rw_bs (144 : Int32) (10 : Int32)))).1 (rw_b2 x1))).1 (rw_b4 ((14 : Int32) + x4)))).1 [by8 x2])) (fun R9 : (Unit ⊕ String) × wd × zd => R9.2.2) ((if (zs1 (zs1 (zs1 (zs1 Z (rwp Z.1 (rw_bs (144 : Int32) (10 : Int32)))) (rwp (zs1 Z (rwp Z.1 (rw_bs (144 : Int32) (10 : Int32)))).1 (rw_b2 x1))) (rwp (zs1 (zs1 Z (rwp Z.1 (rw_bs (144 : Int32) (10 : Int32)))) (rwp (zs1 Z (rwp Z.1 (rw_bs (144 : Int32) (10 : Int32)))).1 (rw_b2 x1))).1 (rw_b4 ((14 : Int32) + x4)))) (rwp (zs1 (zs1 (zs1 Z (rwp Z.1 (rw_bs (144 : Int32) (10 : Int32)))) (rwp (zs1 Z (rwp Z.1 (rw_bs (144 : Int32) (10 : Int32)))).1 (rw_b2 x1))) (rwp (zs1 (zs1 Z (rwp Z.1 (rw_bs (144 : Int32) (10 : Int32)))) (rwp (zs1 Z (rwp Z.1 (rw_bs (144 : Int32) (10 : Int32)))).1 (rw_b2 x1))).1 (rw_b4 ((14 : Int32) + x4)))).1 [by8 x2])).1.1.length + ([by8 x3]).length ≤ 65536 then (mchk (zs1 (zs1 (zs1 (zs1 (zs1 Z (rwp Z.1 (rw_bs (144 : Int32) (10 : Int32)))) (rwp (zs1 Z (rwp Z.1 (rw_bs (144 : Int32) (10 : Int32)))).1 (rw_b2 x1))) (rwp (zs1 (zs1 Z (rwp Z.1 (rw_bs (144 : Int32) (10 : Int32)))) (rwp (zs1 Z (rwp Z.1 (rw_bs (144 : Int32) (10 : Int32)))).1 (rw_b2 x1))).1 (rw_b4 ((14 : Int32) + x4)))) (rwp (zs1 (zs1 (zs1 Z (rwp Z.1 (rw_bs (144 : Int32) (10 : Int32)))) (rwp (zs1 Z (rwp Z.1 (rw_bs (144 : Int32) (10 : Int32)))).1 (rw_b2 x1))) (rwp (zs1 (zs1 Z (rwp Z.1 (rw_bs (144 : Int32) (10 : Int32)))) (rwp (zs1 Z (rwp Z.1 (rw_bs (144 : Int32) (10 : Int32)))).1 (rw_b2 x1))).1 (rw_b4 ((14 : Int32) + x4)))).1 [by8 x2])) (rwp (zs1 (zs1 (zs1 (zs1 Z (rwp Z.1 (rw_bs (144 : Int32) (10 : Int32)))) (rwp (zs1 Z (rwp Z.1 (rw_bs (144 : Int32) (10 : Int32)))).1 (rw_b2 x1))) (rwp (zs1 (zs1 Z (rwp Z.1 (rw_bs (144 : Int32) (10 : Int32)))) (rwp (zs1 Z (rwp Z.1 (rw_bs (144 : Int32) (10 : Int32)))).1 (rw_b2 x1))).1 (rw_b4 ((14 : Int32) + x4)))) (rwp (zs1 (zs1 (zs1 Z (rwp Z.1 (rw_bs (144 : Int32) (10 : Int32)))) (rwp (zs1 Z (rwp Z.1 (rw_bs (144 : Int32) (10 : Int32)))).1 (rw_b2 x1))) (rwp (zs1 (zs1 Z (rwp Z.1 (rw_bs (144 : Int32) (10 : Int32)))) (rwp (zs1 Z (rwp Z.1 (rw_bs (144 : Int32) (10 : Int32)))).1 (rw_b2 x1))).1 (rw_b4 ((14 : Int32) + x4)))).1 [by8 x2])).1 [by8 x3])) (fun R9 : (Unit ⊕ String) × wd × zd => R9.2.2) ((if (zs1 (zs1 (zs1 (zs1 (zs1 Z (rwp Z.1 (rw_bs (144 : Int32) (10 : Int32)))) (rwp (zs1 Z (rwp Z.1 (rw_bs (144 : Int32) (10 : Int32)))).1 (rw_b2 x1))) (rwp (zs1 (zs1 Z (rwp Z.1 (rw_bs (144 : Int32) (10 : Int32)))) (rwp (zs1 Z (rwp Z.1 (rw_bs (144 : Int32) (10 : Int32)))).1 (rw_b2 x1))).1 (rw_b4 ((14 : Int32) + x4)))) (rwp (zs1 (zs1 (zs1 Z (rwp Z.1 (rw_bs (144 : Int32) (10 : Int32)))) (rwp (zs1 Z (rwp Z.1 (rw_bs (144 : Int32) (10 : Int32)))).1 (rw_b2 x1))) (rwp (zs1 (zs1 Z (rwp Z.1 (rw_bs (144 : Int32) (10 : Int32)))) (rwp (zs1 Z (rwp Z.1 (rw_bs (144 : Int32) (10 : Int32)))).1 (rw_b2 x1))).1 (rw_b4 ((14 : Int32) + x4)))).1 [by8 x2])) (rwp (zs1 (zs1 (zs1 (zs1 Z (rwp Z.1 (rw_bs (144 : Int32) (10 : Int32)))) (rwp (zs1 Z (rwp Z.1 (rw_bs (144 : Int32) (10 : Int32)))).1 (rw_b2 x1))) (rwp (zs1 (zs1 Z (rwp Z.1 (rw_bs (144 : Int32) (10 : Int32)))) (rwp (zs1 Z (rwp Z.1 (rw_bs (144 : Int32) (10 : Int32)))).1 (rw_b2 x1))).1 (rw_b4 ((14 : Int32) + x4)))) (rwp (zs1 (zs1 (zs1 Z (rwp Z.1 (rw_bs (144 : Int32) (10 : Int32)))) (rwp (zs1 Z (rwp Z.1 (rw_bs (144 : Int32) (10 : Int32)))).1 (rw_b2 x1))) (rwp (zs1 (zs1 Z (rwp Z.1 (rw_bs (144 : Int32) (10 : Int32)))) (rwp (zs1 Z (rwp Z.1 (rw_bs (144 : Int32) (10 : Int32)))).1 (rw_b2 x1))).1 (rw_b4 ((14 : Int32) + x4)))).1 [by8 x2])).1 [by8 x3])).1.1.length + (rw_bm (147 : Int32)).length ≤ 65536 then (mchk (zs1 (zs1 (zs1 (zs1 (zs1 (zs1 Z (rwp Z.1 (rw_bs (144 : Int32) (10 : Int32)))) (rwp (zs1 Z (rwp Z.1 (rw_bs (144 : Int32) (10 : Int32)))).1 (rw_b2 x1))) (rwp (zs1 (zs1 Z (rwp Z.1 (rw_bs (144 : Int32) (10 : Int32)))) (rwp (zs1 Z (rwp Z.1 (rw_bs (144 : Int32) (10 : Int32)))).1 (rw_b2 x1))).1 (rw_b4 ((14 : Int32) + x4)))) (rwp (zs1 (zs1 (zs1 Z (rwp Z.1 (rw_bs (144 : Int32) (10 : Int32)))) (rwp (zs1 Z (rwp Z.1 (rw_bs (144 : Int32) (10 : Int32)))).1 (rw_b2 x1))) (rwp (zs1 (zs1 Z (rwp Z.1 (rw_bs (144 : Int32) (10 : Int32)))) (rwp (zs1 Z (rwp Z.1 (rw_bs (144 : Int32) (10 : Int32)))).1 (rw_b2 x1))).1 (rw_b4 ((14 : Int32) + x4)))).1 [by8 x2])) (rwp (zs1 (zs1 (zs1 (zs1 Z (rwp Z.1 (rw_bs (144 : Int32) (10 : Int32)))) (rwp (zs1 Z (rwp Z.1 (rw_bs (144 : Int32) (10 : Int32)))).1 (rw_b2 x1))) (rwp (zs1 (zs1 Z (rwp Z.1 (rw_bs (144 : Int32) (10 : Int32)))) (rwp (zs1 Z (rwp Z.1 (rw_bs (144 : Int32) (10 : Int32)))).1 (rw_b2 x1))).1 (rw_b4 ((14 : Int32) + x4)))) (rwp (zs1 (zs1 (zs1 Z (rwp Z.1 (rw_bs (144 : Int32) (10 : Int32)))) (rwp (zs1 Z (rwp Z.1 (rw_bs (144 : Int32) (10 : Int32)))).1 (rw_b2 x1))) (rwp (zs1 (zs1 Z (rwp Z.1 (rw_bs (144 : Int32) (10 : Int32)))) (rwp (zs1 Z (rwp Z.1 (rw_bs (144 : Int32) (10 : Int32)))).1 (rw_b2 x1))).1 (rw_b4 ((14 : Int32) + x4)))).1 [by8 x2])).1 [by8 x3])) (rwp (zs1 (zs1 (zs1 (zs1 (zs1 Z (rwp Z.1 (rw_bs (144 : Int32) (10 : Int32)))) (rwp (zs1 Z (rwp Z.1 (rw_bs (144 : Int32) (10 : Int32)))).1 (rw_b2 x1))) (rwp (zs1 (zs1 Z (rwp Z.1 (rw_bs (144 : Int32) (10 : Int32)))) (rwp (zs1 Z (rwp Z.1 (rw_bs (144 : Int32) (10 : Int32)))).1 (rw_b2 x1))).1 (rw_b4 ((14 : Int32) + x4)))) (rwp (zs1 (zs1 (zs1 Z (rwp Z.1 (rw_bs (144 : Int32) (10 : Int32)))) (rwp (zs1 Z (rwp Z.1 (rw_bs (144 : Int32) (10 : Int32)))).1 (rw_b2 x1))) (rwp (zs1 (zs1 Z (rwp Z.1 (rw_bs (144 : Int32) (10 : Int32)))) (rwp (zs1 Z (rwp Z.1 (rw_bs (144 : Int32) (10 : Int32)))).1 (rw_b2 x1))).1 (rw_b4 ((14 : Int32) + x4)))).1 [by8 x2])) (rwp (zs1 (zs1 (zs1 (zs1 Z (rwp Z.1 (rw_bs (144 : Int32) (10 : Int32)))) (rwp (zs1 Z (rwp Z.1 (rw_bs (144 : Int32) (10 : Int32)))).1 (rw_b2 x1))) (rwp (zs1 (zs1 Z (rwp Z.1 (rw_bs (144 : Int32) (10 : Int32)))) (rwp (zs1 Z (rwp Z.1 (rw_bs (144 : Int32) (10 : Int32)))).1 (rw_b2 x1))).1 (rw_b4 ((14 : Int32) + x4)))) (rwp (zs1 (zs1 (zs1 Z (rwp Z.1 (rw_bs (144 : Int32) (10 : Int32)))) (rwp (zs1 Z (rwp Z.1 (rw_bs (144 : Int32) (10 : Int32)))).1 (rw_b2 x1))) (rwp (zs1 (zs1 Z (rwp Z.1 (rw_bs (144 : Int32) (10 : Int32)))) (rwp (zs1 Z (rwp Z.1 (rw_bs (144 : Int32) (10 : Int32)))).1 (rw_b2 x1))).1 (rw_b4 ((14 : Int32) + x4)))).1 [by8 x2])).1 [by8 x3])).1 (rw_bm (147 : Int32)))) (fun R9 : (Unit ⊕ String) × wd × zd => R9.2.2) (some (.inl (), (up2 w 0 5 (0 : Int32)), (zs1 (zs1 (zs1 (zs1 (zs1 (zs1 Z (rwp Z.1 (rw_bs (144 : Int32) (10 : Int32)))) (rwp (zs1 Z (rwp Z.1 (rw_bs (144 : Int32) (10 : Int32)))).1 (rw_b2 x1))) (rwp (zs1 (zs1 Z (rwp Z.1 (rw_bs (144 : Int32) (10 : Int32)))) (rwp (zs1 Z (rwp Z.1 (rw_bs (144 : Int32) (10 : Int32)))).1 (rw_b2 x1))).1 (rw_b4 ((14 : Int32) + x4)))) (rwp (zs1 (zs1 (zs1 Z (rwp Z.1 (rw_bs (144 : Int32) (10 : Int32)))) (rwp (zs1 Z (rwp Z.1 (rw_bs (144 : Int32) (10 : Int32)))).1 (rw_b2 x1))) (rwp (zs1 (zs1 Z (rwp Z.1 (rw_bs (144 : Int32) (10 : Int32)))) (rwp (zs1 Z (rwp Z.1 (rw_bs (144 : Int32) (10 : Int32)))).1 (rw_b2 x1))).1 (rw_b4 ((14 : Int32) + x4)))).1 [by8 x2])) (rwp (zs1 (zs1 (zs1 (zs1 Z (rwp Z.1 (rw_bs (144 : Int32) (10 : Int32)))) (rwp (zs1 Z (rwp Z.1 (rw_bs (144 : Int32) (10 : Int32)))).1 (rw_b2 x1))) (rwp (zs1 (zs1 Z (rwp Z.1 (rw_bs (144 : Int32) (10 : Int32)))) (rwp (zs1 Z (rwp Z.1 (rw_bs (144 : Int32) (10 : Int32)))).1 (rw_b2 x1))).1 (rw_b4 ((14 : Int32) + x4)))) (rwp (zs1 (zs1 (zs1 Z (rwp Z.1 (rw_bs (144 : Int32) (10 : Int32)))) (rwp (zs1 Z (rwp Z.1 (rw_bs (144 : Int32) (10 : Int32)))).1 (rw_b2 x1))) (rwp (zs1 (zs1 Z (rwp Z.1 (rw_bs (144 : Int32) (10 : Int32)))) (rwp (zs1 Z (rwp Z.1 (rw_bs (144 : Int32) (10 : Int32)))).1 (rw_b2 x1))).1 (rw_b4 ((14 : Int32) + x4)))).1 [by8 x2])).1 [by8 x3])) (rwp (zs1 (zs1 (zs1 (zs1 (zs1 Z (rwp Z.1 (rw_bs (144 : Int32) (10 : Int32)))) (rwp (zs1 Z (rwp Z.1 (rw_bs (144 : Int32) (10 : Int32)))).1 (rw_b2 x1))) (rwp (zs1 (zs1 Z (rwp Z.1 (rw_bs (144 : Int32) (10 : Int32)))) (rwp (zs1 Z (rwp Z.1 (rw_bs (144 : Int32) (10 : Int32)))).1 (rw_b2 x1))).1 (rw_b4 ((14 : Int32) + x4)))) (rwp (zs1 (zs1 (zs1 Z (rwp Z.1 (rw_bs (144 : Int32) (10 : Int32)))) (rwp (zs1 Z (rwp Z.1 (rw_bs (144 : Int32) (10 : Int32)))).1 (rw_b2 x1))) (rwp (zs1 (zs1 Z (rwp Z.1 (rw_bs (144 : Int32) (10 : Int32)))) (rwp (zs1 Z (rwp Z.1 (rw_bs (144 : Int32) (10 : Int32)))).1 (rw_b2 x1))).1 (rw_b4 ((14 : Int32) + x4)))).1 [by8 x2])) (rwp (zs1 (zs1 (zs1 (zs1 Z (rwp Z.1 (rw_bs (144 : Int32) (10 : Int32)))) (rwp (zs1 Z (rwp Z.1 (rw_bs (144 : Int32) (10 : Int32)))).1 (rw_b2 x1))) (rwp (zs1 (zs1 Z (rwp Z.1 (rw_bs (144 : Int32) (10 : Int32)))) (rwp (zs1 Z (rwp Z.1 (rw_bs (144 : Int32) (10 : Int32)))).1 (rw_b2 x1))).1 (rw_b4 ((14 : Int32) + x4)))) (rwp (zs1 (zs1 (zs1 Z (rwp Z.1 (rw_bs (144 : Int32) (10 : Int32)))) (rwp (zs1 Z (rwp Z.1 (rw_bs (144 : Int32) (10 : Int32)))).1 (rw_b2 x1))) (rwp (zs1 (zs1 Z (rwp Z.1 (rw_bs (144 : Int32) (10 : Int32)))) (rwp (zs1 Z (rwp Z.1 (rw_bs (144 : Int32) (10 : Int32)))).1 (rw_b2 x1))).1 (rw_b4 ((14 : Int32) + x4)))).1 [by8 x2])).1 [by8 x3])).1 (rw_bm (147 : Int32))))))) else none))) else none))) else none))) else none))) else none))) else none) | .inr X10 => some (.inr X10, w, Z)) else some (.inr "java/lang/IllegalArgumentException", w, Z)))))))))
set_option maxHeartbeats 1600000 in
set_option maxRecDepth 100000 in
theorem c_SM_part {G : sm_G} {b : Nat} {M0 M : sm_M} {Z : zd} {w : wd} (hS : os_in G b M0 M w Z) (x1 : Int32) (x2 : Int32) (x3 : Int32) (x4 : Int32) {R : (Unit ⊕ String) × wd × zd} (hf : fn_SM_part Z w x1 x2 x3 x4 = some R) : sm_C G mf_SM_part [.ref (b + 0), .int x1, .int x2, .int x3, .int x4] M (2 * (zc R.2.2 - zc Z) + os_e (oV R.1) 1) (2 * (zc R.2.2 - zc Z) + os_e (oV R.1) 6) (os_Q G b M (oV R.1) R.2.1 R.2.2) := by
  unfold fn_SM_part at hf
  have hS := hS.here
  refine sm_ofW rfl (Nat.le_of_ble_eq_true rfl) ?_
  refine sm_iload_n d_SM_part_0 rfl (j := 1) rfl ?_
  refine sm_if_lt (tgt := 45) d_SM_part_1 (by decide) (fun h1 => ?_) (fun h1 => ?_)
  · rw [if_pos h1] at hf
    cases hf
    refine sm_throwSW d_SM_part_45 d_SM_part_48 d_SM_part_49 d_SM_part_52 d_SM_part_55 th_SM_65_261 rfl (by decide) (by decide) (by show 1 ≤ _ + 1; exact Nat.le_add_left _ _) (by show 6 ≤ _ + 6; exact Nat.le_add_left _ _) (fun n9 hn9 => ⟨rfl, os_bump hS hn9⟩)
  · rw [if_neg h1] at hf
    refine sm_iload_n d_SM_part_4 rfl (j := 1) rfl ?_
    refine sm_ldc (v := 65535) d_SM_part_5 mw_926 ?_
    refine sm_icmp_gt (tgt := 45) d_SM_part_7 (by decide) (fun h2 => ?_) (fun h2 => ?_)
    · rw [if_pos h2] at hf
      cases hf
      refine sm_throwSW d_SM_part_45 d_SM_part_48 d_SM_part_49 d_SM_part_52 d_SM_part_55 th_SM_65_261 rfl (by decide) (by decide) (by show 1 ≤ _ + 1; exact Nat.le_add_left _ _) (by show 6 ≤ _ + 6; exact Nat.le_add_left _ _) (fun n9 hn9 => ⟨rfl, os_bump hS hn9⟩)
    · rw [if_neg h2] at hf
      refine sm_iload_n d_SM_part_10 rfl (j := 2) rfl ?_
      refine sm_if_lt (tgt := 45) d_SM_part_11 (by decide) (fun h3 => ?_) (fun h3 => ?_)
      · rw [if_pos h3] at hf
        cases hf
        refine sm_throwSW d_SM_part_45 d_SM_part_48 d_SM_part_49 d_SM_part_52 d_SM_part_55 th_SM_65_261 rfl (by decide) (by decide) (by show 1 ≤ _ + 1; exact Nat.le_add_left _ _) (by show 6 ≤ _ + 6; exact Nat.le_add_left _ _) (fun n9 hn9 => ⟨rfl, os_bump hS hn9⟩)
      · rw [if_neg h3] at hf
        refine sm_iload_n d_SM_part_14 rfl (j := 2) rfl ?_
        refine sm_sipush (v := 255) d_SM_part_15 (by decide) ?_
        refine sm_icmp_gt (tgt := 45) d_SM_part_18 (by decide) (fun h4 => ?_) (fun h4 => ?_)
        · rw [if_pos h4] at hf
          cases hf
          refine sm_throwSW d_SM_part_45 d_SM_part_48 d_SM_part_49 d_SM_part_52 d_SM_part_55 th_SM_65_261 rfl (by decide) (by decide) (by show 1 ≤ _ + 1; exact Nat.le_add_left _ _) (by show 6 ≤ _ + 6; exact Nat.le_add_left _ _) (fun n9 hn9 => ⟨rfl, os_bump hS hn9⟩)
        · rw [if_neg h4] at hf
          refine sm_iload_n d_SM_part_21 rfl (j := 3) rfl ?_
          refine sm_if_lt (tgt := 45) d_SM_part_22 (by decide) (fun h5 => ?_) (fun h5 => ?_)
          · rw [if_pos h5] at hf
            cases hf
            refine sm_throwSW d_SM_part_45 d_SM_part_48 d_SM_part_49 d_SM_part_52 d_SM_part_55 th_SM_65_261 rfl (by decide) (by decide) (by show 1 ≤ _ + 1; exact Nat.le_add_left _ _) (by show 6 ≤ _ + 6; exact Nat.le_add_left _ _) (fun n9 hn9 => ⟨rfl, os_bump hS hn9⟩)
          · rw [if_neg h5] at hf
            refine sm_iload_n d_SM_part_25 rfl (j := 3) rfl ?_
            refine sm_sipush (v := 255) d_SM_part_26 (by decide) ?_
            refine sm_icmp_gt (tgt := 45) d_SM_part_29 (by decide) (fun h6 => ?_) (fun h6 => ?_)
            · rw [if_pos h6] at hf
              cases hf
              refine sm_throwSW d_SM_part_45 d_SM_part_48 d_SM_part_49 d_SM_part_52 d_SM_part_55 th_SM_65_261 rfl (by decide) (by decide) (by show 1 ≤ _ + 1; exact Nat.le_add_left _ _) (by show 6 ≤ _ + 6; exact Nat.le_add_left _ _) (fun n9 hn9 => ⟨rfl, os_bump hS hn9⟩)
            · rw [if_neg h6] at hf
              refine sm_iload d_SM_part_32 (j := 4) rfl ?_
              refine sm_if_lt (tgt := 45) d_SM_part_34 (by decide) (fun h7 => ?_) (fun h7 => ?_)
              · rw [if_pos h7] at hf
                cases hf
                refine sm_throwSW d_SM_part_45 d_SM_part_48 d_SM_part_49 d_SM_part_52 d_SM_part_55 th_SM_65_261 rfl (by decide) (by decide) (by show 1 ≤ _ + 1; exact Nat.le_add_left _ _) (by show 6 ≤ _ + 6; exact Nat.le_add_left _ _) (fun n9 hn9 => ⟨rfl, os_bump hS hn9⟩)
              · rw [if_neg h7] at hf
                refine sm_iload d_SM_part_37 (j := 4) rfl ?_
                refine sm_ldcw (v := 65536) d_SM_part_39 mw_990 ?_
                refine sm_icmp_le (tgt := 56) d_SM_part_42 (by decide) (fun h8 => ?_) (fun h8 => ?_)
                · rw [if_pos h8] at hf
                  refine sm_aload_n d_SM_part_56 rfl (j := 0) rfl ?_
                  refine sm_bipush (v := 14) d_SM_part_57 (by decide) ?_
                  rcases e11 : (fn_SM_demandRoom Z w (14 : Int32)) with r9 | X10
                  · rw [e11] at hf
                    dsimp only at hf
                    refine os_callI d_SM_part_59 cs_SM_part_230 rfl hS cl_0 (As := [.int (14 : Int32)]) rfl rfl (Nat.le_of_ble_eq_true rfl) (th_V (c_SM_demandRoom hS (14 : Int32) e11)) (fun M13 hS12 => ?_)
                    refine sm_aload_n d_SM_part_62 rfl (j := 0) rfl ?_
                    refine lo_get (v := .ref (b + 101)) d_SM_part_63 fg_SM_19 (os_I hS12) cl_0 rfl ?_
                    refine sm_sipush (v := 144) d_SM_part_66 (by decide) ?_
                    refine sm_bipush (v := 10) d_SM_part_69 (by decide) ?_
                    replace hf := lo_chk hf
                    obtain ⟨g16, hf⟩ := hf
                    replace hf := mchk_s hf
                    obtain ⟨g17, hf⟩ := hf
                    refine os_app1 d_SM_part_71 cs_SM_part_263 rfl hS12 (As := [.int (144 : Int32), .int (10 : Int32)]) rfl rfl (Nat.le_of_ble_eq_true rfl) (fun q9 hq9 => r_addSegment hq9 (144 : Int32) (10 : Int32) g16) g17 (fun M14 hS15 => ?_)
                    refine sm_aload_n d_SM_part_74 rfl (j := 0) rfl ?_
                    refine lo_get (v := .ref (b + 101)) d_SM_part_75 fg_SM_19 (os_I hS15) cl_0 rfl ?_
                    refine sm_iload_n d_SM_part_78 rfl (j := 1) rfl ?_
                    replace hf := lo_chk hf
                    obtain ⟨g20, hf⟩ := hf
                    replace hf := mchk_s hf
                    obtain ⟨g21, hf⟩ := hf
                    refine os_app1 d_SM_part_79 cs_SM_part_266 rfl hS15 (As := [.int x1]) rfl rfl (Nat.le_of_ble_eq_true rfl) (fun q9 hq9 => r_addU2 hq9 x1 g20) g21 (fun M18 hS19 => ?_)
                    refine sm_aload_n d_SM_part_82 rfl (j := 0) rfl ?_
                    refine lo_get (v := .ref (b + 101)) d_SM_part_83 fg_SM_19 (os_I hS19) cl_0 rfl ?_
                    refine sm_bipush (v := 14) d_SM_part_86 (by decide) ?_
                    refine sm_iload d_SM_part_88 (j := 4) rfl ?_
                    refine sm_iadd d_SM_part_90 ?_
                    replace hf := lo_chk hf
                    obtain ⟨g24, hf⟩ := hf
                    replace hf := mchk_s hf
                    obtain ⟨g25, hf⟩ := hf
                    refine os_app1 d_SM_part_91 cs_SM_part_269 rfl hS19 (As := [.int ((14 : Int32) + x4)]) rfl rfl (Nat.le_of_ble_eq_true rfl) (fun q9 hq9 => r_addU4 hq9 ((14 : Int32) + x4) g24) g25 (fun M22 hS23 => ?_)
                    refine sm_aload_n d_SM_part_94 rfl (j := 0) rfl ?_
                    refine lo_get (v := .ref (b + 101)) d_SM_part_95 fg_SM_19 (os_I hS23) cl_0 rfl ?_
                    refine sm_iload_n d_SM_part_98 rfl (j := 2) rfl ?_
                    replace hf := lo_chk hf
                    obtain ⟨g28, hf⟩ := hf
                    replace hf := mchk_s hf
                    obtain ⟨g29, hf⟩ := hf
                    refine os_app1 d_SM_part_99 cs_SM_part_234 rfl hS23 (As := [.int x2]) rfl rfl (Nat.le_of_ble_eq_true rfl) (fun q9 hq9 => r_addU1 hq9 x2 g28) g29 (fun M26 hS27 => ?_)
                    refine sm_aload_n d_SM_part_102 rfl (j := 0) rfl ?_
                    refine lo_get (v := .ref (b + 101)) d_SM_part_103 fg_SM_19 (os_I hS27) cl_0 rfl ?_
                    refine sm_iload_n d_SM_part_106 rfl (j := 3) rfl ?_
                    replace hf := lo_chk hf
                    obtain ⟨g32, hf⟩ := hf
                    replace hf := mchk_s hf
                    obtain ⟨g33, hf⟩ := hf
                    refine os_app1 d_SM_part_107 cs_SM_part_234 rfl hS27 (As := [.int x3]) rfl rfl (Nat.le_of_ble_eq_true rfl) (fun q9 hq9 => r_addU1 hq9 x3 g32) g33 (fun M30 hS31 => ?_)
                    refine sm_aload_n d_SM_part_110 rfl (j := 0) rfl ?_
                    refine lo_get (v := .ref (b + 101)) d_SM_part_111 fg_SM_19 (os_I hS31) cl_0 rfl ?_
                    refine sm_sipush (v := 147) d_SM_part_114 (by decide) ?_
                    replace hf := lo_chk hf
                    obtain ⟨g36, hf⟩ := hf
                    replace hf := mchk_s hf
                    obtain ⟨g37, hf⟩ := hf
                    refine os_app1 d_SM_part_117 cs_SM_part_272 rfl hS31 (As := [.int (147 : Int32)]) rfl rfl (Nat.le_of_ble_eq_true rfl) (fun q9 hq9 => r_addMark hq9 (147 : Int32) g36) g37 (fun M34 hS35 => ?_)
                    refine sm_aload_n d_SM_part_120 rfl (j := 0) rfl ?_
                    refine sm_iconst (v := 0) d_SM_part_121 (by decide) ?_
                    refine lo_put d_SM_part_122 fp_SM_48 (by decide) (os_I hS35) cl_0 rfl (by rfl) (by rfl) (fun M38 hI39 => ?_)
                    have hS40 := os_mv hS35 hI39
                    cases hf
                    refine sm_return d_SM_part_125 rfl ?_
                    exact ⟨rfl, hS40⟩
                  · rw [e11] at hf
                    dsimp only at hf
                    cases hf
                    refine os_callX d_SM_part_59 cs_SM_part_230 rfl hS cl_0 (As := [.int (14 : Int32)]) rfl rfl (Nat.le_of_ble_eq_true rfl) (th_XV (c_SM_demandRoom hS (14 : Int32) e11)) (by show 1 ≤ _ + 1; exact Nat.le_add_left _ _) (by show 6 ≤ _ + 6; exact Nat.le_add_left _ _) (fun M13 hS12 => ⟨rfl, hS12⟩)
                · rw [if_neg h8] at hf
                  cases hf
                  refine sm_throwSW d_SM_part_45 d_SM_part_48 d_SM_part_49 d_SM_part_52 d_SM_part_55 th_SM_65_261 rfl (by decide) (by decide) (by show 1 ≤ _ + 1; exact Nat.le_add_left _ _) (by show 6 ≤ _ + 6; exact Nat.le_add_left _ _) (fun n9 hn9 => ⟨rfl, os_bump hS hn9⟩)

def fn_SM_mark (Z : zd) (w : wd) (x1 : Int32) : Option ((Unit ⊕ String) × wd × zd) := (if x1 < 0 then some (.inr "java/lang/IllegalArgumentException", w, Z) else (if x1 ≤ (255 : Int32) then (match (fn_SM_demandRoom Z w (2 : Int32)) with | .inl _ => (if Z.1.1.length + (rw_bm x1).length ≤ 65536 then (mchk (zs1 Z (rwp Z.1 (rw_bm x1))) (fun R9 : (Unit ⊕ String) × wd × zd => R9.2.2) (some (.inl (), (up2 w 0 5 (0 : Int32)), (zs1 Z (rwp Z.1 (rw_bm x1)))))) else none) | .inr X4 => some (.inr X4, w, Z)) else some (.inr "java/lang/IllegalArgumentException", w, Z)))
set_option maxHeartbeats 1600000 in
set_option maxRecDepth 100000 in
theorem c_SM_mark {G : sm_G} {b : Nat} {M0 M : sm_M} {Z : zd} {w : wd} (hS : os_in G b M0 M w Z) (x1 : Int32) {R : (Unit ⊕ String) × wd × zd} (hf : fn_SM_mark Z w x1 = some R) : sm_C G mf_SM_mark [.ref (b + 0), .int x1] M (2 * (zc R.2.2 - zc Z) + os_e (oV R.1) 1) (2 * (zc R.2.2 - zc Z) + os_e (oV R.1) 6) (os_Q G b M (oV R.1) R.2.1 R.2.2) := by
  unfold fn_SM_mark at hf
  have hS := hS.here
  refine sm_ofW rfl (Nat.le_of_ble_eq_true rfl) ?_
  refine sm_iload_n d_SM_mark_0 rfl (j := 1) rfl ?_
  refine sm_if_lt (tgt := 11) d_SM_mark_1 (by decide) (fun h1 => ?_) (fun h1 => ?_)
  · rw [if_pos h1] at hf
    cases hf
    refine sm_throwSW d_SM_mark_11 d_SM_mark_14 d_SM_mark_15 d_SM_mark_18 d_SM_mark_21 th_SM_65_275 rfl (by decide) (by decide) (by show 1 ≤ _ + 1; exact Nat.le_add_left _ _) (by show 6 ≤ _ + 6; exact Nat.le_add_left _ _) (fun n9 hn9 => ⟨rfl, os_bump hS hn9⟩)
  · rw [if_neg h1] at hf
    refine sm_iload_n d_SM_mark_4 rfl (j := 1) rfl ?_
    refine sm_sipush (v := 255) d_SM_mark_5 (by decide) ?_
    refine sm_icmp_le (tgt := 22) d_SM_mark_8 (by decide) (fun h2 => ?_) (fun h2 => ?_)
    · rw [if_pos h2] at hf
      refine sm_aload_n d_SM_mark_22 rfl (j := 0) rfl ?_
      refine sm_iconst (v := 2) d_SM_mark_23 (by decide) ?_
      rcases e5 : (fn_SM_demandRoom Z w (2 : Int32)) with r3 | X4
      · rw [e5] at hf
        dsimp only at hf
        refine os_callI d_SM_mark_24 cs_SM_mark_230 rfl hS cl_0 (As := [.int (2 : Int32)]) rfl rfl (Nat.le_of_ble_eq_true rfl) (th_V (c_SM_demandRoom hS (2 : Int32) e5)) (fun M7 hS6 => ?_)
        refine sm_aload_n d_SM_mark_27 rfl (j := 0) rfl ?_
        refine lo_get (v := .ref (b + 101)) d_SM_mark_28 fg_SM_19 (os_I hS6) cl_0 rfl ?_
        refine sm_iload_n d_SM_mark_31 rfl (j := 1) rfl ?_
        replace hf := lo_chk hf
        obtain ⟨g10, hf⟩ := hf
        replace hf := mchk_s hf
        obtain ⟨g11, hf⟩ := hf
        refine os_app1 d_SM_mark_32 cs_SM_mark_272 rfl hS6 (As := [.int x1]) rfl rfl (Nat.le_of_ble_eq_true rfl) (fun q9 hq9 => r_addMark hq9 x1 g10) g11 (fun M8 hS9 => ?_)
        refine sm_aload_n d_SM_mark_35 rfl (j := 0) rfl ?_
        refine sm_iconst (v := 0) d_SM_mark_36 (by decide) ?_
        refine lo_put d_SM_mark_37 fp_SM_48 (by decide) (os_I hS9) cl_0 rfl (by rfl) (by rfl) (fun M12 hI13 => ?_)
        have hS14 := os_mv hS9 hI13
        cases hf
        refine sm_return d_SM_mark_40 rfl ?_
        exact ⟨rfl, hS14⟩
      · rw [e5] at hf
        dsimp only at hf
        cases hf
        refine os_callX d_SM_mark_24 cs_SM_mark_230 rfl hS cl_0 (As := [.int (2 : Int32)]) rfl rfl (Nat.le_of_ble_eq_true rfl) (th_XV (c_SM_demandRoom hS (2 : Int32) e5)) (by show 1 ≤ _ + 1; exact Nat.le_add_left _ _) (by show 6 ≤ _ + 6; exact Nat.le_add_left _ _) (fun M7 hS6 => ⟨rfl, hS6⟩)
    · rw [if_neg h2] at hf
      cases hf
      refine sm_throwSW d_SM_mark_11 d_SM_mark_14 d_SM_mark_15 d_SM_mark_18 d_SM_mark_21 th_SM_65_275 rfl (by decide) (by decide) (by show 1 ≤ _ + 1; exact Nat.le_add_left _ _) (by show 6 ≤ _ + 6; exact Nat.le_add_left _ _) (fun n9 hn9 => ⟨rfl, os_bump hS hn9⟩)

def fn_SM_spoil (Z : zd) (w : wd) (x1 : Int32) (x2 : Int32) : (Unit ⊕ String) × wd × zd := (if (decide (0 ≤ x1.toInt ∧ x1.toInt < Z.1.1.length)) = true then (.inl (), (up2 w 0 5 (0 : Int32)), (zs1 Z (rw_set Z.1.1 x1.toInt (by8 x2), Z.1.2))) else (.inr "java/util/NoSuchElementException", w, Z))
set_option maxHeartbeats 1600000 in
set_option maxRecDepth 100000 in
theorem c_SM_spoil {G : sm_G} {b : Nat} {M0 M : sm_M} {Z : zd} {w : wd} (hS : os_in G b M0 M w Z) (x1 : Int32) (x2 : Int32) {R : (Unit ⊕ String) × wd × zd} (hf : fn_SM_spoil Z w x1 x2 = R) : sm_C G mf_SM_spoil [.ref (b + 0), .int x1, .int x2] M (2 * (zc R.2.2 - zc Z) + os_e (oV R.1) 1) (2 * (zc R.2.2 - zc Z) + os_e (oV R.1) 6) (os_Q G b M (oV R.1) R.2.1 R.2.2) := by
  unfold fn_SM_spoil at hf
  have hS := hS.here
  refine sm_ofW rfl (Nat.le_of_ble_eq_true rfl) ?_
  refine sm_aload_n d_SM_spoil_0 rfl (j := 0) rfl ?_
  refine lo_get (v := .ref (b + 101)) d_SM_spoil_1 fg_SM_19 (os_I hS) cl_0 rfl ?_
  refine sm_iload_n d_SM_spoil_4 rfl (j := 1) rfl ?_
  refine cm_callR d_SM_spoil_5 cs_SM_spoil_240 rfl (cz_c1 (os_I hS) (os_Z hS)) (As := [.int x1]) rfl rfl (Nat.le_of_ble_eq_true rfl) (cz_has1 (os_I hS) (os_Z hS) x1) ?_
  refine sm_if_ne (tgt := 21) d_SM_spoil_8 (by decide) (fun h1 => ?_) (fun h1 => ?_)
  · rw [if_pos (bi1 h1)] at hf
    refine sm_aload_n d_SM_spoil_21 rfl (j := 0) rfl ?_
    refine lo_get (v := .ref (b + 101)) d_SM_spoil_22 fg_SM_19 (os_I hS) cl_0 rfl ?_
    refine sm_iload_n d_SM_spoil_25 rfl (j := 1) rfl ?_
    refine sm_iload_n d_SM_spoil_26 rfl (j := 2) rfl ?_
    refine os_setB1 d_SM_spoil_27 cs_SM_spoil_277 rfl hS (As := [.int x1, .int x2]) rfl rfl (Nat.le_of_ble_eq_true rfl) (fun q9 hq9 => c_Rw_setU1 hq9 x1 x2) (fun M2 hS3 => ?_)
    refine sm_aload_n d_SM_spoil_30 rfl (j := 0) rfl ?_
    refine sm_iconst (v := 0) d_SM_spoil_31 (by decide) ?_
    refine lo_put d_SM_spoil_32 fp_SM_48 (by decide) (os_I hS3) cl_0 rfl (by rfl) (by rfl) (fun M4 hI5 => ?_)
    have hS6 := os_mv hS3 hI5
    subst hf
    refine sm_return d_SM_spoil_35 rfl ?_
    exact ⟨rfl, hS6⟩
  · rw [if_neg (bi0 h1)] at hf
    subst hf
    refine sm_throwN d_SM_spoil_11 d_SM_spoil_14 d_SM_spoil_15 d_SM_spoil_17 d_SM_spoil_20 th_SM_220_243 rfl (by decide) (by decide) (by show 1 ≤ _ + 1; exact Nat.le_add_left _ _) (by show 6 ≤ _ + 6; exact Nat.le_add_left _ _) (fun n9 hn9 => ⟨rfl, os_bump hS hn9⟩)

def fn_SM_scan_40 (F : Nat) (Z : zd) (w : wd) (x1 : Int32) (s0 : Int32) : Option ((Int32 ⊕ String) × wd × zd) := (if ((up2 w 0 6 s0) 0 5) = 0 then some (.inl x1, (up2 w 0 6 s0), Z) else ((fn_Ld_loadMain F Z (up2 w 0 6 s0)).bind fun r16 => some (.inl x1, r16, Z)))
set_option maxHeartbeats 1600000 in
set_option maxRecDepth 100000 in
theorem w_SM_scan_40 {G : sm_G} {b : Nat} {M0 : sm_M} {R : (Int32 ⊕ String) × wd × zd} {F : Nat} : ∀ (M : sm_M) (Z : zd) (w : wd) (x1 : Int32) (s0 : Int32), os_in G b M0 M w Z → fn_SM_scan_40 F Z w x1 s0 = some R → sm_W G mf_SM_scan 40 [(0, .ref (b + 0)), (1, .int x1)] [.int s0, .ref (b + 0)] M (2 * (zc R.2.2 - zc Z) + os_e (oI R.1) 1) (2 * (zc R.2.2 - zc Z) + os_e (oI R.1) 6) (os_Q G b M0 (oI R.1) R.2.1 R.2.2) := by
  intro M Z w x1 s0 hS  hf
  unfold fn_SM_scan_40 at hf
  refine lo_put d_SM_scan_40 fp_SM_52 (by decide) (os_I hS) cl_0 rfl (by rfl) (by rfl) (fun M12 hI13 => ?_)
  have hS14 := os_mv hS hI13
  refine sm_aload_n d_SM_scan_43 rfl (j := 0) rfl ?_
  refine lo_get (v := .int ((up2 w 0 6 s0) 0 5)) d_SM_scan_44 fg_SM_48 (os_I hS14) cl_0 rfl ?_
  refine sm_if_eq (tgt := 57) d_SM_scan_47 (by decide) (fun h15 => ?_) (fun h15 => ?_)
  · rw [if_pos h15] at hf
    refine sm_iload_n d_SM_scan_57 rfl (j := 1) rfl ?_
    cases hf
    refine sm_ireturn d_SM_scan_58 rfl (by rfl) ?_
    exact ⟨rfl, hS14⟩
  · rw [if_neg h15] at hf
    refine sm_aload_n d_SM_scan_50 rfl (j := 0) rfl ?_
    refine lo_get (v := .ref (b + 115)) d_SM_scan_51 fg_SM_44 (os_I hS14) cl_0 rfl ?_
    replace hf := lo_bnd hf
    obtain ⟨r16, e17, hf⟩ := hf
    refine lo_callVm d_SM_scan_54 cs_SM_scan_287 rfl (os_I hS14) cl_115 (As := []) rfl rfl (Nat.le_of_ble_eq_true rfl) (c_Ld_loadMain (os_I hS14) (os_Z hS14) e17) (fun M18 hI19 => ?_)
    have hS20 := os_mv hS14 hI19
    refine sm_iload_n d_SM_scan_57 rfl (j := 1) rfl ?_
    cases hf
    refine sm_ireturn d_SM_scan_58 rfl (by rfl) ?_
    exact ⟨rfl, hS20⟩

def fn_SM_scan_18 (F : Nat) (Z : zd) (w : wd) (x1 : Int32) (s0 : Bool) : Option ((Int32 ⊕ String) × wd × zd) := (if ((up2 w 0 5 (bi s0)) 0 5) = 0 then fn_SM_scan_40 F Z (up2 w 0 5 (bi s0)) x1 ((up2 w 0 5 (bi s0)) 105 5) else fn_SM_scan_40 F Z (up2 w 0 5 (bi s0)) x1 (-1 : Int32))
set_option maxHeartbeats 1600000 in
set_option maxRecDepth 100000 in
theorem w_SM_scan_18 {G : sm_G} {b : Nat} {M0 : sm_M} {R : (Int32 ⊕ String) × wd × zd} {F : Nat} : ∀ (M : sm_M) (Z : zd) (w : wd) (x1 : Int32) (s0 : Bool), os_in G b M0 M w Z → fn_SM_scan_18 F Z w x1 s0 = some R → sm_W G mf_SM_scan 18 [(0, .ref (b + 0)), (1, .int x1)] [.int (bi s0), .ref (b + 0)] M (2 * (zc R.2.2 - zc Z) + os_e (oI R.1) 1) (2 * (zc R.2.2 - zc Z) + os_e (oI R.1) 6) (os_Q G b M0 (oI R.1) R.2.1 R.2.2) := by
  intro M Z w x1 s0 hS  hf
  unfold fn_SM_scan_18 at hf
  refine lo_put d_SM_scan_18 fp_SM_48 (by decide) (os_I hS) cl_0 rfl (bi_n _) (bi_f _) (fun M8 hI9 => ?_)
  have hS10 := os_mv hS hI9
  refine sm_aload_n d_SM_scan_21 rfl (j := 0) rfl ?_
  refine sm_aload_n d_SM_scan_22 rfl (j := 0) rfl ?_
  refine lo_get (v := .int ((up2 w 0 5 (bi s0)) 0 5)) d_SM_scan_23 fg_SM_48 (os_I hS10) cl_0 rfl ?_
  refine sm_if_eq (tgt := 33) d_SM_scan_26 (by decide) (fun h11 => ?_) (fun h11 => ?_)
  · rw [if_pos h11] at hf
    refine sm_aload_n d_SM_scan_33 rfl (j := 0) rfl ?_
    refine lo_get (v := .ref (b + 105)) d_SM_scan_34 fg_SM_31 (os_I hS10) cl_0 rfl ?_
    refine lo_get (v := .int ((up2 w 0 5 (bi s0)) 105 5)) d_SM_scan_37 fg_SM_284 (os_I hS10) cl_105 rfl ?_
    exact sm_pick [0, 1] (w_SM_scan_40 _ _ _ _ _ hS10 hf) rfl
  · rw [if_neg h11] at hf
    refine sm_iconst (v := -1) d_SM_scan_29 (by decide) ?_
    refine sm_goto (tgt := 40) d_SM_scan_30 (by decide) ?_
    exact sm_pick [0, 1] (w_SM_scan_40 _ _ _ _ _ hS10 hf) rfl

def fn_SM_scan (F : Nat) (Z : zd) (w : wd) : Option ((Int32 ⊕ String) × wd × zd) := ((fn_Sc_refusal F Z w).bind fun r1 => (if zc Z ≤ zc r1.2.2 then (mchk r1.2.2 (fun R9 : (Int32 ⊕ String) × wd × zd => R9.2.2) ((if r1.1 = 0 then fn_SM_scan_18 F r1.2.2 r1.2.1 r1.1 true else fn_SM_scan_18 F r1.2.2 r1.2.1 r1.1 false))) else none))
set_option maxHeartbeats 1600000 in
set_option maxRecDepth 100000 in
theorem c_SM_scan {G : sm_G} {b : Nat} {M0 M : sm_M} {Z : zd} {w : wd} {F : Nat} (hS : os_in G b M0 M w Z) {R : (Int32 ⊕ String) × wd × zd} (hf : fn_SM_scan F Z w = some R) : sm_C G mf_SM_scan [.ref (b + 0)] M (2 * (zc R.2.2 - zc Z) + os_e (oI R.1) 1) (2 * (zc R.2.2 - zc Z) + os_e (oI R.1) 6) (os_Q G b M (oI R.1) R.2.1 R.2.2) := by
  unfold fn_SM_scan at hf
  have hS := hS.here
  refine sm_ofW rfl (Nat.le_of_ble_eq_true rfl) ?_
  refine sm_aload_n d_SM_scan_0 rfl (j := 0) rfl ?_
  refine lo_get (v := .ref (b + 105)) d_SM_scan_1 fg_SM_31 (os_I hS) cl_0 rfl ?_
  replace hf := lo_bnd hf
  obtain ⟨r1, e2, hf⟩ := hf
  replace hf := lo_chk hf
  obtain ⟨g3, hf⟩ := hf
  replace hf := mchk_s hf
  obtain ⟨g4, hf⟩ := hf
  refine os_callZ d_SM_scan_4 cs_SM_scan_280 rfl hS cl_105 (As := []) rfl rfl (Nat.le_of_ble_eq_true rfl) (c_Sc_refusal hS e2) g3 g4 (fun M5 hS6 => ?_)
  refine sm_istore_n d_SM_scan_7 rfl (by decide) rfl ?_
  refine sm_aload_n d_SM_scan_8 rfl (j := 1) rfl ?_
  refine sm_iload_n d_SM_scan_9 rfl (j := 0) rfl ?_
  refine sm_if_ne (tgt := 17) d_SM_scan_10 (by decide) (fun h7 => ?_) (fun h7 => ?_)
  · rw [if_neg h7] at hf
    refine sm_iconst (v := 0) d_SM_scan_17 (by decide) ?_
    exact sm_pick [1, 0] (w_SM_scan_18 _ _ _ _ _ hS6 hf) rfl
  · rw [if_pos h7] at hf
    refine sm_iconst (v := 1) d_SM_scan_13 (by decide) ?_
    refine sm_goto (tgt := 18) d_SM_scan_14 (by decide) ?_
    exact sm_pick [1, 0] (w_SM_scan_18 _ _ _ _ _ hS6 hf) rfl

def fn_SM_place (Z : zd) (w : wd) : Int32 ⊕ String := (.inl (w 0 6))
set_option maxHeartbeats 1600000 in
set_option maxRecDepth 100000 in
theorem c_SM_place {G : sm_G} {b : Nat} {M0 M : sm_M} {Z : zd} {w : wd} (hS : os_in G b M0 M w Z) {R : Int32 ⊕ String} (hf : fn_SM_place Z w = R) : sm_C G mf_SM_place [.ref (b + 0)] M (os_e (oI R) 1) (os_e (oI R) 6) (os_Q G b M (oI R) w Z) := by
  unfold fn_SM_place at hf
  have hS := hS.here
  refine sm_ofW rfl (Nat.le_of_ble_eq_true rfl) ?_
  refine sm_aload_n d_SM_place_0 rfl (j := 0) rfl ?_
  refine lo_get (v := .int (w 0 6)) d_SM_place_1 fg_SM_52 (os_I hS) cl_0 rfl ?_
  subst hf
  refine sm_ireturn d_SM_place_4 rfl (by rfl) ?_
  exact ⟨rfl, hS⟩

