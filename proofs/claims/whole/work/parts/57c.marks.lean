/-! marks, on; written by wip/tools/cls2.py -/
def fn_SM_use (F : Nat) (Z : zd) (w : wd) (x1 : Int32) : Option ((Int32 ⊕ String) × wd × zd) := (match (fn_SM_demandTile Z w x1) with | .inl _ => ((fn_Ld_loadTile F Z w x1).bind fun r6 => ((fn_Pt_headsOfTile F r6 x1).bind fun r11 => some (.inl r11, r6, Z))) | .inr X2 => some (.inr X2, w, Z))
set_option maxHeartbeats 1600000 in
set_option maxRecDepth 100000 in
theorem c_SM_use {G : sm_G} {b : Nat} {M0 M : sm_M} {Z : zd} {w : wd} {F : Nat} (hS : os_in G b M0 M w Z) (x1 : Int32) {R : (Int32 ⊕ String) × wd × zd} (hf : fn_SM_use F Z w x1 = some R) : sm_C G mf_SM_use [.ref (b + 0), .int x1] M (2 * (zc R.2.2 - zc Z) + os_e (oI R.1) 1) (2 * (zc R.2.2 - zc Z) + os_e (oI R.1) 6) (os_Q G b M (oI R.1) R.2.1 R.2.2) := by
  unfold fn_SM_use at hf
  have hS := hS.here
  refine sm_ofW rfl (Nat.le_of_ble_eq_true rfl) ?_
  refine sm_aload_n d_SM_use_0 rfl (j := 0) rfl ?_
  refine sm_iload_n d_SM_use_1 rfl (j := 1) rfl ?_
  rcases e3 : (fn_SM_demandTile Z w x1) with r1 | X2
  · rw [e3] at hf
    dsimp only at hf
    refine os_callI d_SM_use_2 cs_SM_use_290 rfl hS cl_0 (As := [.int x1]) rfl rfl (Nat.le_of_ble_eq_true rfl) (th_V (c_SM_demandTile hS x1 e3)) (fun M5 hS4 => ?_)
    refine sm_aload_n d_SM_use_5 rfl (j := 0) rfl ?_
    refine lo_get (v := .ref (b + 115)) d_SM_use_6 fg_SM_44 (os_I hS4) cl_0 rfl ?_
    refine sm_iload_n d_SM_use_9 rfl (j := 1) rfl ?_
    replace hf := lo_bnd hf
    obtain ⟨r6, e7, hf⟩ := hf
    refine lo_callVm d_SM_use_10 cs_SM_use_293 rfl (os_I hS4) cl_115 (As := [.int x1]) rfl rfl (Nat.le_of_ble_eq_true rfl) (c_Ld_loadTile (os_I hS4) (os_Z hS4) x1 e7) (fun M8 hI9 => ?_)
    have hS10 := os_mv hS4 hI9
    refine sm_aload_n d_SM_use_13 rfl (j := 0) rfl ?_
    refine lo_get (v := .ref (b + 105)) d_SM_use_14 fg_SM_31 (os_I hS10) cl_0 rfl ?_
    refine lo_get (v := .ref (b + 110)) d_SM_use_17 fg_SM_296 (os_I hS10) cl_105 rfl ?_
    refine sm_iload_n d_SM_use_20 rfl (j := 1) rfl ?_
    replace hf := lo_bnd hf
    obtain ⟨r11, e12, hf⟩ := hf
    refine lo_callV d_SM_use_21 cs_SM_use_300 rfl (os_I hS10) cl_110 (As := [.int x1]) rfl rfl (Nat.le_of_ble_eq_true rfl) (c_Pt_headsOfTile (os_I hS10) (os_Z hS10) x1 e12) ?_
    cases hf
    refine sm_ireturn d_SM_use_24 rfl (by rfl) ?_
    exact ⟨rfl, hS10⟩
  · rw [e3] at hf
    dsimp only at hf
    cases hf
    refine os_callX d_SM_use_2 cs_SM_use_290 rfl hS cl_0 (As := [.int x1]) rfl rfl (Nat.le_of_ble_eq_true rfl) (th_XV (c_SM_demandTile hS x1 e3)) (by show 1 ≤ _ + 1; exact Nat.le_add_left _ _) (by show 6 ≤ _ + 6; exact Nat.le_add_left _ _) (fun M5 hS4 => ⟨rfl, hS4⟩)

def fn_SM_head (F : Nat) (Z : zd) (w : wd) (x1 : Int32) (x2 : Int32) : Option ((Int32 ⊕ String) × wd × zd) := (match (fn_SM_demandTile Z w x1) with | .inl _ => ((fn_Pt_placeOfHead F w x1 x2).bind fun r6 => (if (decide (0 ≤ r6.toInt ∧ r6.toInt < Z.2.2.1.length)) = true then some (.inl (nI (rw_u1 Z.2.2.1 r6.toInt)), w, Z) else some (.inr "java/util/NoSuchElementException", w, Z))) | .inr X2 => some (.inr X2, w, Z))
set_option maxHeartbeats 1600000 in
set_option maxRecDepth 100000 in
theorem c_SM_head {G : sm_G} {b : Nat} {M0 M : sm_M} {Z : zd} {w : wd} {F : Nat} (hS : os_in G b M0 M w Z) (x1 : Int32) (x2 : Int32) {R : (Int32 ⊕ String) × wd × zd} (hf : fn_SM_head F Z w x1 x2 = some R) : sm_C G mf_SM_head [.ref (b + 0), .int x1, .int x2] M (2 * (zc R.2.2 - zc Z) + os_e (oI R.1) 1) (2 * (zc R.2.2 - zc Z) + os_e (oI R.1) 6) (os_Q G b M (oI R.1) R.2.1 R.2.2) := by
  unfold fn_SM_head at hf
  have hS := hS.here
  refine sm_ofW rfl (Nat.le_of_ble_eq_true rfl) ?_
  refine sm_aload_n d_SM_head_0 rfl (j := 0) rfl ?_
  refine sm_iload_n d_SM_head_1 rfl (j := 1) rfl ?_
  rcases e3 : (fn_SM_demandTile Z w x1) with r1 | X2
  · rw [e3] at hf
    dsimp only at hf
    refine os_callI d_SM_head_2 cs_SM_head_290 rfl hS cl_0 (As := [.int x1]) rfl rfl (Nat.le_of_ble_eq_true rfl) (th_V (c_SM_demandTile hS x1 e3)) (fun M5 hS4 => ?_)
    refine sm_aload_n d_SM_head_5 rfl (j := 0) rfl ?_
    refine lo_get (v := .ref (b + 105)) d_SM_head_6 fg_SM_31 (os_I hS4) cl_0 rfl ?_
    refine lo_get (v := .ref (b + 110)) d_SM_head_9 fg_SM_296 (os_I hS4) cl_105 rfl ?_
    refine sm_iload_n d_SM_head_12 rfl (j := 1) rfl ?_
    refine sm_iload_n d_SM_head_13 rfl (j := 2) rfl ?_
    replace hf := lo_bnd hf
    obtain ⟨r6, e7, hf⟩ := hf
    refine lo_callV d_SM_head_14 cs_SM_head_305 rfl (os_I hS4) cl_110 (As := [.int x1, .int x2]) rfl rfl (Nat.le_of_ble_eq_true rfl) (c_Pt_placeOfHead (os_I hS4) (os_Z hS4) x1 x2 e7) ?_
    refine sm_istore_n d_SM_head_17 rfl (by decide) rfl ?_
    refine sm_aload_n d_SM_head_18 rfl (j := 1) rfl ?_
    refine lo_get (v := .ref (b + 105)) d_SM_head_19 fg_SM_31 (os_I hS4) cl_0 rfl ?_
    refine lo_get (v := .ref (b + 106)) d_SM_head_22 fg_SM_308 (os_I hS4) cl_105 rfl ?_
    refine sm_iload_n d_SM_head_25 rfl (j := 0) rfl ?_
    refine cm_callR d_SM_head_26 cs_SM_head_240 rfl (cz_c3 (os_I hS4) (os_Z hS4)) (As := [.int r6]) rfl rfl (Nat.le_of_ble_eq_true rfl) (cz_has3 (os_I hS4) (os_Z hS4) r6) ?_
    refine sm_if_ne (tgt := 43) d_SM_head_29 (by decide) (fun h8 => ?_) (fun h8 => ?_)
    · rw [if_pos (bi1 h8)] at hf
      refine sm_aload_n d_SM_head_43 rfl (j := 1) rfl ?_
      refine lo_get (v := .ref (b + 105)) d_SM_head_44 fg_SM_31 (os_I hS4) cl_0 rfl ?_
      refine lo_get (v := .ref (b + 106)) d_SM_head_47 fg_SM_308 (os_I hS4) cl_105 rfl ?_
      refine sm_iload_n d_SM_head_50 rfl (j := 0) rfl ?_
      refine cm_callR d_SM_head_51 cs_SM_head_245 rfl (cz_c3 (os_I hS4) (os_Z hS4)) (As := [.int r6]) rfl rfl (Nat.le_of_ble_eq_true rfl) (cz_u13 (os_I hS4) (os_Z hS4) r6) ?_
      cases hf
      refine sm_ireturn d_SM_head_54 rfl (by rfl) ?_
      exact ⟨rfl, hS4⟩
    · rw [if_neg (bi0 h8)] at hf
      cases hf
      refine sm_throwNW d_SM_head_32 d_SM_head_35 d_SM_head_36 d_SM_head_39 d_SM_head_42 th_SM_220_311 rfl (by decide) (by decide) (by show 1 ≤ _ + 1; exact Nat.le_add_left _ _) (by show 6 ≤ _ + 6; exact Nat.le_add_left _ _) (fun n9 hn9 => ⟨rfl, os_bump hS4 hn9⟩)
  · rw [e3] at hf
    dsimp only at hf
    cases hf
    refine os_callX d_SM_head_2 cs_SM_head_290 rfl hS cl_0 (As := [.int x1]) rfl rfl (Nat.le_of_ble_eq_true rfl) (th_XV (c_SM_demandTile hS x1 e3)) (by show 1 ≤ _ + 1; exact Nat.le_add_left _ _) (by show 6 ≤ _ + 6; exact Nat.le_add_left _ _) (fun M5 hS4 => ⟨rfl, hS4⟩)

def fn_SM_found (Z : zd) (w : wd) (x1 : Int32) (x2 : Int32) : Int32 ⊕ String := (if (w 0 5) = 0 then (.inr "java/lang/IllegalStateException") else (if x1 = (-1 : Int32) then (.inl (w 110 1)) else (if x1 < 0 then (.inr "java/util/NoSuchElementException") else (if (w 110 1) ≤ x1 then (.inr "java/util/NoSuchElementException") else (if x2 < 0 then (.inr "java/util/NoSuchElementException") else (if x2 ≤ (4 : Int32) then (.inl (fn_Pt_number w x1 x2)) else (.inr "java/util/NoSuchElementException")))))))
set_option maxHeartbeats 1600000 in
set_option maxRecDepth 100000 in
theorem c_SM_found {G : sm_G} {b : Nat} {M0 M : sm_M} {Z : zd} {w : wd} (hS : os_in G b M0 M w Z) (x1 : Int32) (x2 : Int32) {R : Int32 ⊕ String} (hf : fn_SM_found Z w x1 x2 = R) : sm_C G mf_SM_found [.ref (b + 0), .int x1, .int x2] M (os_e (oI R) 1) (os_e (oI R) 6) (os_Q G b M (oI R) w Z) := by
  unfold fn_SM_found at hf
  have hS := hS.here
  refine sm_ofW rfl (Nat.le_of_ble_eq_true rfl) ?_
  refine sm_aload_n d_SM_found_0 rfl (j := 0) rfl ?_
  refine lo_get (v := .int (w 0 5)) d_SM_found_1 fg_SM_48 (os_I hS) cl_0 rfl ?_
  refine sm_if_ne (tgt := 18) d_SM_found_4 (by decide) (fun h1 => ?_) (fun h1 => ?_)
  · rw [if_neg h1] at hf
    refine sm_iload_n d_SM_found_18 rfl (j := 1) rfl ?_
    refine sm_iconst (v := -1) d_SM_found_19 (by decide) ?_
    refine sm_icmp_ne (tgt := 34) d_SM_found_20 (by decide) (fun h2 => ?_) (fun h2 => ?_)
    · rw [if_neg h2] at hf
      refine sm_iload_n d_SM_found_34 rfl (j := 1) rfl ?_
      refine sm_if_lt (tgt := 61) d_SM_found_35 (by decide) (fun h3 => ?_) (fun h3 => ?_)
      · rw [if_pos h3] at hf
        subst hf
        refine sm_throwNW d_SM_found_61 d_SM_found_64 d_SM_found_65 d_SM_found_68 d_SM_found_71 th_SM_220_316 rfl (by decide) (by decide) (by show 1 ≤ 1; exact Nat.le_refl _) (by show 6 ≤ 6; exact Nat.le_refl _) (fun n9 hn9 => ⟨rfl, os_bump hS hn9⟩)
      · rw [if_neg h3] at hf
        refine sm_iload_n d_SM_found_38 rfl (j := 1) rfl ?_
        refine sm_aload_n d_SM_found_39 rfl (j := 0) rfl ?_
        refine lo_get (v := .ref (b + 105)) d_SM_found_40 fg_SM_31 (os_I hS) cl_0 rfl ?_
        refine lo_get (v := .ref (b + 110)) d_SM_found_43 fg_SM_296 (os_I hS) cl_105 rfl ?_
        refine lo_get (v := .int (w 110 1)) d_SM_found_46 fg_SM_315 (os_I hS) cl_110 rfl ?_
        refine sm_icmp_ge (tgt := 61) d_SM_found_49 (by decide) (fun h4 => ?_) (fun h4 => ?_)
        · rw [if_pos h4] at hf
          subst hf
          refine sm_throwNW d_SM_found_61 d_SM_found_64 d_SM_found_65 d_SM_found_68 d_SM_found_71 th_SM_220_316 rfl (by decide) (by decide) (by show 1 ≤ 1; exact Nat.le_refl _) (by show 6 ≤ 6; exact Nat.le_refl _) (fun n9 hn9 => ⟨rfl, os_bump hS hn9⟩)
        · rw [if_neg h4] at hf
          refine sm_iload_n d_SM_found_52 rfl (j := 2) rfl ?_
          refine sm_if_lt (tgt := 61) d_SM_found_53 (by decide) (fun h5 => ?_) (fun h5 => ?_)
          · rw [if_pos h5] at hf
            subst hf
            refine sm_throwNW d_SM_found_61 d_SM_found_64 d_SM_found_65 d_SM_found_68 d_SM_found_71 th_SM_220_316 rfl (by decide) (by decide) (by show 1 ≤ 1; exact Nat.le_refl _) (by show 6 ≤ 6; exact Nat.le_refl _) (fun n9 hn9 => ⟨rfl, os_bump hS hn9⟩)
          · rw [if_neg h5] at hf
            refine sm_iload_n d_SM_found_56 rfl (j := 2) rfl ?_
            refine sm_iconst (v := 4) d_SM_found_57 (by decide) ?_
            refine sm_icmp_le (tgt := 72) d_SM_found_58 (by decide) (fun h6 => ?_) (fun h6 => ?_)
            · rw [if_pos h6] at hf
              refine sm_aload_n d_SM_found_72 rfl (j := 0) rfl ?_
              refine lo_get (v := .ref (b + 105)) d_SM_found_73 fg_SM_31 (os_I hS) cl_0 rfl ?_
              refine lo_get (v := .ref (b + 110)) d_SM_found_76 fg_SM_296 (os_I hS) cl_105 rfl ?_
              refine sm_iload_n d_SM_found_79 rfl (j := 1) rfl ?_
              refine sm_iload_n d_SM_found_80 rfl (j := 2) rfl ?_
              refine lo_callV d_SM_found_81 cs_SM_found_318 rfl (os_I hS) cl_110 (As := [.int x1, .int x2]) rfl rfl (Nat.le_of_ble_eq_true rfl) (c_Pt_number (os_I hS) (os_Z hS) x1 x2) ?_
              subst hf
              refine sm_ireturn d_SM_found_84 rfl (by rfl) ?_
              exact ⟨rfl, hS⟩
            · rw [if_neg h6] at hf
              subst hf
              refine sm_throwNW d_SM_found_61 d_SM_found_64 d_SM_found_65 d_SM_found_68 d_SM_found_71 th_SM_220_316 rfl (by decide) (by decide) (by show 1 ≤ 1; exact Nat.le_refl _) (by show 6 ≤ 6; exact Nat.le_refl _) (fun n9 hn9 => ⟨rfl, os_bump hS hn9⟩)
    · rw [if_pos h2] at hf
      refine sm_aload_n d_SM_found_23 rfl (j := 0) rfl ?_
      refine lo_get (v := .ref (b + 105)) d_SM_found_24 fg_SM_31 (os_I hS) cl_0 rfl ?_
      refine lo_get (v := .ref (b + 110)) d_SM_found_27 fg_SM_296 (os_I hS) cl_105 rfl ?_
      refine lo_get (v := .int (w 110 1)) d_SM_found_30 fg_SM_315 (os_I hS) cl_110 rfl ?_
      subst hf
      refine sm_ireturn d_SM_found_33 rfl (by rfl) ?_
      exact ⟨rfl, hS⟩
  · rw [if_pos h1] at hf
    subst hf
    refine sm_throwSW d_SM_found_7 d_SM_found_10 d_SM_found_11 d_SM_found_14 d_SM_found_17 th_SM_83_313 rfl (by decide) (by decide) (by show 1 ≤ 1; exact Nat.le_refl _) (by show 6 ≤ 6; exact Nat.le_refl _) (fun n9 hn9 => ⟨rfl, os_bump hS hn9⟩)

