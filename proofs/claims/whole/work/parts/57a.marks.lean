/-! StreamMarks; written by wip/tools/cls2.py -/
def fn_SM_demandRoom (Z : zd) (w : wd) (x1 : Int32) : Unit ⊕ String := (if x1 ≤ ((65536 : Int32) - (nI Z.1.1.length)) then (.inl ()) else (.inr "java/lang/UnsupportedOperationException"))
set_option maxHeartbeats 1600000 in
set_option maxRecDepth 100000 in
theorem c_SM_demandRoom {G : sm_G} {b : Nat} {M0 M : sm_M} {Z : zd} {w : wd} (hS : os_in G b M0 M w Z) (x1 : Int32) {R : Unit ⊕ String} (hf : fn_SM_demandRoom Z w x1 = R) : sm_C G mf_SM_demandRoom [.ref (b + 0), .int x1] M (os_e (oV R) 1) (os_e (oV R) 6) (os_Q G b M (oV R) w Z) := by
  unfold fn_SM_demandRoom at hf
  have hS := hS.here
  refine sm_ofW rfl (Nat.le_of_ble_eq_true rfl) ?_
  refine sm_iload_n d_SM_demandRoom_0 rfl (j := 1) rfl ?_
  refine sm_ldcw (v := 65536) d_SM_demandRoom_1 mw_990 ?_
  refine sm_aload_n d_SM_demandRoom_4 rfl (j := 0) rfl ?_
  refine lo_get (v := .ref (b + 101)) d_SM_demandRoom_5 fg_SM_19 (os_I hS) cl_0 rfl ?_
  refine cm_cnt1 d_SM_demandRoom_8 fg_SM_237 (os_I hS) (os_Z hS) ?_
  refine sm_isub d_SM_demandRoom_11 ?_
  refine sm_icmp_le (tgt := 26) d_SM_demandRoom_12 (by decide) (fun h1 => ?_) (fun h1 => ?_)
  · rw [if_pos h1] at hf
    subst hf
    refine sm_return d_SM_demandRoom_26 rfl ?_
    exact ⟨rfl, hS⟩
  · rw [if_neg h1] at hf
    subst hf
    refine sm_throwSW d_SM_demandRoom_15 d_SM_demandRoom_18 d_SM_demandRoom_19 d_SM_demandRoom_22 d_SM_demandRoom_25 th_SM_328_330 rfl (by decide) (by decide) (by show 1 ≤ 1; exact Nat.le_refl _) (by show 6 ≤ 6; exact Nat.le_refl _) (fun n9 hn9 => ⟨rfl, os_bump hS hn9⟩)

def fn_SM_demandTile (Z : zd) (w : wd) (x1 : Int32) : Unit ⊕ String := (if (w 0 5) = 0 then (.inr "java/lang/IllegalStateException") else (if x1 < 0 then (.inr "java/util/NoSuchElementException") else (if x1 < (w 105 10) then (.inl ()) else (.inr "java/util/NoSuchElementException"))))
set_option maxHeartbeats 1600000 in
set_option maxRecDepth 100000 in
theorem c_SM_demandTile {G : sm_G} {b : Nat} {M0 M : sm_M} {Z : zd} {w : wd} (hS : os_in G b M0 M w Z) (x1 : Int32) {R : Unit ⊕ String} (hf : fn_SM_demandTile Z w x1 = R) : sm_C G mf_SM_demandTile [.ref (b + 0), .int x1] M (os_e (oV R) 1) (os_e (oV R) 6) (os_Q G b M (oV R) w Z) := by
  unfold fn_SM_demandTile at hf
  have hS := hS.here
  refine sm_ofW rfl (Nat.le_of_ble_eq_true rfl) ?_
  refine sm_aload_n d_SM_demandTile_0 rfl (j := 0) rfl ?_
  refine lo_get (v := .int (w 0 5)) d_SM_demandTile_1 fg_SM_48 (os_I hS) cl_0 rfl ?_
  refine sm_if_ne (tgt := 18) d_SM_demandTile_4 (by decide) (fun h1 => ?_) (fun h1 => ?_)
  · rw [if_neg h1] at hf
    refine sm_iload_n d_SM_demandTile_18 rfl (j := 1) rfl ?_
    refine sm_if_lt (tgt := 33) d_SM_demandTile_19 (by decide) (fun h2 => ?_) (fun h2 => ?_)
    · rw [if_pos h2] at hf
      subst hf
      refine sm_throwNW d_SM_demandTile_33 d_SM_demandTile_36 d_SM_demandTile_37 d_SM_demandTile_40 d_SM_demandTile_43 th_SM_220_336 rfl (by decide) (by decide) (by show 1 ≤ 1; exact Nat.le_refl _) (by show 6 ≤ 6; exact Nat.le_refl _) (fun n9 hn9 => ⟨rfl, os_bump hS hn9⟩)
    · rw [if_neg h2] at hf
      refine sm_iload_n d_SM_demandTile_22 rfl (j := 1) rfl ?_
      refine sm_aload_n d_SM_demandTile_23 rfl (j := 0) rfl ?_
      refine lo_get (v := .ref (b + 105)) d_SM_demandTile_24 fg_SM_31 (os_I hS) cl_0 rfl ?_
      refine lo_get (v := .int (w 105 10)) d_SM_demandTile_27 fg_SM_333 (os_I hS) cl_105 rfl ?_
      refine sm_icmp_lt (tgt := 44) d_SM_demandTile_30 (by decide) (fun h3 => ?_) (fun h3 => ?_)
      · rw [if_pos h3] at hf
        subst hf
        refine sm_return d_SM_demandTile_44 rfl ?_
        exact ⟨rfl, hS⟩
      · rw [if_neg h3] at hf
        subst hf
        refine sm_throwNW d_SM_demandTile_33 d_SM_demandTile_36 d_SM_demandTile_37 d_SM_demandTile_40 d_SM_demandTile_43 th_SM_220_336 rfl (by decide) (by decide) (by show 1 ≤ 1; exact Nat.le_refl _) (by show 6 ≤ 6; exact Nat.le_refl _) (fun n9 hn9 => ⟨rfl, os_bump hS hn9⟩)
  · rw [if_pos h1] at hf
    subst hf
    refine sm_throwSW d_SM_demandTile_7 d_SM_demandTile_10 d_SM_demandTile_11 d_SM_demandTile_14 d_SM_demandTile_17 th_SM_83_313 rfl (by decide) (by decide) (by show 1 ≤ 1; exact Nat.le_refl _) (by show 6 ≤ 6; exact Nat.le_refl _) (fun n9 hn9 => ⟨rfl, os_bump hS hn9⟩)

def fn_SM_numberOfComponent_52 (Z : zd) (w : wd) (x1 : Int32) (x3 : Int32) (c4 : Nat) : Int32 ⊕ String := (if x1 = (34 : Int32) then (if x3 < 0 then (.inr "java/util/NoSuchElementException") else (if x3 < (97 : Int32) then (.inl (fn_Cp_number w c4 x1 x3)) else (.inr "java/util/NoSuchElementException"))) else (.inl (fn_Cp_number w c4 x1 x3)))
set_option maxHeartbeats 1600000 in
set_option maxRecDepth 100000 in
theorem w_SM_numberOfComponent_52 {G : sm_G} {b : Nat} {M0 : sm_M} {R : Int32 ⊕ String} : ∀ (M : sm_M) (Z : zd) (w : wd) (x1 : Int32) (x3 : Int32) (c4 : Nat), os_in G b M0 M w Z → c4 < 16 → fn_SM_numberOfComponent_52 Z w x1 x3 c4 = R → sm_W G mf_SM_numberOfComponent 52 [(1, .int x1), (3, .int x3), (4, .ref (b + (5 + 6 * c4)))] [] M (os_e (oI R) 1) (os_e (oI R) 6) (os_Q G b M0 (oI R) w Z) := by
  intro M Z w x1 x3 c4 hS hc4 hf
  unfold fn_SM_numberOfComponent_52 at hf
  refine sm_iload_n d_SM_numberOfComponent_52 rfl (j := 0) rfl ?_
  refine sm_bipush (v := 34) d_SM_numberOfComponent_53 (by decide) ?_
  refine sm_icmp_ne (tgt := 78) d_SM_numberOfComponent_55 (by decide) (fun h6 => ?_) (fun h6 => ?_)
  · rw [if_neg h6] at hf
    refine sm_aload d_SM_numberOfComponent_78 (j := 2) rfl ?_
    refine sm_iload_n d_SM_numberOfComponent_80 rfl (j := 0) rfl ?_
    refine sm_iload_n d_SM_numberOfComponent_81 rfl (j := 1) rfl ?_
    refine lo_callV d_SM_numberOfComponent_82 cs_SM_numberOfComponent_327 rfl (os_I hS) (cl_Cp hc4) (As := [.int x1, .int x3]) rfl rfl (Nat.le_of_ble_eq_true rfl) (c_Cp_number (os_I hS) (os_Z hS) c4 x1 x3 hc4) ?_
    subst hf
    refine sm_ireturn d_SM_numberOfComponent_85 rfl (by rfl) ?_
    exact ⟨rfl, hS⟩
  · rw [if_pos h6] at hf
    refine sm_iload_n d_SM_numberOfComponent_58 rfl (j := 1) rfl ?_
    refine sm_if_lt (tgt := 68) d_SM_numberOfComponent_59 (by decide) (fun h7 => ?_) (fun h7 => ?_)
    · rw [if_pos h7] at hf
      subst hf
      refine sm_throwN d_SM_numberOfComponent_68 d_SM_numberOfComponent_71 d_SM_numberOfComponent_72 d_SM_numberOfComponent_74 d_SM_numberOfComponent_77 th_SM_220_187 rfl (by decide) (by decide) (by show 1 ≤ 1; exact Nat.le_refl _) (by show 6 ≤ 6; exact Nat.le_refl _) (fun n9 hn9 => ⟨rfl, os_bump hS hn9⟩)
    · rw [if_neg h7] at hf
      refine sm_iload_n d_SM_numberOfComponent_62 rfl (j := 1) rfl ?_
      refine sm_bipush (v := 97) d_SM_numberOfComponent_63 (by decide) ?_
      refine sm_icmp_lt (tgt := 78) d_SM_numberOfComponent_65 (by decide) (fun h8 => ?_) (fun h8 => ?_)
      · rw [if_pos h8] at hf
        refine sm_aload d_SM_numberOfComponent_78 (j := 2) rfl ?_
        refine sm_iload_n d_SM_numberOfComponent_80 rfl (j := 0) rfl ?_
        refine sm_iload_n d_SM_numberOfComponent_81 rfl (j := 1) rfl ?_
        refine lo_callV d_SM_numberOfComponent_82 cs_SM_numberOfComponent_327 rfl (os_I hS) (cl_Cp hc4) (As := [.int x1, .int x3]) rfl rfl (Nat.le_of_ble_eq_true rfl) (c_Cp_number (os_I hS) (os_Z hS) c4 x1 x3 hc4) ?_
        subst hf
        refine sm_ireturn d_SM_numberOfComponent_85 rfl (by rfl) ?_
        exact ⟨rfl, hS⟩
      · rw [if_neg h8] at hf
        subst hf
        refine sm_throwN d_SM_numberOfComponent_68 d_SM_numberOfComponent_71 d_SM_numberOfComponent_72 d_SM_numberOfComponent_74 d_SM_numberOfComponent_77 th_SM_220_187 rfl (by decide) (by decide) (by show 1 ≤ 1; exact Nat.le_refl _) (by show 6 ≤ 6; exact Nat.le_refl _) (fun n9 hn9 => ⟨rfl, os_bump hS hn9⟩)

def fn_SM_numberOfComponent_24 (Z : zd) (w : wd) (x1 : Int32) (x3 : Int32) (c4 : Nat) (s0 : Bool) : Int32 ⊕ String := (if s0 = true then (if x3 < 0 then (.inr "java/util/NoSuchElementException") else (if x3 ≤ (32 : Int32) then fn_SM_numberOfComponent_52 Z w x1 x3 c4 else (.inr "java/util/NoSuchElementException"))) else fn_SM_numberOfComponent_52 Z w x1 x3 c4)
set_option maxHeartbeats 1600000 in
set_option maxRecDepth 100000 in
theorem w_SM_numberOfComponent_24 {G : sm_G} {b : Nat} {M0 : sm_M} {R : Int32 ⊕ String} : ∀ (M : sm_M) (Z : zd) (w : wd) (x1 : Int32) (x3 : Int32) (c4 : Nat) (s0 : Bool), os_in G b M0 M w Z → c4 < 16 → fn_SM_numberOfComponent_24 Z w x1 x3 c4 s0 = R → sm_W G mf_SM_numberOfComponent 24 [(1, .int x1), (3, .int x3), (4, .ref (b + (5 + 6 * c4)))] [.int (bi s0)] M (os_e (oI R) 1) (os_e (oI R) 6) (os_Q G b M0 (oI R) w Z) := by
  intro M Z w x1 x3 c4 s0 hS hc4 hf
  unfold fn_SM_numberOfComponent_24 at hf
  refine sm_istore d_SM_numberOfComponent_24 (by decide) rfl ?_
  refine sm_iload d_SM_numberOfComponent_26 (j := 0) rfl ?_
  refine sm_if_eq (tgt := 52) d_SM_numberOfComponent_28 (by decide) (fun h5 => ?_) (fun h5 => ?_)
  · rw [if_neg (bi0 h5)] at hf
    exact sm_pick [1, 2, 3] (w_SM_numberOfComponent_52 _ _ _ _ _ _ hS hc4 hf) rfl
  · rw [if_pos (bi1 h5)] at hf
    refine sm_iload_n d_SM_numberOfComponent_31 rfl (j := 2) rfl ?_
    refine sm_if_lt (tgt := 41) d_SM_numberOfComponent_32 (by decide) (fun h9 => ?_) (fun h9 => ?_)
    · rw [if_pos h9] at hf
      subst hf
      refine sm_throwNW d_SM_numberOfComponent_41 d_SM_numberOfComponent_44 d_SM_numberOfComponent_45 d_SM_numberOfComponent_48 d_SM_numberOfComponent_51 th_SM_220_325 rfl (by decide) (by decide) (by show 1 ≤ 1; exact Nat.le_refl _) (by show 6 ≤ 6; exact Nat.le_refl _) (fun n9 hn9 => ⟨rfl, os_bump hS hn9⟩)
    · rw [if_neg h9] at hf
      refine sm_iload_n d_SM_numberOfComponent_35 rfl (j := 2) rfl ?_
      refine sm_bipush (v := 32) d_SM_numberOfComponent_36 (by decide) ?_
      refine sm_icmp_le (tgt := 52) d_SM_numberOfComponent_38 (by decide) (fun h10 => ?_) (fun h10 => ?_)
      · rw [if_pos h10] at hf
        exact sm_pick [1, 2, 3] (w_SM_numberOfComponent_52 _ _ _ _ _ _ hS hc4 hf) rfl
      · rw [if_neg h10] at hf
        subst hf
        refine sm_throwNW d_SM_numberOfComponent_41 d_SM_numberOfComponent_44 d_SM_numberOfComponent_45 d_SM_numberOfComponent_48 d_SM_numberOfComponent_51 th_SM_220_325 rfl (by decide) (by decide) (by show 1 ≤ 1; exact Nat.le_refl _) (by show 6 ≤ 6; exact Nat.le_refl _) (fun n9 hn9 => ⟨rfl, os_bump hS hn9⟩)

def fn_SM_numberOfComponent_19 (Z : zd) (w : wd) (x1 : Int32) (x3 : Int32) (c4 : Nat) : Int32 ⊕ String := fn_SM_numberOfComponent_24 Z w x1 x3 c4 true
set_option maxHeartbeats 1600000 in
set_option maxRecDepth 100000 in
theorem w_SM_numberOfComponent_19 {G : sm_G} {b : Nat} {M0 : sm_M} {R : Int32 ⊕ String} : ∀ (M : sm_M) (Z : zd) (w : wd) (x1 : Int32) (x3 : Int32) (c4 : Nat), os_in G b M0 M w Z → c4 < 16 → fn_SM_numberOfComponent_19 Z w x1 x3 c4 = R → sm_W G mf_SM_numberOfComponent 19 [(1, .int x1), (3, .int x3), (4, .ref (b + (5 + 6 * c4)))] [] M (os_e (oI R) 1) (os_e (oI R) 6) (os_Q G b M0 (oI R) w Z) := by
  intro M Z w x1 x3 c4 hS hc4 hf
  unfold fn_SM_numberOfComponent_19 at hf
  refine sm_iconst (v := 1) d_SM_numberOfComponent_19 (by decide) ?_
  refine sm_goto (tgt := 24) d_SM_numberOfComponent_20 (by decide) ?_
  exact sm_pick [0, 1, 2] (w_SM_numberOfComponent_24 _ _ _ _ _ _ _ hS hc4 hf) rfl

def fn_SM_numberOfComponent (Z : zd) (w : wd) (x1 : Int32) (x2 : Int32) (x3 : Int32) : Int32 ⊕ String := (if (0 ≤ x2.toInt ∧ x2.toInt < (w 1 2).toInt) ∧ x2.toInt < 16 then (if x1 = (32 : Int32) then fn_SM_numberOfComponent_19 Z w x1 x3 x2.toInt.toNat else (if x1 = (33 : Int32) then fn_SM_numberOfComponent_19 Z w x1 x3 x2.toInt.toNat else fn_SM_numberOfComponent_24 Z w x1 x3 x2.toInt.toNat false)) else (.inr "java/util/NoSuchElementException"))
set_option maxHeartbeats 1600000 in
set_option maxRecDepth 100000 in
theorem c_SM_numberOfComponent {G : sm_G} {b : Nat} {M0 M : sm_M} {Z : zd} {w : wd} (hS : os_in G b M0 M w Z) (x1 : Int32) (x2 : Int32) (x3 : Int32) {R : Int32 ⊕ String} (hf : fn_SM_numberOfComponent Z w x1 x2 x3 = R) : sm_C G mf_SM_numberOfComponent [.ref (b + 0), .int x1, .int x2, .int x3] M (os_e (oI R) 1) (os_e (oI R) 6) (os_Q G b M (oI R) w Z) := by
  unfold fn_SM_numberOfComponent at hf
  have hS := hS.here
  refine sm_ofW rfl (Nat.le_of_ble_eq_true rfl) ?_
  refine sm_aload_n d_SM_numberOfComponent_0 rfl (j := 0) rfl ?_
  refine sm_iload_n d_SM_numberOfComponent_1 rfl (j := 2) rfl ?_
  by_cases h1 : (0 ≤ x2.toInt ∧ x2.toInt < (w 1 2).toInt) ∧ x2.toInt < 16
  · rw [if_pos h1] at hf
    refine os_callI d_SM_numberOfComponent_2 cs_SM_numberOfComponent_131 rfl hS cl_0 (As := [.int x2]) rfl rfl (Nat.le_of_ble_eq_true rfl) (c_SM_exT hS x2 h1) (fun M2 hS3 => ?_)
    refine sm_astore d_SM_numberOfComponent_5 (by decide) rfl ?_
    refine sm_iload_n d_SM_numberOfComponent_7 rfl (j := 2) rfl ?_
    refine sm_bipush (v := 32) d_SM_numberOfComponent_8 (by decide) ?_
    refine sm_icmp_eq (tgt := 19) d_SM_numberOfComponent_10 (by decide) (fun h4 => ?_) (fun h4 => ?_)
    · rw [if_pos h4] at hf
      exact sm_pick [2, 4, 0] (w_SM_numberOfComponent_19 _ _ _ _ _ _ hS3 (cm_c16 h1) hf) rfl
    · rw [if_neg h4] at hf
      refine sm_iload_n d_SM_numberOfComponent_13 rfl (j := 2) rfl ?_
      refine sm_bipush (v := 33) d_SM_numberOfComponent_14 (by decide) ?_
      refine sm_icmp_ne (tgt := 23) d_SM_numberOfComponent_16 (by decide) (fun h11 => ?_) (fun h11 => ?_)
      · rw [if_neg h11] at hf
        refine sm_iconst (v := 0) d_SM_numberOfComponent_23 (by decide) ?_
        exact sm_pick [2, 4, 0] (w_SM_numberOfComponent_24 _ _ _ _ _ _ _ hS3 (cm_c16 h1) hf) rfl
      · rw [if_pos h11] at hf
        exact sm_pick [2, 4, 0] (w_SM_numberOfComponent_19 _ _ _ _ _ _ hS3 (cm_c16 h1) hf) rfl
  · rw [if_neg h1] at hf
    subst hf
    refine os_callX d_SM_numberOfComponent_2 cs_SM_numberOfComponent_131 rfl hS cl_0 (As := [.int x2]) rfl rfl (Nat.le_of_ble_eq_true rfl) (c_SM_exF hS x2 h1) (by show 1 ≤ 1; exact Nat.le_refl _) (by show 6 ≤ 6; exact Nat.le_refl _) (fun M2 hS3 => ⟨rfl, hS3⟩)

def fn_SM_plan (Z : zd) (w : wd) : (Unit ⊕ String) × wd × zd := (.inl (), (fn_Pl_reset w), Z)
set_option maxHeartbeats 1600000 in
set_option maxRecDepth 100000 in
theorem c_SM_plan {G : sm_G} {b : Nat} {M0 M : sm_M} {Z : zd} {w : wd} (hS : os_in G b M0 M w Z) {R : (Unit ⊕ String) × wd × zd} (hf : fn_SM_plan Z w = R) : sm_C G mf_SM_plan [.ref (b + 0)] M (2 * (zc R.2.2 - zc Z) + os_e (oV R.1) 1) (2 * (zc R.2.2 - zc Z) + os_e (oV R.1) 6) (os_Q G b M (oV R.1) R.2.1 R.2.2) := by
  unfold fn_SM_plan at hf
  have hS := hS.here
  refine sm_ofW rfl (Nat.le_of_ble_eq_true rfl) ?_
  refine sm_aload_n d_SM_plan_0 rfl (j := 0) rfl ?_
  refine lo_get (v := .ref (b + 1)) d_SM_plan_1 fg_SM_10 (os_I hS) cl_0 rfl ?_
  refine lo_callVm d_SM_plan_4 cs_SM_plan_56 rfl (os_I hS) cl_1 (As := []) rfl rfl (Nat.le_of_ble_eq_true rfl) (c_Pl_reset (os_I hS) (os_Z hS)) (fun M1 hI2 => ?_)
  have hS3 := os_mv hS hI2
  subst hf
  refine sm_return d_SM_plan_7 rfl ?_
  exact ⟨rfl, hS3⟩

def fn_SM_picture (Z : zd) (w : wd) (x1 : Int32) (x2 : Int32) (x3 : Int32) (x4 : Int32) : (Unit ⊕ String) × wd × zd := (if (fn_Ru_isPicture x1.toInt64 x2.toInt64 x3.toInt64 x4.toInt64) = true then (.inl (), (fn_Pl_setTiles (fn_Pl_setPicture w x1 x2 x3 x4) (0 : Int32) (0 : Int32) x3 x4), Z) else (.inr "java/lang/IllegalArgumentException", w, Z))
set_option maxHeartbeats 1600000 in
set_option maxRecDepth 100000 in
theorem c_SM_picture {G : sm_G} {b : Nat} {M0 M : sm_M} {Z : zd} {w : wd} (hS : os_in G b M0 M w Z) (x1 : Int32) (x2 : Int32) (x3 : Int32) (x4 : Int32) {R : (Unit ⊕ String) × wd × zd} (hf : fn_SM_picture Z w x1 x2 x3 x4 = R) : sm_C G mf_SM_picture [.ref (b + 0), .int x1, .int x2, .int x3, .int x4] M (2 * (zc R.2.2 - zc Z) + os_e (oV R.1) 1) (2 * (zc R.2.2 - zc Z) + os_e (oV R.1) 6) (os_Q G b M (oV R.1) R.2.1 R.2.2) := by
  unfold fn_SM_picture at hf
  have hS := hS.here
  refine sm_ofW rfl (Nat.le_of_ble_eq_true rfl) ?_
  refine sm_iload_n d_SM_picture_0 rfl (j := 1) rfl ?_
  refine sm_i2l d_SM_picture_1 ?_
  refine sm_iload_n d_SM_picture_2 rfl (j := 2) rfl ?_
  refine sm_i2l d_SM_picture_3 ?_
  refine sm_iload_n d_SM_picture_4 rfl (j := 3) rfl ?_
  refine sm_i2l d_SM_picture_5 ?_
  refine sm_iload d_SM_picture_6 (j := 4) rfl ?_
  refine sm_i2l d_SM_picture_8 ?_
  refine sm_callSp d_SM_picture_9 cs_SM_picture_59 rfl (As := [.long x1.toInt64, .long x2.toInt64, .long x3.toInt64, .long x4.toInt64]) rfl rfl (Nat.le_of_ble_eq_true rfl) (b_Ru_isPicture x1.toInt64 x2.toInt64 x3.toInt64 x4.toInt64) ?_
  refine sm_if_ne (tgt := 25) d_SM_picture_12 (by decide) (fun h1 => ?_) (fun h1 => ?_)
  · rw [if_pos (bi1 h1)] at hf
    refine sm_aload_n d_SM_picture_25 rfl (j := 0) rfl ?_
    refine lo_get (v := .ref (b + 1)) d_SM_picture_26 fg_SM_10 (os_I hS) cl_0 rfl ?_
    refine sm_iload_n d_SM_picture_29 rfl (j := 1) rfl ?_
    refine sm_iload_n d_SM_picture_30 rfl (j := 2) rfl ?_
    refine sm_iload_n d_SM_picture_31 rfl (j := 3) rfl ?_
    refine sm_iload d_SM_picture_32 (j := 4) rfl ?_
    refine lo_callVm d_SM_picture_34 cs_SM_picture_72 rfl (os_I hS) cl_1 (As := [.int x1, .int x2, .int x3, .int x4]) rfl rfl (Nat.le_of_ble_eq_true rfl) (c_Pl_setPicture (os_I hS) (os_Z hS) x1 x2 x3 x4) (fun M2 hI3 => ?_)
    have hS4 := os_mv hS hI3
    refine sm_aload_n d_SM_picture_37 rfl (j := 0) rfl ?_
    refine lo_get (v := .ref (b + 1)) d_SM_picture_38 fg_SM_10 (os_I hS4) cl_0 rfl ?_
    refine sm_iconst (v := 0) d_SM_picture_41 (by decide) ?_
    refine sm_iconst (v := 0) d_SM_picture_42 (by decide) ?_
    refine sm_iload_n d_SM_picture_43 rfl (j := 3) rfl ?_
    refine sm_iload d_SM_picture_44 (j := 4) rfl ?_
    refine lo_callVm d_SM_picture_46 cs_SM_picture_76 rfl (os_I hS4) cl_1 (As := [.int (0 : Int32), .int (0 : Int32), .int x3, .int x4]) rfl rfl (Nat.le_of_ble_eq_true rfl) (c_Pl_setTiles (os_I hS4) (os_Z hS4) (0 : Int32) (0 : Int32) x3 x4) (fun M5 hI6 => ?_)
    have hS7 := os_mv hS4 hI6
    subst hf
    refine sm_return d_SM_picture_49 rfl ?_
    exact ⟨rfl, hS7⟩
  · rw [if_neg (bi0 h1)] at hf
    subst hf
    refine sm_throwS d_SM_picture_15 d_SM_picture_18 d_SM_picture_19 d_SM_picture_21 d_SM_picture_24 th_SM_65_67 rfl (by decide) (by decide) (by show 1 ≤ _ + 1; exact Nat.le_add_left _ _) (by show 6 ≤ _ + 6; exact Nat.le_add_left _ _) (fun n9 hn9 => ⟨rfl, os_bump hS hn9⟩)

def fn_SM_tiles (Z : zd) (w : wd) (x1 : Int32) (x2 : Int32) (x3 : Int32) (x4 : Int32) : (Unit ⊕ String) × wd × zd := (if (fn_Pl_hasPicture w) = true then (if (fn_Ru_isTiling x1.toInt64 x2.toInt64 x3.toInt64 x4.toInt64 ((w 2 0).toInt64) ((w 2 1).toInt64)) = true then (if (fn_Ru_countTiles x1.toInt64 x2.toInt64 x3.toInt64 x4.toInt64 ((w 2 2).toInt64) ((w 2 3).toInt64)) ≤ (64 : Int64) then (.inl (), (fn_Pl_setTiles w x1 x2 x3 x4), Z) else (.inr "java/lang/IllegalArgumentException", w, Z)) else (.inr "java/lang/IllegalArgumentException", w, Z)) else (.inr "java/lang/IllegalStateException", w, Z))
set_option maxHeartbeats 1600000 in
set_option maxRecDepth 100000 in
theorem c_SM_tiles {G : sm_G} {b : Nat} {M0 M : sm_M} {Z : zd} {w : wd} (hS : os_in G b M0 M w Z) (x1 : Int32) (x2 : Int32) (x3 : Int32) (x4 : Int32) {R : (Unit ⊕ String) × wd × zd} (hf : fn_SM_tiles Z w x1 x2 x3 x4 = R) : sm_C G mf_SM_tiles [.ref (b + 0), .int x1, .int x2, .int x3, .int x4] M (2 * (zc R.2.2 - zc Z) + os_e (oV R.1) 1) (2 * (zc R.2.2 - zc Z) + os_e (oV R.1) 6) (os_Q G b M (oV R.1) R.2.1 R.2.2) := by
  unfold fn_SM_tiles at hf
  have hS := hS.here
  refine sm_ofW rfl (Nat.le_of_ble_eq_true rfl) ?_
  refine sm_aload_n d_SM_tiles_0 rfl (j := 0) rfl ?_
  refine lo_get (v := .ref (b + 1)) d_SM_tiles_1 fg_SM_10 (os_I hS) cl_0 rfl ?_
  refine lo_callV d_SM_tiles_4 cs_SM_tiles_79 rfl (os_I hS) cl_1 (As := []) rfl rfl (Nat.le_of_ble_eq_true rfl) (c_Pl_hasPicture (os_I hS) (os_Z hS)) ?_
  refine sm_if_ne (tgt := 20) d_SM_tiles_7 (by decide) (fun h1 => ?_) (fun h1 => ?_)
  · rw [if_pos (bi1 h1)] at hf
    refine sm_iload_n d_SM_tiles_20 rfl (j := 1) rfl ?_
    refine sm_i2l d_SM_tiles_21 ?_
    refine sm_iload_n d_SM_tiles_22 rfl (j := 2) rfl ?_
    refine sm_i2l d_SM_tiles_23 ?_
    refine sm_iload_n d_SM_tiles_24 rfl (j := 3) rfl ?_
    refine sm_i2l d_SM_tiles_25 ?_
    refine sm_iload d_SM_tiles_26 (j := 4) rfl ?_
    refine sm_i2l d_SM_tiles_28 ?_
    refine sm_aload_n d_SM_tiles_29 rfl (j := 0) rfl ?_
    refine lo_get (v := .ref (b + 1)) d_SM_tiles_30 fg_SM_10 (os_I hS) cl_0 rfl ?_
    refine lo_get (v := .ref (b + 2)) d_SM_tiles_33 fg_SM_88 (os_I hS) cl_1 rfl ?_
    refine sm_iconst (v := 0) d_SM_tiles_36 (by decide) ?_
    refine lo_ald (j := 0) d_SM_tiles_37 (os_I hS) cl_2 (by decide) rfl ?_
    refine sm_i2l d_SM_tiles_38 ?_
    refine sm_aload_n d_SM_tiles_39 rfl (j := 0) rfl ?_
    refine lo_get (v := .ref (b + 1)) d_SM_tiles_40 fg_SM_10 (os_I hS) cl_0 rfl ?_
    refine lo_get (v := .ref (b + 2)) d_SM_tiles_43 fg_SM_88 (os_I hS) cl_1 rfl ?_
    refine sm_iconst (v := 1) d_SM_tiles_46 (by decide) ?_
    refine lo_ald (j := 1) d_SM_tiles_47 (os_I hS) cl_2 (by decide) rfl ?_
    refine sm_i2l d_SM_tiles_48 ?_
    refine sm_callSp d_SM_tiles_49 cs_SM_tiles_92 rfl (As := [.long x1.toInt64, .long x2.toInt64, .long x3.toInt64, .long x4.toInt64, .long (w 2 0).toInt64, .long (w 2 1).toInt64]) rfl rfl (Nat.le_of_ble_eq_true rfl) (b_Ru_isTiling x1.toInt64 x2.toInt64 x3.toInt64 x4.toInt64 ((w 2 0).toInt64) ((w 2 1).toInt64)) ?_
    refine sm_if_ne (tgt := 65) d_SM_tiles_52 (by decide) (fun h2 => ?_) (fun h2 => ?_)
    · rw [if_pos (bi1 h2)] at hf
      refine sm_iload_n d_SM_tiles_65 rfl (j := 1) rfl ?_
      refine sm_i2l d_SM_tiles_66 ?_
      refine sm_iload_n d_SM_tiles_67 rfl (j := 2) rfl ?_
      refine sm_i2l d_SM_tiles_68 ?_
      refine sm_iload_n d_SM_tiles_69 rfl (j := 3) rfl ?_
      refine sm_i2l d_SM_tiles_70 ?_
      refine sm_iload d_SM_tiles_71 (j := 4) rfl ?_
      refine sm_i2l d_SM_tiles_73 ?_
      refine sm_aload_n d_SM_tiles_74 rfl (j := 0) rfl ?_
      refine lo_get (v := .ref (b + 1)) d_SM_tiles_75 fg_SM_10 (os_I hS) cl_0 rfl ?_
      refine lo_get (v := .ref (b + 2)) d_SM_tiles_78 fg_SM_88 (os_I hS) cl_1 rfl ?_
      refine sm_iconst (v := 2) d_SM_tiles_81 (by decide) ?_
      refine lo_ald (j := 2) d_SM_tiles_82 (os_I hS) cl_2 (by decide) rfl ?_
      refine sm_i2l d_SM_tiles_83 ?_
      refine sm_aload_n d_SM_tiles_84 rfl (j := 0) rfl ?_
      refine lo_get (v := .ref (b + 1)) d_SM_tiles_85 fg_SM_10 (os_I hS) cl_0 rfl ?_
      refine lo_get (v := .ref (b + 2)) d_SM_tiles_88 fg_SM_88 (os_I hS) cl_1 rfl ?_
      refine sm_iconst (v := 3) d_SM_tiles_91 (by decide) ?_
      refine lo_ald (j := 3) d_SM_tiles_92 (os_I hS) cl_2 (by decide) rfl ?_
      refine sm_i2l d_SM_tiles_93 ?_
      refine sm_callSp d_SM_tiles_94 cs_SM_tiles_98 rfl (As := [.long x1.toInt64, .long x2.toInt64, .long x3.toInt64, .long x4.toInt64, .long (w 2 2).toInt64, .long (w 2 3).toInt64]) rfl rfl (Nat.le_of_ble_eq_true rfl) (b_Ru_countTiles x1.toInt64 x2.toInt64 x3.toInt64 x4.toInt64 ((w 2 2).toInt64) ((w 2 3).toInt64)) ?_
      refine sm_ldc2 (v := 64) d_SM_tiles_97 mw_844 ?_
      refine sm_lcmp d_SM_tiles_100 ?_
      refine sm_if_le (tgt := 114) d_SM_tiles_101 (by decide) (fun h3 => ?_) (fun h3 => ?_)
      · rw [if_pos ((lg_cmp_le _ _).mp h3)] at hf
        refine sm_aload_n d_SM_tiles_114 rfl (j := 0) rfl ?_
        refine lo_get (v := .ref (b + 1)) d_SM_tiles_115 fg_SM_10 (os_I hS) cl_0 rfl ?_
        refine sm_iload_n d_SM_tiles_118 rfl (j := 1) rfl ?_
        refine sm_iload_n d_SM_tiles_119 rfl (j := 2) rfl ?_
        refine sm_iload_n d_SM_tiles_120 rfl (j := 3) rfl ?_
        refine sm_iload d_SM_tiles_121 (j := 4) rfl ?_
        refine lo_callVm d_SM_tiles_123 cs_SM_tiles_76 rfl (os_I hS) cl_1 (As := [.int x1, .int x2, .int x3, .int x4]) rfl rfl (Nat.le_of_ble_eq_true rfl) (c_Pl_setTiles (os_I hS) (os_Z hS) x1 x2 x3 x4) (fun M4 hI5 => ?_)
        have hS6 := os_mv hS hI5
        subst hf
        refine sm_return d_SM_tiles_126 rfl ?_
        exact ⟨rfl, hS6⟩
      · rw [if_neg (mt (lg_cmp_le _ _).mpr h3)] at hf
        subst hf
        refine sm_throwS d_SM_tiles_104 d_SM_tiles_107 d_SM_tiles_108 d_SM_tiles_110 d_SM_tiles_113 th_SM_65_104 rfl (by decide) (by decide) (by show 1 ≤ _ + 1; exact Nat.le_add_left _ _) (by show 6 ≤ _ + 6; exact Nat.le_add_left _ _) (fun n9 hn9 => ⟨rfl, os_bump hS hn9⟩)
    · rw [if_neg (bi0 h2)] at hf
      subst hf
      refine sm_throwS d_SM_tiles_55 d_SM_tiles_58 d_SM_tiles_59 d_SM_tiles_61 d_SM_tiles_64 th_SM_65_96 rfl (by decide) (by decide) (by show 1 ≤ _ + 1; exact Nat.le_add_left _ _) (by show 6 ≤ _ + 6; exact Nat.le_add_left _ _) (fun n9 hn9 => ⟨rfl, os_bump hS hn9⟩)
  · rw [if_neg (bi0 h1)] at hf
    subst hf
    refine sm_throwS d_SM_tiles_10 d_SM_tiles_13 d_SM_tiles_14 d_SM_tiles_16 d_SM_tiles_19 th_SM_83_85 rfl (by decide) (by decide) (by show 1 ≤ _ + 1; exact Nat.le_add_left _ _) (by show 6 ≤ _ + 6; exact Nat.le_add_left _ _) (fun n9 hn9 => ⟨rfl, os_bump hS hn9⟩)

def fn_SM_component (Z : zd) (w : wd) (x1 : Int32) (x2 : Bool) (x3 : Int32) (x4 : Int32) : (Int32 ⊕ String) × wd × zd := (if (fn_Ru_isComponent x1 x3 x4) = true then (if (w 1 2) < (16 : Int32) then (.inl (fn_Pl_addComponent w x1 x2 x3 x4).1, (fn_Pl_addComponent w x1 x2 x3 x4).2, Z) else (.inr "java/lang/IllegalStateException", w, Z)) else (.inr "java/lang/IllegalArgumentException", w, Z))
set_option maxHeartbeats 1600000 in
set_option maxRecDepth 100000 in
theorem c_SM_component {G : sm_G} {b : Nat} {M0 M : sm_M} {Z : zd} {w : wd} (hS : os_in G b M0 M w Z) (x1 : Int32) (x2 : Bool) (x3 : Int32) (x4 : Int32) {R : (Int32 ⊕ String) × wd × zd} (hf : fn_SM_component Z w x1 x2 x3 x4 = R) : sm_C G mf_SM_component [.ref (b + 0), .int x1, .int (bi x2), .int x3, .int x4] M (2 * (zc R.2.2 - zc Z) + os_e (oI R.1) 1) (2 * (zc R.2.2 - zc Z) + os_e (oI R.1) 6) (os_Q G b M (oI R.1) R.2.1 R.2.2) := by
  unfold fn_SM_component at hf
  have hS := hS.here
  refine sm_ofW rfl (Nat.le_of_ble_eq_true rfl) ?_
  refine sm_iload_n d_SM_component_0 rfl (j := 1) rfl ?_
  refine sm_iload_n d_SM_component_1 rfl (j := 3) rfl ?_
  refine sm_iload d_SM_component_2 (j := 4) rfl ?_
  refine sm_callSp d_SM_component_4 cs_SM_component_106 rfl (As := [.int x1, .int x3, .int x4]) rfl rfl (Nat.le_of_ble_eq_true rfl) (b_Ru_isComponent x1 x3 x4) ?_
  refine sm_if_ne (tgt := 20) d_SM_component_7 (by decide) (fun h1 => ?_) (fun h1 => ?_)
  · rw [if_pos (bi1 h1)] at hf
    refine sm_aload_n d_SM_component_20 rfl (j := 0) rfl ?_
    refine lo_get (v := .ref (b + 1)) d_SM_component_21 fg_SM_10 (os_I hS) cl_0 rfl ?_
    refine lo_get (v := .int (w 1 2)) d_SM_component_24 fg_SM_112 (os_I hS) cl_1 rfl ?_
    refine sm_bipush (v := 16) d_SM_component_27 (by decide) ?_
    refine sm_icmp_lt (tgt := 42) d_SM_component_29 (by decide) (fun h2 => ?_) (fun h2 => ?_)
    · rw [if_pos h2] at hf
      refine sm_aload_n d_SM_component_42 rfl (j := 0) rfl ?_
      refine lo_get (v := .ref (b + 1)) d_SM_component_43 fg_SM_10 (os_I hS) cl_0 rfl ?_
      refine sm_iload_n d_SM_component_46 rfl (j := 1) rfl ?_
      refine sm_iload_n d_SM_component_47 rfl (j := 2) rfl ?_
      refine sm_iload_n d_SM_component_48 rfl (j := 3) rfl ?_
      refine sm_iload d_SM_component_49 (j := 4) rfl ?_
      refine lo_callVm d_SM_component_51 cs_SM_component_117 rfl (os_I hS) cl_1 (As := [.int x1, .int (bi x2), .int x3, .int x4]) rfl rfl (Nat.le_of_ble_eq_true rfl) (c_Pl_addComponent (os_I hS) (os_Z hS) x1 x2 x3 x4) (fun M3 hI4 => ?_)
      have hS5 := os_mv hS hI4
      subst hf
      refine sm_ireturn d_SM_component_54 rfl (by rfl) ?_
      exact ⟨rfl, hS5⟩
    · rw [if_neg h2] at hf
      subst hf
      refine sm_throwS d_SM_component_32 d_SM_component_35 d_SM_component_36 d_SM_component_38 d_SM_component_41 th_SM_83_115 rfl (by decide) (by decide) (by show 1 ≤ _ + 1; exact Nat.le_add_left _ _) (by show 6 ≤ _ + 6; exact Nat.le_add_left _ _) (fun n9 hn9 => ⟨rfl, os_bump hS hn9⟩)
  · rw [if_neg (bi0 h1)] at hf
    subst hf
    refine sm_throwS d_SM_component_10 d_SM_component_13 d_SM_component_14 d_SM_component_16 d_SM_component_19 th_SM_65_110 rfl (by decide) (by decide) (by show 1 ≤ _ + 1; exact Nat.le_add_left _ _) (by show 6 ≤ _ + 6; exact Nat.le_add_left _ _) (fun n9 hn9 => ⟨rfl, os_bump hS hn9⟩)

def fn_SM_general (Z : zd) (w : wd) (x1 : Int32) (x2 : Int32) (x3 : Bool) (x4 : Bool) (x5 : Bool) : (Unit ⊕ String) × wd × zd := (if (fn_Ru_isOrder x1) = true then (if x2 < (1 : Int32) then (.inr "java/lang/IllegalArgumentException", w, Z) else (if x2 ≤ (255 : Int32) then (.inl (), (fn_Pl_setGeneral w x1 x2 x3 x4 x5), Z) else (.inr "java/lang/IllegalArgumentException", w, Z))) else (.inr "java/lang/IllegalArgumentException", w, Z))
set_option maxHeartbeats 1600000 in
set_option maxRecDepth 100000 in
theorem c_SM_general {G : sm_G} {b : Nat} {M0 M : sm_M} {Z : zd} {w : wd} (hS : os_in G b M0 M w Z) (x1 : Int32) (x2 : Int32) (x3 : Bool) (x4 : Bool) (x5 : Bool) {R : (Unit ⊕ String) × wd × zd} (hf : fn_SM_general Z w x1 x2 x3 x4 x5 = R) : sm_C G mf_SM_general [.ref (b + 0), .int x1, .int x2, .int (bi x3), .int (bi x4), .int (bi x5)] M (2 * (zc R.2.2 - zc Z) + os_e (oV R.1) 1) (2 * (zc R.2.2 - zc Z) + os_e (oV R.1) 6) (os_Q G b M (oV R.1) R.2.1 R.2.2) := by
  unfold fn_SM_general at hf
  have hS := hS.here
  refine sm_ofW rfl (Nat.le_of_ble_eq_true rfl) ?_
  refine sm_iload_n d_SM_general_0 rfl (j := 1) rfl ?_
  refine sm_callSp d_SM_general_1 cs_SM_general_121 rfl (As := [.int x1]) rfl rfl (Nat.le_of_ble_eq_true rfl) (b_Ru_isOrder x1) ?_
  refine sm_if_eq (tgt := 19) d_SM_general_4 (by decide) (fun h1 => ?_) (fun h1 => ?_)
  · rw [if_neg (bi0 h1)] at hf
    subst hf
    refine sm_throwS d_SM_general_19 d_SM_general_22 d_SM_general_23 d_SM_general_25 d_SM_general_28 th_SM_65_125 rfl (by decide) (by decide) (by show 1 ≤ _ + 1; exact Nat.le_add_left _ _) (by show 6 ≤ _ + 6; exact Nat.le_add_left _ _) (fun n9 hn9 => ⟨rfl, os_bump hS hn9⟩)
  · rw [if_pos (bi1 h1)] at hf
    refine sm_iload_n d_SM_general_7 rfl (j := 2) rfl ?_
    refine sm_iconst (v := 1) d_SM_general_8 (by decide) ?_
    refine sm_icmp_lt (tgt := 19) d_SM_general_9 (by decide) (fun h2 => ?_) (fun h2 => ?_)
    · rw [if_pos h2] at hf
      subst hf
      refine sm_throwS d_SM_general_19 d_SM_general_22 d_SM_general_23 d_SM_general_25 d_SM_general_28 th_SM_65_125 rfl (by decide) (by decide) (by show 1 ≤ _ + 1; exact Nat.le_add_left _ _) (by show 6 ≤ _ + 6; exact Nat.le_add_left _ _) (fun n9 hn9 => ⟨rfl, os_bump hS hn9⟩)
    · rw [if_neg h2] at hf
      refine sm_iload_n d_SM_general_12 rfl (j := 2) rfl ?_
      refine sm_sipush (v := 255) d_SM_general_13 (by decide) ?_
      refine sm_icmp_le (tgt := 29) d_SM_general_16 (by decide) (fun h3 => ?_) (fun h3 => ?_)
      · rw [if_pos h3] at hf
        refine sm_aload_n d_SM_general_29 rfl (j := 0) rfl ?_
        refine lo_get (v := .ref (b + 1)) d_SM_general_30 fg_SM_10 (os_I hS) cl_0 rfl ?_
        refine sm_iload_n d_SM_general_33 rfl (j := 1) rfl ?_
        refine sm_iload_n d_SM_general_34 rfl (j := 2) rfl ?_
        refine sm_iload_n d_SM_general_35 rfl (j := 3) rfl ?_
        refine sm_iload d_SM_general_36 (j := 4) rfl ?_
        refine sm_iload d_SM_general_38 (j := 5) rfl ?_
        refine lo_callVm d_SM_general_40 cs_SM_general_127 rfl (os_I hS) cl_1 (As := [.int x1, .int x2, .int (bi x3), .int (bi x4), .int (bi x5)]) rfl rfl (Nat.le_of_ble_eq_true rfl) (c_Pl_setGeneral (os_I hS) (os_Z hS) x1 x2 x3 x4 x5) (fun M4 hI5 => ?_)
        have hS6 := os_mv hS hI5
        subst hf
        refine sm_return d_SM_general_43 rfl ?_
        exact ⟨rfl, hS6⟩
      · rw [if_neg h3] at hf
        subst hf
        refine sm_throwS d_SM_general_19 d_SM_general_22 d_SM_general_23 d_SM_general_25 d_SM_general_28 th_SM_65_125 rfl (by decide) (by decide) (by show 1 ≤ _ + 1; exact Nat.le_add_left _ _) (by show 6 ≤ _ + 6; exact Nat.le_add_left _ _) (fun n9 hn9 => ⟨rfl, os_bump hS hn9⟩)

def fn_SM_coding (Z : zd) (w : wd) (x1 : Int32) (x2 : Int32) (x3 : Int32) (x4 : Int32) (x5 : Int32) (x6 : Bool) : (Unit ⊕ String) × wd × zd := (if (0 ≤ x1.toInt ∧ x1.toInt < (w 1 2).toInt) ∧ x1.toInt < 16 then (if (fn_Ru_isCoding x2 x3 x4 x5) = true then (.inl (), (fn_Cd_setBlocks w x1.toInt.toNat x2 x3 x4 x5 x6), Z) else (.inr "java/lang/IllegalArgumentException", w, Z)) else (.inr "java/util/NoSuchElementException", w, Z))
set_option maxHeartbeats 1600000 in
set_option maxRecDepth 100000 in
theorem c_SM_coding {G : sm_G} {b : Nat} {M0 M : sm_M} {Z : zd} {w : wd} (hS : os_in G b M0 M w Z) (x1 : Int32) (x2 : Int32) (x3 : Int32) (x4 : Int32) (x5 : Int32) (x6 : Bool) {R : (Unit ⊕ String) × wd × zd} (hf : fn_SM_coding Z w x1 x2 x3 x4 x5 x6 = R) : sm_C G mf_SM_coding [.ref (b + 0), .int x1, .int x2, .int x3, .int x4, .int x5, .int (bi x6)] M (2 * (zc R.2.2 - zc Z) + os_e (oV R.1) 1) (2 * (zc R.2.2 - zc Z) + os_e (oV R.1) 6) (os_Q G b M (oV R.1) R.2.1 R.2.2) := by
  unfold fn_SM_coding at hf
  have hS := hS.here
  refine sm_ofW rfl (Nat.le_of_ble_eq_true rfl) ?_
  refine sm_aload_n d_SM_coding_0 rfl (j := 0) rfl ?_
  refine sm_iload_n d_SM_coding_1 rfl (j := 1) rfl ?_
  by_cases h1 : (0 ≤ x1.toInt ∧ x1.toInt < (w 1 2).toInt) ∧ x1.toInt < 16
  · rw [if_pos h1] at hf
    refine os_callI d_SM_coding_2 cs_SM_coding_131 rfl hS cl_0 (As := [.int x1]) rfl rfl (Nat.le_of_ble_eq_true rfl) (c_SM_exT hS x1 h1) (fun M2 hS3 => ?_)
    refine lo_get (v := .ref (b + (6 + 6 * x1.toInt.toNat))) d_SM_coding_5 fg_SM_135 (os_I hS3) (cl_Cp (cm_c16 h1)) rfl ?_
    refine sm_astore d_SM_coding_8 (by decide) rfl ?_
    refine sm_iload_n d_SM_coding_10 rfl (j := 3) rfl ?_
    refine sm_iload_n d_SM_coding_11 rfl (j := 4) rfl ?_
    refine sm_iload d_SM_coding_12 (j := 5) rfl ?_
    refine sm_iload d_SM_coding_14 (j := 6) rfl ?_
    refine sm_callSp d_SM_coding_16 cs_SM_coding_141 rfl (As := [.int x2, .int x3, .int x4, .int x5]) rfl rfl (Nat.le_of_ble_eq_true rfl) (b_Ru_isCoding x2 x3 x4 x5) ?_
    refine sm_if_ne (tgt := 32) d_SM_coding_19 (by decide) (fun h4 => ?_) (fun h4 => ?_)
    · rw [if_pos (bi1 h4)] at hf
      refine sm_aload d_SM_coding_32 (j := 0) rfl ?_
      refine sm_iload_n d_SM_coding_34 rfl (j := 3) rfl ?_
      refine sm_iload_n d_SM_coding_35 rfl (j := 4) rfl ?_
      refine sm_iload d_SM_coding_36 (j := 5) rfl ?_
      refine sm_iload d_SM_coding_38 (j := 6) rfl ?_
      refine sm_iload d_SM_coding_40 (j := 7) rfl ?_
      refine lo_callVm d_SM_coding_42 cs_SM_coding_147 rfl (os_I hS3) (cl_Cd (cm_c16 h1)) (As := [.int x2, .int x3, .int x4, .int x5, .int (bi x6)]) rfl rfl (Nat.le_of_ble_eq_true rfl) (c_Cd_setBlocks (os_I hS3) (os_Z hS3) x1.toInt.toNat x2 x3 x4 x5 x6 (cm_c16 h1)) (fun M5 hI6 => ?_)
      have hS7 := os_mv hS3 hI6
      subst hf
      refine sm_return d_SM_coding_45 rfl ?_
      exact ⟨rfl, hS7⟩
    · rw [if_neg (bi0 h4)] at hf
      subst hf
      refine sm_throwS d_SM_coding_22 d_SM_coding_25 d_SM_coding_26 d_SM_coding_28 d_SM_coding_31 th_SM_65_145 rfl (by decide) (by decide) (by show 1 ≤ _ + 1; exact Nat.le_add_left _ _) (by show 6 ≤ _ + 6; exact Nat.le_add_left _ _) (fun n9 hn9 => ⟨rfl, os_bump hS3 hn9⟩)
  · rw [if_neg h1] at hf
    subst hf
    refine os_callX d_SM_coding_2 cs_SM_coding_131 rfl hS cl_0 (As := [.int x1]) rfl rfl (Nat.le_of_ble_eq_true rfl) (c_SM_exF hS x1 h1) (by show 1 ≤ _ + 1; exact Nat.le_add_left _ _) (by show 6 ≤ _ + 6; exact Nat.le_add_left _ _) (fun M2 hS3 => ⟨rfl, hS3⟩)

def fn_SM_precincts (Z : zd) (w : wd) (x1 : Int32) (x2 : Int32) (x3 : Int32) (x4 : Int32) : (Unit ⊕ String) × wd × zd := (if (0 ≤ x1.toInt ∧ x1.toInt < (w 1 2).toInt) ∧ x1.toInt < 16 then (if (fn_Ru_isPrecinct x2 x3 x4) = true then (.inl (), (fn_Cd_setPrecinct w x1.toInt.toNat x2 x3 x4), Z) else (.inr "java/lang/IllegalArgumentException", w, Z)) else (.inr "java/util/NoSuchElementException", w, Z))
set_option maxHeartbeats 1600000 in
set_option maxRecDepth 100000 in
theorem c_SM_precincts {G : sm_G} {b : Nat} {M0 M : sm_M} {Z : zd} {w : wd} (hS : os_in G b M0 M w Z) (x1 : Int32) (x2 : Int32) (x3 : Int32) (x4 : Int32) {R : (Unit ⊕ String) × wd × zd} (hf : fn_SM_precincts Z w x1 x2 x3 x4 = R) : sm_C G mf_SM_precincts [.ref (b + 0), .int x1, .int x2, .int x3, .int x4] M (2 * (zc R.2.2 - zc Z) + os_e (oV R.1) 1) (2 * (zc R.2.2 - zc Z) + os_e (oV R.1) 6) (os_Q G b M (oV R.1) R.2.1 R.2.2) := by
  unfold fn_SM_precincts at hf
  have hS := hS.here
  refine sm_ofW rfl (Nat.le_of_ble_eq_true rfl) ?_
  refine sm_aload_n d_SM_precincts_0 rfl (j := 0) rfl ?_
  refine sm_iload_n d_SM_precincts_1 rfl (j := 1) rfl ?_
  by_cases h1 : (0 ≤ x1.toInt ∧ x1.toInt < (w 1 2).toInt) ∧ x1.toInt < 16
  · rw [if_pos h1] at hf
    refine os_callI d_SM_precincts_2 cs_SM_precincts_131 rfl hS cl_0 (As := [.int x1]) rfl rfl (Nat.le_of_ble_eq_true rfl) (c_SM_exT hS x1 h1) (fun M2 hS3 => ?_)
    refine lo_get (v := .ref (b + (6 + 6 * x1.toInt.toNat))) d_SM_precincts_5 fg_SM_135 (os_I hS3) (cl_Cp (cm_c16 h1)) rfl ?_
    refine sm_astore d_SM_precincts_8 (by decide) rfl ?_
    refine sm_iload_n d_SM_precincts_10 rfl (j := 3) rfl ?_
    refine sm_iload_n d_SM_precincts_11 rfl (j := 4) rfl ?_
    refine sm_iload d_SM_precincts_12 (j := 5) rfl ?_
    refine sm_callSp d_SM_precincts_14 cs_SM_precincts_153 rfl (As := [.int x2, .int x3, .int x4]) rfl rfl (Nat.le_of_ble_eq_true rfl) (b_Ru_isPrecinct x2 x3 x4) ?_
    refine sm_if_ne (tgt := 30) d_SM_precincts_17 (by decide) (fun h4 => ?_) (fun h4 => ?_)
    · rw [if_pos (bi1 h4)] at hf
      refine sm_aload d_SM_precincts_30 (j := 0) rfl ?_
      refine sm_iload_n d_SM_precincts_32 rfl (j := 3) rfl ?_
      refine sm_iload_n d_SM_precincts_33 rfl (j := 4) rfl ?_
      refine sm_iload d_SM_precincts_34 (j := 5) rfl ?_
      refine lo_callVm d_SM_precincts_36 cs_SM_precincts_158 rfl (os_I hS3) (cl_Cd (cm_c16 h1)) (As := [.int x2, .int x3, .int x4]) rfl rfl (Nat.le_of_ble_eq_true rfl) (c_Cd_setPrecinct (os_I hS3) (os_Z hS3) x1.toInt.toNat x2 x3 x4 (cm_c16 h1)) (fun M5 hI6 => ?_)
      have hS7 := os_mv hS3 hI6
      subst hf
      refine sm_return d_SM_precincts_39 rfl ?_
      exact ⟨rfl, hS7⟩
    · rw [if_neg (bi0 h4)] at hf
      subst hf
      refine sm_throwS d_SM_precincts_20 d_SM_precincts_23 d_SM_precincts_24 d_SM_precincts_26 d_SM_precincts_29 th_SM_65_156 rfl (by decide) (by decide) (by show 1 ≤ _ + 1; exact Nat.le_add_left _ _) (by show 6 ≤ _ + 6; exact Nat.le_add_left _ _) (fun n9 hn9 => ⟨rfl, os_bump hS3 hn9⟩)
  · rw [if_neg h1] at hf
    subst hf
    refine os_callX d_SM_precincts_2 cs_SM_precincts_131 rfl hS cl_0 (As := [.int x1]) rfl rfl (Nat.le_of_ble_eq_true rfl) (c_SM_exF hS x1 h1) (by show 1 ≤ _ + 1; exact Nat.le_add_left _ _) (by show 6 ≤ _ + 6; exact Nat.le_add_left _ _) (fun M2 hS3 => ⟨rfl, hS3⟩)

def fn_SM_steps (Z : zd) (w : wd) (x1 : Int32) (x2 : Int32) (x3 : Int32) (x4 : Int32) : (Unit ⊕ String) × wd × zd := (if (0 ≤ x1.toInt ∧ x1.toInt < (w 1 2).toInt) ∧ x1.toInt < 16 then (if (fn_Ru_isStepping x2 x3) = true then (if (fn_Ru_isShift x4) = true then (.inl (), (up2 (up2 (up2 w (9 + 6 * x1.toInt.toNat) 0 x2) (9 + 6 * x1.toInt.toNat) 1 x3) (5 + 6 * x1.toInt.toNat) 4 x4), Z) else (.inr "java/lang/IllegalArgumentException", w, Z)) else (.inr "java/lang/IllegalArgumentException", w, Z)) else (.inr "java/util/NoSuchElementException", w, Z))
set_option maxHeartbeats 1600000 in
set_option maxRecDepth 100000 in
theorem c_SM_steps {G : sm_G} {b : Nat} {M0 M : sm_M} {Z : zd} {w : wd} (hS : os_in G b M0 M w Z) (x1 : Int32) (x2 : Int32) (x3 : Int32) (x4 : Int32) {R : (Unit ⊕ String) × wd × zd} (hf : fn_SM_steps Z w x1 x2 x3 x4 = R) : sm_C G mf_SM_steps [.ref (b + 0), .int x1, .int x2, .int x3, .int x4] M (2 * (zc R.2.2 - zc Z) + os_e (oV R.1) 1) (2 * (zc R.2.2 - zc Z) + os_e (oV R.1) 6) (os_Q G b M (oV R.1) R.2.1 R.2.2) := by
  unfold fn_SM_steps at hf
  have hS := hS.here
  refine sm_ofW rfl (Nat.le_of_ble_eq_true rfl) ?_
  refine sm_aload_n d_SM_steps_0 rfl (j := 0) rfl ?_
  refine sm_iload_n d_SM_steps_1 rfl (j := 1) rfl ?_
  by_cases h1 : (0 ≤ x1.toInt ∧ x1.toInt < (w 1 2).toInt) ∧ x1.toInt < 16
  · rw [if_pos h1] at hf
    refine os_callI d_SM_steps_2 cs_SM_steps_131 rfl hS cl_0 (As := [.int x1]) rfl rfl (Nat.le_of_ble_eq_true rfl) (c_SM_exT hS x1 h1) (fun M2 hS3 => ?_)
    refine sm_astore d_SM_steps_5 (by decide) rfl ?_
    refine sm_iload_n d_SM_steps_7 rfl (j := 3) rfl ?_
    refine sm_iload_n d_SM_steps_8 rfl (j := 4) rfl ?_
    refine sm_callSp d_SM_steps_9 cs_SM_steps_162 rfl (As := [.int x2, .int x3]) rfl rfl (Nat.le_of_ble_eq_true rfl) (b_Ru_isStepping x2 x3) ?_
    refine sm_if_eq (tgt := 23) d_SM_steps_12 (by decide) (fun h4 => ?_) (fun h4 => ?_)
    · rw [if_neg (bi0 h4)] at hf
      subst hf
      refine sm_throwS d_SM_steps_23 d_SM_steps_26 d_SM_steps_27 d_SM_steps_29 d_SM_steps_32 th_SM_65_169 rfl (by decide) (by decide) (by show 1 ≤ _ + 1; exact Nat.le_add_left _ _) (by show 6 ≤ _ + 6; exact Nat.le_add_left _ _) (fun n9 hn9 => ⟨rfl, os_bump hS3 hn9⟩)
    · rw [if_pos (bi1 h4)] at hf
      refine sm_iload d_SM_steps_15 (j := 5) rfl ?_
      refine sm_callSp d_SM_steps_17 cs_SM_steps_166 rfl (As := [.int x4]) rfl rfl (Nat.le_of_ble_eq_true rfl) (b_Ru_isShift x4) ?_
      refine sm_if_ne (tgt := 33) d_SM_steps_20 (by decide) (fun h5 => ?_) (fun h5 => ?_)
      · rw [if_pos (bi1 h5)] at hf
        refine sm_aload d_SM_steps_33 (j := 0) rfl ?_
        refine lo_get (v := .ref (b + (9 + 6 * x1.toInt.toNat))) d_SM_steps_35 fg_SM_171 (os_I hS3) (cl_Cp (cm_c16 h1)) rfl ?_
        refine sm_iload_n d_SM_steps_38 rfl (j := 3) rfl ?_
        refine lo_put d_SM_steps_39 fp_SM_175 (by decide) (os_I hS3) (cl_St (cm_c16 h1)) rfl (by rfl) (by rfl) (fun M6 hI7 => ?_)
        have hS8 := os_mv hS3 hI7
        refine sm_aload d_SM_steps_42 (j := 0) rfl ?_
        refine lo_get (v := .ref (b + (9 + 6 * x1.toInt.toNat))) d_SM_steps_44 fg_SM_171 (os_I hS8) (cl_Cp (cm_c16 h1)) rfl ?_
        refine sm_iload_n d_SM_steps_47 rfl (j := 4) rfl ?_
        refine lo_put d_SM_steps_48 fp_SM_180 (by decide) (os_I hS8) (cl_St (cm_c16 h1)) rfl (by rfl) (by rfl) (fun M9 hI10 => ?_)
        have hS11 := os_mv hS8 hI10
        refine sm_aload d_SM_steps_51 (j := 0) rfl ?_
        refine sm_iload d_SM_steps_53 (j := 5) rfl ?_
        refine lo_put d_SM_steps_55 fp_SM_183 (by decide) (os_I hS11) (cl_Cp (cm_c16 h1)) rfl (by rfl) (by rfl) (fun M12 hI13 => ?_)
        have hS14 := os_mv hS11 hI13
        subst hf
        refine sm_return d_SM_steps_58 rfl ?_
        exact ⟨rfl, hS14⟩
      · rw [if_neg (bi0 h5)] at hf
        subst hf
        refine sm_throwS d_SM_steps_23 d_SM_steps_26 d_SM_steps_27 d_SM_steps_29 d_SM_steps_32 th_SM_65_169 rfl (by decide) (by decide) (by show 1 ≤ _ + 1; exact Nat.le_add_left _ _) (by show 6 ≤ _ + 6; exact Nat.le_add_left _ _) (fun n9 hn9 => ⟨rfl, os_bump hS3 hn9⟩)
  · rw [if_neg h1] at hf
    subst hf
    refine os_callX d_SM_steps_2 cs_SM_steps_131 rfl hS cl_0 (As := [.int x1]) rfl rfl (Nat.le_of_ble_eq_true rfl) (c_SM_exF hS x1 h1) (by show 1 ≤ _ + 1; exact Nat.le_add_left _ _) (by show 6 ≤ _ + 6; exact Nat.le_add_left _ _) (fun M2 hS3 => ⟨rfl, hS3⟩)

def fn_SM_step (Z : zd) (w : wd) (x1 : Int32) (x2 : Int32) (x3 : Int32) : (Unit ⊕ String) × wd × zd := (if (0 ≤ x1.toInt ∧ x1.toInt < (w 1 2).toInt) ∧ x1.toInt < 16 then (if x2 < 0 then (.inr "java/lang/IllegalArgumentException", w, Z) else (if (97 : Int32) ≤ x2 then (.inr "java/lang/IllegalArgumentException", w, Z) else (if x3 < 0 then (.inr "java/lang/IllegalArgumentException", w, Z) else (if x3 ≤ (65535 : Int32) then (.inl (), (fn_St_setValue w x1.toInt.toNat x2 x3), Z) else (.inr "java/lang/IllegalArgumentException", w, Z))))) else (.inr "java/util/NoSuchElementException", w, Z))
set_option maxHeartbeats 1600000 in
set_option maxRecDepth 100000 in
theorem c_SM_step {G : sm_G} {b : Nat} {M0 M : sm_M} {Z : zd} {w : wd} (hS : os_in G b M0 M w Z) (x1 : Int32) (x2 : Int32) (x3 : Int32) {R : (Unit ⊕ String) × wd × zd} (hf : fn_SM_step Z w x1 x2 x3 = R) : sm_C G mf_SM_step [.ref (b + 0), .int x1, .int x2, .int x3] M (2 * (zc R.2.2 - zc Z) + os_e (oV R.1) 1) (2 * (zc R.2.2 - zc Z) + os_e (oV R.1) 6) (os_Q G b M (oV R.1) R.2.1 R.2.2) := by
  unfold fn_SM_step at hf
  have hS := hS.here
  refine sm_ofW rfl (Nat.le_of_ble_eq_true rfl) ?_
  refine sm_aload_n d_SM_step_0 rfl (j := 0) rfl ?_
  refine sm_iload_n d_SM_step_1 rfl (j := 1) rfl ?_
  by_cases h1 : (0 ≤ x1.toInt ∧ x1.toInt < (w 1 2).toInt) ∧ x1.toInt < 16
  · rw [if_pos h1] at hf
    refine os_callI d_SM_step_2 cs_SM_step_131 rfl hS cl_0 (As := [.int x1]) rfl rfl (Nat.le_of_ble_eq_true rfl) (c_SM_exT hS x1 h1) (fun M2 hS3 => ?_)
    refine lo_get (v := .ref (b + (9 + 6 * x1.toInt.toNat))) d_SM_step_5 fg_SM_171 (os_I hS3) (cl_Cp (cm_c16 h1)) rfl ?_
    refine sm_astore d_SM_step_8 (by decide) rfl ?_
    refine sm_iload_n d_SM_step_10 rfl (j := 3) rfl ?_
    refine sm_if_lt (tgt := 30) d_SM_step_11 (by decide) (fun h4 => ?_) (fun h4 => ?_)
    · rw [if_pos h4] at hf
      subst hf
      refine sm_throwS d_SM_step_30 d_SM_step_33 d_SM_step_34 d_SM_step_36 d_SM_step_39 th_SM_65_187 rfl (by decide) (by decide) (by show 1 ≤ _ + 1; exact Nat.le_add_left _ _) (by show 6 ≤ _ + 6; exact Nat.le_add_left _ _) (fun n9 hn9 => ⟨rfl, os_bump hS3 hn9⟩)
    · rw [if_neg h4] at hf
      refine sm_iload_n d_SM_step_14 rfl (j := 3) rfl ?_
      refine sm_bipush (v := 97) d_SM_step_15 (by decide) ?_
      refine sm_icmp_ge (tgt := 30) d_SM_step_17 (by decide) (fun h5 => ?_) (fun h5 => ?_)
      · rw [if_pos h5] at hf
        subst hf
        refine sm_throwS d_SM_step_30 d_SM_step_33 d_SM_step_34 d_SM_step_36 d_SM_step_39 th_SM_65_187 rfl (by decide) (by decide) (by show 1 ≤ _ + 1; exact Nat.le_add_left _ _) (by show 6 ≤ _ + 6; exact Nat.le_add_left _ _) (fun n9 hn9 => ⟨rfl, os_bump hS3 hn9⟩)
      · rw [if_neg h5] at hf
        refine sm_iload_n d_SM_step_20 rfl (j := 4) rfl ?_
        refine sm_if_lt (tgt := 30) d_SM_step_21 (by decide) (fun h6 => ?_) (fun h6 => ?_)
        · rw [if_pos h6] at hf
          subst hf
          refine sm_throwS d_SM_step_30 d_SM_step_33 d_SM_step_34 d_SM_step_36 d_SM_step_39 th_SM_65_187 rfl (by decide) (by decide) (by show 1 ≤ _ + 1; exact Nat.le_add_left _ _) (by show 6 ≤ _ + 6; exact Nat.le_add_left _ _) (fun n9 hn9 => ⟨rfl, os_bump hS3 hn9⟩)
        · rw [if_neg h6] at hf
          refine sm_iload_n d_SM_step_24 rfl (j := 4) rfl ?_
          refine sm_ldc (v := 65535) d_SM_step_25 mw_926 ?_
          refine sm_icmp_le (tgt := 40) d_SM_step_27 (by decide) (fun h7 => ?_) (fun h7 => ?_)
          · rw [if_pos h7] at hf
            refine sm_aload d_SM_step_40 (j := 0) rfl ?_
            refine sm_iload_n d_SM_step_42 rfl (j := 3) rfl ?_
            refine sm_iload_n d_SM_step_43 rfl (j := 4) rfl ?_
            refine lo_callVm d_SM_step_44 cs_SM_step_189 rfl (os_I hS3) (cl_St (cm_c16 h1)) (As := [.int x2, .int x3]) rfl rfl (Nat.le_of_ble_eq_true rfl) (c_St_setValue (os_I hS3) (os_Z hS3) x1.toInt.toNat x2 x3 (cm_c16 h1)) (fun M8 hI9 => ?_)
            have hS10 := os_mv hS3 hI9
            subst hf
            refine sm_return d_SM_step_47 rfl ?_
            exact ⟨rfl, hS10⟩
          · rw [if_neg h7] at hf
            subst hf
            refine sm_throwS d_SM_step_30 d_SM_step_33 d_SM_step_34 d_SM_step_36 d_SM_step_39 th_SM_65_187 rfl (by decide) (by decide) (by show 1 ≤ _ + 1; exact Nat.le_add_left _ _) (by show 6 ≤ _ + 6; exact Nat.le_add_left _ _) (fun n9 hn9 => ⟨rfl, os_bump hS3 hn9⟩)
  · rw [if_neg h1] at hf
    subst hf
    refine os_callX d_SM_step_2 cs_SM_step_131 rfl hS cl_0 (As := [.int x1]) rfl rfl (Nat.le_of_ble_eq_true rfl) (c_SM_exF hS x1 h1) (by show 1 ≤ _ + 1; exact Nat.le_add_left _ _) (by show 6 ≤ _ + 6; exact Nat.le_add_left _ _) (fun M2 hS3 => ⟨rfl, hS3⟩)

def fn_SM_change (Z : zd) (w : wd) (x1 : Int32) (x2 : Int32) (x3 : Int32) (x4 : Int32) (x5 : Int32) (x6 : Int32) : Option ((Int32 ⊕ String) × wd × zd) := (if (fn_Ru_isChange x1 x2 x3 x4 x5 x6) = true then (if (16 : Int32) < x5 then some (.inr "java/lang/IllegalArgumentException", w, Z) else (if x3 ≤ (255 : Int32) then (if (w 1 9) < (32 : Int32) then ((fn_Pl_addChange w x1 x2 x3 x4 x5 x6).bind fun r5 => some (.inl (r5 1 9), r5, Z)) else some (.inr "java/lang/IllegalStateException", w, Z)) else some (.inr "java/lang/IllegalArgumentException", w, Z))) else some (.inr "java/lang/IllegalArgumentException", w, Z))
set_option maxHeartbeats 1600000 in
set_option maxRecDepth 100000 in
theorem c_SM_change {G : sm_G} {b : Nat} {M0 M : sm_M} {Z : zd} {w : wd} (hS : os_in G b M0 M w Z) (x1 : Int32) (x2 : Int32) (x3 : Int32) (x4 : Int32) (x5 : Int32) (x6 : Int32) {R : (Int32 ⊕ String) × wd × zd} (hf : fn_SM_change Z w x1 x2 x3 x4 x5 x6 = some R) : sm_C G mf_SM_change [.ref (b + 0), .int x1, .int x2, .int x3, .int x4, .int x5, .int x6] M (2 * (zc R.2.2 - zc Z) + os_e (oI R.1) 1) (2 * (zc R.2.2 - zc Z) + os_e (oI R.1) 6) (os_Q G b M (oI R.1) R.2.1 R.2.2) := by
  unfold fn_SM_change at hf
  have hS := hS.here
  refine sm_ofW rfl (Nat.le_of_ble_eq_true rfl) ?_
  refine sm_iload_n d_SM_change_0 rfl (j := 1) rfl ?_
  refine sm_iload_n d_SM_change_1 rfl (j := 2) rfl ?_
  refine sm_iload_n d_SM_change_2 rfl (j := 3) rfl ?_
  refine sm_iload d_SM_change_3 (j := 4) rfl ?_
  refine sm_iload d_SM_change_5 (j := 5) rfl ?_
  refine sm_iload d_SM_change_7 (j := 6) rfl ?_
  refine sm_callSp d_SM_change_9 cs_SM_change_193 rfl (As := [.int x1, .int x2, .int x3, .int x4, .int x5, .int x6]) rfl rfl (Nat.le_of_ble_eq_true rfl) (b_Ru_isChange x1 x2 x3 x4 x5 x6) ?_
  refine sm_if_eq (tgt := 29) d_SM_change_12 (by decide) (fun h1 => ?_) (fun h1 => ?_)
  · rw [if_neg (bi0 h1)] at hf
    cases hf
    refine sm_throwS d_SM_change_29 d_SM_change_32 d_SM_change_33 d_SM_change_35 d_SM_change_38 th_SM_65_197 rfl (by decide) (by decide) (by show 1 ≤ _ + 1; exact Nat.le_add_left _ _) (by show 6 ≤ _ + 6; exact Nat.le_add_left _ _) (fun n9 hn9 => ⟨rfl, os_bump hS hn9⟩)
  · rw [if_pos (bi1 h1)] at hf
    refine sm_iload d_SM_change_15 (j := 5) rfl ?_
    refine sm_bipush (v := 16) d_SM_change_17 (by decide) ?_
    refine sm_icmp_gt (tgt := 29) d_SM_change_19 (by decide) (fun h2 => ?_) (fun h2 => ?_)
    · rw [if_pos h2] at hf
      cases hf
      refine sm_throwS d_SM_change_29 d_SM_change_32 d_SM_change_33 d_SM_change_35 d_SM_change_38 th_SM_65_197 rfl (by decide) (by decide) (by show 1 ≤ _ + 1; exact Nat.le_add_left _ _) (by show 6 ≤ _ + 6; exact Nat.le_add_left _ _) (fun n9 hn9 => ⟨rfl, os_bump hS hn9⟩)
    · rw [if_neg h2] at hf
      refine sm_iload_n d_SM_change_22 rfl (j := 3) rfl ?_
      refine sm_sipush (v := 255) d_SM_change_23 (by decide) ?_
      refine sm_icmp_le (tgt := 39) d_SM_change_26 (by decide) (fun h3 => ?_) (fun h3 => ?_)
      · rw [if_pos h3] at hf
        refine sm_aload_n d_SM_change_39 rfl (j := 0) rfl ?_
        refine lo_get (v := .ref (b + 1)) d_SM_change_40 fg_SM_10 (os_I hS) cl_0 rfl ?_
        refine lo_get (v := .int (w 1 9)) d_SM_change_43 fg_SM_199 (os_I hS) cl_1 rfl ?_
        refine sm_bipush (v := 32) d_SM_change_46 (by decide) ?_
        refine sm_icmp_lt (tgt := 61) d_SM_change_48 (by decide) (fun h4 => ?_) (fun h4 => ?_)
        · rw [if_pos h4] at hf
          refine sm_aload_n d_SM_change_61 rfl (j := 0) rfl ?_
          refine lo_get (v := .ref (b + 1)) d_SM_change_62 fg_SM_10 (os_I hS) cl_0 rfl ?_
          refine sm_iload_n d_SM_change_65 rfl (j := 1) rfl ?_
          refine sm_iload_n d_SM_change_66 rfl (j := 2) rfl ?_
          refine sm_iload_n d_SM_change_67 rfl (j := 3) rfl ?_
          refine sm_iload d_SM_change_68 (j := 4) rfl ?_
          refine sm_iload d_SM_change_70 (j := 5) rfl ?_
          refine sm_iload d_SM_change_72 (j := 6) rfl ?_
          replace hf := lo_bnd hf
          obtain ⟨r5, e6, hf⟩ := hf
          refine lo_callVm d_SM_change_74 cs_SM_change_204 rfl (os_I hS) cl_1 (As := [.int x1, .int x2, .int x3, .int x4, .int x5, .int x6]) rfl rfl (Nat.le_of_ble_eq_true rfl) (c_Pl_addChange (os_I hS) (os_Z hS) x1 x2 x3 x4 x5 x6 e6) (fun M7 hI8 => ?_)
          have hS9 := os_mv hS hI8
          refine sm_aload_n d_SM_change_77 rfl (j := 0) rfl ?_
          refine lo_get (v := .ref (b + 1)) d_SM_change_78 fg_SM_10 (os_I hS9) cl_0 rfl ?_
          refine lo_get (v := .int (r5 1 9)) d_SM_change_81 fg_SM_199 (os_I hS9) cl_1 rfl ?_
          cases hf
          refine sm_ireturn d_SM_change_84 rfl (by rfl) ?_
          exact ⟨rfl, hS9⟩
        · rw [if_neg h4] at hf
          cases hf
          refine sm_throwS d_SM_change_51 d_SM_change_54 d_SM_change_55 d_SM_change_57 d_SM_change_60 th_SM_83_202 rfl (by decide) (by decide) (by show 1 ≤ _ + 1; exact Nat.le_add_left _ _) (by show 6 ≤ _ + 6; exact Nat.le_add_left _ _) (fun n9 hn9 => ⟨rfl, os_bump hS hn9⟩)
      · rw [if_neg h3] at hf
        cases hf
        refine sm_throwS d_SM_change_29 d_SM_change_32 d_SM_change_33 d_SM_change_35 d_SM_change_38 th_SM_65_197 rfl (by decide) (by decide) (by show 1 ≤ _ + 1; exact Nat.le_add_left _ _) (by show 6 ≤ _ + 6; exact Nat.le_add_left _ _) (fun n9 hn9 => ⟨rfl, os_bump hS hn9⟩)

