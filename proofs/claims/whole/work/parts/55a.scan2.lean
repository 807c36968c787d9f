/-! Scanner: what changes the row of heads; written by wip/tools/cls2.py -/
def fn_Sc_begin (F : Nat) (Z : zd) (w : wd) : Option (wd × zd) := ((fn_Ps_forget F (up2 (up2 (up2 (up2 (up2 (up2 w 105 4 (0 : Int32)) 105 5 (0 : Int32)) 105 6 (nI Z.1.1.length)) 105 9 (0 : Int32)) 105 10 (0 : Int32)) 105 11 (0 : Int32)) (0 : Int32)).bind fun r21 => some ((fn_Pt_forgetAll r21), (zs3 Z ([], Z.2.2.2))))
set_option maxHeartbeats 1600000 in
set_option maxRecDepth 100000 in
theorem c_Sc_begin {G : sm_G} {b : Nat} {M0 M : sm_M} {Z : zd} {w : wd} {F : Nat} (hS : os_in G b M0 M w Z) {R : wd × zd} (hf : fn_Sc_begin F Z w = some R) : sm_C G mf_Sc_begin [.ref (b + 105)] M (2 * (zc R.2 - zc Z) + 0) (2 * (zc R.2 - zc Z) + 0) (os_Q G b M (.inl none) R.1 R.2) := by
  unfold fn_Sc_begin at hf
  have hS := hS.here
  refine sm_ofW rfl (Nat.le_of_ble_eq_true rfl) ?_
  refine sm_aload_n d_Sc_begin_0 rfl (j := 0) rfl ?_
  refine sm_iconst (v := 0) d_Sc_begin_1 (by decide) ?_
  refine lo_put d_Sc_begin_2 fp_Sc_39 (by decide) (os_I hS) cl_105 rfl (by rfl) (by rfl) (fun M1 hI2 => ?_)
  have hS3 := os_mv hS hI2
  refine sm_aload_n d_Sc_begin_5 rfl (j := 0) rfl ?_
  refine sm_iconst (v := 0) d_Sc_begin_6 (by decide) ?_
  refine lo_put d_Sc_begin_7 fp_Sc_50 (by decide) (os_I hS3) cl_105 rfl (by rfl) (by rfl) (fun M4 hI5 => ?_)
  have hS6 := os_mv hS3 hI5
  refine sm_aload_n d_Sc_begin_10 rfl (j := 0) rfl ?_
  refine sm_aload_n d_Sc_begin_11 rfl (j := 0) rfl ?_
  refine lo_get (v := .ref (b + 101)) d_Sc_begin_12 fg_Sc_32 (os_I hS6) cl_105 rfl ?_
  refine cm_cnt1 d_Sc_begin_15 fg_Sc_53 (os_I hS6) (os_Z hS6) ?_
  refine lo_put d_Sc_begin_18 fp_Sc_56 (by decide) (os_I hS6) cl_105 rfl (by rfl) (by rfl) (fun M7 hI8 => ?_)
  have hS9 := os_mv hS6 hI8
  refine sm_aload_n d_Sc_begin_21 rfl (j := 0) rfl ?_
  refine sm_iconst (v := 0) d_Sc_begin_22 (by decide) ?_
  refine lo_put d_Sc_begin_23 fp_Sc_59 (by decide) (os_I hS9) cl_105 rfl (by rfl) (by rfl) (fun M10 hI11 => ?_)
  have hS12 := os_mv hS9 hI11
  refine sm_aload_n d_Sc_begin_26 rfl (j := 0) rfl ?_
  refine sm_iconst (v := 0) d_Sc_begin_27 (by decide) ?_
  refine lo_put d_Sc_begin_28 fp_Sc_62 (by decide) (os_I hS12) cl_105 rfl (by rfl) (by rfl) (fun M13 hI14 => ?_)
  have hS15 := os_mv hS12 hI14
  refine sm_aload_n d_Sc_begin_31 rfl (j := 0) rfl ?_
  refine sm_iconst (v := 0) d_Sc_begin_32 (by decide) ?_
  refine lo_put d_Sc_begin_33 fp_Sc_65 (by decide) (os_I hS15) cl_105 rfl (by rfl) (by rfl) (fun M16 hI17 => ?_)
  have hS18 := os_mv hS15 hI17
  refine sm_aload_n d_Sc_begin_36 rfl (j := 0) rfl ?_
  refine lo_get (v := .ref (b + 106)) d_Sc_begin_37 fg_Sc_12 (os_I hS18) cl_105 rfl ?_
  refine os_setB3 d_Sc_begin_40 cs_Sc_begin_68 rfl hS18 (As := []) rfl rfl (Nat.le_of_ble_eq_true rfl) (fun q9 hq9 => c_Rw_clearAll hq9) (fun M19 hS20 => ?_)
  refine sm_aload_n d_Sc_begin_43 rfl (j := 0) rfl ?_
  refine lo_get (v := .ref (b + 108)) d_Sc_begin_44 fg_Sc_21 (os_I hS20) cl_105 rfl ?_
  refine sm_iconst (v := 0) d_Sc_begin_47 (by decide) ?_
  replace hf := lo_bnd hf
  obtain ⟨r21, e22, hf⟩ := hf
  refine lo_callVm d_Sc_begin_48 cs_Sc_begin_71 rfl (os_I hS20) cl_108 (As := [.int (0 : Int32)]) rfl rfl (Nat.le_of_ble_eq_true rfl) (c_Ps_forget (os_I hS20) (os_Z hS20) (0 : Int32) e22) (fun M23 hI24 => ?_)
  have hS25 := os_mv hS20 hI24
  refine sm_aload_n d_Sc_begin_51 rfl (j := 0) rfl ?_
  refine lo_get (v := .ref (b + 110)) d_Sc_begin_52 fg_Sc_28 (os_I hS25) cl_105 rfl ?_
  refine lo_callVm d_Sc_begin_55 cs_Sc_begin_75 rfl (os_I hS25) cl_110 (As := []) rfl rfl (Nat.le_of_ble_eq_true rfl) (c_Pt_forgetAll (os_I hS25) (os_Z hS25)) (fun M26 hI27 => ?_)
  have hS28 := os_mv hS25 hI27
  cases hf
  refine sm_return d_Sc_begin_58 rfl ?_
  exact ⟨rfl, hS28⟩

def fn_Sc_takeSegment (Z : zd) (w : wd) : Option (wd × zd) := (if (w 105 7) = (96 : Int32) then (if Z.2.2.1.length + (rw_rg Z.1.1 ((w 105 5) + (5 : Int32)) 0 ((w 105 8) - (3 : Int32)).toInt.toNat).length ≤ 65536 then (mchk (zs3 Z (rwp Z.2.2 (rw_rg Z.1.1 ((w 105 5) + (5 : Int32)) 0 ((w 105 8) - (3 : Int32)).toInt.toNat))) (fun R9 : wd × zd => R9.2) (some ((up2 w 105 11 ((w 105 11) + (1 : Int32))), (zs3 Z (rwp Z.2.2 (rw_rg Z.1.1 ((w 105 5) + (5 : Int32)) 0 ((w 105 8) - (3 : Int32)).toInt.toNat)))))) else none) else (if (w 105 7) = (97 : Int32) then (if Z.2.2.1.length + (rw_rg Z.1.1 ((w 105 5) + (5 : Int32)) 0 ((w 105 8) - (3 : Int32)).toInt.toNat).length ≤ 65536 then (mchk (zs3 Z (rwp Z.2.2 (rw_rg Z.1.1 ((w 105 5) + (5 : Int32)) 0 ((w 105 8) - (3 : Int32)).toInt.toNat))) (fun R9 : wd × zd => R9.2) (((fn_Pt_addHeadsToLast w ((w 105 8) - (3 : Int32))).bind fun r10 => some (r10, (zs3 Z (rwp Z.2.2 (rw_rg Z.1.1 ((w 105 5) + (5 : Int32)) 0 ((w 105 8) - (3 : Int32)).toInt.toNat))))))) else none) else some ((fn_Ps_keep w (fn_Sc_owner Z w) (w 105 7) (fn_Sc_toldComponent Z w) (w 105 5)), Z)))
set_option maxHeartbeats 1600000 in
set_option maxRecDepth 100000 in
theorem c_Sc_takeSegment {G : sm_G} {b : Nat} {M0 M : sm_M} {Z : zd} {w : wd} (hS : os_in G b M0 M w Z) {R : wd × zd} (hf : fn_Sc_takeSegment Z w = some R) : sm_C G mf_Sc_takeSegment [.ref (b + 105)] M (2 * (zc R.2 - zc Z) + 0) (2 * (zc R.2 - zc Z) + 0) (os_Q G b M (.inl none) R.1 R.2) := by
  unfold fn_Sc_takeSegment at hf
  have hS := hS.here
  refine sm_ofW rfl (Nat.le_of_ble_eq_true rfl) ?_
  refine sm_aload_n d_Sc_takeSegment_0 rfl (j := 0) rfl ?_
  refine lo_get (v := .int (w 105 7)) d_Sc_takeSegment_1 fg_Sc_97 (os_I hS) cl_105 rfl ?_
  refine sm_bipush (v := 96) d_Sc_takeSegment_4 (by decide) ?_
  refine sm_icmp_ne (tgt := 45) d_Sc_takeSegment_6 (by decide) (fun h1 => ?_) (fun h1 => ?_)
  · rw [if_neg h1] at hf
    refine sm_aload_n d_Sc_takeSegment_45 rfl (j := 0) rfl ?_
    refine lo_get (v := .int (w 105 7)) d_Sc_takeSegment_46 fg_Sc_97 (os_I hS) cl_105 rfl ?_
    refine sm_bipush (v := 97) d_Sc_takeSegment_49 (by decide) ?_
    refine sm_icmp_ne (tgt := 93) d_Sc_takeSegment_51 (by decide) (fun h2 => ?_) (fun h2 => ?_)
    · rw [if_neg h2] at hf
      refine sm_aload_n d_Sc_takeSegment_93 rfl (j := 0) rfl ?_
      refine lo_get (v := .ref (b + 108)) d_Sc_takeSegment_94 fg_Sc_21 (os_I hS) cl_105 rfl ?_
      refine sm_aload_n d_Sc_takeSegment_97 rfl (j := 0) rfl ?_
      refine lo_callV d_Sc_takeSegment_98 cs_Sc_takeSegment_94 rfl (os_I hS) cl_105 (As := []) rfl rfl (Nat.le_of_ble_eq_true rfl) (c_Sc_owner (os_I hS) (os_Z hS)) ?_
      refine sm_aload_n d_Sc_takeSegment_101 rfl (j := 0) rfl ?_
      refine lo_get (v := .int (w 105 7)) d_Sc_takeSegment_102 fg_Sc_97 (os_I hS) cl_105 rfl ?_
      refine sm_aload_n d_Sc_takeSegment_105 rfl (j := 0) rfl ?_
      refine lo_callV d_Sc_takeSegment_106 cs_Sc_takeSegment_100 rfl (os_I hS) cl_105 (As := []) rfl rfl (Nat.le_of_ble_eq_true rfl) (c_Sc_toldComponent (os_I hS) (os_Z hS)) ?_
      refine sm_aload_n d_Sc_takeSegment_109 rfl (j := 0) rfl ?_
      refine lo_get (v := .int (w 105 5)) d_Sc_takeSegment_110 fg_Sc_50 (os_I hS) cl_105 rfl ?_
      refine lo_callVm d_Sc_takeSegment_113 cs_Sc_takeSegment_260 rfl (os_I hS) cl_108 (As := [.int (fn_Sc_owner Z w), .int (w 105 7), .int (fn_Sc_toldComponent Z w), .int (w 105 5)]) rfl rfl (Nat.le_of_ble_eq_true rfl) (c_Ps_keep (os_I hS) (os_Z hS) (fn_Sc_owner Z w) (w 105 7) (fn_Sc_toldComponent Z w) (w 105 5)) (fun M3 hI4 => ?_)
      have hS5 := os_mv hS hI4
      cases hf
      refine sm_return d_Sc_takeSegment_116 rfl ?_
      exact ⟨rfl, hS5⟩
    · rw [if_pos h2] at hf
      refine sm_aload_n d_Sc_takeSegment_54 rfl (j := 0) rfl ?_
      refine lo_get (v := .ref (b + 106)) d_Sc_takeSegment_55 fg_Sc_12 (os_I hS) cl_105 rfl ?_
      refine sm_aload_n d_Sc_takeSegment_58 rfl (j := 0) rfl ?_
      refine lo_get (v := .ref (b + 101)) d_Sc_takeSegment_59 fg_Sc_32 (os_I hS) cl_105 rfl ?_
      refine sm_aload_n d_Sc_takeSegment_62 rfl (j := 0) rfl ?_
      refine lo_get (v := .int (w 105 5)) d_Sc_takeSegment_63 fg_Sc_50 (os_I hS) cl_105 rfl ?_
      refine sm_iconst (v := 5) d_Sc_takeSegment_66 (by decide) ?_
      refine sm_iadd d_Sc_takeSegment_67 ?_
      refine sm_aload_n d_Sc_takeSegment_68 rfl (j := 0) rfl ?_
      refine lo_get (v := .int (w 105 8)) d_Sc_takeSegment_69 fg_Sc_113 (os_I hS) cl_105 rfl ?_
      refine sm_iconst (v := 3) d_Sc_takeSegment_72 (by decide) ?_
      refine sm_isub d_Sc_takeSegment_73 ?_
      replace hf := lo_chk hf
      obtain ⟨g8, hf⟩ := hf
      replace hf := mchk_s hf
      obtain ⟨g9, hf⟩ := hf
      refine os_app3 d_Sc_takeSegment_74 cs_Sc_takeSegment_253 rfl hS (As := [.ref (b + 101), .int ((w 105 5) + (5 : Int32)), .int ((w 105 8) - (3 : Int32))]) rfl rfl (Nat.le_of_ble_eq_true rfl) (r_range31 hS ((w 105 5) + (5 : Int32)) ((w 105 8) - (3 : Int32)) g8) g9 (fun M6 hS7 => ?_)
      refine sm_aload_n d_Sc_takeSegment_77 rfl (j := 0) rfl ?_
      refine lo_get (v := .ref (b + 110)) d_Sc_takeSegment_78 fg_Sc_28 (os_I hS7) cl_105 rfl ?_
      refine sm_aload_n d_Sc_takeSegment_81 rfl (j := 0) rfl ?_
      refine lo_get (v := .int (w 105 8)) d_Sc_takeSegment_82 fg_Sc_113 (os_I hS7) cl_105 rfl ?_
      refine sm_iconst (v := 3) d_Sc_takeSegment_85 (by decide) ?_
      refine sm_isub d_Sc_takeSegment_86 ?_
      replace hf := lo_bnd hf
      obtain ⟨r10, e11, hf⟩ := hf
      refine lo_callVm d_Sc_takeSegment_87 cs_Sc_takeSegment_257 rfl (os_I hS7) cl_110 (As := [.int ((w 105 8) - (3 : Int32))]) rfl rfl (Nat.le_of_ble_eq_true rfl) (c_Pt_addHeadsToLast (os_I hS7) (os_Z hS7) ((w 105 8) - (3 : Int32)) e11) (fun M12 hI13 => ?_)
      have hS14 := os_mv hS7 hI13
      refine sm_goto (tgt := 116) d_Sc_takeSegment_90 (by decide) ?_
      cases hf
      refine sm_return d_Sc_takeSegment_116 rfl ?_
      exact ⟨rfl, hS14⟩
  · rw [if_pos h1] at hf
    refine sm_aload_n d_Sc_takeSegment_9 rfl (j := 0) rfl ?_
    refine lo_get (v := .ref (b + 106)) d_Sc_takeSegment_10 fg_Sc_12 (os_I hS) cl_105 rfl ?_
    refine sm_aload_n d_Sc_takeSegment_13 rfl (j := 0) rfl ?_
    refine lo_get (v := .ref (b + 101)) d_Sc_takeSegment_14 fg_Sc_32 (os_I hS) cl_105 rfl ?_
    refine sm_aload_n d_Sc_takeSegment_17 rfl (j := 0) rfl ?_
    refine lo_get (v := .int (w 105 5)) d_Sc_takeSegment_18 fg_Sc_50 (os_I hS) cl_105 rfl ?_
    refine sm_iconst (v := 5) d_Sc_takeSegment_21 (by decide) ?_
    refine sm_iadd d_Sc_takeSegment_22 ?_
    refine sm_aload_n d_Sc_takeSegment_23 rfl (j := 0) rfl ?_
    refine lo_get (v := .int (w 105 8)) d_Sc_takeSegment_24 fg_Sc_113 (os_I hS) cl_105 rfl ?_
    refine sm_iconst (v := 3) d_Sc_takeSegment_27 (by decide) ?_
    refine sm_isub d_Sc_takeSegment_28 ?_
    replace hf := lo_chk hf
    obtain ⟨g17, hf⟩ := hf
    replace hf := mchk_s hf
    obtain ⟨g18, hf⟩ := hf
    refine os_app3 d_Sc_takeSegment_29 cs_Sc_takeSegment_253 rfl hS (As := [.ref (b + 101), .int ((w 105 5) + (5 : Int32)), .int ((w 105 8) - (3 : Int32))]) rfl rfl (Nat.le_of_ble_eq_true rfl) (r_range31 hS ((w 105 5) + (5 : Int32)) ((w 105 8) - (3 : Int32)) g17) g18 (fun M15 hS16 => ?_)
    refine sm_aload_n d_Sc_takeSegment_32 rfl (j := 0) rfl ?_
    refine sm_dup d_Sc_takeSegment_33 rfl ?_
    refine lo_get (v := .int (w 105 11)) d_Sc_takeSegment_34 fg_Sc_65 (os_I hS16) cl_105 rfl ?_
    refine sm_iconst (v := 1) d_Sc_takeSegment_37 (by decide) ?_
    refine sm_iadd d_Sc_takeSegment_38 ?_
    refine lo_put d_Sc_takeSegment_39 fp_Sc_65 (by decide) (os_I hS16) cl_105 rfl (by rfl) (by rfl) (fun M19 hI20 => ?_)
    have hS21 := os_mv hS16 hI20
    refine sm_goto (tgt := 116) d_Sc_takeSegment_42 (by decide) ?_
    cases hf
    refine sm_return d_Sc_takeSegment_116 rfl ?_
    exact ⟨rfl, hS21⟩

def fn_Sc_takeMark_159 (F : Nat) (Z : zd) (w : wd) (x1 : Int32) : Option (wd × zd) := some ((up2 (up2 w 105 4 (5 : Int32)) 105 5 x1), Z)
set_option maxHeartbeats 1600000 in
set_option maxRecDepth 100000 in
theorem w_Sc_takeMark_159 {G : sm_G} {b : Nat} {M0 : sm_M} {R : wd × zd} {F : Nat} : ∀ (M : sm_M) (Z : zd) (w : wd) (x1 : Int32), os_in G b M0 M w Z → fn_Sc_takeMark_159 F Z w x1 = some R → sm_W G mf_Sc_takeMark 159 [(0, .ref (b + 105)), (1, .int x1)] [] M (2 * (zc R.2 - zc Z) + 0) (2 * (zc R.2 - zc Z) + 0) (os_Q G b M0 (.inl none) R.1 R.2) := by
  intro M Z w x1 hS  hf
  unfold fn_Sc_takeMark_159 at hf
  refine sm_aload_n d_Sc_takeMark_159 rfl (j := 0) rfl ?_
  refine sm_iconst (v := 5) d_Sc_takeMark_160 (by decide) ?_
  refine lo_put d_Sc_takeMark_161 fp_Sc_39 (by decide) (os_I hS) cl_105 rfl (by rfl) (by rfl) (fun M45 hI46 => ?_)
  have hS47 := os_mv hS hI46
  refine sm_goto (tgt := 171) d_Sc_takeMark_164 (by decide) ?_
  refine sm_aload_n d_Sc_takeMark_171 rfl (j := 0) rfl ?_
  refine sm_iload_n d_Sc_takeMark_172 rfl (j := 1) rfl ?_
  refine lo_put d_Sc_takeMark_173 fp_Sc_50 (by decide) (os_I hS47) cl_105 rfl (by rfl) (by rfl) (fun M48 hI49 => ?_)
  have hS50 := os_mv hS47 hI49
  cases hf
  refine sm_return d_Sc_takeMark_176 rfl ?_
  exact ⟨rfl, hS50⟩

def fn_Sc_takeMark (F : Nat) (Z : zd) (w : wd) : Option (wd × zd) := (if (w 105 7) = 79 then some ((up2 (up2 w 105 4 (1 : Int32)) 105 5 (((w 105 5) + (2 : Int32)) + (w 105 8))), Z) else (if (w 105 7) = 81 then some ((up2 (up2 (up2 (up2 w 105 9 (fn_Sc_told2 Z w (34 : Int32))) 105 10 ((fn_Sc_toldTiles Z (up2 w 105 9 (fn_Sc_told2 Z w (34 : Int32)))).toInt32)) 105 4 (2 : Int32)) 105 5 (((w 105 5) + (2 : Int32)) + (w 105 8))), Z) else (if (w 105 7) = 144 then ((fn_Sc_takePart F Z w).bind fun r22 => some ((up2 r22 105 5 (((w 105 5) + (2 : Int32)) + (w 105 8))), Z)) else (if (w 105 7) = 147 then some ((up2 (up2 (up2 (fn_Pt_setBytesOfLast w (((w 105 5) + (2 : Int32)) + (w 105 8)) ((w 105 6) - (((w 105 5) + (2 : Int32)) + (w 105 8)))) 105 6 (nI Z.1.1.length)) 105 4 (4 : Int32)) 105 5 ((fn_Pt_setBytesOfLast w (((w 105 5) + (2 : Int32)) + (w 105 8)) ((w 105 6) - (((w 105 5) + (2 : Int32)) + (w 105 8)))) 105 6)), Z) else (if (w 105 7) = 217 then (if (w 105 11) ≤ 0 then fn_Sc_takeMark_159 F Z w (((w 105 5) + (2 : Int32)) + (w 105 8)) else ((fn_Sc_dealHeads F Z w).bind fun r51 => fn_Sc_takeMark_159 F Z r51 (((w 105 5) + (2 : Int32)) + (w 105 8)))) else ((fn_Sc_takeSegment Z w).bind fun r56 => (if zc Z ≤ zc r56.2 then (mchk r56.2 (fun R9 : wd × zd => R9.2) (some ((up2 r56.1 105 5 (((w 105 5) + (2 : Int32)) + (w 105 8))), r56.2))) else none)))))))
set_option maxHeartbeats 1600000 in
set_option maxRecDepth 100000 in
theorem c_Sc_takeMark {G : sm_G} {b : Nat} {M0 M : sm_M} {Z : zd} {w : wd} {F : Nat} (hS : os_in G b M0 M w Z) {R : wd × zd} (hf : fn_Sc_takeMark F Z w = some R) : sm_C G mf_Sc_takeMark [.ref (b + 105)] M (2 * (zc R.2 - zc Z) + 0) (2 * (zc R.2 - zc Z) + 0) (os_Q G b M (.inl none) R.1 R.2) := by
  unfold fn_Sc_takeMark at hf
  have hS := hS.here
  refine sm_ofW rfl (Nat.le_of_ble_eq_true rfl) ?_
  refine sm_aload_n d_Sc_takeMark_0 rfl (j := 0) rfl ?_
  refine lo_get (v := .int (w 105 5)) d_Sc_takeMark_1 fg_Sc_50 (os_I hS) cl_105 rfl ?_
  refine sm_iconst (v := 2) d_Sc_takeMark_4 (by decide) ?_
  refine sm_iadd d_Sc_takeMark_5 ?_
  refine sm_aload_n d_Sc_takeMark_6 rfl (j := 0) rfl ?_
  refine lo_get (v := .int (w 105 8)) d_Sc_takeMark_7 fg_Sc_113 (os_I hS) cl_105 rfl ?_
  refine sm_iadd d_Sc_takeMark_10 ?_
  refine sm_istore_n d_Sc_takeMark_11 rfl (by decide) rfl ?_
  refine sm_aload_n d_Sc_takeMark_12 rfl (j := 1) rfl ?_
  refine lo_get (v := .int (w 105 7)) d_Sc_takeMark_13 fg_Sc_97 (os_I hS) cl_105 rfl ?_
  by_cases h1 : (w 105 7) = 79
  · rw [if_pos h1] at hf
    refine sm_lookup (tgt := 68) d_Sc_takeMark_16 (by decide) (by rw [h1] <;> rfl) (by decide) ?_
    refine sm_aload_n d_Sc_takeMark_68 rfl (j := 1) rfl ?_
    refine sm_iconst (v := 1) d_Sc_takeMark_69 (by decide) ?_
    refine lo_put d_Sc_takeMark_70 fp_Sc_39 (by decide) (os_I hS) cl_105 rfl (by rfl) (by rfl) (fun M2 hI3 => ?_)
    have hS4 := os_mv hS hI3
    refine sm_goto (tgt := 171) d_Sc_takeMark_73 (by decide) ?_
    refine sm_aload_n d_Sc_takeMark_171 rfl (j := 1) rfl ?_
    refine sm_iload_n d_Sc_takeMark_172 rfl (j := 0) rfl ?_
    refine lo_put d_Sc_takeMark_173 fp_Sc_50 (by decide) (os_I hS4) cl_105 rfl (by rfl) (by rfl) (fun M5 hI6 => ?_)
    have hS7 := os_mv hS4 hI6
    cases hf
    refine sm_return d_Sc_takeMark_176 rfl ?_
    exact ⟨rfl, hS7⟩
  · rw [if_neg h1] at hf
    by_cases h8 : (w 105 7) = 81
    · rw [if_pos h8] at hf
      refine sm_lookup (tgt := 76) d_Sc_takeMark_16 (by decide) (by rw [h8] <;> rfl) (by decide) ?_
      refine sm_aload_n d_Sc_takeMark_76 rfl (j := 1) rfl ?_
      refine sm_aload_n d_Sc_takeMark_77 rfl (j := 1) rfl ?_
      refine sm_bipush (v := 34) d_Sc_takeMark_78 (by decide) ?_
      refine lo_callV d_Sc_takeMark_80 cs_Sc_takeMark_136 rfl (os_I hS) cl_105 (As := [.int (34 : Int32)]) rfl rfl (Nat.le_of_ble_eq_true rfl) (c_Sc_told2 (os_I hS) (os_Z hS) (34 : Int32)) ?_
      refine lo_put d_Sc_takeMark_83 fp_Sc_59 (by decide) (os_I hS) cl_105 rfl (by rfl) (by rfl) (fun M9 hI10 => ?_)
      have hS11 := os_mv hS hI10
      refine sm_aload_n d_Sc_takeMark_86 rfl (j := 1) rfl ?_
      refine sm_aload_n d_Sc_takeMark_87 rfl (j := 1) rfl ?_
      refine lo_callV d_Sc_takeMark_88 cs_Sc_takeMark_156 rfl (os_I hS11) cl_105 (As := []) rfl rfl (Nat.le_of_ble_eq_true rfl) (c_Sc_toldTiles (os_I hS11) (os_Z hS11)) ?_
      refine sm_l2i d_Sc_takeMark_91 ?_
      refine lo_put d_Sc_takeMark_92 fp_Sc_62 (by decide) (os_I hS11) cl_105 rfl (by rfl) (by rfl) (fun M12 hI13 => ?_)
      have hS14 := os_mv hS11 hI13
      refine sm_aload_n d_Sc_takeMark_95 rfl (j := 1) rfl ?_
      refine sm_iconst (v := 2) d_Sc_takeMark_96 (by decide) ?_
      refine lo_put d_Sc_takeMark_97 fp_Sc_39 (by decide) (os_I hS14) cl_105 rfl (by rfl) (by rfl) (fun M15 hI16 => ?_)
      have hS17 := os_mv hS14 hI16
      refine sm_goto (tgt := 171) d_Sc_takeMark_100 (by decide) ?_
      refine sm_aload_n d_Sc_takeMark_171 rfl (j := 1) rfl ?_
      refine sm_iload_n d_Sc_takeMark_172 rfl (j := 0) rfl ?_
      refine lo_put d_Sc_takeMark_173 fp_Sc_50 (by decide) (os_I hS17) cl_105 rfl (by rfl) (by rfl) (fun M18 hI19 => ?_)
      have hS20 := os_mv hS17 hI19
      cases hf
      refine sm_return d_Sc_takeMark_176 rfl ?_
      exact ⟨rfl, hS20⟩
    · rw [if_neg h8] at hf
      by_cases h21 : (w 105 7) = 144
      · rw [if_pos h21] at hf
        refine sm_lookup (tgt := 103) d_Sc_takeMark_16 (by decide) (by rw [h21] <;> rfl) (by decide) ?_
        refine sm_aload_n d_Sc_takeMark_103 rfl (j := 1) rfl ?_
        replace hf := lo_bnd hf
        obtain ⟨r22, e23, hf⟩ := hf
        refine lo_callVm d_Sc_takeMark_104 cs_Sc_takeMark_233 rfl (os_I hS) cl_105 (As := []) rfl rfl (Nat.le_of_ble_eq_true rfl) (c_Sc_takePart (os_I hS) (os_Z hS) e23) (fun M24 hI25 => ?_)
        have hS26 := os_mv hS hI25
        refine sm_goto (tgt := 171) d_Sc_takeMark_107 (by decide) ?_
        refine sm_aload_n d_Sc_takeMark_171 rfl (j := 1) rfl ?_
        refine sm_iload_n d_Sc_takeMark_172 rfl (j := 0) rfl ?_
        refine lo_put d_Sc_takeMark_173 fp_Sc_50 (by decide) (os_I hS26) cl_105 rfl (by rfl) (by rfl) (fun M27 hI28 => ?_)
        have hS29 := os_mv hS26 hI28
        cases hf
        refine sm_return d_Sc_takeMark_176 rfl ?_
        exact ⟨rfl, hS29⟩
      · rw [if_neg h21] at hf
        by_cases h30 : (w 105 7) = 147
        · rw [if_pos h30] at hf
          refine sm_lookup (tgt := 110) d_Sc_takeMark_16 (by decide) (by rw [h30] <;> rfl) (by decide) ?_
          refine sm_aload_n d_Sc_takeMark_110 rfl (j := 1) rfl ?_
          refine lo_get (v := .ref (b + 110)) d_Sc_takeMark_111 fg_Sc_28 (os_I hS) cl_105 rfl ?_
          refine sm_iload_n d_Sc_takeMark_114 rfl (j := 0) rfl ?_
          refine sm_aload_n d_Sc_takeMark_115 rfl (j := 1) rfl ?_
          refine lo_get (v := .int (w 105 6)) d_Sc_takeMark_116 fg_Sc_56 (os_I hS) cl_105 rfl ?_
          refine sm_iload_n d_Sc_takeMark_119 rfl (j := 0) rfl ?_
          refine sm_isub d_Sc_takeMark_120 ?_
          refine lo_callVm d_Sc_takeMark_121 cs_Sc_takeMark_236 rfl (os_I hS) cl_110 (As := [.int (((w 105 5) + (2 : Int32)) + (w 105 8)), .int ((w 105 6) - (((w 105 5) + (2 : Int32)) + (w 105 8)))]) rfl rfl (Nat.le_of_ble_eq_true rfl) (c_Pt_setBytesOfLast (os_I hS) (os_Z hS) (((w 105 5) + (2 : Int32)) + (w 105 8)) ((w 105 6) - (((w 105 5) + (2 : Int32)) + (w 105 8)))) (fun M31 hI32 => ?_)
          have hS33 := os_mv hS hI32
          refine sm_aload_n d_Sc_takeMark_124 rfl (j := 1) rfl ?_
          refine lo_get (v := .int ((fn_Pt_setBytesOfLast w (((w 105 5) + (2 : Int32)) + (w 105 8)) ((w 105 6) - (((w 105 5) + (2 : Int32)) + (w 105 8)))) 105 6)) d_Sc_takeMark_125 fg_Sc_56 (os_I hS33) cl_105 rfl ?_
          refine sm_istore_n d_Sc_takeMark_128 rfl (by decide) rfl ?_
          refine sm_aload_n d_Sc_takeMark_129 rfl (j := 1) rfl ?_
          refine sm_aload_n d_Sc_takeMark_130 rfl (j := 1) rfl ?_
          refine lo_get (v := .ref (b + 101)) d_Sc_takeMark_131 fg_Sc_32 (os_I hS33) cl_105 rfl ?_
          refine cm_cnt1 d_Sc_takeMark_134 fg_Sc_53 (os_I hS33) (os_Z hS33) ?_
          refine lo_put d_Sc_takeMark_137 fp_Sc_56 (by decide) (os_I hS33) cl_105 rfl (by rfl) (by rfl) (fun M34 hI35 => ?_)
          have hS36 := os_mv hS33 hI35
          refine sm_aload_n d_Sc_takeMark_140 rfl (j := 1) rfl ?_
          refine sm_iconst (v := 4) d_Sc_takeMark_141 (by decide) ?_
          refine lo_put d_Sc_takeMark_142 fp_Sc_39 (by decide) (os_I hS36) cl_105 rfl (by rfl) (by rfl) (fun M37 hI38 => ?_)
          have hS39 := os_mv hS36 hI38
          refine sm_goto (tgt := 171) d_Sc_takeMark_145 (by decide) ?_
          refine sm_aload_n d_Sc_takeMark_171 rfl (j := 1) rfl ?_
          refine sm_iload_n d_Sc_takeMark_172 rfl (j := 0) rfl ?_
          refine lo_put d_Sc_takeMark_173 fp_Sc_50 (by decide) (os_I hS39) cl_105 rfl (by rfl) (by rfl) (fun M40 hI41 => ?_)
          have hS42 := os_mv hS39 hI41
          cases hf
          refine sm_return d_Sc_takeMark_176 rfl ?_
          exact ⟨rfl, hS42⟩
        · rw [if_neg h30] at hf
          by_cases h43 : (w 105 7) = 217
          · rw [if_pos h43] at hf
            refine sm_lookup (tgt := 148) d_Sc_takeMark_16 (by decide) (by rw [h43] <;> rfl) (by decide) ?_
            refine sm_aload_n d_Sc_takeMark_148 rfl (j := 1) rfl ?_
            refine lo_get (v := .int (w 105 11)) d_Sc_takeMark_149 fg_Sc_65 (os_I hS) cl_105 rfl ?_
            refine sm_if_le (tgt := 159) d_Sc_takeMark_152 (by decide) (fun h44 => ?_) (fun h44 => ?_)
            · rw [if_pos h44] at hf
              exact sm_pick [1, 0] (w_Sc_takeMark_159 _ _ _ _ hS hf) rfl
            · rw [if_neg h44] at hf
              refine sm_aload_n d_Sc_takeMark_155 rfl (j := 1) rfl ?_
              replace hf := lo_bnd hf
              obtain ⟨r51, e52, hf⟩ := hf
              refine lo_callVm d_Sc_takeMark_156 cs_Sc_takeMark_240 rfl (os_I hS) cl_105 (As := []) rfl rfl (Nat.le_of_ble_eq_true rfl) (c_Sc_dealHeads (os_I hS) (os_Z hS) e52) (fun M53 hI54 => ?_)
              have hS55 := os_mv hS hI54
              exact sm_pick [1, 0] (w_Sc_takeMark_159 _ _ _ _ hS55 hf) rfl
          · rw [if_neg h43] at hf
            refine sm_lookup (tgt := 167) d_Sc_takeMark_16 (by decide) (lo_offD (List.forall_mem_cons.mpr ⟨(fun e9 => h1 (sm_eqI.mpr (e9.symm.trans (by decide)))), List.forall_mem_cons.mpr ⟨(fun e9 => h8 (sm_eqI.mpr (e9.symm.trans (by decide)))), List.forall_mem_cons.mpr ⟨(fun e9 => h21 (sm_eqI.mpr (e9.symm.trans (by decide)))), List.forall_mem_cons.mpr ⟨(fun e9 => h30 (sm_eqI.mpr (e9.symm.trans (by decide)))), List.forall_mem_cons.mpr ⟨(fun e9 => h43 (sm_eqI.mpr (e9.symm.trans (by decide)))), List.forall_mem_nil _⟩⟩⟩⟩⟩)) (by decide) ?_
            refine sm_aload_n d_Sc_takeMark_167 rfl (j := 1) rfl ?_
            replace hf := lo_bnd hf
            obtain ⟨r56, e57, hf⟩ := hf
            replace hf := lo_chk hf
            obtain ⟨g58, hf⟩ := hf
            replace hf := mchk_s hf
            obtain ⟨g59, hf⟩ := hf
            refine os_callZ d_Sc_takeMark_168 cs_Sc_takeMark_243 rfl hS cl_105 (As := []) rfl rfl (Nat.le_of_ble_eq_true rfl) (c_Sc_takeSegment hS e57) g58 g59 (fun M60 hS61 => ?_)
            refine sm_aload_n d_Sc_takeMark_171 rfl (j := 1) rfl ?_
            refine sm_iload_n d_Sc_takeMark_172 rfl (j := 0) rfl ?_
            refine lo_put d_Sc_takeMark_173 fp_Sc_50 (by decide) (os_I hS61) cl_105 rfl (by rfl) (by rfl) (fun M62 hI63 => ?_)
            have hS64 := os_mv hS61 hI63
            cases hf
            refine sm_return d_Sc_takeMark_176 rfl ?_
            exact ⟨rfl, hS64⟩

def fn_Sc_refusal_39 (k8 : zd → wd → Int32 → Int32 → Option (Int32 × wd × zd)) (F : Nat) (Z : zd) (w : wd) (x1 : Int32) (x2 : Int32) : Option (Int32 × wd × zd) := k8 Z w x1 (x2 + 1)
set_option maxHeartbeats 1600000 in
set_option maxRecDepth 100000 in
theorem w_Sc_refusal_39 {G : sm_G} {b : Nat} {M0 : sm_M} {R : Int32 × wd × zd} {F : Nat} {k8 : zd → wd → Int32 → Int32 → Option (Int32 × wd × zd)} (hk8 : ∀ (M : sm_M) (Z : zd) (w : wd) (x1 : Int32) (x2 : Int32), os_in G b M0 M w Z → k8 Z w x1 x2 = some R → sm_W G mf_Sc_refusal 8 [(0, .ref (b + 105)), (1, .int x1), (2, .int x2)] [] M (2 * (zc R.2.2 - zc Z) + 0) (2 * (zc R.2.2 - zc Z) + 0) (os_Q G b M0 (.inl (some (.int R.1))) R.2.1 R.2.2)) : ∀ (M : sm_M) (Z : zd) (w : wd) (x1 : Int32) (x2 : Int32), os_in G b M0 M w Z → fn_Sc_refusal_39 k8 F Z w x1 x2 = some R → sm_W G mf_Sc_refusal 39 [(0, .ref (b + 105)), (1, .int x1), (2, .int x2)] [] M (2 * (zc R.2.2 - zc Z) + 0) (2 * (zc R.2.2 - zc Z) + 0) (os_Q G b M0 (.inl (some (.int R.1))) R.2.1 R.2.2) := by
  intro M Z w x1 x2 hS  hf
  unfold fn_Sc_refusal_39 at hf
  refine sm_iinc (v := (x2 + 1)) d_Sc_refusal_39 (j := 2) rfl rfl (by decide) rfl ?_
  refine sm_goto (tgt := 8) d_Sc_refusal_42 (by decide) ?_
  exact sm_pick [1, 2, 0] (hk8 _ _ _ _ _ hS hf) rfl

def fn_Sc_refusal_8 (F : Nat) : Nat → zd → wd → Int32 → Int32 → Option (Int32 × wd × zd)
 | 0, _, _, _, _ => none
 | n9 + 1, Z, w, x1, x2 => (if (65536 : Int32) < x2 then some (x1, w, Z) else (if x1 = 0 then (if (w 105 4) = (5 : Int32) then some (x1, w, Z) else ((fn_Sc_refusalHere F Z w).bind fun r10 => (if r10.1 = 0 then ((fn_Sc_takeMark F Z r10.2).bind fun r16 => (if zc Z ≤ zc r16.2 then (mchk r16.2 (fun R9 : Int32 × wd × zd => R9.2.2) (fn_Sc_refusal_39 (fn_Sc_refusal_8 F n9) F r16.2 r16.1 r10.1 x2)) else none)) else fn_Sc_refusal_39 (fn_Sc_refusal_8 F n9) F Z r10.2 r10.1 x2))) else some (x1, w, Z)))
set_option maxHeartbeats 1600000 in
set_option maxRecDepth 100000 in
theorem w_Sc_refusal_8 {G : sm_G} {b : Nat} {M0 : sm_M} {R : Int32 × wd × zd} {F : Nat} : ∀ (n9 : Nat), ∀ (M : sm_M) (Z : zd) (w : wd) (x1 : Int32) (x2 : Int32), os_in G b M0 M w Z → fn_Sc_refusal_8 F n9 Z w x1 x2 = some R → sm_W G mf_Sc_refusal 8 [(0, .ref (b + 105)), (1, .int x1), (2, .int x2)] [] M (2 * (zc R.2.2 - zc Z) + 0) (2 * (zc R.2.2 - zc Z) + 0) (os_Q G b M0 (.inl (some (.int R.1))) R.2.1 R.2.2) := by
  intro n9
  induction n9 with
  | zero => intro M Z w x1 x2 hS  hf; cases hf
  | succ n9 ih =>
    intro M Z w x1 x2 hS  hf
    rw [fn_Sc_refusal_8] at hf
    refine sm_iload_n d_Sc_refusal_8 rfl (j := 2) rfl ?_
    refine sm_ldc (v := 65536) d_Sc_refusal_9 mw_377 ?_
    refine sm_icmp_gt (tgt := 45) d_Sc_refusal_11 (by decide) (fun h7 => ?_) (fun h7 => ?_)
    · rw [if_pos h7] at hf
      refine sm_iload_n d_Sc_refusal_45 rfl (j := 1) rfl ?_
      cases hf
      refine sm_ireturn d_Sc_refusal_46 rfl (by rfl) ?_
      exact ⟨rfl, hS⟩
    · rw [if_neg h7] at hf
      refine sm_iload_n d_Sc_refusal_14 rfl (j := 1) rfl ?_
      refine sm_if_ne (tgt := 45) d_Sc_refusal_15 (by decide) (fun h8 => ?_) (fun h8 => ?_)
      · rw [if_neg h8] at hf
        refine sm_iload_n d_Sc_refusal_45 rfl (j := 1) rfl ?_
        cases hf
        refine sm_ireturn d_Sc_refusal_46 rfl (by rfl) ?_
        exact ⟨rfl, hS⟩
      · rw [if_pos h8] at hf
        refine sm_aload_n d_Sc_refusal_18 rfl (j := 0) rfl ?_
        refine lo_get (v := .int (w 105 4)) d_Sc_refusal_19 fg_Sc_39 (os_I hS) cl_105 rfl ?_
        refine sm_iconst (v := 5) d_Sc_refusal_22 (by decide) ?_
        refine sm_icmp_eq (tgt := 45) d_Sc_refusal_23 (by decide) (fun h9 => ?_) (fun h9 => ?_)
        · rw [if_pos h9] at hf
          refine sm_iload_n d_Sc_refusal_45 rfl (j := 1) rfl ?_
          cases hf
          refine sm_ireturn d_Sc_refusal_46 rfl (by rfl) ?_
          exact ⟨rfl, hS⟩
        · rw [if_neg h9] at hf
          refine sm_aload_n d_Sc_refusal_26 rfl (j := 0) rfl ?_
          replace hf := lo_bnd hf
          obtain ⟨r10, e11, hf⟩ := hf
          refine lo_callVm d_Sc_refusal_27 cs_Sc_refusal_43 rfl (os_I hS) cl_105 (As := []) rfl rfl (Nat.le_of_ble_eq_true rfl) (c_Sc_refusalHere (os_I hS) (os_Z hS) e11) (fun M12 hI13 => ?_)
          have hS14 := os_mv hS hI13
          refine sm_istore_n d_Sc_refusal_30 rfl (by decide) rfl ?_
          refine sm_iload_n d_Sc_refusal_31 rfl (j := 0) rfl ?_
          refine sm_if_ne (tgt := 39) d_Sc_refusal_32 (by decide) (fun h15 => ?_) (fun h15 => ?_)
          · rw [if_neg h15] at hf
            exact sm_pick [1, 0, 2] (w_Sc_refusal_39 ih _ _ _ _ _ hS14 hf) rfl
          · rw [if_pos h15] at hf
            refine sm_aload_n d_Sc_refusal_35 rfl (j := 1) rfl ?_
            replace hf := lo_bnd hf
            obtain ⟨r16, e17, hf⟩ := hf
            replace hf := lo_chk hf
            obtain ⟨g18, hf⟩ := hf
            replace hf := mchk_s hf
            obtain ⟨g19, hf⟩ := hf
            refine os_callZ d_Sc_refusal_36 cs_Sc_refusal_47 rfl hS14 cl_105 (As := []) rfl rfl (Nat.le_of_ble_eq_true rfl) (c_Sc_takeMark hS14 e17) g18 g19 (fun M20 hS21 => ?_)
            exact sm_pick [1, 0, 2] (w_Sc_refusal_39 ih _ _ _ _ _ hS21 hf) rfl

def fn_Sc_refusal (F : Nat) (Z : zd) (w : wd) : Option (Int32 × wd × zd) := ((fn_Sc_begin F Z w).bind fun r1 => (if zc Z ≤ zc r1.2 then (mchk r1.2 (fun R9 : Int32 × wd × zd => R9.2.2) (fn_Sc_refusal_8 F F r1.2 r1.1 (0 : Int32) (0 : Int32))) else none))
set_option maxHeartbeats 1600000 in
set_option maxRecDepth 100000 in
theorem c_Sc_refusal {G : sm_G} {b : Nat} {M0 M : sm_M} {Z : zd} {w : wd} {F : Nat} (hS : os_in G b M0 M w Z) {R : Int32 × wd × zd} (hf : fn_Sc_refusal F Z w = some R) : sm_C G mf_Sc_refusal [.ref (b + 105)] M (2 * (zc R.2.2 - zc Z) + 0) (2 * (zc R.2.2 - zc Z) + 0) (os_Q G b M (.inl (some (.int R.1))) R.2.1 R.2.2) := by
  unfold fn_Sc_refusal at hf
  have hS := hS.here
  refine sm_ofW rfl (Nat.le_of_ble_eq_true rfl) ?_
  refine sm_aload_n d_Sc_refusal_0 rfl (j := 0) rfl ?_
  replace hf := lo_bnd hf
  obtain ⟨r1, e2, hf⟩ := hf
  replace hf := lo_chk hf
  obtain ⟨g3, hf⟩ := hf
  replace hf := mchk_s hf
  obtain ⟨g4, hf⟩ := hf
  refine os_callZ d_Sc_refusal_1 cs_Sc_refusal_35 rfl hS cl_105 (As := []) rfl rfl (Nat.le_of_ble_eq_true rfl) (c_Sc_begin hS e2) g3 g4 (fun M5 hS6 => ?_)
  refine sm_iconst (v := 0) d_Sc_refusal_4 (by decide) ?_
  refine sm_istore_n d_Sc_refusal_5 rfl (by decide) rfl ?_
  refine sm_iconst (v := 0) d_Sc_refusal_6 (by decide) ?_
  refine sm_istore_n d_Sc_refusal_7 rfl (by decide) rfl ?_
  exact sm_pick [2, 1, 0] (w_Sc_refusal_8 _ _ _ _ _ _ hS6 hf) rfl

