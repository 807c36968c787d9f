/-! StreamMarksModel, on; written by wip/tools/model.py -/
def fn_Md_start (F : Nat) (w : wd) : Option (Int32 × wd) := ((fn_Md_isCut w (0 : Int32) (w 0 20)).bind fun r1 => (if r1 = true then some ((fn_Md_no w (1 : Int32) (0 : Int32)).1, (fn_Md_no w (1 : Int32) (0 : Int32)).2) else ((fn_Md_markAt w (0 : Int32)).bind fun r4 => (if r4 = (79 : Int32) then ((fn_Md_isCut w (2 : Int32) (w 0 20)).bind fun r7 => (if r7 = true then some ((fn_Md_no w (1 : Int32) (2 : Int32)).1, (fn_Md_no w (1 : Int32) (2 : Int32)).2) else ((fn_Md_markAt w (2 : Int32)).bind fun r10 => (if r10 = (81 : Int32) then ((fn_Md_look F w (81 : Int32) (2 : Int32) (-1 : Int32)).bind fun r13 => (if r13.1 = 0 then ((fn_Md_u2 r13.2 (40 : Int32)).bind fun r18 => ((fn_Md_u4 (up2 r13.2 0 35 r18) (32 : Int32)).bind fun r22 => ((fn_Md_u4 (up2 r13.2 0 35 r18) (8 : Int32)).bind fun r24 => ((fn_Md_u4 (up2 r13.2 0 35 r18) (24 : Int32)).bind fun r26 => ((fn_Md_across r22 r24 r26).bind fun r28 => ((fn_Md_u4 (up2 r13.2 0 35 r18) (36 : Int32)).bind fun r30 => ((fn_Md_u4 (up2 r13.2 0 35 r18) (12 : Int32)).bind fun r32 => ((fn_Md_u4 (up2 r13.2 0 35 r18) (28 : Int32)).bind fun r34 => ((fn_Md_across r30 r32 r34).bind fun r36 => ((fn_Md_u2 (up2 (up2 r13.2 0 35 r18) 0 34 ((r28 * r36).toInt32)) (4 : Int32)).bind fun r40 => some (r13.1, (up2 (up2 (up2 r13.2 0 35 r18) 0 34 ((r28 * r36).toInt32)) 0 36 ((4 : Int32) + r40))))))))))))) else some (r13.1, r13.2))) else some ((fn_Md_no w (2 : Int32) (2 : Int32)).1, (fn_Md_no w (2 : Int32) (2 : Int32)).2))))) else some ((fn_Md_no w (2 : Int32) (0 : Int32)).1, (fn_Md_no w (2 : Int32) (0 : Int32)).2)))))
set_option maxHeartbeats 1600000 in
set_option maxRecDepth 100000 in
theorem c_Md_start {G : sm_G} {b : Nat} {M0 M : sm_M}  {w : wd} {F : Nat} (hI : lo_in G md_L b M0 M w)  {R : Int32 × wd} (hf : fn_Md_start F w = some R) : sm_C G mf_Md_start [.ref (b + 0)] M 0 0 (wd_Q G md_L b M (some (.int R.1)) R.2) := by
  unfold fn_Md_start at hf
  have hI := hI.here
  refine sm_ofW rfl (Nat.le_of_ble_eq_true rfl) ?_
  refine sm_aload_n d_Md_start_0 rfl (j := 0) rfl ?_
  refine sm_iconst (v := 0) d_Md_start_1 (by decide) ?_
  refine sm_aload_n d_Md_start_2 rfl (j := 0) rfl ?_
  refine lo_get (v := .int (w 0 20)) d_Md_start_3 fg_Md_174 hI ml_0 rfl ?_
  obtain ⟨r1, e2, hf⟩ := lo_bnd hf
  refine lo_callV d_Md_start_6 cs_Md_start_297 rfl hI ml_0 (As := [.int (0 : Int32), .int (w 0 20)]) rfl rfl (Nat.le_of_ble_eq_true rfl) (c_Md_isCut hI (0 : Int32) (w 0 20) e2) ?_
  refine sm_if_eq (tgt := 19) d_Md_start_9 (by decide) (fun h3 => ?_) (fun h3 => ?_)
  · rw [if_neg (bi0 h3)] at hf
    refine sm_aload_n d_Md_start_19 rfl (j := 0) rfl ?_
    refine sm_iconst (v := 0) d_Md_start_20 (by decide) ?_
    obtain ⟨r4, e5, hf⟩ := lo_bnd hf
    refine lo_callV d_Md_start_21 cs_Md_start_300 rfl hI ml_0 (As := [.int (0 : Int32)]) rfl rfl (Nat.le_of_ble_eq_true rfl) (c_Md_markAt hI (0 : Int32) e5) ?_
    refine sm_bipush (v := 79) d_Md_start_24 (by decide) ?_
    refine sm_icmp_eq (tgt := 36) d_Md_start_26 (by decide) (fun h6 => ?_) (fun h6 => ?_)
    · rw [if_pos h6] at hf
      refine sm_aload_n d_Md_start_36 rfl (j := 0) rfl ?_
      refine sm_iconst (v := 2) d_Md_start_37 (by decide) ?_
      refine sm_aload_n d_Md_start_38 rfl (j := 0) rfl ?_
      refine lo_get (v := .int (w 0 20)) d_Md_start_39 fg_Md_174 hI ml_0 rfl ?_
      obtain ⟨r7, e8, hf⟩ := lo_bnd hf
      refine lo_callV d_Md_start_42 cs_Md_start_297 rfl hI ml_0 (As := [.int (2 : Int32), .int (w 0 20)]) rfl rfl (Nat.le_of_ble_eq_true rfl) (c_Md_isCut hI (2 : Int32) (w 0 20) e8) ?_
      refine sm_if_eq (tgt := 55) d_Md_start_45 (by decide) (fun h9 => ?_) (fun h9 => ?_)
      · rw [if_neg (bi0 h9)] at hf
        refine sm_aload_n d_Md_start_55 rfl (j := 0) rfl ?_
        refine sm_iconst (v := 2) d_Md_start_56 (by decide) ?_
        obtain ⟨r10, e11, hf⟩ := lo_bnd hf
        refine lo_callV d_Md_start_57 cs_Md_start_300 rfl hI ml_0 (As := [.int (2 : Int32)]) rfl rfl (Nat.le_of_ble_eq_true rfl) (c_Md_markAt hI (2 : Int32) e11) ?_
        refine sm_bipush (v := 81) d_Md_start_60 (by decide) ?_
        refine sm_icmp_eq (tgt := 72) d_Md_start_62 (by decide) (fun h12 => ?_) (fun h12 => ?_)
        · rw [if_pos h12] at hf
          refine sm_aload_n d_Md_start_72 rfl (j := 0) rfl ?_
          refine sm_bipush (v := 81) d_Md_start_73 (by decide) ?_
          refine sm_iconst (v := 2) d_Md_start_75 (by decide) ?_
          refine sm_iconst (v := -1) d_Md_start_76 (by decide) ?_
          obtain ⟨r13, e14, hf⟩ := lo_bnd hf
          refine lo_callVm d_Md_start_77 cs_Md_start_303 rfl hI ml_0 (As := [.int (81 : Int32), .int (2 : Int32), .int (-1 : Int32)]) rfl rfl (Nat.le_of_ble_eq_true rfl) (c_Md_look hI (81 : Int32) (2 : Int32) (-1 : Int32) e14) (fun M15 hI16 => ?_)
          refine sm_istore_n d_Md_start_80 rfl (by decide) rfl ?_
          refine sm_iload_n d_Md_start_81 rfl (j := 0) rfl ?_
          refine sm_if_ne (tgt := 154) d_Md_start_82 (by decide) (fun h17 => ?_) (fun h17 => ?_)
          · rw [if_neg h17] at hf
            refine sm_iload_n d_Md_start_154 rfl (j := 0) rfl ?_
            cases hf
            refine sm_ireturn d_Md_start_155 rfl (by rfl) ?_
            exact ⟨rfl, hI16⟩
          · rw [if_pos h17] at hf
            refine sm_aload_n d_Md_start_85 rfl (j := 1) rfl ?_
            refine sm_aload_n d_Md_start_86 rfl (j := 1) rfl ?_
            refine sm_bipush (v := 40) d_Md_start_87 (by decide) ?_
            obtain ⟨r18, e19, hf⟩ := lo_bnd hf
            refine lo_callV d_Md_start_89 cs_Md_start_230 rfl hI16 ml_0 (As := [.int (40 : Int32)]) rfl rfl (Nat.le_of_ble_eq_true rfl) (c_Md_u2 hI16 (40 : Int32) e19) ?_
            refine lo_put d_Md_start_92 fp_Md_259 (by decide) hI16 ml_0 rfl (by rfl) (by rfl) (fun M20 hI21 => ?_)
            refine sm_aload_n d_Md_start_95 rfl (j := 1) rfl ?_
            refine sm_aload_n d_Md_start_96 rfl (j := 1) rfl ?_
            refine sm_bipush (v := 32) d_Md_start_97 (by decide) ?_
            obtain ⟨r22, e23, hf⟩ := lo_bnd hf
            refine lo_callV d_Md_start_99 cs_Md_start_253 rfl hI21 ml_0 (As := [.int (32 : Int32)]) rfl rfl (Nat.le_of_ble_eq_true rfl) (c_Md_u4 hI21 (32 : Int32) e23) ?_
            refine sm_aload_n d_Md_start_102 rfl (j := 1) rfl ?_
            refine sm_bipush (v := 8) d_Md_start_103 (by decide) ?_
            obtain ⟨r24, e25, hf⟩ := lo_bnd hf
            refine lo_callV d_Md_start_105 cs_Md_start_253 rfl hI21 ml_0 (As := [.int (8 : Int32)]) rfl rfl (Nat.le_of_ble_eq_true rfl) (c_Md_u4 hI21 (8 : Int32) e25) ?_
            refine sm_aload_n d_Md_start_108 rfl (j := 1) rfl ?_
            refine sm_bipush (v := 24) d_Md_start_109 (by decide) ?_
            obtain ⟨r26, e27, hf⟩ := lo_bnd hf
            refine lo_callV d_Md_start_111 cs_Md_start_253 rfl hI21 ml_0 (As := [.int (24 : Int32)]) rfl rfl (Nat.le_of_ble_eq_true rfl) (c_Md_u4 hI21 (24 : Int32) e27) ?_
            obtain ⟨r28, e29, hf⟩ := lo_bnd hf
            refine sm_callSp d_Md_start_114 cs_Md_start_114 rfl (As := [.long r22, .long r24, .long r26]) rfl rfl (Nat.le_of_ble_eq_true rfl) (c_Md_across r22 r24 r26 e29) ?_
            refine sm_aload_n d_Md_start_117 rfl (j := 1) rfl ?_
            refine sm_bipush (v := 36) d_Md_start_118 (by decide) ?_
            obtain ⟨r30, e31, hf⟩ := lo_bnd hf
            refine lo_callV d_Md_start_120 cs_Md_start_253 rfl hI21 ml_0 (As := [.int (36 : Int32)]) rfl rfl (Nat.le_of_ble_eq_true rfl) (c_Md_u4 hI21 (36 : Int32) e31) ?_
            refine sm_aload_n d_Md_start_123 rfl (j := 1) rfl ?_
            refine sm_bipush (v := 12) d_Md_start_124 (by decide) ?_
            obtain ⟨r32, e33, hf⟩ := lo_bnd hf
            refine lo_callV d_Md_start_126 cs_Md_start_253 rfl hI21 ml_0 (As := [.int (12 : Int32)]) rfl rfl (Nat.le_of_ble_eq_true rfl) (c_Md_u4 hI21 (12 : Int32) e33) ?_
            refine sm_aload_n d_Md_start_129 rfl (j := 1) rfl ?_
            refine sm_bipush (v := 28) d_Md_start_130 (by decide) ?_
            obtain ⟨r34, e35, hf⟩ := lo_bnd hf
            refine lo_callV d_Md_start_132 cs_Md_start_253 rfl hI21 ml_0 (As := [.int (28 : Int32)]) rfl rfl (Nat.le_of_ble_eq_true rfl) (c_Md_u4 hI21 (28 : Int32) e35) ?_
            obtain ⟨r36, e37, hf⟩ := lo_bnd hf
            refine sm_callSp d_Md_start_135 cs_Md_start_114 rfl (As := [.long r30, .long r32, .long r34]) rfl rfl (Nat.le_of_ble_eq_true rfl) (c_Md_across r30 r32 r34 e37) ?_
            refine sm_lmul d_Md_start_138 ?_
            refine sm_l2i d_Md_start_139 ?_
            refine lo_put d_Md_start_140 fp_Md_306 (by decide) hI21 ml_0 rfl (by rfl) (by rfl) (fun M38 hI39 => ?_)
            refine sm_aload_n d_Md_start_143 rfl (j := 1) rfl ?_
            refine sm_iconst (v := 4) d_Md_start_144 (by decide) ?_
            refine sm_aload_n d_Md_start_145 rfl (j := 1) rfl ?_
            refine sm_iconst (v := 4) d_Md_start_146 (by decide) ?_
            obtain ⟨r40, e41, hf⟩ := lo_bnd hf
            refine lo_callV d_Md_start_147 cs_Md_start_230 rfl hI39 ml_0 (As := [.int (4 : Int32)]) rfl rfl (Nat.le_of_ble_eq_true rfl) (c_Md_u2 hI39 (4 : Int32) e41) ?_
            refine sm_iadd d_Md_start_150 ?_
            refine lo_put d_Md_start_151 fp_Md_180 (by decide) hI39 ml_0 rfl (by rfl) (by rfl) (fun M42 hI43 => ?_)
            refine sm_iload_n d_Md_start_154 rfl (j := 0) rfl ?_
            cases hf
            refine sm_ireturn d_Md_start_155 rfl (by rfl) ?_
            exact ⟨rfl, hI43⟩
        · rw [if_neg h12] at hf
          refine sm_aload_n d_Md_start_65 rfl (j := 0) rfl ?_
          refine sm_iconst (v := 2) d_Md_start_66 (by decide) ?_
          refine sm_iconst (v := 2) d_Md_start_67 (by decide) ?_
          refine lo_callVm d_Md_start_68 cs_Md_start_281 rfl hI ml_0 (As := [.int (2 : Int32), .int (2 : Int32)]) rfl rfl (Nat.le_of_ble_eq_true rfl) (c_Md_no hI (2 : Int32) (2 : Int32)) (fun M44 hI45 => ?_)
          cases hf
          refine sm_ireturn d_Md_start_71 rfl (by rfl) ?_
          exact ⟨rfl, hI45⟩
      · rw [if_pos (bi1 h9)] at hf
        refine sm_aload_n d_Md_start_48 rfl (j := 0) rfl ?_
        refine sm_iconst (v := 1) d_Md_start_49 (by decide) ?_
        refine sm_iconst (v := 2) d_Md_start_50 (by decide) ?_
        refine lo_callVm d_Md_start_51 cs_Md_start_281 rfl hI ml_0 (As := [.int (1 : Int32), .int (2 : Int32)]) rfl rfl (Nat.le_of_ble_eq_true rfl) (c_Md_no hI (1 : Int32) (2 : Int32)) (fun M46 hI47 => ?_)
        cases hf
        refine sm_ireturn d_Md_start_54 rfl (by rfl) ?_
        exact ⟨rfl, hI47⟩
    · rw [if_neg h6] at hf
      refine sm_aload_n d_Md_start_29 rfl (j := 0) rfl ?_
      refine sm_iconst (v := 2) d_Md_start_30 (by decide) ?_
      refine sm_iconst (v := 0) d_Md_start_31 (by decide) ?_
      refine lo_callVm d_Md_start_32 cs_Md_start_281 rfl hI ml_0 (As := [.int (2 : Int32), .int (0 : Int32)]) rfl rfl (Nat.le_of_ble_eq_true rfl) (c_Md_no hI (2 : Int32) (0 : Int32)) (fun M48 hI49 => ?_)
      cases hf
      refine sm_ireturn d_Md_start_35 rfl (by rfl) ?_
      exact ⟨rfl, hI49⟩
  · rw [if_pos (bi1 h3)] at hf
    refine sm_aload_n d_Md_start_12 rfl (j := 0) rfl ?_
    refine sm_iconst (v := 1) d_Md_start_13 (by decide) ?_
    refine sm_iconst (v := 0) d_Md_start_14 (by decide) ?_
    refine lo_callVm d_Md_start_15 cs_Md_start_281 rfl hI ml_0 (As := [.int (1 : Int32), .int (0 : Int32)]) rfl rfl (Nat.le_of_ble_eq_true rfl) (c_Md_no hI (1 : Int32) (0 : Int32)) (fun M50 hI51 => ?_)
    cases hf
    refine sm_ireturn d_Md_start_18 rfl (by rfl) ?_
    exact ⟨rfl, hI51⟩

def fn_Md_main_97 (k0 : wd → Option (Int32 × wd)) (F : Nat) (w : wd) (s0 : Int32) (s1 : Int32) : Option (Int32 × wd) := k0 (up2 w 0 36 (s1 + s0))
set_option maxHeartbeats 1600000 in
set_option maxRecDepth 100000 in
theorem w_Md_main_97 {G : sm_G} {b : Nat} {M0 : sm_M} {bc bs : Nat} {R : Int32 × wd} {F : Nat} {k0 : wd → Option (Int32 × wd)} (hk0 : ∀ (M : sm_M) (w : wd) , lo_in G md_L b M0 M w → k0 w = some R → sm_W G mf_Md_main 0 [(0, .ref (b + 0))] [] M bc bs (wd_Q G md_L b M0 (some (.int R.1)) R.2)) : ∀ (M : sm_M) (w : wd) (s0 : Int32) (s1 : Int32), lo_in G md_L b M0 M w → fn_Md_main_97 k0 F w s0 s1 = some R → sm_W G mf_Md_main 97 [(0, .ref (b + 0))] [.int s0, .int s1, .ref (b + 0)] M bc bs (wd_Q G md_L b M0 (some (.int R.1)) R.2) := by
  intro M w s0 s1 hI  hf
  unfold fn_Md_main_97 at hf
  refine sm_iadd d_Md_main_97 ?_
  refine lo_put d_Md_main_98 fp_Md_180 (by decide) hI ml_0 rfl (by rfl) (by rfl) (fun M15 hI16 => ?_)
  refine sm_goto (tgt := 0) d_Md_main_101 (by decide) ?_
  exact sm_pick [0] (hk0 _ _ hI16 hf) rfl

def fn_Md_main_0 (F : Nat) : Nat → wd → Option (Int32 × wd)
 | 0, _ => none
 | n9 + 1, w => ((fn_Md_isCut w (w 0 36) (w 0 20)).bind fun r1 => (if r1 = true then some ((fn_Md_no w (1 : Int32) (w 0 36)).1, (fn_Md_no w (1 : Int32) (w 0 36)).2) else ((fn_Md_markAt w (w 0 36)).bind fun r4 => (if r4 = (144 : Int32) then some ((0 : Int32), w) else (if r4 = (217 : Int32) then some ((0 : Int32), w) else (if (fn_Md_mayStand r4 (-1 : Int32)) = true then ((fn_Md_look F w r4 (w 0 36) (-1 : Int32)).bind fun r9 => (if r9.1 ≤ 0 then (if (fn_Md_hasLength r4) = true then ((fn_Md_u2 r9.2 ((w 0 36) + (2 : Int32))).bind fun r17 => fn_Md_main_97 (fn_Md_main_0 F n9) F r9.2 r17 ((w 0 36) + (2 : Int32))) else fn_Md_main_97 (fn_Md_main_0 F n9) F r9.2 (0 : Int32) ((w 0 36) + (2 : Int32))) else some (r9.1, r9.2))) else some ((fn_Md_no w (2 : Int32) (w 0 36)).1, (fn_Md_no w (2 : Int32) (w 0 36)).2)))))))
set_option maxHeartbeats 1600000 in
set_option maxRecDepth 100000 in
theorem w_Md_main_0 {G : sm_G} {b : Nat} {M0 : sm_M} {bc bs : Nat} {R : Int32 × wd} {F : Nat} : ∀ (n9 : Nat), ∀ (M : sm_M) (w : wd) , lo_in G md_L b M0 M w → fn_Md_main_0 F n9 w = some R → sm_W G mf_Md_main 0 [(0, .ref (b + 0))] [] M bc bs (wd_Q G md_L b M0 (some (.int R.1)) R.2) := by
  intro n9
  induction n9 with
  | zero => intro M w  hI  hf; cases hf
  | succ n9 ih =>
    intro M w  hI  hf
    rw [fn_Md_main_0] at hf
    refine sm_aload_n d_Md_main_0 rfl (j := 0) rfl ?_
    refine lo_get (v := .int (w 0 36)) d_Md_main_1 fg_Md_180 hI ml_0 rfl ?_
    refine sm_istore_n d_Md_main_4 rfl (by decide) rfl ?_
    refine sm_aload_n d_Md_main_5 rfl (j := 1) rfl ?_
    refine sm_iload_n d_Md_main_6 rfl (j := 0) rfl ?_
    refine sm_aload_n d_Md_main_7 rfl (j := 1) rfl ?_
    refine lo_get (v := .int (w 0 20)) d_Md_main_8 fg_Md_174 hI ml_0 rfl ?_
    obtain ⟨r1, e2, hf⟩ := lo_bnd hf
    refine lo_callV d_Md_main_11 cs_Md_main_297 rfl hI ml_0 (As := [.int (w 0 36), .int (w 0 20)]) rfl rfl (Nat.le_of_ble_eq_true rfl) (c_Md_isCut hI (w 0 36) (w 0 20) e2) ?_
    refine sm_if_eq (tgt := 24) d_Md_main_14 (by decide) (fun h3 => ?_) (fun h3 => ?_)
    · rw [if_neg (bi0 h3)] at hf
      refine sm_aload_n d_Md_main_24 rfl (j := 1) rfl ?_
      refine sm_iload_n d_Md_main_25 rfl (j := 0) rfl ?_
      obtain ⟨r4, e5, hf⟩ := lo_bnd hf
      refine lo_callV d_Md_main_26 cs_Md_main_300 rfl hI ml_0 (As := [.int (w 0 36)]) rfl rfl (Nat.le_of_ble_eq_true rfl) (c_Md_markAt hI (w 0 36) e5) ?_
      refine sm_istore_n d_Md_main_29 rfl (by decide) rfl ?_
      refine sm_iload_n d_Md_main_30 rfl (j := 0) rfl ?_
      refine sm_sipush (v := 144) d_Md_main_31 (by decide) ?_
      refine sm_icmp_eq (tgt := 44) d_Md_main_34 (by decide) (fun h6 => ?_) (fun h6 => ?_)
      · rw [if_pos h6] at hf
        refine sm_iconst (v := 0) d_Md_main_44 (by decide) ?_
        cases hf
        refine sm_ireturn d_Md_main_45 rfl (by rfl) ?_
        exact ⟨rfl, hI⟩
      · rw [if_neg h6] at hf
        refine sm_iload_n d_Md_main_37 rfl (j := 0) rfl ?_
        refine sm_sipush (v := 217) d_Md_main_38 (by decide) ?_
        refine sm_icmp_ne (tgt := 46) d_Md_main_41 (by decide) (fun h7 => ?_) (fun h7 => ?_)
        · rw [if_neg h7] at hf
          refine sm_iload_n d_Md_main_46 rfl (j := 0) rfl ?_
          refine sm_iconst (v := -1) d_Md_main_47 (by decide) ?_
          refine sm_callSp d_Md_main_48 cs_Md_main_309 rfl (As := [.int r4, .int (-1 : Int32)]) rfl rfl (Nat.le_of_ble_eq_true rfl) (c_Md_mayStand r4 (-1 : Int32)) ?_
          refine sm_if_ne (tgt := 61) d_Md_main_51 (by decide) (fun h8 => ?_) (fun h8 => ?_)
          · rw [if_pos (bi1 h8)] at hf
            refine sm_aload_n d_Md_main_61 rfl (j := 2) rfl ?_
            refine sm_iload_n d_Md_main_62 rfl (j := 0) rfl ?_
            refine sm_iload_n d_Md_main_63 rfl (j := 1) rfl ?_
            refine sm_iconst (v := -1) d_Md_main_64 (by decide) ?_
            obtain ⟨r9, e10, hf⟩ := lo_bnd hf
            refine lo_callVm d_Md_main_65 cs_Md_main_303 rfl hI ml_0 (As := [.int r4, .int (w 0 36), .int (-1 : Int32)]) rfl rfl (Nat.le_of_ble_eq_true rfl) (c_Md_look hI r4 (w 0 36) (-1 : Int32) e10) (fun M11 hI12 => ?_)
            refine sm_istore_n d_Md_main_68 rfl (by decide) rfl ?_
            refine sm_iload_n d_Md_main_69 rfl (j := 0) rfl ?_
            refine sm_if_le (tgt := 75) d_Md_main_70 (by decide) (fun h13 => ?_) (fun h13 => ?_)
            · rw [if_pos h13] at hf
              refine sm_aload_n d_Md_main_75 rfl (j := 3) rfl ?_
              refine sm_iload_n d_Md_main_76 rfl (j := 2) rfl ?_
              refine sm_iconst (v := 2) d_Md_main_77 (by decide) ?_
              refine sm_iadd d_Md_main_78 ?_
              refine sm_iload_n d_Md_main_79 rfl (j := 1) rfl ?_
              refine sm_callSp d_Md_main_80 cs_Md_main_236 rfl (As := [.int r4]) rfl rfl (Nat.le_of_ble_eq_true rfl) (c_Md_hasLength r4) ?_
              refine sm_if_eq (tgt := 96) d_Md_main_83 (by decide) (fun h14 => ?_) (fun h14 => ?_)
              · rw [if_neg (bi0 h14)] at hf
                refine sm_iconst (v := 0) d_Md_main_96 (by decide) ?_
                exact sm_pick [3] (w_Md_main_97 ih _ _ _ _ hI12 hf) rfl
              · rw [if_pos (bi1 h14)] at hf
                refine sm_aload_n d_Md_main_86 rfl (j := 3) rfl ?_
                refine sm_iload_n d_Md_main_87 rfl (j := 2) rfl ?_
                refine sm_iconst (v := 2) d_Md_main_88 (by decide) ?_
                refine sm_iadd d_Md_main_89 ?_
                obtain ⟨r17, e18, hf⟩ := lo_bnd hf
                refine lo_callV d_Md_main_90 cs_Md_main_230 rfl hI12 ml_0 (As := [.int ((w 0 36) + (2 : Int32))]) rfl rfl (Nat.le_of_ble_eq_true rfl) (c_Md_u2 hI12 ((w 0 36) + (2 : Int32)) e18) ?_
                refine sm_goto (tgt := 97) d_Md_main_93 (by decide) ?_
                exact sm_pick [3] (w_Md_main_97 ih _ _ _ _ hI12 hf) rfl
            · rw [if_neg h13] at hf
              refine sm_iload_n d_Md_main_73 rfl (j := 0) rfl ?_
              cases hf
              refine sm_ireturn d_Md_main_74 rfl (by rfl) ?_
              exact ⟨rfl, hI12⟩
          · rw [if_neg (bi0 h8)] at hf
            refine sm_aload_n d_Md_main_54 rfl (j := 2) rfl ?_
            refine sm_iconst (v := 2) d_Md_main_55 (by decide) ?_
            refine sm_iload_n d_Md_main_56 rfl (j := 1) rfl ?_
            refine lo_callVm d_Md_main_57 cs_Md_main_281 rfl hI ml_0 (As := [.int (2 : Int32), .int (w 0 36)]) rfl rfl (Nat.le_of_ble_eq_true rfl) (c_Md_no hI (2 : Int32) (w 0 36)) (fun M19 hI20 => ?_)
            cases hf
            refine sm_ireturn d_Md_main_60 rfl (by rfl) ?_
            exact ⟨rfl, hI20⟩
        · rw [if_pos h7] at hf
          refine sm_iconst (v := 0) d_Md_main_44 (by decide) ?_
          cases hf
          refine sm_ireturn d_Md_main_45 rfl (by rfl) ?_
          exact ⟨rfl, hI⟩
    · rw [if_pos (bi1 h3)] at hf
      refine sm_aload_n d_Md_main_17 rfl (j := 1) rfl ?_
      refine sm_iconst (v := 1) d_Md_main_18 (by decide) ?_
      refine sm_iload_n d_Md_main_19 rfl (j := 0) rfl ?_
      refine lo_callVm d_Md_main_20 cs_Md_main_281 rfl hI ml_0 (As := [.int (1 : Int32), .int (w 0 36)]) rfl rfl (Nat.le_of_ble_eq_true rfl) (c_Md_no hI (1 : Int32) (w 0 36)) (fun M21 hI22 => ?_)
      cases hf
      refine sm_ireturn d_Md_main_23 rfl (by rfl) ?_
      exact ⟨rfl, hI22⟩

def fn_Md_main (F : Nat) (w : wd) : Option (Int32 × wd) := fn_Md_main_0 F F w
set_option maxHeartbeats 1600000 in
set_option maxRecDepth 100000 in
theorem c_Md_main {G : sm_G} {b : Nat} {M0 M : sm_M}  {w : wd} {F : Nat} (hI : lo_in G md_L b M0 M w)  {R : Int32 × wd} (hf : fn_Md_main F w = some R) : sm_C G mf_Md_main [.ref (b + 0)] M 0 0 (wd_Q G md_L b M (some (.int R.1)) R.2) := by
  unfold fn_Md_main at hf
  have hI := hI.here
  refine sm_ofW rfl (Nat.le_of_ble_eq_true rfl) ?_
  exact sm_pick [0] (w_Md_main_0 _ _ _ hI hf) rfl

def fn_Md_partsOf_28 (k4 : wd → Int32 → Int32 → Int32 → Option (Int32)) (F : Nat) (w : wd) (x1 : Int32) (x3 : Int32) (s0 : Bool) (s1 : Int32) : Option (Int32) := k4 w x1 (s1 + (bi s0)) (x3 + 1)
set_option maxHeartbeats 1600000 in
set_option maxRecDepth 100000 in
theorem w_Md_partsOf_28 {G : sm_G} {b : Nat} {M0 : sm_M} {bc bs : Nat} {R : Int32} {F : Nat} {k4 : wd → Int32 → Int32 → Int32 → Option (Int32)} (hk4 : ∀ (w : wd) (x1 : Int32) (x2 : Int32) (x3 : Int32), lo_in G md_L b M0 M0 w → k4 w x1 x2 x3 = some R → sm_W G mf_Md_partsOf 4 [(0, .ref (b + 0)), (1, .int x1), (2, .int x2), (3, .int x3)] [] M0 bc bs (sm_pu M0 (.int R))) : ∀ (w : wd) (x1 : Int32) (x3 : Int32) (s0 : Bool) (s1 : Int32), lo_in G md_L b M0 M0 w → fn_Md_partsOf_28 k4 F w x1 x3 s0 s1 = some R → sm_W G mf_Md_partsOf 28 [(0, .ref (b + 0)), (1, .int x1), (3, .int x3)] [.int (bi s0), .int s1] M0 bc bs (sm_pu M0 (.int R)) := by
  intro w x1 x3 s0 s1 hI  hf
  unfold fn_Md_partsOf_28 at hf
  refine sm_iadd d_Md_partsOf_28 ?_
  refine sm_istore_n d_Md_partsOf_29 rfl (by decide) rfl ?_
  refine sm_iinc (v := (x3 + 1)) d_Md_partsOf_30 (j := 3) rfl rfl (by decide) rfl ?_
  refine sm_goto (tgt := 4) d_Md_partsOf_33 (by decide) ?_
  exact sm_pick [2, 3, 1, 0] (hk4 _ _ _ _ hI hf) rfl

def fn_Md_partsOf_4 (F : Nat) : Nat → wd → Int32 → Int32 → Int32 → Option (Int32)
 | 0, _, _, _, _ => none
 | n9 + 1, w, x1, x2, x3 => (if (w 0 28) ≤ x3 then some x2 else (if 0 ≤ x3.toInt ∧ x3.toInt < 256 then (if (w 16 x3.toInt.toNat) = x1 then fn_Md_partsOf_28 (fn_Md_partsOf_4 F n9) F w x1 x3 true x2 else fn_Md_partsOf_28 (fn_Md_partsOf_4 F n9) F w x1 x3 false x2) else none))
set_option maxHeartbeats 1600000 in
set_option maxRecDepth 100000 in
theorem w_Md_partsOf_4 {G : sm_G} {b : Nat} {M0 : sm_M} {bc bs : Nat} {R : Int32} {F : Nat} : ∀ (n9 : Nat), ∀ (w : wd) (x1 : Int32) (x2 : Int32) (x3 : Int32), lo_in G md_L b M0 M0 w → fn_Md_partsOf_4 F n9 w x1 x2 x3 = some R → sm_W G mf_Md_partsOf 4 [(0, .ref (b + 0)), (1, .int x1), (2, .int x2), (3, .int x3)] [] M0 bc bs (sm_pu M0 (.int R)) := by
  intro n9
  induction n9 with
  | zero => intro w x1 x2 x3 hI  hf; cases hf
  | succ n9 ih =>
    intro w x1 x2 x3 hI  hf
    rw [fn_Md_partsOf_4] at hf
    refine sm_iload_n d_Md_partsOf_4 rfl (j := 3) rfl ?_
    refine sm_aload_n d_Md_partsOf_5 rfl (j := 0) rfl ?_
    refine lo_get (v := .int (w 0 28)) d_Md_partsOf_6 fg_Md_312 hI ml_0 rfl ?_
    refine sm_icmp_ge (tgt := 36) d_Md_partsOf_9 (by decide) (fun h1 => ?_) (fun h1 => ?_)
    · rw [if_pos h1] at hf
      refine sm_iload_n d_Md_partsOf_36 rfl (j := 2) rfl ?_
      cases hf
      refine sm_ireturn d_Md_partsOf_37 rfl (by rfl) ?_
      exact ⟨rfl, rfl⟩
    · rw [if_neg h1] at hf
      refine sm_iload_n d_Md_partsOf_12 rfl (j := 2) rfl ?_
      refine sm_aload_n d_Md_partsOf_13 rfl (j := 0) rfl ?_
      refine lo_get (v := .ref (b + 16)) d_Md_partsOf_14 fg_Md_63 hI ml_0 rfl ?_
      refine sm_iload_n d_Md_partsOf_17 rfl (j := 3) rfl ?_
      obtain ⟨h2, hf⟩ := lo_chk hf
      refine lo_ald (j := x3.toInt.toNat) d_Md_partsOf_18 hI ml_16 h2 rfl ?_
      refine sm_iload_n d_Md_partsOf_19 rfl (j := 1) rfl ?_
      refine sm_icmp_ne (tgt := 27) d_Md_partsOf_20 (by decide) (fun h3 => ?_) (fun h3 => ?_)
      · rw [if_neg h3] at hf
        refine sm_iconst (v := 0) d_Md_partsOf_27 (by decide) ?_
        exact sm_pick [0, 1, 3] (w_Md_partsOf_28 ih _ _ _ _ _ hI hf) rfl
      · rw [if_pos h3] at hf
        refine sm_iconst (v := 1) d_Md_partsOf_23 (by decide) ?_
        refine sm_goto (tgt := 28) d_Md_partsOf_24 (by decide) ?_
        exact sm_pick [0, 1, 3] (w_Md_partsOf_28 ih _ _ _ _ _ hI hf) rfl

def fn_Md_partsOf (F : Nat) (w : wd) (x1 : Int32) : Option (Int32) := fn_Md_partsOf_4 F F w x1 (0 : Int32) (0 : Int32)
set_option maxHeartbeats 1600000 in
set_option maxRecDepth 100000 in
theorem c_Md_partsOf {G : sm_G} {b : Nat} {M0 M : sm_M}  {w : wd} {F : Nat} (hI : lo_in G md_L b M0 M w)  (x1 : Int32)  {R : Int32} (hf : fn_Md_partsOf F w x1 = some R) : sm_C G mf_Md_partsOf [.ref (b + 0), .int x1] M 0 0 (sm_pu M (.int R)) := by
  unfold fn_Md_partsOf at hf
  have hI := hI.here
  refine sm_ofW rfl (Nat.le_of_ble_eq_true rfl) ?_
  refine sm_iconst (v := 0) d_Md_partsOf_0 (by decide) ?_
  refine sm_istore_n d_Md_partsOf_1 rfl (by decide) rfl ?_
  refine sm_iconst (v := 0) d_Md_partsOf_2 (by decide) ?_
  refine sm_istore_n d_Md_partsOf_3 rfl (by decide) rfl ?_
  exact sm_pick [2, 3, 1, 0] (w_Md_partsOf_4 _ _ _ _ _ hI hf) rfl

def fn_Md_saidOf_41 (k4 : wd → Int32 → Int32 → Int32 → Option (Int32)) (F : Nat) (w : wd) (x1 : Int32) (x3 : Int32) (s0 : Int32) : Option (Int32) := k4 w x1 s0 (x3 + 1)
set_option maxHeartbeats 1600000 in
set_option maxRecDepth 100000 in
theorem w_Md_saidOf_41 {G : sm_G} {b : Nat} {M0 : sm_M} {bc bs : Nat} {R : Int32} {F : Nat} {k4 : wd → Int32 → Int32 → Int32 → Option (Int32)} (hk4 : ∀ (w : wd) (x1 : Int32) (x2 : Int32) (x3 : Int32), lo_in G md_L b M0 M0 w → k4 w x1 x2 x3 = some R → sm_W G mf_Md_saidOf 4 [(0, .ref (b + 0)), (1, .int x1), (2, .int x2), (3, .int x3)] [] M0 bc bs (sm_pu M0 (.int R))) : ∀ (w : wd) (x1 : Int32) (x3 : Int32) (s0 : Int32), lo_in G md_L b M0 M0 w → fn_Md_saidOf_41 k4 F w x1 x3 s0 = some R → sm_W G mf_Md_saidOf 41 [(0, .ref (b + 0)), (1, .int x1), (3, .int x3)] [.int s0] M0 bc bs (sm_pu M0 (.int R)) := by
  intro w x1 x3 s0 hI  hf
  unfold fn_Md_saidOf_41 at hf
  refine sm_istore_n d_Md_saidOf_41 rfl (by decide) rfl ?_
  refine sm_iinc (v := (x3 + 1)) d_Md_saidOf_42 (j := 3) rfl rfl (by decide) rfl ?_
  refine sm_goto (tgt := 4) d_Md_saidOf_45 (by decide) ?_
  exact sm_pick [2, 3, 1, 0] (hk4 _ _ _ _ hI hf) rfl

def fn_Md_saidOf_40 (k4 : wd → Int32 → Int32 → Int32 → Option (Int32)) (F : Nat) (w : wd) (x1 : Int32) (x2 : Int32) (x3 : Int32) : Option (Int32) := fn_Md_saidOf_41 k4 F w x1 x3 x2
set_option maxHeartbeats 1600000 in
set_option maxRecDepth 100000 in
theorem w_Md_saidOf_40 {G : sm_G} {b : Nat} {M0 : sm_M} {bc bs : Nat} {R : Int32} {F : Nat} {k4 : wd → Int32 → Int32 → Int32 → Option (Int32)} (hk4 : ∀ (w : wd) (x1 : Int32) (x2 : Int32) (x3 : Int32), lo_in G md_L b M0 M0 w → k4 w x1 x2 x3 = some R → sm_W G mf_Md_saidOf 4 [(0, .ref (b + 0)), (1, .int x1), (2, .int x2), (3, .int x3)] [] M0 bc bs (sm_pu M0 (.int R))) : ∀ (w : wd) (x1 : Int32) (x2 : Int32) (x3 : Int32), lo_in G md_L b M0 M0 w → fn_Md_saidOf_40 k4 F w x1 x2 x3 = some R → sm_W G mf_Md_saidOf 40 [(0, .ref (b + 0)), (1, .int x1), (2, .int x2), (3, .int x3)] [] M0 bc bs (sm_pu M0 (.int R)) := by
  intro w x1 x2 x3 hI  hf
  unfold fn_Md_saidOf_40 at hf
  refine sm_iload_n d_Md_saidOf_40 rfl (j := 2) rfl ?_
  exact sm_pick [0, 1, 3] (w_Md_saidOf_41 hk4 _ _ _ _ hI hf) rfl

def fn_Md_saidOf_4 (F : Nat) : Nat → wd → Int32 → Int32 → Int32 → Option (Int32)
 | 0, _, _, _, _ => none
 | n9 + 1, w, x1, x2, x3 => (if (w 0 28) ≤ x3 then some x2 else (if 0 ≤ x3.toInt ∧ x3.toInt < 256 then (if (w 16 x3.toInt.toNat) = x1 then (if 0 ≤ x3.toInt ∧ x3.toInt < 256 then (if (w 18 x3.toInt.toNat) ≤ 0 then fn_Md_saidOf_40 (fn_Md_saidOf_4 F n9) F w x1 x2 x3 else (if 0 ≤ x3.toInt ∧ x3.toInt < 256 then fn_Md_saidOf_41 (fn_Md_saidOf_4 F n9) F w x1 x3 (w 18 x3.toInt.toNat) else none)) else none) else fn_Md_saidOf_40 (fn_Md_saidOf_4 F n9) F w x1 x2 x3) else none))
set_option maxHeartbeats 1600000 in
set_option maxRecDepth 100000 in
theorem w_Md_saidOf_4 {G : sm_G} {b : Nat} {M0 : sm_M} {bc bs : Nat} {R : Int32} {F : Nat} : ∀ (n9 : Nat), ∀ (w : wd) (x1 : Int32) (x2 : Int32) (x3 : Int32), lo_in G md_L b M0 M0 w → fn_Md_saidOf_4 F n9 w x1 x2 x3 = some R → sm_W G mf_Md_saidOf 4 [(0, .ref (b + 0)), (1, .int x1), (2, .int x2), (3, .int x3)] [] M0 bc bs (sm_pu M0 (.int R)) := by
  intro n9
  induction n9 with
  | zero => intro w x1 x2 x3 hI  hf; cases hf
  | succ n9 ih =>
    intro w x1 x2 x3 hI  hf
    rw [fn_Md_saidOf_4] at hf
    refine sm_iload_n d_Md_saidOf_4 rfl (j := 3) rfl ?_
    refine sm_aload_n d_Md_saidOf_5 rfl (j := 0) rfl ?_
    refine lo_get (v := .int (w 0 28)) d_Md_saidOf_6 fg_Md_312 hI ml_0 rfl ?_
    refine sm_icmp_ge (tgt := 48) d_Md_saidOf_9 (by decide) (fun h1 => ?_) (fun h1 => ?_)
    · rw [if_pos h1] at hf
      refine sm_iload_n d_Md_saidOf_48 rfl (j := 2) rfl ?_
      cases hf
      refine sm_ireturn d_Md_saidOf_49 rfl (by rfl) ?_
      exact ⟨rfl, rfl⟩
    · rw [if_neg h1] at hf
      refine sm_aload_n d_Md_saidOf_12 rfl (j := 0) rfl ?_
      refine lo_get (v := .ref (b + 16)) d_Md_saidOf_13 fg_Md_63 hI ml_0 rfl ?_
      refine sm_iload_n d_Md_saidOf_16 rfl (j := 3) rfl ?_
      obtain ⟨h2, hf⟩ := lo_chk hf
      refine lo_ald (j := x3.toInt.toNat) d_Md_saidOf_17 hI ml_16 h2 rfl ?_
      refine sm_iload_n d_Md_saidOf_18 rfl (j := 1) rfl ?_
      refine sm_icmp_ne (tgt := 40) d_Md_saidOf_19 (by decide) (fun h3 => ?_) (fun h3 => ?_)
      · rw [if_neg h3] at hf
        exact sm_pick [0, 1, 2, 3] (w_Md_saidOf_40 ih _ _ _ _ hI hf) rfl
      · rw [if_pos h3] at hf
        refine sm_aload_n d_Md_saidOf_22 rfl (j := 0) rfl ?_
        refine lo_get (v := .ref (b + 18)) d_Md_saidOf_23 fg_Md_69 hI ml_0 rfl ?_
        refine sm_iload_n d_Md_saidOf_26 rfl (j := 3) rfl ?_
        obtain ⟨h4, hf⟩ := lo_chk hf
        refine lo_ald (j := x3.toInt.toNat) d_Md_saidOf_27 hI ml_18 h4 rfl ?_
        refine sm_if_le (tgt := 40) d_Md_saidOf_28 (by decide) (fun h5 => ?_) (fun h5 => ?_)
        · rw [if_pos h5] at hf
          exact sm_pick [0, 1, 2, 3] (w_Md_saidOf_40 ih _ _ _ _ hI hf) rfl
        · rw [if_neg h5] at hf
          refine sm_aload_n d_Md_saidOf_31 rfl (j := 0) rfl ?_
          refine lo_get (v := .ref (b + 18)) d_Md_saidOf_32 fg_Md_69 hI ml_0 rfl ?_
          refine sm_iload_n d_Md_saidOf_35 rfl (j := 3) rfl ?_
          obtain ⟨h6, hf⟩ := lo_chk hf
          refine lo_ald (j := x3.toInt.toNat) d_Md_saidOf_36 hI ml_18 h6 rfl ?_
          refine sm_goto (tgt := 41) d_Md_saidOf_37 (by decide) ?_
          exact sm_pick [0, 1, 3] (w_Md_saidOf_41 ih _ _ _ _ hI hf) rfl

def fn_Md_saidOf (F : Nat) (w : wd) (x1 : Int32) : Option (Int32) := fn_Md_saidOf_4 F F w x1 (0 : Int32) (0 : Int32)
set_option maxHeartbeats 1600000 in
set_option maxRecDepth 100000 in
theorem c_Md_saidOf {G : sm_G} {b : Nat} {M0 M : sm_M}  {w : wd} {F : Nat} (hI : lo_in G md_L b M0 M w)  (x1 : Int32)  {R : Int32} (hf : fn_Md_saidOf F w x1 = some R) : sm_C G mf_Md_saidOf [.ref (b + 0), .int x1] M 0 0 (sm_pu M (.int R)) := by
  unfold fn_Md_saidOf at hf
  have hI := hI.here
  refine sm_ofW rfl (Nat.le_of_ble_eq_true rfl) ?_
  refine sm_iconst (v := 0) d_Md_saidOf_0 (by decide) ?_
  refine sm_istore_n d_Md_saidOf_1 rfl (by decide) rfl ?_
  refine sm_iconst (v := 0) d_Md_saidOf_2 (by decide) ?_
  refine sm_istore_n d_Md_saidOf_3 rfl (by decide) rfl ?_
  exact sm_pick [2, 3, 1, 0] (w_Md_saidOf_4 _ _ _ _ _ hI hf) rfl

def fn_Md_isPart_71 (F : Nat) (w : wd) (x2 : Int32) (x5 : Int32) (x6 : Int32) (s0 : Bool) : Option (Bool) := (if s0 = true then (if x6 = 0 then some true else (if x6 ≤ x5 then some false else ((fn_Md_saidOf F w x2).bind fun r13 => (if r13 = 0 then some true else ((fn_Md_saidOf F w x2).bind fun r16 => (if r16 = x6 then some true else some false)))))) else some false)
set_option maxHeartbeats 1600000 in
set_option maxRecDepth 100000 in
theorem w_Md_isPart_71 {G : sm_G} {b : Nat} {M0 : sm_M} {bc bs : Nat} {R : Bool} {F : Nat} : ∀ (w : wd) (x2 : Int32) (x5 : Int32) (x6 : Int32) (s0 : Bool), lo_in G md_L b M0 M0 w → fn_Md_isPart_71 F w x2 x5 x6 s0 = some R → sm_W G mf_Md_isPart 71 [(0, .ref (b + 0)), (2, .int x2), (5, .int x5), (6, .int x6)] [.int (bi s0)] M0 bc bs (sm_pu M0 (.int (bi R))) := by
  intro w x2 x5 x6 s0 hI  hf
  unfold fn_Md_isPart_71 at hf
  refine sm_istore d_Md_isPart_71 (by decide) rfl ?_
  refine sm_iload d_Md_isPart_73 (j := 0) rfl ?_
  refine sm_if_eq (tgt := 112) d_Md_isPart_75 (by decide) (fun h10 => ?_) (fun h10 => ?_)
  · rw [if_neg (bi0 h10)] at hf
    refine sm_iconst (v := 0) d_Md_isPart_112 (by decide) ?_
    cases hf
    refine sm_ireturn d_Md_isPart_113 rfl (by rfl) ?_
    exact ⟨rfl, rfl⟩
  · rw [if_pos (bi1 h10)] at hf
    refine sm_iload d_Md_isPart_78 (j := 4) rfl ?_
    refine sm_if_eq (tgt := 108) d_Md_isPart_80 (by decide) (fun h11 => ?_) (fun h11 => ?_)
    · rw [if_pos h11] at hf
      refine sm_iconst (v := 1) d_Md_isPart_108 (by decide) ?_
      refine sm_goto (tgt := 113) d_Md_isPart_109 (by decide) ?_
      cases hf
      refine sm_ireturn d_Md_isPart_113 rfl (by rfl) ?_
      exact ⟨rfl, rfl⟩
    · rw [if_neg h11] at hf
      refine sm_iload d_Md_isPart_83 (j := 4) rfl ?_
      refine sm_iload d_Md_isPart_85 (j := 3) rfl ?_
      refine sm_icmp_le (tgt := 112) d_Md_isPart_87 (by decide) (fun h12 => ?_) (fun h12 => ?_)
      · rw [if_pos h12] at hf
        refine sm_iconst (v := 0) d_Md_isPart_112 (by decide) ?_
        cases hf
        refine sm_ireturn d_Md_isPart_113 rfl (by rfl) ?_
        exact ⟨rfl, rfl⟩
      · rw [if_neg h12] at hf
        refine sm_aload_n d_Md_isPart_90 rfl (j := 1) rfl ?_
        refine sm_iload_n d_Md_isPart_91 rfl (j := 2) rfl ?_
        obtain ⟨r13, e14, hf⟩ := lo_bnd hf
        refine lo_callV d_Md_isPart_92 cs_Md_isPart_318 rfl hI ml_0 (As := [.int x2]) rfl rfl (Nat.le_of_ble_eq_true rfl) (c_Md_saidOf hI x2 e14) ?_
        refine sm_if_eq (tgt := 108) d_Md_isPart_95 (by decide) (fun h15 => ?_) (fun h15 => ?_)
        · rw [if_pos h15] at hf
          refine sm_iconst (v := 1) d_Md_isPart_108 (by decide) ?_
          refine sm_goto (tgt := 113) d_Md_isPart_109 (by decide) ?_
          cases hf
          refine sm_ireturn d_Md_isPart_113 rfl (by rfl) ?_
          exact ⟨rfl, rfl⟩
        · rw [if_neg h15] at hf
          refine sm_aload_n d_Md_isPart_98 rfl (j := 1) rfl ?_
          refine sm_iload_n d_Md_isPart_99 rfl (j := 2) rfl ?_
          obtain ⟨r16, e17, hf⟩ := lo_bnd hf
          refine lo_callV d_Md_isPart_100 cs_Md_isPart_318 rfl hI ml_0 (As := [.int x2]) rfl rfl (Nat.le_of_ble_eq_true rfl) (c_Md_saidOf hI x2 e17) ?_
          refine sm_iload d_Md_isPart_103 (j := 4) rfl ?_
          refine sm_icmp_ne (tgt := 112) d_Md_isPart_105 (by decide) (fun h18 => ?_) (fun h18 => ?_)
          · rw [if_neg h18] at hf
            refine sm_iconst (v := 0) d_Md_isPart_112 (by decide) ?_
            cases hf
            refine sm_ireturn d_Md_isPart_113 rfl (by rfl) ?_
            exact ⟨rfl, rfl⟩
          · rw [if_pos h18] at hf
            refine sm_iconst (v := 1) d_Md_isPart_108 (by decide) ?_
            refine sm_goto (tgt := 113) d_Md_isPart_109 (by decide) ?_
            cases hf
            refine sm_ireturn d_Md_isPart_113 rfl (by rfl) ?_
            exact ⟨rfl, rfl⟩

def fn_Md_isPart_70 (F : Nat) (w : wd) (x2 : Int32) (x5 : Int32) (x6 : Int32) : Option (Bool) := fn_Md_isPart_71 F w x2 x5 x6 false
set_option maxHeartbeats 1600000 in
set_option maxRecDepth 100000 in
theorem w_Md_isPart_70 {G : sm_G} {b : Nat} {M0 : sm_M} {bc bs : Nat} {R : Bool} {F : Nat} : ∀ (w : wd) (x2 : Int32) (x5 : Int32) (x6 : Int32), lo_in G md_L b M0 M0 w → fn_Md_isPart_70 F w x2 x5 x6 = some R → sm_W G mf_Md_isPart 70 [(0, .ref (b + 0)), (2, .int x2), (5, .int x5), (6, .int x6)] [] M0 bc bs (sm_pu M0 (.int (bi R))) := by
  intro w x2 x5 x6 hI  hf
  unfold fn_Md_isPart_70 at hf
  refine sm_iconst (v := 0) d_Md_isPart_70 (by decide) ?_
  exact sm_pick [0, 1, 2, 3] (w_Md_isPart_71 _ _ _ _ _ hI hf) rfl

def fn_Md_isPart_66 (F : Nat) (w : wd) (x2 : Int32) (x5 : Int32) (x6 : Int32) : Option (Bool) := fn_Md_isPart_71 F w x2 x5 x6 true
set_option maxHeartbeats 1600000 in
set_option maxRecDepth 100000 in
theorem w_Md_isPart_66 {G : sm_G} {b : Nat} {M0 : sm_M} {bc bs : Nat} {R : Bool} {F : Nat} : ∀ (w : wd) (x2 : Int32) (x5 : Int32) (x6 : Int32), lo_in G md_L b M0 M0 w → fn_Md_isPart_66 F w x2 x5 x6 = some R → sm_W G mf_Md_isPart 66 [(0, .ref (b + 0)), (2, .int x2), (5, .int x5), (6, .int x6)] [] M0 bc bs (sm_pu M0 (.int (bi R))) := by
  intro w x2 x5 x6 hI  hf
  unfold fn_Md_isPart_66 at hf
  refine sm_iconst (v := 1) d_Md_isPart_66 (by decide) ?_
  refine sm_goto (tgt := 71) d_Md_isPart_67 (by decide) ?_
  exact sm_pick [0, 1, 2, 3] (w_Md_isPart_71 _ _ _ _ _ hI hf) rfl

def fn_Md_isPart (F : Nat) (w : wd) (x1 : Int32) : Option (Bool) := ((fn_Md_u2 w x1).bind fun r1 => ((fn_Md_u4 w (x1 + (2 : Int32))).bind fun r3 => ((fn_Md_u1 w (x1 + (6 : Int32))).bind fun r5 => ((fn_Md_u1 w (x1 + (7 : Int32))).bind fun r7 => (if (w 0 34) ≤ r1 then fn_Md_isPart_70 F w r1 r5 r7 else ((fn_Md_partsOf F w r1).bind fun r19 => (if r5 = r19 then (if r3 = (0 : Int64) then fn_Md_isPart_66 F w r1 r5 r7 else (if r3 < (14 : Int64) then fn_Md_isPart_70 F w r1 r5 r7 else fn_Md_isPart_66 F w r1 r5 r7)) else fn_Md_isPart_70 F w r1 r5 r7)))))))
set_option maxHeartbeats 1600000 in
set_option maxRecDepth 100000 in
theorem c_Md_isPart {G : sm_G} {b : Nat} {M0 M : sm_M}  {w : wd} {F : Nat} (hI : lo_in G md_L b M0 M w)  (x1 : Int32)  {R : Bool} (hf : fn_Md_isPart F w x1 = some R) : sm_C G mf_Md_isPart [.ref (b + 0), .int x1] M 0 0 (sm_pu M (.int (bi R))) := by
  unfold fn_Md_isPart at hf
  have hI := hI.here
  refine sm_ofW rfl (Nat.le_of_ble_eq_true rfl) ?_
  refine sm_aload_n d_Md_isPart_0 rfl (j := 0) rfl ?_
  refine sm_iload_n d_Md_isPart_1 rfl (j := 1) rfl ?_
  obtain ⟨r1, e2, hf⟩ := lo_bnd hf
  refine lo_callV d_Md_isPart_2 cs_Md_isPart_230 rfl hI ml_0 (As := [.int x1]) rfl rfl (Nat.le_of_ble_eq_true rfl) (c_Md_u2 hI x1 e2) ?_
  refine sm_istore_n d_Md_isPart_5 rfl (by decide) rfl ?_
  refine sm_aload_n d_Md_isPart_6 rfl (j := 1) rfl ?_
  refine sm_iload_n d_Md_isPart_7 rfl (j := 2) rfl ?_
  refine sm_iconst (v := 2) d_Md_isPart_8 (by decide) ?_
  refine sm_iadd d_Md_isPart_9 ?_
  obtain ⟨r3, e4, hf⟩ := lo_bnd hf
  refine lo_callV d_Md_isPart_10 cs_Md_isPart_253 rfl hI ml_0 (As := [.int (x1 + (2 : Int32))]) rfl rfl (Nat.le_of_ble_eq_true rfl) (c_Md_u4 hI (x1 + (2 : Int32)) e4) ?_
  refine sm_lstore_n d_Md_isPart_13 rfl (by decide) rfl ?_
  refine sm_aload_n d_Md_isPart_14 rfl (j := 2) rfl ?_
  refine sm_iload_n d_Md_isPart_15 rfl (j := 3) rfl ?_
  refine sm_bipush (v := 6) d_Md_isPart_16 (by decide) ?_
  refine sm_iadd d_Md_isPart_18 ?_
  obtain ⟨r5, e6, hf⟩ := lo_bnd hf
  refine lo_callV d_Md_isPart_19 cs_Md_isPart_233 rfl hI ml_0 (As := [.int (x1 + (6 : Int32))]) rfl rfl (Nat.le_of_ble_eq_true rfl) (c_Md_u1 hI (x1 + (6 : Int32)) e6) ?_
  refine sm_istore d_Md_isPart_22 (by decide) rfl ?_
  refine sm_aload_n d_Md_isPart_24 rfl (j := 3) rfl ?_
  refine sm_iload_n d_Md_isPart_25 rfl (j := 4) rfl ?_
  refine sm_bipush (v := 7) d_Md_isPart_26 (by decide) ?_
  refine sm_iadd d_Md_isPart_28 ?_
  obtain ⟨r7, e8, hf⟩ := lo_bnd hf
  refine lo_callV d_Md_isPart_29 cs_Md_isPart_233 rfl hI ml_0 (As := [.int (x1 + (7 : Int32))]) rfl rfl (Nat.le_of_ble_eq_true rfl) (c_Md_u1 hI (x1 + (7 : Int32)) e8) ?_
  refine sm_istore d_Md_isPart_32 (by decide) rfl ?_
  refine sm_iload_n d_Md_isPart_34 rfl (j := 3) rfl ?_
  refine sm_aload_n d_Md_isPart_35 rfl (j := 4) rfl ?_
  refine lo_get (v := .int (w 0 34)) d_Md_isPart_36 fg_Md_306 hI ml_0 rfl ?_
  refine sm_icmp_ge (tgt := 70) d_Md_isPart_39 (by decide) (fun h9 => ?_) (fun h9 => ?_)
  · rw [if_pos h9] at hf
    exact sm_pick [4, 3, 1, 0] (w_Md_isPart_70 _ _ _ _ hI hf) rfl
  · rw [if_neg h9] at hf
    refine sm_iload d_Md_isPart_42 (j := 1) rfl ?_
    refine sm_aload_n d_Md_isPart_44 rfl (j := 4) rfl ?_
    refine sm_iload_n d_Md_isPart_45 rfl (j := 3) rfl ?_
    obtain ⟨r19, e20, hf⟩ := lo_bnd hf
    refine lo_callV d_Md_isPart_46 cs_Md_isPart_315 rfl hI ml_0 (As := [.int r1]) rfl rfl (Nat.le_of_ble_eq_true rfl) (c_Md_partsOf hI r1 e20) ?_
    refine sm_icmp_ne (tgt := 70) d_Md_isPart_49 (by decide) (fun h21 => ?_) (fun h21 => ?_)
    · rw [if_neg h21] at hf
      exact sm_pick [4, 3, 1, 0] (w_Md_isPart_70 _ _ _ _ hI hf) rfl
    · rw [if_pos h21] at hf
      refine sm_lload_n d_Md_isPart_52 rfl (j := 2) rfl ?_
      refine sm_lconst (v := 0) d_Md_isPart_53 (by decide) ?_
      refine sm_lcmp d_Md_isPart_54 ?_
      refine sm_if_eq (tgt := 66) d_Md_isPart_55 (by decide) (fun h22 => ?_) (fun h22 => ?_)
      · rw [if_pos ((lg_cmp_eq _ _).mp h22)] at hf
        exact sm_pick [4, 3, 1, 0] (w_Md_isPart_66 _ _ _ _ hI hf) rfl
      · rw [if_neg (mt (lg_cmp_eq _ _).mpr h22)] at hf
        refine sm_lload_n d_Md_isPart_58 rfl (j := 2) rfl ?_
        refine sm_ldc2 (v := 14) d_Md_isPart_59 mw_1395 ?_
        refine sm_lcmp d_Md_isPart_62 ?_
        refine sm_if_lt (tgt := 70) d_Md_isPart_63 (by decide) (fun h23 => ?_) (fun h23 => ?_)
        · rw [if_pos ((lg_cmp_lt _ _).mp h23)] at hf
          exact sm_pick [4, 3, 1, 0] (w_Md_isPart_70 _ _ _ _ hI hf) rfl
        · rw [if_neg (mt (lg_cmp_lt _ _).mpr h23)] at hf
          exact sm_pick [4, 3, 1, 0] (w_Md_isPart_66 _ _ _ _ hI hf) rfl

