/-! StreamMarksModel, on; written by wip/tools/model.py -/
def fn_Md_walk_28 (F : Nat) : Nat → wd → Int32 → Option (Int32 × wd)
 | 0, _, _ => none
 | n9 + 1, w, x1 => (if x1 = 0 then ((fn_Md_isCut w (w 0 36) (w 0 20)).bind fun r11 => (if r11 = true then some ((fn_Md_no w (1 : Int32) (w 0 36)).1, (fn_Md_no w (1 : Int32) (w 0 36)).2) else ((fn_Md_markAt w (w 0 36)).bind fun r14 => (if r14 = (217 : Int32) then ((fn_Md_isAllThere F w).bind fun r24 => (if r24 = true then some ((0 : Int32), w) else some ((fn_Md_no w (6 : Int32) (w 0 36)).1, (fn_Md_no w (6 : Int32) (w 0 36)).2))) else (if r14 = (144 : Int32) then ((fn_Md_partAt F w (w 0 36)).bind fun r18 => fn_Md_walk_28 F n9 r18.2 r18.1) else some ((fn_Md_no w (2 : Int32) (w 0 36)).1, (fn_Md_no w (2 : Int32) (w 0 36)).2)))))) else some (x1, w))
set_option maxHeartbeats 1600000 in
set_option maxRecDepth 100000 in
theorem w_Md_walk_28 {G : sm_G} {b : Nat} {M0 : sm_M} {bc bs : Nat} {R : Int32 × wd} {F : Nat} : ∀ (n9 : Nat), ∀ (M : sm_M) (w : wd) (x1 : Int32), lo_in G md_L b M0 M w → fn_Md_walk_28 F n9 w x1 = some R → sm_W G mf_Md_walk 28 [(0, .ref (b + 0)), (1, .int x1)] [] M bc bs (wd_Q G md_L b M0 (some (.int R.1)) R.2) := by
  intro n9
  induction n9 with
  | zero => intro M w x1 hI  hf; cases hf
  | succ n9 ih =>
    intro M w x1 hI  hf
    rw [fn_Md_walk_28] at hf
    refine sm_iload_n d_Md_walk_28 rfl (j := 1) rfl ?_
    refine sm_if_ne (tgt := 111) d_Md_walk_29 (by decide) (fun h10 => ?_) (fun h10 => ?_)
    · rw [if_neg h10] at hf
      refine sm_iload_n d_Md_walk_111 rfl (j := 1) rfl ?_
      cases hf
      refine sm_ireturn d_Md_walk_112 rfl (by rfl) ?_
      exact ⟨rfl, hI⟩
    · rw [if_pos h10] at hf
      refine sm_aload_n d_Md_walk_32 rfl (j := 0) rfl ?_
      refine lo_get (v := .int (w 0 36)) d_Md_walk_33 fg_Md_180 hI ml_0 rfl ?_
      refine sm_istore_n d_Md_walk_36 rfl (by decide) rfl ?_
      refine sm_aload_n d_Md_walk_37 rfl (j := 1) rfl ?_
      refine sm_iload_n d_Md_walk_38 rfl (j := 0) rfl ?_
      refine sm_aload_n d_Md_walk_39 rfl (j := 1) rfl ?_
      refine lo_get (v := .int (w 0 20)) d_Md_walk_40 fg_Md_174 hI ml_0 rfl ?_
      obtain ⟨r11, e12, hf⟩ := lo_bnd hf
      refine lo_callV d_Md_walk_43 cs_Md_walk_297 rfl hI ml_0 (As := [.int (w 0 36), .int (w 0 20)]) rfl rfl (Nat.le_of_ble_eq_true rfl) (c_Md_isCut hI (w 0 36) (w 0 20) e12) ?_
      refine sm_if_eq (tgt := 56) d_Md_walk_46 (by decide) (fun h13 => ?_) (fun h13 => ?_)
      · rw [if_neg (bi0 h13)] at hf
        refine sm_aload_n d_Md_walk_56 rfl (j := 1) rfl ?_
        refine sm_iload_n d_Md_walk_57 rfl (j := 0) rfl ?_
        obtain ⟨r14, e15, hf⟩ := lo_bnd hf
        refine lo_callV d_Md_walk_58 cs_Md_walk_300 rfl hI ml_0 (As := [.int (w 0 36)]) rfl rfl (Nat.le_of_ble_eq_true rfl) (c_Md_markAt hI (w 0 36) e15) ?_
        refine sm_istore_n d_Md_walk_61 rfl (by decide) rfl ?_
        refine sm_iload_n d_Md_walk_62 rfl (j := 0) rfl ?_
        refine sm_sipush (v := 217) d_Md_walk_63 (by decide) ?_
        refine sm_icmp_ne (tgt := 88) d_Md_walk_66 (by decide) (fun h16 => ?_) (fun h16 => ?_)
        · rw [if_neg h16] at hf
          refine sm_iload_n d_Md_walk_88 rfl (j := 0) rfl ?_
          refine sm_sipush (v := 144) d_Md_walk_89 (by decide) ?_
          refine sm_icmp_eq (tgt := 102) d_Md_walk_92 (by decide) (fun h17 => ?_) (fun h17 => ?_)
          · rw [if_pos h17] at hf
            refine sm_aload_n d_Md_walk_102 rfl (j := 2) rfl ?_
            refine sm_iload_n d_Md_walk_103 rfl (j := 1) rfl ?_
            obtain ⟨r18, e19, hf⟩ := lo_bnd hf
            refine lo_callVm d_Md_walk_104 cs_Md_walk_335 rfl hI ml_0 (As := [.int (w 0 36)]) rfl rfl (Nat.le_of_ble_eq_true rfl) (c_Md_partAt hI (w 0 36) e19) (fun M20 hI21 => ?_)
            refine sm_istore_n d_Md_walk_107 rfl (by decide) rfl ?_
            refine sm_goto (tgt := 28) d_Md_walk_108 (by decide) ?_
            exact sm_pick [3, 0] (ih _ _ _ hI21 hf) rfl
          · rw [if_neg h17] at hf
            refine sm_aload_n d_Md_walk_95 rfl (j := 2) rfl ?_
            refine sm_iconst (v := 2) d_Md_walk_96 (by decide) ?_
            refine sm_iload_n d_Md_walk_97 rfl (j := 1) rfl ?_
            refine lo_callVm d_Md_walk_98 cs_Md_walk_281 rfl hI ml_0 (As := [.int (2 : Int32), .int (w 0 36)]) rfl rfl (Nat.le_of_ble_eq_true rfl) (c_Md_no hI (2 : Int32) (w 0 36)) (fun M22 hI23 => ?_)
            cases hf
            refine sm_ireturn d_Md_walk_101 rfl (by rfl) ?_
            exact ⟨rfl, hI23⟩
        · rw [if_pos h16] at hf
          refine sm_aload_n d_Md_walk_69 rfl (j := 2) rfl ?_
          obtain ⟨r24, e25, hf⟩ := lo_bnd hf
          refine lo_callV d_Md_walk_70 cs_Md_walk_331 rfl hI ml_0 (As := []) rfl rfl (Nat.le_of_ble_eq_true rfl) (c_Md_isAllThere hI e25) ?_
          refine sm_if_eq (tgt := 80) d_Md_walk_73 (by decide) (fun h26 => ?_) (fun h26 => ?_)
          · rw [if_neg (bi0 h26)] at hf
            refine sm_aload_n d_Md_walk_80 rfl (j := 2) rfl ?_
            refine sm_bipush (v := 6) d_Md_walk_81 (by decide) ?_
            refine sm_iload_n d_Md_walk_83 rfl (j := 1) rfl ?_
            refine lo_callVm d_Md_walk_84 cs_Md_walk_281 rfl hI ml_0 (As := [.int (6 : Int32), .int (w 0 36)]) rfl rfl (Nat.le_of_ble_eq_true rfl) (c_Md_no hI (6 : Int32) (w 0 36)) (fun M27 hI28 => ?_)
            cases hf
            refine sm_ireturn d_Md_walk_87 rfl (by rfl) ?_
            exact ⟨rfl, hI28⟩
          · rw [if_pos (bi1 h26)] at hf
            refine sm_iconst (v := 0) d_Md_walk_76 (by decide) ?_
            refine sm_goto (tgt := 87) d_Md_walk_77 (by decide) ?_
            cases hf
            refine sm_ireturn d_Md_walk_87 rfl (by rfl) ?_
            exact ⟨rfl, hI⟩
      · rw [if_pos (bi1 h13)] at hf
        refine sm_aload_n d_Md_walk_49 rfl (j := 1) rfl ?_
        refine sm_iconst (v := 1) d_Md_walk_50 (by decide) ?_
        refine sm_iload_n d_Md_walk_51 rfl (j := 0) rfl ?_
        refine lo_callVm d_Md_walk_52 cs_Md_walk_281 rfl hI ml_0 (As := [.int (1 : Int32), .int (w 0 36)]) rfl rfl (Nat.le_of_ble_eq_true rfl) (c_Md_no hI (1 : Int32) (w 0 36)) (fun M29 hI30 => ?_)
        cases hf
        refine sm_ireturn d_Md_walk_55 rfl (by rfl) ?_
        exact ⟨rfl, hI30⟩

def fn_Md_walk_27 (F : Nat) (w : wd) (s0 : Int32) : Option (Int32 × wd) := fn_Md_walk_28 F F w s0
set_option maxHeartbeats 1600000 in
set_option maxRecDepth 100000 in
theorem w_Md_walk_27 {G : sm_G} {b : Nat} {M0 : sm_M} {bc bs : Nat} {R : Int32 × wd} {F : Nat} : ∀ (M : sm_M) (w : wd) (s0 : Int32), lo_in G md_L b M0 M w → fn_Md_walk_27 F w s0 = some R → sm_W G mf_Md_walk 27 [(0, .ref (b + 0))] [.int s0] M bc bs (wd_Q G md_L b M0 (some (.int R.1)) R.2) := by
  intro M w s0 hI  hf
  unfold fn_Md_walk_27 at hf
  refine sm_istore_n d_Md_walk_27 rfl (by decide) rfl ?_
  exact sm_pick [1, 0] (w_Md_walk_28 _ _ _ _ hI hf) rfl

def fn_Md_walk (F : Nat) (w : wd) : Option (Int32 × wd) := ((fn_Md_start F (up2 (up2 w 0 23 (0 : Int32)) 0 28 (0 : Int32))).bind fun r5 => (if r5.1 = 0 then ((fn_Md_main F r5.2).bind fun r31 => fn_Md_walk_27 F r31.2 r31.1) else fn_Md_walk_27 F r5.2 r5.1))
set_option maxHeartbeats 1600000 in
set_option maxRecDepth 100000 in
theorem c_Md_walk {G : sm_G} {b : Nat} {M0 M : sm_M}  {w : wd} {F : Nat} (hI : lo_in G md_L b M0 M w)  {R : Int32 × wd} (hf : fn_Md_walk F w = some R) : sm_C G mf_Md_walk [.ref (b + 0)] M 0 0 (wd_Q G md_L b M (some (.int R.1)) R.2) := by
  unfold fn_Md_walk at hf
  have hI := hI.here
  refine sm_ofW rfl (Nat.le_of_ble_eq_true rfl) ?_
  refine sm_aload_n d_Md_walk_0 rfl (j := 0) rfl ?_
  refine sm_iconst (v := 0) d_Md_walk_1 (by decide) ?_
  refine lo_put d_Md_walk_2 fp_Md_239 (by decide) hI ml_0 rfl (by rfl) (by rfl) (fun M1 hI2 => ?_)
  refine sm_aload_n d_Md_walk_5 rfl (j := 0) rfl ?_
  refine sm_iconst (v := 0) d_Md_walk_6 (by decide) ?_
  refine lo_put d_Md_walk_7 fp_Md_312 (by decide) hI2 ml_0 rfl (by rfl) (by rfl) (fun M3 hI4 => ?_)
  refine sm_aload_n d_Md_walk_10 rfl (j := 0) rfl ?_
  obtain ⟨r5, e6, hf⟩ := lo_bnd hf
  refine lo_callVm d_Md_walk_11 cs_Md_walk_324 rfl hI4 ml_0 (As := []) rfl rfl (Nat.le_of_ble_eq_true rfl) (c_Md_start hI4 e6) (fun M7 hI8 => ?_)
  refine sm_istore_n d_Md_walk_14 rfl (by decide) rfl ?_
  refine sm_iload_n d_Md_walk_15 rfl (j := 0) rfl ?_
  refine sm_if_ne (tgt := 26) d_Md_walk_16 (by decide) (fun h9 => ?_) (fun h9 => ?_)
  · rw [if_neg h9] at hf
    refine sm_iload_n d_Md_walk_26 rfl (j := 0) rfl ?_
    exact sm_pick [1] (w_Md_walk_27 _ _ _ hI8 hf) rfl
  · rw [if_pos h9] at hf
    refine sm_aload_n d_Md_walk_19 rfl (j := 1) rfl ?_
    obtain ⟨r31, e32, hf⟩ := lo_bnd hf
    refine lo_callVm d_Md_walk_20 cs_Md_walk_328 rfl hI8 ml_0 (As := []) rfl rfl (Nat.le_of_ble_eq_true rfl) (c_Md_main hI8 e32) (fun M33 hI34 => ?_)
    refine sm_goto (tgt := 27) d_Md_walk_23 (by decide) ?_
    exact sm_pick [1] (w_Md_walk_27 _ _ _ hI34 hf) rfl

def fn_Md_takeBody_190 (k93 : wd → Int32 → Int32 → Bool → Int32 → Option (wd)) (F : Nat) (w : wd) (x1 : Int32) (x2 : Int32) (x3 : Bool) (x4 : Int32) (s0 : Int32) (s1 : Int32) : Option (wd) := (if 0 ≤ s1.toInt ∧ s1.toInt < 528 then k93 (up2 w 8 s1.toInt.toNat s0) x1 x2 x3 (x4 + 1) else none)
set_option maxHeartbeats 1600000 in
set_option maxRecDepth 100000 in
theorem w_Md_takeBody_190 {G : sm_G} {b : Nat} {M0 : sm_M} {bc bs : Nat} {R : wd} {F : Nat} {k93 : wd → Int32 → Int32 → Bool → Int32 → Option (wd)} (hk93 : ∀ (M : sm_M) (w : wd) (x1 : Int32) (x2 : Int32) (x3 : Bool) (x4 : Int32), lo_in G md_L b M0 M w → k93 w x1 x2 x3 x4 = some R → sm_W G mf_Md_takeBody 93 [(0, .ref (b + 0)), (1, .int x1), (2, .int x2), (3, .int (bi x3)), (4, .int x4)] [] M bc bs (wd_Q G md_L b M0 none R)) : ∀ (M : sm_M) (w : wd) (x1 : Int32) (x2 : Int32) (x3 : Bool) (x4 : Int32) (s0 : Int32) (s1 : Int32), lo_in G md_L b M0 M w → fn_Md_takeBody_190 k93 F w x1 x2 x3 x4 s0 s1 = some R → sm_W G mf_Md_takeBody 190 [(0, .ref (b + 0)), (1, .int x1), (2, .int x2), (3, .int (bi x3)), (4, .int x4)] [.int s0, .int s1, .ref (b + 8)] M bc bs (wd_Q G md_L b M0 none R) := by
  intro M w x1 x2 x3 x4 s0 s1 hI  hf
  unfold fn_Md_takeBody_190 at hf
  obtain ⟨h33, hf⟩ := lo_chk hf
  refine lo_ast (j := s1.toInt.toNat) d_Md_takeBody_190 hI ml_8 h33 rfl (fun M34 hI35 => ?_)
  refine sm_iinc (v := (x4 + 1)) d_Md_takeBody_191 (j := 4) rfl rfl (by decide) rfl ?_
  refine sm_goto (tgt := 93) d_Md_takeBody_194 (by decide) ?_
  exact sm_pick [1, 2, 3, 4, 0] (hk93 _ _ _ _ _ _ hI35 hf) rfl

def fn_Md_takeBody_155 (k93 : wd → Int32 → Int32 → Bool → Int32 → Option (wd)) (F : Nat) (w : wd) (x1 : Int32) (x2 : Int32) (x3 : Bool) (x4 : Int32) (x5 : Bool) (s0 : Int32) (s1 : Int32) : Option (wd) := (if 0 ≤ s1.toInt ∧ s1.toInt < 528 then (if x5 = true then ((fn_Md_u1 (up2 w 7 s1.toInt.toNat s0) ((x2 + (5 : Int32)) + x4)).bind fun r36 => fn_Md_takeBody_190 k93 F (up2 w 7 s1.toInt.toNat s0) x1 x2 x3 x4 (r36 / (16 : Int32)) (((33 : Int32) * x1) + x4)) else fn_Md_takeBody_190 k93 F (up2 w 7 s1.toInt.toNat s0) x1 x2 x3 x4 (15 : Int32) (((33 : Int32) * x1) + x4)) else none)
set_option maxHeartbeats 1600000 in
set_option maxRecDepth 100000 in
theorem w_Md_takeBody_155 {G : sm_G} {b : Nat} {M0 : sm_M} {bc bs : Nat} {R : wd} {F : Nat} {k93 : wd → Int32 → Int32 → Bool → Int32 → Option (wd)} (hk93 : ∀ (M : sm_M) (w : wd) (x1 : Int32) (x2 : Int32) (x3 : Bool) (x4 : Int32), lo_in G md_L b M0 M w → k93 w x1 x2 x3 x4 = some R → sm_W G mf_Md_takeBody 93 [(0, .ref (b + 0)), (1, .int x1), (2, .int x2), (3, .int (bi x3)), (4, .int x4)] [] M bc bs (wd_Q G md_L b M0 none R)) : ∀ (M : sm_M) (w : wd) (x1 : Int32) (x2 : Int32) (x3 : Bool) (x4 : Int32) (x5 : Bool) (s0 : Int32) (s1 : Int32), lo_in G md_L b M0 M w → fn_Md_takeBody_155 k93 F w x1 x2 x3 x4 x5 s0 s1 = some R → sm_W G mf_Md_takeBody 155 [(0, .ref (b + 0)), (1, .int x1), (2, .int x2), (3, .int (bi x3)), (4, .int x4), (5, .int (bi x5))] [.int s0, .int s1, .ref (b + 7)] M bc bs (wd_Q G md_L b M0 none R) := by
  intro M w x1 x2 x3 x4 x5 s0 s1 hI  hf
  unfold fn_Md_takeBody_155 at hf
  obtain ⟨h29, hf⟩ := lo_chk hf
  refine lo_ast (j := s1.toInt.toNat) d_Md_takeBody_155 hI ml_7 h29 rfl (fun M30 hI31 => ?_)
  refine sm_aload_n d_Md_takeBody_156 rfl (j := 0) rfl ?_
  refine lo_get (v := .ref (b + 8)) d_Md_takeBody_157 fg_Md_35 hI31 ml_0 rfl ?_
  refine sm_bipush (v := 33) d_Md_takeBody_160 (by decide) ?_
  refine sm_iload_n d_Md_takeBody_162 rfl (j := 1) rfl ?_
  refine sm_imul d_Md_takeBody_163 ?_
  refine sm_iload d_Md_takeBody_164 (j := 4) rfl ?_
  refine sm_iadd d_Md_takeBody_166 ?_
  refine sm_iload d_Md_takeBody_167 (j := 5) rfl ?_
  refine sm_if_eq (tgt := 188) d_Md_takeBody_169 (by decide) (fun h32 => ?_) (fun h32 => ?_)
  · rw [if_neg (bi0 h32)] at hf
    refine sm_bipush (v := 15) d_Md_takeBody_188 (by decide) ?_
    exact sm_pick [0, 1, 2, 3, 4] (w_Md_takeBody_190 hk93 _ _ _ _ _ _ _ _ hI31 hf) rfl
  · rw [if_pos (bi1 h32)] at hf
    refine sm_aload_n d_Md_takeBody_172 rfl (j := 0) rfl ?_
    refine sm_iload_n d_Md_takeBody_173 rfl (j := 2) rfl ?_
    refine sm_iconst (v := 5) d_Md_takeBody_174 (by decide) ?_
    refine sm_iadd d_Md_takeBody_175 ?_
    refine sm_iload d_Md_takeBody_176 (j := 4) rfl ?_
    refine sm_iadd d_Md_takeBody_178 ?_
    obtain ⟨r36, e37, hf⟩ := lo_bnd hf
    refine lo_callV d_Md_takeBody_179 cs_Md_takeBody_233 rfl hI31 ml_0 (As := [.int ((x2 + (5 : Int32)) + x4)]) rfl rfl (Nat.le_of_ble_eq_true rfl) (c_Md_u1 hI31 ((x2 + (5 : Int32)) + x4) e37) ?_
    refine sm_bipush (v := 16) d_Md_takeBody_182 (by decide) ?_
    refine sm_idiv d_Md_takeBody_184 (by decide) ?_
    refine sm_goto (tgt := 190) d_Md_takeBody_185 (by decide) ?_
    exact sm_pick [0, 1, 2, 3, 4] (w_Md_takeBody_190 hk93 _ _ _ _ _ _ _ _ hI31 hf) rfl

def fn_Md_takeBody_119 (k93 : wd → Int32 → Int32 → Bool → Int32 → Option (wd)) (F : Nat) (w : wd) (x1 : Int32) (x2 : Int32) (x3 : Bool) (x4 : Int32) (s0 : Bool) : Option (wd) := (if s0 = true then ((fn_Md_u1 w ((x2 + (5 : Int32)) + x4)).bind fun r38 => fn_Md_takeBody_155 k93 F w x1 x2 x3 x4 s0 (r38 - r38 / (16 : Int32) * (16 : Int32)) (((33 : Int32) * x1) + x4)) else fn_Md_takeBody_155 k93 F w x1 x2 x3 x4 s0 (15 : Int32) (((33 : Int32) * x1) + x4))
set_option maxHeartbeats 1600000 in
set_option maxRecDepth 100000 in
theorem w_Md_takeBody_119 {G : sm_G} {b : Nat} {M0 : sm_M} {bc bs : Nat} {R : wd} {F : Nat} {k93 : wd → Int32 → Int32 → Bool → Int32 → Option (wd)} (hk93 : ∀ (M : sm_M) (w : wd) (x1 : Int32) (x2 : Int32) (x3 : Bool) (x4 : Int32), lo_in G md_L b M0 M w → k93 w x1 x2 x3 x4 = some R → sm_W G mf_Md_takeBody 93 [(0, .ref (b + 0)), (1, .int x1), (2, .int x2), (3, .int (bi x3)), (4, .int x4)] [] M bc bs (wd_Q G md_L b M0 none R)) : ∀ (M : sm_M) (w : wd) (x1 : Int32) (x2 : Int32) (x3 : Bool) (x4 : Int32) (s0 : Bool), lo_in G md_L b M0 M w → fn_Md_takeBody_119 k93 F w x1 x2 x3 x4 s0 = some R → sm_W G mf_Md_takeBody 119 [(0, .ref (b + 0)), (1, .int x1), (2, .int x2), (3, .int (bi x3)), (4, .int x4)] [.int (bi s0)] M bc bs (wd_Q G md_L b M0 none R) := by
  intro M w x1 x2 x3 x4 s0 hI  hf
  unfold fn_Md_takeBody_119 at hf
  refine sm_istore d_Md_takeBody_119 (by decide) rfl ?_
  refine sm_aload_n d_Md_takeBody_121 rfl (j := 1) rfl ?_
  refine lo_get (v := .ref (b + 7)) d_Md_takeBody_122 fg_Md_32 hI ml_0 rfl ?_
  refine sm_bipush (v := 33) d_Md_takeBody_125 (by decide) ?_
  refine sm_iload_n d_Md_takeBody_127 rfl (j := 2) rfl ?_
  refine sm_imul d_Md_takeBody_128 ?_
  refine sm_iload d_Md_takeBody_129 (j := 5) rfl ?_
  refine sm_iadd d_Md_takeBody_131 ?_
  refine sm_iload d_Md_takeBody_132 (j := 0) rfl ?_
  refine sm_if_eq (tgt := 153) d_Md_takeBody_134 (by decide) (fun h28 => ?_) (fun h28 => ?_)
  · rw [if_neg (bi0 h28)] at hf
    refine sm_bipush (v := 15) d_Md_takeBody_153 (by decide) ?_
    exact sm_pick [1, 2, 3, 4, 5, 0] (w_Md_takeBody_155 hk93 _ _ _ _ _ _ _ _ _ hI hf) rfl
  · rw [if_pos (bi1 h28)] at hf
    refine sm_aload_n d_Md_takeBody_137 rfl (j := 1) rfl ?_
    refine sm_iload_n d_Md_takeBody_138 rfl (j := 3) rfl ?_
    refine sm_iconst (v := 5) d_Md_takeBody_139 (by decide) ?_
    refine sm_iadd d_Md_takeBody_140 ?_
    refine sm_iload d_Md_takeBody_141 (j := 5) rfl ?_
    refine sm_iadd d_Md_takeBody_143 ?_
    obtain ⟨r38, e39, hf⟩ := lo_bnd hf
    refine lo_callV d_Md_takeBody_144 cs_Md_takeBody_233 rfl hI ml_0 (As := [.int ((x2 + (5 : Int32)) + x4)]) rfl rfl (Nat.le_of_ble_eq_true rfl) (c_Md_u1 hI ((x2 + (5 : Int32)) + x4) e39) ?_
    refine sm_bipush (v := 16) d_Md_takeBody_147 (by decide) ?_
    refine sm_irem d_Md_takeBody_149 (by decide) ?_
    refine sm_goto (tgt := 155) d_Md_takeBody_150 (by decide) ?_
    exact sm_pick [1, 2, 3, 4, 5, 0] (w_Md_takeBody_155 hk93 _ _ _ _ _ _ _ _ _ hI hf) rfl

def fn_Md_takeBody_118 (k93 : wd → Int32 → Int32 → Bool → Int32 → Option (wd)) (F : Nat) (w : wd) (x1 : Int32) (x2 : Int32) (x3 : Bool) (x4 : Int32) : Option (wd) := fn_Md_takeBody_119 k93 F w x1 x2 x3 x4 false
set_option maxHeartbeats 1600000 in
set_option maxRecDepth 100000 in
theorem w_Md_takeBody_118 {G : sm_G} {b : Nat} {M0 : sm_M} {bc bs : Nat} {R : wd} {F : Nat} {k93 : wd → Int32 → Int32 → Bool → Int32 → Option (wd)} (hk93 : ∀ (M : sm_M) (w : wd) (x1 : Int32) (x2 : Int32) (x3 : Bool) (x4 : Int32), lo_in G md_L b M0 M w → k93 w x1 x2 x3 x4 = some R → sm_W G mf_Md_takeBody 93 [(0, .ref (b + 0)), (1, .int x1), (2, .int x2), (3, .int (bi x3)), (4, .int x4)] [] M bc bs (wd_Q G md_L b M0 none R)) : ∀ (M : sm_M) (w : wd) (x1 : Int32) (x2 : Int32) (x3 : Bool) (x4 : Int32), lo_in G md_L b M0 M w → fn_Md_takeBody_118 k93 F w x1 x2 x3 x4 = some R → sm_W G mf_Md_takeBody 118 [(0, .ref (b + 0)), (1, .int x1), (2, .int x2), (3, .int (bi x3)), (4, .int x4)] [] M bc bs (wd_Q G md_L b M0 none R) := by
  intro M w x1 x2 x3 x4 hI  hf
  unfold fn_Md_takeBody_118 at hf
  refine sm_iconst (v := 0) d_Md_takeBody_118 (by decide) ?_
  exact sm_pick [0, 1, 2, 3, 4] (w_Md_takeBody_119 hk93 _ _ _ _ _ _ _ hI hf) rfl

def fn_Md_takeBody_93 (F : Nat) : Nat → wd → Int32 → Int32 → Bool → Int32 → Option (wd)
 | 0, _, _, _, _, _ => none
 | n9 + 1, w, x1, x2, x3, x4 => (if (33 : Int32) ≤ x4 then some w else (if x3 = true then ((fn_Md_u1 w x2).bind fun r40 => (if r40 < x4 then fn_Md_takeBody_118 (fn_Md_takeBody_93 F n9) F w x1 x2 x3 x4 else fn_Md_takeBody_119 (fn_Md_takeBody_93 F n9) F w x1 x2 x3 x4 true)) else fn_Md_takeBody_118 (fn_Md_takeBody_93 F n9) F w x1 x2 x3 x4))
set_option maxHeartbeats 1600000 in
set_option maxRecDepth 100000 in
theorem w_Md_takeBody_93 {G : sm_G} {b : Nat} {M0 : sm_M} {bc bs : Nat} {R : wd} {F : Nat} : ∀ (n9 : Nat), ∀ (M : sm_M) (w : wd) (x1 : Int32) (x2 : Int32) (x3 : Bool) (x4 : Int32), lo_in G md_L b M0 M w → fn_Md_takeBody_93 F n9 w x1 x2 x3 x4 = some R → sm_W G mf_Md_takeBody 93 [(0, .ref (b + 0)), (1, .int x1), (2, .int x2), (3, .int (bi x3)), (4, .int x4)] [] M bc bs (wd_Q G md_L b M0 none R) := by
  intro n9
  induction n9 with
  | zero => intro M w x1 x2 x3 x4 hI  hf; cases hf
  | succ n9 ih =>
    intro M w x1 x2 x3 x4 hI  hf
    rw [fn_Md_takeBody_93] at hf
    refine sm_iload d_Md_takeBody_93 (j := 4) rfl ?_
    refine sm_bipush (v := 33) d_Md_takeBody_95 (by decide) ?_
    refine sm_icmp_ge (tgt := 197) d_Md_takeBody_97 (by decide) (fun h26 => ?_) (fun h26 => ?_)
    · rw [if_pos h26] at hf
      cases hf
      refine sm_return d_Md_takeBody_197 rfl ?_
      exact ⟨rfl, hI⟩
    · rw [if_neg h26] at hf
      refine sm_iload_n d_Md_takeBody_100 rfl (j := 3) rfl ?_
      refine sm_if_eq (tgt := 118) d_Md_takeBody_101 (by decide) (fun h27 => ?_) (fun h27 => ?_)
      · rw [if_neg (bi0 h27)] at hf
        exact sm_pick [0, 1, 2, 3, 4] (w_Md_takeBody_118 ih _ _ _ _ _ _ hI hf) rfl
      · rw [if_pos (bi1 h27)] at hf
        refine sm_iload d_Md_takeBody_104 (j := 4) rfl ?_
        refine sm_aload_n d_Md_takeBody_106 rfl (j := 0) rfl ?_
        refine sm_iload_n d_Md_takeBody_107 rfl (j := 2) rfl ?_
        obtain ⟨r40, e41, hf⟩ := lo_bnd hf
        refine lo_callV d_Md_takeBody_108 cs_Md_takeBody_233 rfl hI ml_0 (As := [.int x2]) rfl rfl (Nat.le_of_ble_eq_true rfl) (c_Md_u1 hI x2 e41) ?_
        refine sm_icmp_gt (tgt := 118) d_Md_takeBody_111 (by decide) (fun h42 => ?_) (fun h42 => ?_)
        · rw [if_pos h42] at hf
          exact sm_pick [0, 1, 2, 3, 4] (w_Md_takeBody_118 ih _ _ _ _ _ _ hI hf) rfl
        · rw [if_neg h42] at hf
          refine sm_iconst (v := 1) d_Md_takeBody_114 (by decide) ?_
          refine sm_goto (tgt := 119) d_Md_takeBody_115 (by decide) ?_
          exact sm_pick [0, 1, 2, 3, 4] (w_Md_takeBody_119 ih _ _ _ _ _ _ _ hI hf) rfl

def fn_Md_takeBody (F : Nat) (w : wd) (x1 : Int32) (x2 : Int32) (x3 : Bool) : Option (wd) := ((fn_Md_u1 w x2).bind fun r1 => (if 0 ≤ ((8 : Int32) * x1).toInt ∧ ((8 : Int32) * x1).toInt < 128 then ((fn_Md_u1 (up2 w 6 (((8 : Int32) * x1).toInt.toNat) r1) (x2 + (1 : Int32))).bind fun r6 => (if 0 ≤ (((8 : Int32) * x1) + (1 : Int32)).toInt ∧ (((8 : Int32) * x1) + (1 : Int32)).toInt < 128 then ((fn_Md_u1 (up2 (up2 w 6 (((8 : Int32) * x1).toInt.toNat) r1) 6 ((((8 : Int32) * x1) + (1 : Int32)).toInt.toNat) (r6 + (2 : Int32))) (x2 + (2 : Int32))).bind fun r11 => (if 0 ≤ (((8 : Int32) * x1) + (2 : Int32)).toInt ∧ (((8 : Int32) * x1) + (2 : Int32)).toInt < 128 then ((fn_Md_u1 (up2 (up2 (up2 w 6 (((8 : Int32) * x1).toInt.toNat) r1) 6 ((((8 : Int32) * x1) + (1 : Int32)).toInt.toNat) (r6 + (2 : Int32))) 6 ((((8 : Int32) * x1) + (2 : Int32)).toInt.toNat) (r11 + (2 : Int32))) (x2 + (3 : Int32))).bind fun r16 => (if 0 ≤ (((8 : Int32) * x1) + (3 : Int32)).toInt ∧ (((8 : Int32) * x1) + (3 : Int32)).toInt < 128 then ((fn_Md_u1 (up2 (up2 (up2 (up2 w 6 (((8 : Int32) * x1).toInt.toNat) r1) 6 ((((8 : Int32) * x1) + (1 : Int32)).toInt.toNat) (r6 + (2 : Int32))) 6 ((((8 : Int32) * x1) + (2 : Int32)).toInt.toNat) (r11 + (2 : Int32))) 6 ((((8 : Int32) * x1) + (3 : Int32)).toInt.toNat) r16) (x2 + (4 : Int32))).bind fun r21 => (if 0 ≤ (((8 : Int32) * x1) + (4 : Int32)).toInt ∧ (((8 : Int32) * x1) + (4 : Int32)).toInt < 128 then fn_Md_takeBody_93 F F (up2 (up2 (up2 (up2 (up2 w 6 (((8 : Int32) * x1).toInt.toNat) r1) 6 ((((8 : Int32) * x1) + (1 : Int32)).toInt.toNat) (r6 + (2 : Int32))) 6 ((((8 : Int32) * x1) + (2 : Int32)).toInt.toNat) (r11 + (2 : Int32))) 6 ((((8 : Int32) * x1) + (3 : Int32)).toInt.toNat) r16) 6 ((((8 : Int32) * x1) + (4 : Int32)).toInt.toNat) r21) x1 x2 x3 (0 : Int32) else none)) else none)) else none)) else none)) else none))
set_option maxHeartbeats 1600000 in
set_option maxRecDepth 100000 in
theorem c_Md_takeBody {G : sm_G} {b : Nat} {M0 M : sm_M}  {w : wd} {F : Nat} (hI : lo_in G md_L b M0 M w)  (x1 : Int32) (x2 : Int32) (x3 : Bool)  {R : wd} (hf : fn_Md_takeBody F w x1 x2 x3 = some R) : sm_C G mf_Md_takeBody [.ref (b + 0), .int x1, .int x2, .int (bi x3)] M 0 0 (wd_Q G md_L b M none R) := by
  unfold fn_Md_takeBody at hf
  have hI := hI.here
  refine sm_ofW rfl (Nat.le_of_ble_eq_true rfl) ?_
  refine sm_aload_n d_Md_takeBody_0 rfl (j := 0) rfl ?_
  refine lo_get (v := .ref (b + 6)) d_Md_takeBody_1 fg_Md_29 hI ml_0 rfl ?_
  refine sm_bipush (v := 8) d_Md_takeBody_4 (by decide) ?_
  refine sm_iload_n d_Md_takeBody_6 rfl (j := 1) rfl ?_
  refine sm_imul d_Md_takeBody_7 ?_
  refine sm_aload_n d_Md_takeBody_8 rfl (j := 0) rfl ?_
  refine sm_iload_n d_Md_takeBody_9 rfl (j := 2) rfl ?_
  obtain ⟨r1, e2, hf⟩ := lo_bnd hf
  refine lo_callV d_Md_takeBody_10 cs_Md_takeBody_233 rfl hI ml_0 (As := [.int x2]) rfl rfl (Nat.le_of_ble_eq_true rfl) (c_Md_u1 hI x2 e2) ?_
  obtain ⟨h3, hf⟩ := lo_chk hf
  refine lo_ast (j := ((8 : Int32) * x1).toInt.toNat) d_Md_takeBody_13 hI ml_6 h3 rfl (fun M4 hI5 => ?_)
  refine sm_aload_n d_Md_takeBody_14 rfl (j := 0) rfl ?_
  refine lo_get (v := .ref (b + 6)) d_Md_takeBody_15 fg_Md_29 hI5 ml_0 rfl ?_
  refine sm_bipush (v := 8) d_Md_takeBody_18 (by decide) ?_
  refine sm_iload_n d_Md_takeBody_20 rfl (j := 1) rfl ?_
  refine sm_imul d_Md_takeBody_21 ?_
  refine sm_iconst (v := 1) d_Md_takeBody_22 (by decide) ?_
  refine sm_iadd d_Md_takeBody_23 ?_
  refine sm_aload_n d_Md_takeBody_24 rfl (j := 0) rfl ?_
  refine sm_iload_n d_Md_takeBody_25 rfl (j := 2) rfl ?_
  refine sm_iconst (v := 1) d_Md_takeBody_26 (by decide) ?_
  refine sm_iadd d_Md_takeBody_27 ?_
  obtain ⟨r6, e7, hf⟩ := lo_bnd hf
  refine lo_callV d_Md_takeBody_28 cs_Md_takeBody_233 rfl hI5 ml_0 (As := [.int (x2 + (1 : Int32))]) rfl rfl (Nat.le_of_ble_eq_true rfl) (c_Md_u1 hI5 (x2 + (1 : Int32)) e7) ?_
  refine sm_iconst (v := 2) d_Md_takeBody_31 (by decide) ?_
  refine sm_iadd d_Md_takeBody_32 ?_
  obtain ⟨h8, hf⟩ := lo_chk hf
  refine lo_ast (j := (((8 : Int32) * x1) + (1 : Int32)).toInt.toNat) d_Md_takeBody_33 hI5 ml_6 h8 rfl (fun M9 hI10 => ?_)
  refine sm_aload_n d_Md_takeBody_34 rfl (j := 0) rfl ?_
  refine lo_get (v := .ref (b + 6)) d_Md_takeBody_35 fg_Md_29 hI10 ml_0 rfl ?_
  refine sm_bipush (v := 8) d_Md_takeBody_38 (by decide) ?_
  refine sm_iload_n d_Md_takeBody_40 rfl (j := 1) rfl ?_
  refine sm_imul d_Md_takeBody_41 ?_
  refine sm_iconst (v := 2) d_Md_takeBody_42 (by decide) ?_
  refine sm_iadd d_Md_takeBody_43 ?_
  refine sm_aload_n d_Md_takeBody_44 rfl (j := 0) rfl ?_
  refine sm_iload_n d_Md_takeBody_45 rfl (j := 2) rfl ?_
  refine sm_iconst (v := 2) d_Md_takeBody_46 (by decide) ?_
  refine sm_iadd d_Md_takeBody_47 ?_
  obtain ⟨r11, e12, hf⟩ := lo_bnd hf
  refine lo_callV d_Md_takeBody_48 cs_Md_takeBody_233 rfl hI10 ml_0 (As := [.int (x2 + (2 : Int32))]) rfl rfl (Nat.le_of_ble_eq_true rfl) (c_Md_u1 hI10 (x2 + (2 : Int32)) e12) ?_
  refine sm_iconst (v := 2) d_Md_takeBody_51 (by decide) ?_
  refine sm_iadd d_Md_takeBody_52 ?_
  obtain ⟨h13, hf⟩ := lo_chk hf
  refine lo_ast (j := (((8 : Int32) * x1) + (2 : Int32)).toInt.toNat) d_Md_takeBody_53 hI10 ml_6 h13 rfl (fun M14 hI15 => ?_)
  refine sm_aload_n d_Md_takeBody_54 rfl (j := 0) rfl ?_
  refine lo_get (v := .ref (b + 6)) d_Md_takeBody_55 fg_Md_29 hI15 ml_0 rfl ?_
  refine sm_bipush (v := 8) d_Md_takeBody_58 (by decide) ?_
  refine sm_iload_n d_Md_takeBody_60 rfl (j := 1) rfl ?_
  refine sm_imul d_Md_takeBody_61 ?_
  refine sm_iconst (v := 3) d_Md_takeBody_62 (by decide) ?_
  refine sm_iadd d_Md_takeBody_63 ?_
  refine sm_aload_n d_Md_takeBody_64 rfl (j := 0) rfl ?_
  refine sm_iload_n d_Md_takeBody_65 rfl (j := 2) rfl ?_
  refine sm_iconst (v := 3) d_Md_takeBody_66 (by decide) ?_
  refine sm_iadd d_Md_takeBody_67 ?_
  obtain ⟨r16, e17, hf⟩ := lo_bnd hf
  refine lo_callV d_Md_takeBody_68 cs_Md_takeBody_233 rfl hI15 ml_0 (As := [.int (x2 + (3 : Int32))]) rfl rfl (Nat.le_of_ble_eq_true rfl) (c_Md_u1 hI15 (x2 + (3 : Int32)) e17) ?_
  obtain ⟨h18, hf⟩ := lo_chk hf
  refine lo_ast (j := (((8 : Int32) * x1) + (3 : Int32)).toInt.toNat) d_Md_takeBody_71 hI15 ml_6 h18 rfl (fun M19 hI20 => ?_)
  refine sm_aload_n d_Md_takeBody_72 rfl (j := 0) rfl ?_
  refine lo_get (v := .ref (b + 6)) d_Md_takeBody_73 fg_Md_29 hI20 ml_0 rfl ?_
  refine sm_bipush (v := 8) d_Md_takeBody_76 (by decide) ?_
  refine sm_iload_n d_Md_takeBody_78 rfl (j := 1) rfl ?_
  refine sm_imul d_Md_takeBody_79 ?_
  refine sm_iconst (v := 4) d_Md_takeBody_80 (by decide) ?_
  refine sm_iadd d_Md_takeBody_81 ?_
  refine sm_aload_n d_Md_takeBody_82 rfl (j := 0) rfl ?_
  refine sm_iload_n d_Md_takeBody_83 rfl (j := 2) rfl ?_
  refine sm_iconst (v := 4) d_Md_takeBody_84 (by decide) ?_
  refine sm_iadd d_Md_takeBody_85 ?_
  obtain ⟨r21, e22, hf⟩ := lo_bnd hf
  refine lo_callV d_Md_takeBody_86 cs_Md_takeBody_233 rfl hI20 ml_0 (As := [.int (x2 + (4 : Int32))]) rfl rfl (Nat.le_of_ble_eq_true rfl) (c_Md_u1 hI20 (x2 + (4 : Int32)) e22) ?_
  obtain ⟨h23, hf⟩ := lo_chk hf
  refine lo_ast (j := (((8 : Int32) * x1) + (4 : Int32)).toInt.toNat) d_Md_takeBody_89 hI20 ml_6 h23 rfl (fun M24 hI25 => ?_)
  refine sm_iconst (v := 0) d_Md_takeBody_90 (by decide) ?_
  refine sm_istore d_Md_takeBody_91 (by decide) rfl ?_
  exact sm_pick [1, 2, 3, 4, 0] (w_Md_takeBody_93 _ _ _ _ _ _ _ hI25 hf) rfl

def fn_Md_takeCoding_90 (k61 : wd → Int32 → Int32 → Option (wd)) (F : Nat) (w : wd) (x1 : Int32) (x2 : Int32) (s0 : Bool) (s1 : Int32) (s2 : Int32) : Option (wd) := ((fn_Md_takeBody F w s2 s1 s0).bind fun r25 => k61 r25 x1 (x2 + 1))
set_option maxHeartbeats 1600000 in
set_option maxRecDepth 100000 in
theorem w_Md_takeCoding_90 {G : sm_G} {b : Nat} {M0 : sm_M} {bc bs : Nat} {R : wd} {F : Nat} {k61 : wd → Int32 → Int32 → Option (wd)} (hk61 : ∀ (M : sm_M) (w : wd) (x1 : Int32) (x2 : Int32), lo_in G md_L b M0 M w → k61 w x1 x2 = some R → sm_W G mf_Md_takeCoding 61 [(0, .ref (b + 0)), (1, .int x1), (2, .int x2)] [] M bc bs (wd_Q G md_L b M0 none R)) : ∀ (M : sm_M) (w : wd) (x1 : Int32) (x2 : Int32) (s0 : Bool) (s1 : Int32) (s2 : Int32), lo_in G md_L b M0 M w → fn_Md_takeCoding_90 k61 F w x1 x2 s0 s1 s2 = some R → sm_W G mf_Md_takeCoding 90 [(0, .ref (b + 0)), (1, .int x1), (2, .int x2)] [.int (bi s0), .int s1, .int s2, .ref (b + 0)] M bc bs (wd_Q G md_L b M0 none R) := by
  intro M w x1 x2 s0 s1 s2 hI  hf
  unfold fn_Md_takeCoding_90 at hf
  obtain ⟨r25, e26, hf⟩ := lo_bnd hf
  refine lo_callVm d_Md_takeCoding_90 cs_Md_takeCoding_344 rfl hI ml_0 (As := [.int s2, .int s1, .int (bi s0)]) rfl rfl (Nat.le_of_ble_eq_true rfl) (c_Md_takeBody hI s2 s1 s0 e26) (fun M27 hI28 => ?_)
  refine sm_iinc (v := (x2 + 1)) d_Md_takeCoding_93 (j := 2) rfl rfl (by decide) rfl ?_
  refine sm_goto (tgt := 61) d_Md_takeCoding_96 (by decide) ?_
  exact sm_pick [1, 2, 0] (hk61 _ _ _ _ hI28 hf) rfl

def fn_Md_takeCoding_61 (F : Nat) : Nat → wd → Int32 → Int32 → Option (wd)
 | 0, _, _, _ => none
 | n9 + 1, w, x1, x2 => (if (w 0 3) ≤ x2 then some w else ((fn_Md_u1 w x1).bind fun r22 => (if (r22 &&& (1 : Int32)) = (1 : Int32) then fn_Md_takeCoding_90 (fn_Md_takeCoding_61 F n9) F w x1 x2 true (x1 + (5 : Int32)) x2 else fn_Md_takeCoding_90 (fn_Md_takeCoding_61 F n9) F w x1 x2 false (x1 + (5 : Int32)) x2)))
set_option maxHeartbeats 1600000 in
set_option maxRecDepth 100000 in
theorem w_Md_takeCoding_61 {G : sm_G} {b : Nat} {M0 : sm_M} {bc bs : Nat} {R : wd} {F : Nat} : ∀ (n9 : Nat), ∀ (M : sm_M) (w : wd) (x1 : Int32) (x2 : Int32), lo_in G md_L b M0 M w → fn_Md_takeCoding_61 F n9 w x1 x2 = some R → sm_W G mf_Md_takeCoding 61 [(0, .ref (b + 0)), (1, .int x1), (2, .int x2)] [] M bc bs (wd_Q G md_L b M0 none R) := by
  intro n9
  induction n9 with
  | zero => intro M w x1 x2 hI  hf; cases hf
  | succ n9 ih =>
    intro M w x1 x2 hI  hf
    rw [fn_Md_takeCoding_61] at hf
    refine sm_iload_n d_Md_takeCoding_61 rfl (j := 2) rfl ?_
    refine sm_aload_n d_Md_takeCoding_62 rfl (j := 0) rfl ?_
    refine lo_get (v := .int (w 0 3)) d_Md_takeCoding_63 fg_Md_88 hI ml_0 rfl ?_
    refine sm_icmp_ge (tgt := 99) d_Md_takeCoding_66 (by decide) (fun h21 => ?_) (fun h21 => ?_)
    · rw [if_pos h21] at hf
      cases hf
      refine sm_return d_Md_takeCoding_99 rfl ?_
      exact ⟨rfl, hI⟩
    · rw [if_neg h21] at hf
      refine sm_aload_n d_Md_takeCoding_69 rfl (j := 0) rfl ?_
      refine sm_iload_n d_Md_takeCoding_70 rfl (j := 2) rfl ?_
      refine sm_iload_n d_Md_takeCoding_71 rfl (j := 1) rfl ?_
      refine sm_iconst (v := 5) d_Md_takeCoding_72 (by decide) ?_
      refine sm_iadd d_Md_takeCoding_73 ?_
      refine sm_aload_n d_Md_takeCoding_74 rfl (j := 0) rfl ?_
      refine sm_iload_n d_Md_takeCoding_75 rfl (j := 1) rfl ?_
      obtain ⟨r22, e23, hf⟩ := lo_bnd hf
      refine lo_callV d_Md_takeCoding_76 cs_Md_takeCoding_233 rfl hI ml_0 (As := [.int x1]) rfl rfl (Nat.le_of_ble_eq_true rfl) (c_Md_u1 hI x1 e23) ?_
      refine sm_iconst (v := 1) d_Md_takeCoding_79 (by decide) ?_
      refine sm_iand d_Md_takeCoding_80 ?_
      refine sm_iconst (v := 1) d_Md_takeCoding_81 (by decide) ?_
      refine sm_icmp_ne (tgt := 89) d_Md_takeCoding_82 (by decide) (fun h24 => ?_) (fun h24 => ?_)
      · rw [if_neg h24] at hf
        refine sm_iconst (v := 0) d_Md_takeCoding_89 (by decide) ?_
        exact sm_pick [0, 1, 2] (w_Md_takeCoding_90 ih _ _ _ _ _ _ _ hI hf) rfl
      · rw [if_pos h24] at hf
        refine sm_iconst (v := 1) d_Md_takeCoding_85 (by decide) ?_
        refine sm_goto (tgt := 90) d_Md_takeCoding_86 (by decide) ?_
        exact sm_pick [0, 1, 2] (w_Md_takeCoding_90 ih _ _ _ _ _ _ _ hI hf) rfl

def fn_Md_takeCoding (F : Nat) (w : wd) (x1 : Int32) : Option (wd) := ((fn_Md_u1 w (x1 + (1 : Int32))).bind fun r1 => ((fn_Md_u2 (up2 w 0 8 r1) (x1 + (2 : Int32))).bind fun r5 => ((fn_Md_u1 (up2 (up2 w 0 8 r1) 0 9 r5) (x1 + (4 : Int32))).bind fun r9 => ((fn_Md_u1 (up2 (up2 (up2 w 0 8 r1) 0 9 r5) 0 10 r9) x1).bind fun r13 => ((fn_Md_u1 (up2 (up2 (up2 (up2 w 0 8 r1) 0 9 r5) 0 10 r9) 0 11 ((r13 >>> ((1 : Int32) &&& 31)) &&& (1 : Int32))) x1).bind fun r17 => fn_Md_takeCoding_61 F F (up2 (up2 (up2 (up2 (up2 w 0 8 r1) 0 9 r5) 0 10 r9) 0 11 ((r13 >>> ((1 : Int32) &&& 31)) &&& (1 : Int32))) 0 12 ((r17 >>> ((2 : Int32) &&& 31)) &&& (1 : Int32))) x1 (0 : Int32))))))
set_option maxHeartbeats 1600000 in
set_option maxRecDepth 100000 in
theorem c_Md_takeCoding {G : sm_G} {b : Nat} {M0 M : sm_M}  {w : wd} {F : Nat} (hI : lo_in G md_L b M0 M w)  (x1 : Int32)  {R : wd} (hf : fn_Md_takeCoding F w x1 = some R) : sm_C G mf_Md_takeCoding [.ref (b + 0), .int x1] M 0 0 (wd_Q G md_L b M none R) := by
  unfold fn_Md_takeCoding at hf
  have hI := hI.here
  refine sm_ofW rfl (Nat.le_of_ble_eq_true rfl) ?_
  refine sm_aload_n d_Md_takeCoding_0 rfl (j := 0) rfl ?_
  refine sm_aload_n d_Md_takeCoding_1 rfl (j := 0) rfl ?_
  refine sm_iload_n d_Md_takeCoding_2 rfl (j := 1) rfl ?_
  refine sm_iconst (v := 1) d_Md_takeCoding_3 (by decide) ?_
  refine sm_iadd d_Md_takeCoding_4 ?_
  obtain ⟨r1, e2, hf⟩ := lo_bnd hf
  refine lo_callV d_Md_takeCoding_5 cs_Md_takeCoding_233 rfl hI ml_0 (As := [.int (x1 + (1 : Int32))]) rfl rfl (Nat.le_of_ble_eq_true rfl) (c_Md_u1 hI (x1 + (1 : Int32)) e2) ?_
  refine lo_put d_Md_takeCoding_8 fp_Md_91 (by decide) hI ml_0 rfl (by rfl) (by rfl) (fun M3 hI4 => ?_)
  refine sm_aload_n d_Md_takeCoding_11 rfl (j := 0) rfl ?_
  refine sm_aload_n d_Md_takeCoding_12 rfl (j := 0) rfl ?_
  refine sm_iload_n d_Md_takeCoding_13 rfl (j := 1) rfl ?_
  refine sm_iconst (v := 2) d_Md_takeCoding_14 (by decide) ?_
  refine sm_iadd d_Md_takeCoding_15 ?_
  obtain ⟨r5, e6, hf⟩ := lo_bnd hf
  refine lo_callV d_Md_takeCoding_16 cs_Md_takeCoding_230 rfl hI4 ml_0 (As := [.int (x1 + (2 : Int32))]) rfl rfl (Nat.le_of_ble_eq_true rfl) (c_Md_u2 hI4 (x1 + (2 : Int32)) e6) ?_
  refine lo_put d_Md_takeCoding_19 fp_Md_25 (by decide) hI4 ml_0 rfl (by rfl) (by rfl) (fun M7 hI8 => ?_)
  refine sm_aload_n d_Md_takeCoding_22 rfl (j := 0) rfl ?_
  refine sm_aload_n d_Md_takeCoding_23 rfl (j := 0) rfl ?_
  refine sm_iload_n d_Md_takeCoding_24 rfl (j := 1) rfl ?_
  refine sm_iconst (v := 4) d_Md_takeCoding_25 (by decide) ?_
  refine sm_iadd d_Md_takeCoding_26 ?_
  obtain ⟨r9, e10, hf⟩ := lo_bnd hf
  refine lo_callV d_Md_takeCoding_27 cs_Md_takeCoding_233 rfl hI8 ml_0 (As := [.int (x1 + (4 : Int32))]) rfl rfl (Nat.le_of_ble_eq_true rfl) (c_Md_u1 hI8 (x1 + (4 : Int32)) e10) ?_
  refine lo_put d_Md_takeCoding_30 fp_Md_94 (by decide) hI8 ml_0 rfl (by rfl) (by rfl) (fun M11 hI12 => ?_)
  refine sm_aload_n d_Md_takeCoding_33 rfl (j := 0) rfl ?_
  refine sm_aload_n d_Md_takeCoding_34 rfl (j := 0) rfl ?_
  refine sm_iload_n d_Md_takeCoding_35 rfl (j := 1) rfl ?_
  obtain ⟨r13, e14, hf⟩ := lo_bnd hf
  refine lo_callV d_Md_takeCoding_36 cs_Md_takeCoding_233 rfl hI12 ml_0 (As := [.int x1]) rfl rfl (Nat.le_of_ble_eq_true rfl) (c_Md_u1 hI12 x1 e14) ?_
  refine sm_iconst (v := 1) d_Md_takeCoding_39 (by decide) ?_
  refine sm_ishr d_Md_takeCoding_40 ?_
  refine sm_iconst (v := 1) d_Md_takeCoding_41 (by decide) ?_
  refine sm_iand d_Md_takeCoding_42 ?_
  refine lo_put d_Md_takeCoding_43 fp_Md_97 (by decide) hI12 ml_0 rfl (by rfl) (by rfl) (fun M15 hI16 => ?_)
  refine sm_aload_n d_Md_takeCoding_46 rfl (j := 0) rfl ?_
  refine sm_aload_n d_Md_takeCoding_47 rfl (j := 0) rfl ?_
  refine sm_iload_n d_Md_takeCoding_48 rfl (j := 1) rfl ?_
  obtain ⟨r17, e18, hf⟩ := lo_bnd hf
  refine lo_callV d_Md_takeCoding_49 cs_Md_takeCoding_233 rfl hI16 ml_0 (As := [.int x1]) rfl rfl (Nat.le_of_ble_eq_true rfl) (c_Md_u1 hI16 x1 e18) ?_
  refine sm_iconst (v := 2) d_Md_takeCoding_52 (by decide) ?_
  refine sm_ishr d_Md_takeCoding_53 ?_
  refine sm_iconst (v := 1) d_Md_takeCoding_54 (by decide) ?_
  refine sm_iand d_Md_takeCoding_55 ?_
  refine lo_put d_Md_takeCoding_56 fp_Md_100 (by decide) hI16 ml_0 rfl (by rfl) (by rfl) (fun M19 hI20 => ?_)
  refine sm_iconst (v := 0) d_Md_takeCoding_59 (by decide) ?_
  refine sm_istore_n d_Md_takeCoding_60 rfl (by decide) rfl ?_
  exact sm_pick [1, 2, 0] (w_Md_takeCoding_61 _ _ _ _ _ hI20 hf) rfl

def fn_Md_takeRows_142 (k45 : wd → Int32 → Int32 → Int32 → Int32 → Int32 → Option (wd)) (F : Nat) (w : wd) (x1 : Int32) (x2 : Int32) (x3 : Int32) (x4 : Int32) (x5 : Int32) (s0 : Int32) (s1 : Int32) : Option (wd) := (if 0 ≤ s1.toInt ∧ s1.toInt < 1552 then k45 (up2 w 9 s1.toInt.toNat s0) x1 x2 x3 x4 (x5 + 1) else none)
set_option maxHeartbeats 1600000 in
set_option maxRecDepth 100000 in
theorem w_Md_takeRows_142 {G : sm_G} {b : Nat} {M0 : sm_M} {bc bs : Nat} {R : wd} {F : Nat} {k45 : wd → Int32 → Int32 → Int32 → Int32 → Int32 → Option (wd)} (hk45 : ∀ (M : sm_M) (w : wd) (x1 : Int32) (x2 : Int32) (x3 : Int32) (x4 : Int32) (x5 : Int32), lo_in G md_L b M0 M w → k45 w x1 x2 x3 x4 x5 = some R → sm_W G mf_Md_takeRows 45 [(0, .ref (b + 0)), (1, .int x1), (2, .int x2), (3, .int x3), (4, .int x4), (5, .int x5)] [] M bc bs (wd_Q G md_L b M0 none R)) : ∀ (M : sm_M) (w : wd) (x1 : Int32) (x2 : Int32) (x3 : Int32) (x4 : Int32) (x5 : Int32) (s0 : Int32) (s1 : Int32), lo_in G md_L b M0 M w → fn_Md_takeRows_142 k45 F w x1 x2 x3 x4 x5 s0 s1 = some R → sm_W G mf_Md_takeRows 142 [(0, .ref (b + 0)), (1, .int x1), (2, .int x2), (3, .int x3), (4, .int x4), (5, .int x5)] [.int s0, .int s1, .ref (b + 9)] M bc bs (wd_Q G md_L b M0 none R) := by
  intro M w x1 x2 x3 x4 x5 s0 s1 hI  hf
  unfold fn_Md_takeRows_142 at hf
  obtain ⟨h18, hf⟩ := lo_chk hf
  refine lo_ast (j := s1.toInt.toNat) d_Md_takeRows_142 hI ml_9 h18 rfl (fun M19 hI20 => ?_)
  refine sm_iinc (v := (x5 + 1)) d_Md_takeRows_143 (j := 5) rfl rfl (by decide) rfl ?_
  refine sm_goto (tgt := 45) d_Md_takeRows_146 (by decide) ?_
  exact sm_pick [1, 2, 3, 4, 5, 0] (hk45 _ _ _ _ _ _ _ hI20 hf) rfl

def fn_Md_takeRows_86 (k45 : wd → Int32 → Int32 → Int32 → Int32 → Int32 → Option (wd)) (F : Nat) (w : wd) (x1 : Int32) (x2 : Int32) (x3 : Int32) (x4 : Int32) (x5 : Int32) (s0 : Bool) : Option (wd) := (if s0 = true then (if x4 = 0 then ((fn_Md_u1 w ((x2 + (1 : Int32)) + x5)).bind fun r21 => fn_Md_takeRows_142 k45 F w x1 x2 x3 x4 x5 ((256 : Int32) * r21) (((97 : Int32) * x1) + x5)) else ((fn_Md_u2 w ((x2 + (1 : Int32)) + ((2 : Int32) * x5))).bind fun r16 => fn_Md_takeRows_142 k45 F w x1 x2 x3 x4 x5 r16 (((97 : Int32) * x1) + x5))) else fn_Md_takeRows_142 k45 F w x1 x2 x3 x4 x5 (0 : Int32) (((97 : Int32) * x1) + x5))
set_option maxHeartbeats 1600000 in
set_option maxRecDepth 100000 in
theorem w_Md_takeRows_86 {G : sm_G} {b : Nat} {M0 : sm_M} {bc bs : Nat} {R : wd} {F : Nat} {k45 : wd → Int32 → Int32 → Int32 → Int32 → Int32 → Option (wd)} (hk45 : ∀ (M : sm_M) (w : wd) (x1 : Int32) (x2 : Int32) (x3 : Int32) (x4 : Int32) (x5 : Int32), lo_in G md_L b M0 M w → k45 w x1 x2 x3 x4 x5 = some R → sm_W G mf_Md_takeRows 45 [(0, .ref (b + 0)), (1, .int x1), (2, .int x2), (3, .int x3), (4, .int x4), (5, .int x5)] [] M bc bs (wd_Q G md_L b M0 none R)) : ∀ (M : sm_M) (w : wd) (x1 : Int32) (x2 : Int32) (x3 : Int32) (x4 : Int32) (x5 : Int32) (s0 : Bool), lo_in G md_L b M0 M w → fn_Md_takeRows_86 k45 F w x1 x2 x3 x4 x5 s0 = some R → sm_W G mf_Md_takeRows 86 [(0, .ref (b + 0)), (1, .int x1), (2, .int x2), (3, .int x3), (4, .int x4), (5, .int x5)] [.int (bi s0)] M bc bs (wd_Q G md_L b M0 none R) := by
  intro M w x1 x2 x3 x4 x5 s0 hI  hf
  unfold fn_Md_takeRows_86 at hf
  refine sm_istore d_Md_takeRows_86 (by decide) rfl ?_
  refine sm_aload_n d_Md_takeRows_88 rfl (j := 1) rfl ?_
  refine lo_get (v := .ref (b + 9)) d_Md_takeRows_89 fg_Md_38 hI ml_0 rfl ?_
  refine sm_bipush (v := 97) d_Md_takeRows_92 (by decide) ?_
  refine sm_iload_n d_Md_takeRows_94 rfl (j := 2) rfl ?_
  refine sm_imul d_Md_takeRows_95 ?_
  refine sm_iload d_Md_takeRows_96 (j := 6) rfl ?_
  refine sm_iadd d_Md_takeRows_98 ?_
  refine sm_iload d_Md_takeRows_99 (j := 0) rfl ?_
  refine sm_if_ne (tgt := 108) d_Md_takeRows_101 (by decide) (fun h14 => ?_) (fun h14 => ?_)
  · rw [if_pos (bi1 h14)] at hf
    refine sm_iload d_Md_takeRows_108 (j := 5) rfl ?_
    refine sm_if_ne (tgt := 130) d_Md_takeRows_110 (by decide) (fun h15 => ?_) (fun h15 => ?_)
    · rw [if_neg h15] at hf
      refine sm_aload_n d_Md_takeRows_130 rfl (j := 1) rfl ?_
      refine sm_iload_n d_Md_takeRows_131 rfl (j := 3) rfl ?_
      refine sm_iconst (v := 1) d_Md_takeRows_132 (by decide) ?_
      refine sm_iadd d_Md_takeRows_133 ?_
      refine sm_iconst (v := 2) d_Md_takeRows_134 (by decide) ?_
      refine sm_iload d_Md_takeRows_135 (j := 6) rfl ?_
      refine sm_imul d_Md_takeRows_137 ?_
      refine sm_iadd d_Md_takeRows_138 ?_
      obtain ⟨r16, e17, hf⟩ := lo_bnd hf
      refine lo_callV d_Md_takeRows_139 cs_Md_takeRows_230 rfl hI ml_0 (As := [.int ((x2 + (1 : Int32)) + ((2 : Int32) * x5))]) rfl rfl (Nat.le_of_ble_eq_true rfl) (c_Md_u2 hI ((x2 + (1 : Int32)) + ((2 : Int32) * x5)) e17) ?_
      exact sm_pick [1, 2, 3, 4, 5, 6] (w_Md_takeRows_142 hk45 _ _ _ _ _ _ _ _ _ hI hf) rfl
    · rw [if_pos h15] at hf
      refine sm_sipush (v := 256) d_Md_takeRows_113 (by decide) ?_
      refine sm_aload_n d_Md_takeRows_116 rfl (j := 1) rfl ?_
      refine sm_iload_n d_Md_takeRows_117 rfl (j := 3) rfl ?_
      refine sm_iconst (v := 1) d_Md_takeRows_118 (by decide) ?_
      refine sm_iadd d_Md_takeRows_119 ?_
      refine sm_iload d_Md_takeRows_120 (j := 6) rfl ?_
      refine sm_iadd d_Md_takeRows_122 ?_
      obtain ⟨r21, e22, hf⟩ := lo_bnd hf
      refine lo_callV d_Md_takeRows_123 cs_Md_takeRows_233 rfl hI ml_0 (As := [.int ((x2 + (1 : Int32)) + x5)]) rfl rfl (Nat.le_of_ble_eq_true rfl) (c_Md_u1 hI ((x2 + (1 : Int32)) + x5) e22) ?_
      refine sm_imul d_Md_takeRows_126 ?_
      refine sm_goto (tgt := 142) d_Md_takeRows_127 (by decide) ?_
      exact sm_pick [1, 2, 3, 4, 5, 6] (w_Md_takeRows_142 hk45 _ _ _ _ _ _ _ _ _ hI hf) rfl
  · rw [if_neg (bi0 h14)] at hf
    refine sm_iconst (v := 0) d_Md_takeRows_104 (by decide) ?_
    refine sm_goto (tgt := 142) d_Md_takeRows_105 (by decide) ?_
    exact sm_pick [1, 2, 3, 4, 5, 6] (w_Md_takeRows_142 hk45 _ _ _ _ _ _ _ _ _ hI hf) rfl

def fn_Md_takeRows_45 (F : Nat) : Nat → wd → Int32 → Int32 → Int32 → Int32 → Int32 → Option (wd)
 | 0, _, _, _, _, _, _ => none
 | n9 + 1, w, x1, x2, x3, x4, x5 => (if (97 : Int32) ≤ x5 then some w else (if x4 = 0 then (if x3 ≤ x5 then fn_Md_takeRows_86 (fn_Md_takeRows_45 F n9) F w x1 x2 x3 x4 x5 false else fn_Md_takeRows_86 (fn_Md_takeRows_45 F n9) F w x1 x2 x3 x4 x5 true) else (if x3 ≤ (((2 : Int32) * x5) + (1 : Int32)) then fn_Md_takeRows_86 (fn_Md_takeRows_45 F n9) F w x1 x2 x3 x4 x5 false else fn_Md_takeRows_86 (fn_Md_takeRows_45 F n9) F w x1 x2 x3 x4 x5 true)))
set_option maxHeartbeats 1600000 in
set_option maxRecDepth 100000 in
theorem w_Md_takeRows_45 {G : sm_G} {b : Nat} {M0 : sm_M} {bc bs : Nat} {R : wd} {F : Nat} : ∀ (n9 : Nat), ∀ (M : sm_M) (w : wd) (x1 : Int32) (x2 : Int32) (x3 : Int32) (x4 : Int32) (x5 : Int32), lo_in G md_L b M0 M w → fn_Md_takeRows_45 F n9 w x1 x2 x3 x4 x5 = some R → sm_W G mf_Md_takeRows 45 [(0, .ref (b + 0)), (1, .int x1), (2, .int x2), (3, .int x3), (4, .int x4), (5, .int x5)] [] M bc bs (wd_Q G md_L b M0 none R) := by
  intro n9
  induction n9 with
  | zero => intro M w x1 x2 x3 x4 x5 hI  hf; cases hf
  | succ n9 ih =>
    intro M w x1 x2 x3 x4 x5 hI  hf
    rw [fn_Md_takeRows_45] at hf
    refine sm_iload d_Md_takeRows_45 (j := 5) rfl ?_
    refine sm_bipush (v := 97) d_Md_takeRows_47 (by decide) ?_
    refine sm_icmp_ge (tgt := 149) d_Md_takeRows_49 (by decide) (fun h11 => ?_) (fun h11 => ?_)
    · rw [if_pos h11] at hf
      cases hf
      refine sm_return d_Md_takeRows_149 rfl ?_
      exact ⟨rfl, hI⟩
    · rw [if_neg h11] at hf
      refine sm_iload d_Md_takeRows_52 (j := 4) rfl ?_
      refine sm_if_ne (tgt := 71) d_Md_takeRows_54 (by decide) (fun h12 => ?_) (fun h12 => ?_)
      · rw [if_neg h12] at hf
        refine sm_iconst (v := 2) d_Md_takeRows_71 (by decide) ?_
        refine sm_iload d_Md_takeRows_72 (j := 5) rfl ?_
        refine sm_imul d_Md_takeRows_74 ?_
        refine sm_iconst (v := 1) d_Md_takeRows_75 (by decide) ?_
        refine sm_iadd d_Md_takeRows_76 ?_
        refine sm_iload_n d_Md_takeRows_77 rfl (j := 3) rfl ?_
        refine sm_icmp_ge (tgt := 85) d_Md_takeRows_78 (by decide) (fun h13 => ?_) (fun h13 => ?_)
        · rw [if_pos h13] at hf
          refine sm_iconst (v := 0) d_Md_takeRows_85 (by decide) ?_
          exact sm_pick [0, 1, 2, 3, 4, 5] (w_Md_takeRows_86 ih _ _ _ _ _ _ _ _ hI hf) rfl
        · rw [if_neg h13] at hf
          refine sm_iconst (v := 1) d_Md_takeRows_81 (by decide) ?_
          refine sm_goto (tgt := 86) d_Md_takeRows_82 (by decide) ?_
          exact sm_pick [0, 1, 2, 3, 4, 5] (w_Md_takeRows_86 ih _ _ _ _ _ _ _ _ hI hf) rfl
      · rw [if_pos h12] at hf
        refine sm_iload d_Md_takeRows_57 (j := 5) rfl ?_
        refine sm_iload_n d_Md_takeRows_59 rfl (j := 3) rfl ?_
        refine sm_icmp_ge (tgt := 67) d_Md_takeRows_60 (by decide) (fun h23 => ?_) (fun h23 => ?_)
        · rw [if_pos h23] at hf
          refine sm_iconst (v := 0) d_Md_takeRows_67 (by decide) ?_
          refine sm_goto (tgt := 86) d_Md_takeRows_68 (by decide) ?_
          exact sm_pick [0, 1, 2, 3, 4, 5] (w_Md_takeRows_86 ih _ _ _ _ _ _ _ _ hI hf) rfl
        · rw [if_neg h23] at hf
          refine sm_iconst (v := 1) d_Md_takeRows_63 (by decide) ?_
          refine sm_goto (tgt := 86) d_Md_takeRows_64 (by decide) ?_
          exact sm_pick [0, 1, 2, 3, 4, 5] (w_Md_takeRows_86 ih _ _ _ _ _ _ _ _ hI hf) rfl

def fn_Md_takeRows (F : Nat) (w : wd) (x1 : Int32) (x2 : Int32) (x3 : Int32) : Option (wd) := ((fn_Md_u1 w x2).bind fun r1 => (if 0 ≤ (((8 : Int32) * x1) + (5 : Int32)).toInt ∧ (((8 : Int32) * x1) + (5 : Int32)).toInt < 128 then ((fn_Md_u1 (up2 w 6 ((((8 : Int32) * x1) + (5 : Int32)).toInt.toNat) (r1 &&& (31 : Int32))) x2).bind fun r6 => (if 0 ≤ (((8 : Int32) * x1) + (6 : Int32)).toInt ∧ (((8 : Int32) * x1) + (6 : Int32)).toInt < 128 then fn_Md_takeRows_45 F F (up2 (up2 w 6 ((((8 : Int32) * x1) + (5 : Int32)).toInt.toNat) (r1 &&& (31 : Int32))) 6 ((((8 : Int32) * x1) + (6 : Int32)).toInt.toNat) (r6 >>> ((5 : Int32) &&& 31))) x1 x2 x3 (r1 &&& (31 : Int32)) (0 : Int32) else none)) else none))
set_option maxHeartbeats 1600000 in
set_option maxRecDepth 100000 in
theorem c_Md_takeRows {G : sm_G} {b : Nat} {M0 M : sm_M}  {w : wd} {F : Nat} (hI : lo_in G md_L b M0 M w)  (x1 : Int32) (x2 : Int32) (x3 : Int32)  {R : wd} (hf : fn_Md_takeRows F w x1 x2 x3 = some R) : sm_C G mf_Md_takeRows [.ref (b + 0), .int x1, .int x2, .int x3] M 0 0 (wd_Q G md_L b M none R) := by
  unfold fn_Md_takeRows at hf
  have hI := hI.here
  refine sm_ofW rfl (Nat.le_of_ble_eq_true rfl) ?_
  refine sm_aload_n d_Md_takeRows_0 rfl (j := 0) rfl ?_
  refine sm_iload_n d_Md_takeRows_1 rfl (j := 2) rfl ?_
  obtain ⟨r1, e2, hf⟩ := lo_bnd hf
  refine lo_callV d_Md_takeRows_2 cs_Md_takeRows_233 rfl hI ml_0 (As := [.int x2]) rfl rfl (Nat.le_of_ble_eq_true rfl) (c_Md_u1 hI x2 e2) ?_
  refine sm_bipush (v := 31) d_Md_takeRows_5 (by decide) ?_
  refine sm_iand d_Md_takeRows_7 ?_
  refine sm_istore d_Md_takeRows_8 (by decide) rfl ?_
  refine sm_aload_n d_Md_takeRows_10 rfl (j := 1) rfl ?_
  refine lo_get (v := .ref (b + 6)) d_Md_takeRows_11 fg_Md_29 hI ml_0 rfl ?_
  refine sm_bipush (v := 8) d_Md_takeRows_14 (by decide) ?_
  refine sm_iload_n d_Md_takeRows_16 rfl (j := 2) rfl ?_
  refine sm_imul d_Md_takeRows_17 ?_
  refine sm_iconst (v := 5) d_Md_takeRows_18 (by decide) ?_
  refine sm_iadd d_Md_takeRows_19 ?_
  refine sm_iload d_Md_takeRows_20 (j := 0) rfl ?_
  obtain ⟨h3, hf⟩ := lo_chk hf
  refine lo_ast (j := (((8 : Int32) * x1) + (5 : Int32)).toInt.toNat) d_Md_takeRows_22 hI ml_6 h3 rfl (fun M4 hI5 => ?_)
  refine sm_aload_n d_Md_takeRows_23 rfl (j := 1) rfl ?_
  refine lo_get (v := .ref (b + 6)) d_Md_takeRows_24 fg_Md_29 hI5 ml_0 rfl ?_
  refine sm_bipush (v := 8) d_Md_takeRows_27 (by decide) ?_
  refine sm_iload_n d_Md_takeRows_29 rfl (j := 2) rfl ?_
  refine sm_imul d_Md_takeRows_30 ?_
  refine sm_bipush (v := 6) d_Md_takeRows_31 (by decide) ?_
  refine sm_iadd d_Md_takeRows_33 ?_
  refine sm_aload_n d_Md_takeRows_34 rfl (j := 1) rfl ?_
  refine sm_iload_n d_Md_takeRows_35 rfl (j := 3) rfl ?_
  obtain ⟨r6, e7, hf⟩ := lo_bnd hf
  refine lo_callV d_Md_takeRows_36 cs_Md_takeRows_233 rfl hI5 ml_0 (As := [.int x2]) rfl rfl (Nat.le_of_ble_eq_true rfl) (c_Md_u1 hI5 x2 e7) ?_
  refine sm_iconst (v := 5) d_Md_takeRows_39 (by decide) ?_
  refine sm_ishr d_Md_takeRows_40 ?_
  obtain ⟨h8, hf⟩ := lo_chk hf
  refine lo_ast (j := (((8 : Int32) * x1) + (6 : Int32)).toInt.toNat) d_Md_takeRows_41 hI5 ml_6 h8 rfl (fun M9 hI10 => ?_)
  refine sm_iconst (v := 0) d_Md_takeRows_42 (by decide) ?_
  refine sm_istore d_Md_takeRows_43 (by decide) rfl ?_
  exact sm_pick [2, 3, 4, 5, 1, 0] (w_Md_takeRows_45 _ _ _ _ _ _ _ _ hI10 hf) rfl

def fn_Md_takeChanges_91 (k20 : wd → Int32 → Int32 → Int32 → Option (wd)) (F : Nat) (w : wd) (x1 : Int32) (x2 : Int32) (x3 : Int32) (x4 : Int32) (s0 : Int32) (s1 : Int32) (s2 : Int32) (s3 : Int32) (s4 : Int32) : Option (wd) := ((fn_Md_u1 w (x4 + (6 : Int32))).bind fun r19 => ((fn_Md_turn w s4 s3 s2 s1 s0 r19).bind fun r21 => k20 r21 x1 x2 (x3 + 1)))
set_option maxHeartbeats 1600000 in
set_option maxRecDepth 100000 in
theorem w_Md_takeChanges_91 {G : sm_G} {b : Nat} {M0 : sm_M} {bc bs : Nat} {R : wd} {F : Nat} {k20 : wd → Int32 → Int32 → Int32 → Option (wd)} (hk20 : ∀ (M : sm_M) (w : wd) (x1 : Int32) (x2 : Int32) (x3 : Int32), lo_in G md_L b M0 M w → k20 w x1 x2 x3 = some R → sm_W G mf_Md_takeChanges 20 [(0, .ref (b + 0)), (1, .int x1), (2, .int x2), (3, .int x3)] [] M bc bs (wd_Q G md_L b M0 none R)) : ∀ (M : sm_M) (w : wd) (x1 : Int32) (x2 : Int32) (x3 : Int32) (x4 : Int32) (s0 : Int32) (s1 : Int32) (s2 : Int32) (s3 : Int32) (s4 : Int32), lo_in G md_L b M0 M w → fn_Md_takeChanges_91 k20 F w x1 x2 x3 x4 s0 s1 s2 s3 s4 = some R → sm_W G mf_Md_takeChanges 91 [(0, .ref (b + 0)), (1, .int x1), (2, .int x2), (3, .int x3), (4, .int x4)] [.int s0, .int s1, .int s2, .int s3, .int s4, .ref (b + 0)] M bc bs (wd_Q G md_L b M0 none R) := by
  intro M w x1 x2 x3 x4 s0 s1 s2 s3 s4 hI  hf
  unfold fn_Md_takeChanges_91 at hf
  refine sm_aload_n d_Md_takeChanges_91 rfl (j := 0) rfl ?_
  refine sm_iload d_Md_takeChanges_92 (j := 4) rfl ?_
  refine sm_bipush (v := 6) d_Md_takeChanges_94 (by decide) ?_
  refine sm_iadd d_Md_takeChanges_96 ?_
  obtain ⟨r19, e20, hf⟩ := lo_bnd hf
  refine lo_callV d_Md_takeChanges_97 cs_Md_takeChanges_233 rfl hI ml_0 (As := [.int (x4 + (6 : Int32))]) rfl rfl (Nat.le_of_ble_eq_true rfl) (c_Md_u1 hI (x4 + (6 : Int32)) e20) ?_
  obtain ⟨r21, e22, hf⟩ := lo_bnd hf
  refine lo_callVm d_Md_takeChanges_100 cs_Md_takeChanges_156 rfl hI ml_0 (As := [.int s4, .int s3, .int s2, .int s1, .int s0, .int r19]) rfl rfl (Nat.le_of_ble_eq_true rfl) (c_Md_turn hI s4 s3 s2 s1 s0 r19 e22) (fun M23 hI24 => ?_)
  refine sm_iinc (v := (x3 + 1)) d_Md_takeChanges_103 (j := 3) rfl rfl (by decide) rfl ?_
  refine sm_goto (tgt := 20) d_Md_takeChanges_106 (by decide) ?_
  exact sm_pick [1, 2, 3, 0] (hk20 _ _ _ _ _ hI24 hf) rfl

def fn_Md_takeChanges_20 (F : Nat) : Nat → wd → Int32 → Int32 → Int32 → Option (wd)
 | 0, _, _, _, _ => none
 | n9 + 1, w, x1, x2, x3 => (if x2 ≤ x3 then some w else ((fn_Md_u1 w ((x1 + (4 : Int32)) + ((7 : Int32) * x3))).bind fun r6 => ((fn_Md_u1 w (((x1 + (4 : Int32)) + ((7 : Int32) * x3)) + (1 : Int32))).bind fun r8 => ((fn_Md_u2 w (((x1 + (4 : Int32)) + ((7 : Int32) * x3)) + (2 : Int32))).bind fun r10 => ((fn_Md_u1 w (((x1 + (4 : Int32)) + ((7 : Int32) * x3)) + (4 : Int32))).bind fun r12 => ((fn_Md_u1 w (((x1 + (4 : Int32)) + ((7 : Int32) * x3)) + (5 : Int32))).bind fun r14 => (if r14 = 0 then fn_Md_takeChanges_91 (fn_Md_takeChanges_20 F n9) F w x1 x2 x3 ((x1 + (4 : Int32)) + ((7 : Int32) * x3)) (256 : Int32) r12 r10 r8 r6 else ((fn_Md_u1 w (((x1 + (4 : Int32)) + ((7 : Int32) * x3)) + (5 : Int32))).bind fun r17 => fn_Md_takeChanges_91 (fn_Md_takeChanges_20 F n9) F w x1 x2 x3 ((x1 + (4 : Int32)) + ((7 : Int32) * x3)) r17 r12 r10 r8 r6))))))))
set_option maxHeartbeats 1600000 in
set_option maxRecDepth 100000 in
theorem w_Md_takeChanges_20 {G : sm_G} {b : Nat} {M0 : sm_M} {bc bs : Nat} {R : wd} {F : Nat} : ∀ (n9 : Nat), ∀ (M : sm_M) (w : wd) (x1 : Int32) (x2 : Int32) (x3 : Int32), lo_in G md_L b M0 M w → fn_Md_takeChanges_20 F n9 w x1 x2 x3 = some R → sm_W G mf_Md_takeChanges 20 [(0, .ref (b + 0)), (1, .int x1), (2, .int x2), (3, .int x3)] [] M bc bs (wd_Q G md_L b M0 none R) := by
  intro n9
  induction n9 with
  | zero => intro M w x1 x2 x3 hI  hf; cases hf
  | succ n9 ih =>
    intro M w x1 x2 x3 hI  hf
    rw [fn_Md_takeChanges_20] at hf
    refine sm_iload_n d_Md_takeChanges_20 rfl (j := 3) rfl ?_
    refine sm_iload_n d_Md_takeChanges_21 rfl (j := 2) rfl ?_
    refine sm_icmp_ge (tgt := 109) d_Md_takeChanges_22 (by decide) (fun h5 => ?_) (fun h5 => ?_)
    · rw [if_pos h5] at hf
      cases hf
      refine sm_return d_Md_takeChanges_109 rfl ?_
      exact ⟨rfl, hI⟩
    · rw [if_neg h5] at hf
      refine sm_iload_n d_Md_takeChanges_25 rfl (j := 1) rfl ?_
      refine sm_iconst (v := 4) d_Md_takeChanges_26 (by decide) ?_
      refine sm_iadd d_Md_takeChanges_27 ?_
      refine sm_bipush (v := 7) d_Md_takeChanges_28 (by decide) ?_
      refine sm_iload_n d_Md_takeChanges_30 rfl (j := 3) rfl ?_
      refine sm_imul d_Md_takeChanges_31 ?_
      refine sm_iadd d_Md_takeChanges_32 ?_
      refine sm_istore d_Md_takeChanges_33 (by decide) rfl ?_
      refine sm_aload_n d_Md_takeChanges_35 rfl (j := 1) rfl ?_
      refine sm_aload_n d_Md_takeChanges_36 rfl (j := 1) rfl ?_
      refine sm_iload d_Md_takeChanges_37 (j := 0) rfl ?_
      obtain ⟨r6, e7, hf⟩ := lo_bnd hf
      refine lo_callV d_Md_takeChanges_39 cs_Md_takeChanges_233 rfl hI ml_0 (As := [.int ((x1 + (4 : Int32)) + ((7 : Int32) * x3))]) rfl rfl (Nat.le_of_ble_eq_true rfl) (c_Md_u1 hI ((x1 + (4 : Int32)) + ((7 : Int32) * x3)) e7) ?_
      refine sm_aload_n d_Md_takeChanges_42 rfl (j := 1) rfl ?_
      refine sm_iload d_Md_takeChanges_43 (j := 0) rfl ?_
      refine sm_iconst (v := 1) d_Md_takeChanges_45 (by decide) ?_
      refine sm_iadd d_Md_takeChanges_46 ?_
      obtain ⟨r8, e9, hf⟩ := lo_bnd hf
      refine lo_callV d_Md_takeChanges_47 cs_Md_takeChanges_233 rfl hI ml_0 (As := [.int (((x1 + (4 : Int32)) + ((7 : Int32) * x3)) + (1 : Int32))]) rfl rfl (Nat.le_of_ble_eq_true rfl) (c_Md_u1 hI (((x1 + (4 : Int32)) + ((7 : Int32) * x3)) + (1 : Int32)) e9) ?_
      refine sm_aload_n d_Md_takeChanges_50 rfl (j := 1) rfl ?_
      refine sm_iload d_Md_takeChanges_51 (j := 0) rfl ?_
      refine sm_iconst (v := 2) d_Md_takeChanges_53 (by decide) ?_
      refine sm_iadd d_Md_takeChanges_54 ?_
      obtain ⟨r10, e11, hf⟩ := lo_bnd hf
      refine lo_callV d_Md_takeChanges_55 cs_Md_takeChanges_230 rfl hI ml_0 (As := [.int (((x1 + (4 : Int32)) + ((7 : Int32) * x3)) + (2 : Int32))]) rfl rfl (Nat.le_of_ble_eq_true rfl) (c_Md_u2 hI (((x1 + (4 : Int32)) + ((7 : Int32) * x3)) + (2 : Int32)) e11) ?_
      refine sm_aload_n d_Md_takeChanges_58 rfl (j := 1) rfl ?_
      refine sm_iload d_Md_takeChanges_59 (j := 0) rfl ?_
      refine sm_iconst (v := 4) d_Md_takeChanges_61 (by decide) ?_
      refine sm_iadd d_Md_takeChanges_62 ?_
      obtain ⟨r12, e13, hf⟩ := lo_bnd hf
      refine lo_callV d_Md_takeChanges_63 cs_Md_takeChanges_233 rfl hI ml_0 (As := [.int (((x1 + (4 : Int32)) + ((7 : Int32) * x3)) + (4 : Int32))]) rfl rfl (Nat.le_of_ble_eq_true rfl) (c_Md_u1 hI (((x1 + (4 : Int32)) + ((7 : Int32) * x3)) + (4 : Int32)) e13) ?_
      refine sm_aload_n d_Md_takeChanges_66 rfl (j := 1) rfl ?_
      refine sm_iload d_Md_takeChanges_67 (j := 0) rfl ?_
      refine sm_iconst (v := 5) d_Md_takeChanges_69 (by decide) ?_
      refine sm_iadd d_Md_takeChanges_70 ?_
      obtain ⟨r14, e15, hf⟩ := lo_bnd hf
      refine lo_callV d_Md_takeChanges_71 cs_Md_takeChanges_233 rfl hI ml_0 (As := [.int (((x1 + (4 : Int32)) + ((7 : Int32) * x3)) + (5 : Int32))]) rfl rfl (Nat.le_of_ble_eq_true rfl) (c_Md_u1 hI (((x1 + (4 : Int32)) + ((7 : Int32) * x3)) + (5 : Int32)) e15) ?_
      refine sm_if_ne (tgt := 83) d_Md_takeChanges_74 (by decide) (fun h16 => ?_) (fun h16 => ?_)
      · rw [if_neg h16] at hf
        refine sm_aload_n d_Md_takeChanges_83 rfl (j := 1) rfl ?_
        refine sm_iload d_Md_takeChanges_84 (j := 0) rfl ?_
        refine sm_iconst (v := 5) d_Md_takeChanges_86 (by decide) ?_
        refine sm_iadd d_Md_takeChanges_87 ?_
        obtain ⟨r17, e18, hf⟩ := lo_bnd hf
        refine lo_callV d_Md_takeChanges_88 cs_Md_takeChanges_233 rfl hI ml_0 (As := [.int (((x1 + (4 : Int32)) + ((7 : Int32) * x3)) + (5 : Int32))]) rfl rfl (Nat.le_of_ble_eq_true rfl) (c_Md_u1 hI (((x1 + (4 : Int32)) + ((7 : Int32) * x3)) + (5 : Int32)) e18) ?_
        exact sm_pick [1, 2, 3, 4, 0] (w_Md_takeChanges_91 ih _ _ _ _ _ _ _ _ _ _ _ hI hf) rfl
      · rw [if_pos h16] at hf
        refine sm_sipush (v := 256) d_Md_takeChanges_77 (by decide) ?_
        refine sm_goto (tgt := 91) d_Md_takeChanges_80 (by decide) ?_
        exact sm_pick [1, 2, 3, 4, 0] (w_Md_takeChanges_91 ih _ _ _ _ _ _ _ _ _ _ _ hI hf) rfl

def fn_Md_takeChanges (F : Nat) (w : wd) (x1 : Int32) : Option (wd) := ((fn_Md_u2 (up2 w 0 17 (0 : Int32)) (x1 + (2 : Int32))).bind fun r3 => fn_Md_takeChanges_20 F F (up2 w 0 17 (0 : Int32)) x1 ((r3 - (2 : Int32)) / (7 : Int32)) (0 : Int32))
set_option maxHeartbeats 1600000 in
set_option maxRecDepth 100000 in
theorem c_Md_takeChanges {G : sm_G} {b : Nat} {M0 M : sm_M}  {w : wd} {F : Nat} (hI : lo_in G md_L b M0 M w)  (x1 : Int32)  {R : wd} (hf : fn_Md_takeChanges F w x1 = some R) : sm_C G mf_Md_takeChanges [.ref (b + 0), .int x1] M 0 0 (wd_Q G md_L b M none R) := by
  unfold fn_Md_takeChanges at hf
  have hI := hI.here
  refine sm_ofW rfl (Nat.le_of_ble_eq_true rfl) ?_
  refine sm_aload_n d_Md_takeChanges_0 rfl (j := 0) rfl ?_
  refine sm_iconst (v := 0) d_Md_takeChanges_1 (by decide) ?_
  refine lo_put d_Md_takeChanges_2 fp_Md_103 (by decide) hI ml_0 rfl (by rfl) (by rfl) (fun M1 hI2 => ?_)
  refine sm_aload_n d_Md_takeChanges_5 rfl (j := 0) rfl ?_
  refine sm_iload_n d_Md_takeChanges_6 rfl (j := 1) rfl ?_
  refine sm_iconst (v := 2) d_Md_takeChanges_7 (by decide) ?_
  refine sm_iadd d_Md_takeChanges_8 ?_
  obtain ⟨r3, e4, hf⟩ := lo_bnd hf
  refine lo_callV d_Md_takeChanges_9 cs_Md_takeChanges_230 rfl hI2 ml_0 (As := [.int (x1 + (2 : Int32))]) rfl rfl (Nat.le_of_ble_eq_true rfl) (c_Md_u2 hI2 (x1 + (2 : Int32)) e4) ?_
  refine sm_iconst (v := 2) d_Md_takeChanges_12 (by decide) ?_
  refine sm_isub d_Md_takeChanges_13 ?_
  refine sm_bipush (v := 7) d_Md_takeChanges_14 (by decide) ?_
  refine sm_idiv d_Md_takeChanges_16 (by decide) ?_
  refine sm_istore_n d_Md_takeChanges_17 rfl (by decide) rfl ?_
  refine sm_iconst (v := 0) d_Md_takeChanges_18 (by decide) ?_
  refine sm_istore_n d_Md_takeChanges_19 rfl (by decide) rfl ?_
  exact sm_pick [2, 3, 1, 0] (w_Md_takeChanges_20 _ _ _ _ _ _ hI2 hf) rfl

