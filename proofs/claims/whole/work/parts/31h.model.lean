/-! StreamMarksModel, on; written by wip/tools/model.py -/
def fn_Md_fitsRows_69 (w : wd) (x4 : Int32) (x5 : Bool) (s0 : Int32) : Bool := (if x4 < 0 then false else (if x5 = true then (if (s0 - s0 / (3 : Int32) * (3 : Int32)) = (1 : Int32) then (if (97 : Int32) < s0 then false else true) else false) else false))
set_option maxHeartbeats 1600000 in
set_option maxRecDepth 100000 in
theorem w_Md_fitsRows_69 {G : sm_G} {b : Nat} {M0 : sm_M} {bc bs : Nat} {R : Bool} : ∀ (w : wd) (x4 : Int32) (x5 : Bool) (s0 : Int32), lo_in G md_L b M0 M0 w → fn_Md_fitsRows_69 w x4 x5 s0 = R → sm_W G mf_Md_fitsRows 69 [(4, .int x4), (5, .int (bi x5))] [.int s0] M0 bc bs (sm_pu M0 (.int (bi R))) := by
  intro w x4 x5 s0 hI  hf
  unfold fn_Md_fitsRows_69 at hf
  refine sm_istore d_Md_fitsRows_69 (by decide) rfl ?_
  refine sm_iload d_Md_fitsRows_71 (j := 1) rfl ?_
  refine sm_if_lt (tgt := 100) d_Md_fitsRows_73 (by decide) (fun h5 => ?_) (fun h5 => ?_)
  · rw [if_pos h5] at hf
    refine sm_iconst (v := 0) d_Md_fitsRows_100 (by decide) ?_
    subst hf
    refine sm_ireturn d_Md_fitsRows_101 rfl (by rfl) ?_
    exact ⟨rfl, rfl⟩
  · rw [if_neg h5] at hf
    refine sm_iload d_Md_fitsRows_76 (j := 2) rfl ?_
    refine sm_if_eq (tgt := 100) d_Md_fitsRows_78 (by decide) (fun h6 => ?_) (fun h6 => ?_)
    · rw [if_neg (bi0 h6)] at hf
      refine sm_iconst (v := 0) d_Md_fitsRows_100 (by decide) ?_
      subst hf
      refine sm_ireturn d_Md_fitsRows_101 rfl (by rfl) ?_
      exact ⟨rfl, rfl⟩
    · rw [if_pos (bi1 h6)] at hf
      refine sm_iload d_Md_fitsRows_81 (j := 0) rfl ?_
      refine sm_iconst (v := 3) d_Md_fitsRows_83 (by decide) ?_
      refine sm_irem d_Md_fitsRows_84 (by decide) ?_
      refine sm_iconst (v := 1) d_Md_fitsRows_85 (by decide) ?_
      refine sm_icmp_ne (tgt := 100) d_Md_fitsRows_86 (by decide) (fun h7 => ?_) (fun h7 => ?_)
      · rw [if_neg h7] at hf
        refine sm_iconst (v := 0) d_Md_fitsRows_100 (by decide) ?_
        subst hf
        refine sm_ireturn d_Md_fitsRows_101 rfl (by rfl) ?_
        exact ⟨rfl, rfl⟩
      · rw [if_pos h7] at hf
        refine sm_iload d_Md_fitsRows_89 (j := 0) rfl ?_
        refine sm_bipush (v := 97) d_Md_fitsRows_91 (by decide) ?_
        refine sm_icmp_gt (tgt := 100) d_Md_fitsRows_93 (by decide) (fun h8 => ?_) (fun h8 => ?_)
        · rw [if_pos h8] at hf
          refine sm_iconst (v := 0) d_Md_fitsRows_100 (by decide) ?_
          subst hf
          refine sm_ireturn d_Md_fitsRows_101 rfl (by rfl) ?_
          exact ⟨rfl, rfl⟩
        · rw [if_neg h8] at hf
          refine sm_iconst (v := 1) d_Md_fitsRows_96 (by decide) ?_
          refine sm_goto (tgt := 101) d_Md_fitsRows_97 (by decide) ?_
          subst hf
          refine sm_ireturn d_Md_fitsRows_101 rfl (by rfl) ?_
          exact ⟨rfl, rfl⟩

def fn_Md_fitsRows_54 (w : wd) (x3 : Int32) (x4 : Int32) (s0 : Bool) : Bool := (if x3 = 0 then fn_Md_fitsRows_69 w x4 s0 x4 else fn_Md_fitsRows_69 w x4 s0 (x4 / (2 : Int32)))
set_option maxHeartbeats 1600000 in
set_option maxRecDepth 100000 in
theorem w_Md_fitsRows_54 {G : sm_G} {b : Nat} {M0 : sm_M} {bc bs : Nat} {R : Bool} : ∀ (w : wd) (x3 : Int32) (x4 : Int32) (s0 : Bool), lo_in G md_L b M0 M0 w → fn_Md_fitsRows_54 w x3 x4 s0 = R → sm_W G mf_Md_fitsRows 54 [(3, .int x3), (4, .int x4)] [.int (bi s0)] M0 bc bs (sm_pu M0 (.int (bi R))) := by
  intro w x3 x4 s0 hI  hf
  unfold fn_Md_fitsRows_54 at hf
  refine sm_istore d_Md_fitsRows_54 (by decide) rfl ?_
  refine sm_iload_n d_Md_fitsRows_56 rfl (j := 1) rfl ?_
  refine sm_if_ne (tgt := 65) d_Md_fitsRows_57 (by decide) (fun h4 => ?_) (fun h4 => ?_)
  · rw [if_neg h4] at hf
    refine sm_iload d_Md_fitsRows_65 (j := 2) rfl ?_
    refine sm_iconst (v := 2) d_Md_fitsRows_67 (by decide) ?_
    refine sm_idiv d_Md_fitsRows_68 (by decide) ?_
    exact sm_pick [2, 0] (w_Md_fitsRows_69 _ _ _ _ hI hf) rfl
  · rw [if_pos h4] at hf
    refine sm_iload d_Md_fitsRows_60 (j := 2) rfl ?_
    refine sm_goto (tgt := 69) d_Md_fitsRows_62 (by decide) ?_
    exact sm_pick [2, 0] (w_Md_fitsRows_69 _ _ _ _ hI hf) rfl

def fn_Md_fitsRows_49 (w : wd) (x3 : Int32) (x4 : Int32) : Bool := fn_Md_fitsRows_54 w x3 x4 true
set_option maxHeartbeats 1600000 in
set_option maxRecDepth 100000 in
theorem w_Md_fitsRows_49 {G : sm_G} {b : Nat} {M0 : sm_M} {bc bs : Nat} {R : Bool} : ∀ (w : wd) (x3 : Int32) (x4 : Int32), lo_in G md_L b M0 M0 w → fn_Md_fitsRows_49 w x3 x4 = R → sm_W G mf_Md_fitsRows 49 [(3, .int x3), (4, .int x4)] [] M0 bc bs (sm_pu M0 (.int (bi R))) := by
  intro w x3 x4 hI  hf
  unfold fn_Md_fitsRows_49 at hf
  refine sm_iconst (v := 1) d_Md_fitsRows_49 (by decide) ?_
  refine sm_goto (tgt := 54) d_Md_fitsRows_50 (by decide) ?_
  exact sm_pick [0, 1] (w_Md_fitsRows_54 _ _ _ _ hI hf) rfl

def fn_Md_fitsRows (w : wd) (x1 : Int32) (x2 : Int32) (x3 : Int32) : Bool := (if x3 ≤ (2 : Int32) then (if x3 = (1 : Int32) then (if (x1 - x2) = (2 : Int32) then true else false) else (if x3 = 0 then fn_Md_fitsRows_49 w x3 (x1 - x2) else (if ((x1 - x2) - (x1 - x2) / (2 : Int32) * (2 : Int32)) = 0 then fn_Md_fitsRows_49 w x3 (x1 - x2) else fn_Md_fitsRows_54 w x3 (x1 - x2) false))) else (if (x1 - x2) < 0 then false else true))
set_option maxHeartbeats 1600000 in
set_option maxRecDepth 100000 in
theorem c_Md_fitsRows {G : sm_G} {b : Nat} {M0 M : sm_M}  {w : wd}  (hI : lo_in G md_L b M0 M w)  (x1 : Int32) (x2 : Int32) (x3 : Int32)  : sm_C G mf_Md_fitsRows [.ref (b + 0), .int x1, .int x2, .int x3] M 0 0 (sm_pu M (.int (bi (fn_Md_fitsRows w x1 x2 x3)))) := by
  obtain ⟨R, hf⟩ : ∃ R, fn_Md_fitsRows w x1 x2 x3 = R := ⟨_, rfl⟩
  rw [hf]
  unfold fn_Md_fitsRows at hf
  have hI := hI.here
  refine sm_ofW rfl (Nat.le_of_ble_eq_true rfl) ?_
  refine sm_iload_n d_Md_fitsRows_0 rfl (j := 1) rfl ?_
  refine sm_iload_n d_Md_fitsRows_1 rfl (j := 2) rfl ?_
  refine sm_isub d_Md_fitsRows_2 ?_
  refine sm_istore d_Md_fitsRows_3 (by decide) rfl ?_
  refine sm_iload_n d_Md_fitsRows_5 rfl (j := 4) rfl ?_
  refine sm_iconst (v := 2) d_Md_fitsRows_6 (by decide) ?_
  refine sm_icmp_le (tgt := 21) d_Md_fitsRows_7 (by decide) (fun h1 => ?_) (fun h1 => ?_)
  · rw [if_pos h1] at hf
    refine sm_iload_n d_Md_fitsRows_21 rfl (j := 4) rfl ?_
    refine sm_iconst (v := 1) d_Md_fitsRows_22 (by decide) ?_
    refine sm_icmp_ne (tgt := 38) d_Md_fitsRows_23 (by decide) (fun h2 => ?_) (fun h2 => ?_)
    · rw [if_neg h2] at hf
      refine sm_iload_n d_Md_fitsRows_38 rfl (j := 4) rfl ?_
      refine sm_if_eq (tgt := 49) d_Md_fitsRows_39 (by decide) (fun h3 => ?_) (fun h3 => ?_)
      · rw [if_pos h3] at hf
        exact sm_pick [4, 0] (w_Md_fitsRows_49 _ _ _ hI hf) rfl
      · rw [if_neg h3] at hf
        refine sm_iload d_Md_fitsRows_42 (j := 0) rfl ?_
        refine sm_iconst (v := 2) d_Md_fitsRows_44 (by decide) ?_
        refine sm_irem d_Md_fitsRows_45 (by decide) ?_
        refine sm_if_ne (tgt := 53) d_Md_fitsRows_46 (by decide) (fun h9 => ?_) (fun h9 => ?_)
        · rw [if_neg h9] at hf
          refine sm_iconst (v := 0) d_Md_fitsRows_53 (by decide) ?_
          exact sm_pick [4, 0] (w_Md_fitsRows_54 _ _ _ _ hI hf) rfl
        · rw [if_pos h9] at hf
          exact sm_pick [4, 0] (w_Md_fitsRows_49 _ _ _ hI hf) rfl
    · rw [if_pos h2] at hf
      refine sm_iload d_Md_fitsRows_26 (j := 0) rfl ?_
      refine sm_iconst (v := 2) d_Md_fitsRows_28 (by decide) ?_
      refine sm_icmp_ne (tgt := 36) d_Md_fitsRows_29 (by decide) (fun h10 => ?_) (fun h10 => ?_)
      · rw [if_neg h10] at hf
        refine sm_iconst (v := 0) d_Md_fitsRows_36 (by decide) ?_
        subst hf
        refine sm_ireturn d_Md_fitsRows_37 rfl (by rfl) ?_
        exact ⟨rfl, rfl⟩
      · rw [if_pos h10] at hf
        refine sm_iconst (v := 1) d_Md_fitsRows_32 (by decide) ?_
        refine sm_goto (tgt := 37) d_Md_fitsRows_33 (by decide) ?_
        subst hf
        refine sm_ireturn d_Md_fitsRows_37 rfl (by rfl) ?_
        exact ⟨rfl, rfl⟩
  · rw [if_neg h1] at hf
    refine sm_iload d_Md_fitsRows_10 (j := 0) rfl ?_
    refine sm_if_lt (tgt := 19) d_Md_fitsRows_12 (by decide) (fun h11 => ?_) (fun h11 => ?_)
    · rw [if_pos h11] at hf
      refine sm_iconst (v := 0) d_Md_fitsRows_19 (by decide) ?_
      subst hf
      refine sm_ireturn d_Md_fitsRows_20 rfl (by rfl) ?_
      exact ⟨rfl, rfl⟩
    · rw [if_neg h11] at hf
      refine sm_iconst (v := 1) d_Md_fitsRows_15 (by decide) ?_
      refine sm_goto (tgt := 20) d_Md_fitsRows_16 (by decide) ?_
      subst hf
      refine sm_ireturn d_Md_fitsRows_20 rfl (by rfl) ?_
      exact ⟨rfl, rfl⟩

def fn_Md_fitsLength_161 (w : wd) (x4 : Int32) (s0 : Bool) (s1 : Int32) (s2 : Int32) : Option (Bool) := ((fn_Md_fitsBody w s2 s1 s0 (x4 + (5 : Int32))).bind fun r13 => (if r13 = true then some true else some false))
set_option maxHeartbeats 1600000 in
set_option maxRecDepth 100000 in
theorem w_Md_fitsLength_161 {G : sm_G} {b : Nat} {M0 : sm_M} {bc bs : Nat} {R : Bool} : ∀ (w : wd) (x4 : Int32) (s0 : Bool) (s1 : Int32) (s2 : Int32), lo_in G md_L b M0 M0 w → fn_Md_fitsLength_161 w x4 s0 s1 s2 = some R → sm_W G mf_Md_fitsLength 161 [(4, .int x4)] [.int (bi s0), .int s1, .int s2, .ref (b + 0)] M0 bc bs (sm_pu M0 (.int (bi R))) := by
  intro w x4 s0 s1 s2 hI  hf
  unfold fn_Md_fitsLength_161 at hf
  refine sm_iload d_Md_fitsLength_161 (j := 0) rfl ?_
  refine sm_iconst (v := 5) d_Md_fitsLength_163 (by decide) ?_
  refine sm_iadd d_Md_fitsLength_164 ?_
  obtain ⟨r13, e14, hf⟩ := lo_bnd hf
  refine lo_callV d_Md_fitsLength_165 cs_Md_fitsLength_242 rfl hI ml_0 (As := [.int s2, .int s1, .int (bi s0), .int (x4 + (5 : Int32))]) rfl rfl (Nat.le_of_ble_eq_true rfl) (c_Md_fitsBody hI s2 s1 s0 (x4 + (5 : Int32)) e14) ?_
  refine sm_if_eq (tgt := 175) d_Md_fitsLength_168 (by decide) (fun h15 => ?_) (fun h15 => ?_)
  · rw [if_neg (bi0 h15)] at hf
    refine sm_iconst (v := 0) d_Md_fitsLength_175 (by decide) ?_
    cases hf
    refine sm_ireturn d_Md_fitsLength_176 rfl (by rfl) ?_
    exact ⟨rfl, rfl⟩
  · rw [if_pos (bi1 h15)] at hf
    refine sm_iconst (v := 1) d_Md_fitsLength_171 (by decide) ?_
    refine sm_goto (tgt := 176) d_Md_fitsLength_172 (by decide) ?_
    cases hf
    refine sm_ireturn d_Md_fitsLength_176 rfl (by rfl) ?_
    exact ⟨rfl, rfl⟩

def fn_Md_fitsLength_206 (w : wd) (x4 : Int32) (s0 : Bool) (s1 : Int32) (s2 : Int32) : Option (Bool) := ((fn_Md_fitsBody w s2 s1 s0 (x4 + (2 : Int32))).bind fun r21 => (if r21 = true then some true else some false))
set_option maxHeartbeats 1600000 in
set_option maxRecDepth 100000 in
theorem w_Md_fitsLength_206 {G : sm_G} {b : Nat} {M0 : sm_M} {bc bs : Nat} {R : Bool} : ∀ (w : wd) (x4 : Int32) (s0 : Bool) (s1 : Int32) (s2 : Int32), lo_in G md_L b M0 M0 w → fn_Md_fitsLength_206 w x4 s0 s1 s2 = some R → sm_W G mf_Md_fitsLength 206 [(4, .int x4)] [.int (bi s0), .int s1, .int s2, .ref (b + 0)] M0 bc bs (sm_pu M0 (.int (bi R))) := by
  intro w x4 s0 s1 s2 hI  hf
  unfold fn_Md_fitsLength_206 at hf
  refine sm_iload d_Md_fitsLength_206 (j := 0) rfl ?_
  refine sm_iconst (v := 2) d_Md_fitsLength_208 (by decide) ?_
  refine sm_iadd d_Md_fitsLength_209 ?_
  obtain ⟨r21, e22, hf⟩ := lo_bnd hf
  refine lo_callV d_Md_fitsLength_210 cs_Md_fitsLength_242 rfl hI ml_0 (As := [.int s2, .int s1, .int (bi s0), .int (x4 + (2 : Int32))]) rfl rfl (Nat.le_of_ble_eq_true rfl) (c_Md_fitsBody hI s2 s1 s0 (x4 + (2 : Int32)) e22) ?_
  refine sm_if_eq (tgt := 220) d_Md_fitsLength_213 (by decide) (fun h23 => ?_) (fun h23 => ?_)
  · rw [if_neg (bi0 h23)] at hf
    refine sm_iconst (v := 0) d_Md_fitsLength_220 (by decide) ?_
    cases hf
    refine sm_ireturn d_Md_fitsLength_221 rfl (by rfl) ?_
    exact ⟨rfl, rfl⟩
  · rw [if_pos (bi1 h23)] at hf
    refine sm_iconst (v := 1) d_Md_fitsLength_216 (by decide) ?_
    refine sm_goto (tgt := 221) d_Md_fitsLength_217 (by decide) ?_
    cases hf
    refine sm_ireturn d_Md_fitsLength_221 rfl (by rfl) ?_
    exact ⟨rfl, rfl⟩

def fn_Md_fitsLength (w : wd) (x1 : Int32) (x2 : Int32) : Option (Bool) := ((fn_Md_u2 w (x2 + (2 : Int32))).bind fun r1 => (if x1 = 81 then (if r1 < (38 : Int32) then some false else ((fn_Md_u2 w ((x2 + (4 : Int32)) + (34 : Int32))).bind fun r5 => (if r1 = ((38 : Int32) + ((3 : Int32) * r5)) then some true else some false))) else (if x1 = 82 then (if r1 < (12 : Int32) then some false else ((fn_Md_u1 w (x2 + (4 : Int32))).bind fun r10 => (if (r10 &&& (1 : Int32)) = (1 : Int32) then fn_Md_fitsLength_161 w (x2 + (4 : Int32)) true (12 : Int32) r1 else fn_Md_fitsLength_161 w (x2 + (4 : Int32)) false (12 : Int32) r1))) else (if x1 = 83 then (if r1 < (9 : Int32) then some false else ((fn_Md_u1 w ((x2 + (4 : Int32)) + (1 : Int32))).bind fun r18 => (if (r18 &&& (1 : Int32)) = (1 : Int32) then fn_Md_fitsLength_206 w (x2 + (4 : Int32)) true (9 : Int32) r1 else fn_Md_fitsLength_206 w (x2 + (4 : Int32)) false (9 : Int32) r1))) else (if x1 = 92 then (if r1 < (3 : Int32) then some false else ((fn_Md_u1 w (x2 + (4 : Int32))).bind fun r26 => (if (fn_Md_fitsRows w r1 (3 : Int32) (r26 &&& (31 : Int32))) = true then some true else some false))) else (if x1 = 93 then (if r1 < (4 : Int32) then some false else ((fn_Md_u1 w ((x2 + (4 : Int32)) + (1 : Int32))).bind fun r31 => (if (fn_Md_fitsRows w r1 (4 : Int32) (r31 &&& (31 : Int32))) = true then some true else some false))) else (if x1 = 94 then (if r1 = (5 : Int32) then some true else some false) else (if x1 = 95 then (if r1 < (2 : Int32) then some false else (if ((r1 - (2 : Int32)) - (r1 - (2 : Int32)) / (7 : Int32) * (7 : Int32)) = 0 then some true else some false)) else (if x1 = 96 ∨ x1 = 97 then (if r1 < (3 : Int32) then some false else some true) else (if x1 = 144 then (if r1 = (10 : Int32) then some true else some false) else (if r1 < (2 : Int32) then some false else some true)))))))))))
set_option maxHeartbeats 1600000 in
set_option maxRecDepth 100000 in
theorem c_Md_fitsLength {G : sm_G} {b : Nat} {M0 M : sm_M}  {w : wd}  (hI : lo_in G md_L b M0 M w)  (x1 : Int32) (x2 : Int32)  {R : Bool} (hf : fn_Md_fitsLength w x1 x2 = some R) : sm_C G mf_Md_fitsLength [.ref (b + 0), .int x1, .int x2] M 0 0 (sm_pu M (.int (bi R))) := by
  unfold fn_Md_fitsLength at hf
  have hI := hI.here
  refine sm_ofW rfl (Nat.le_of_ble_eq_true rfl) ?_
  refine sm_aload_n d_Md_fitsLength_0 rfl (j := 0) rfl ?_
  refine sm_iload_n d_Md_fitsLength_1 rfl (j := 2) rfl ?_
  refine sm_iconst (v := 2) d_Md_fitsLength_2 (by decide) ?_
  refine sm_iadd d_Md_fitsLength_3 ?_
  obtain ⟨r1, e2, hf⟩ := lo_bnd hf
  refine lo_callV d_Md_fitsLength_4 cs_Md_fitsLength_230 rfl hI ml_0 (As := [.int (x2 + (2 : Int32))]) rfl rfl (Nat.le_of_ble_eq_true rfl) (c_Md_u2 hI (x2 + (2 : Int32)) e2) ?_
  refine sm_istore_n d_Md_fitsLength_7 rfl (by decide) rfl ?_
  refine sm_iload_n d_Md_fitsLength_8 rfl (j := 3) rfl ?_
  refine sm_iconst (v := 4) d_Md_fitsLength_9 (by decide) ?_
  refine sm_iadd d_Md_fitsLength_10 ?_
  refine sm_istore d_Md_fitsLength_11 (by decide) rfl ?_
  refine sm_iload_n d_Md_fitsLength_13 rfl (j := 3) rfl ?_
  by_cases h3 : x1 = 81
  · rw [if_pos h3] at hf
    refine sm_lookup (tgt := 104) d_Md_fitsLength_14 (by decide) (by rw [h3] <;> rfl) (by decide) ?_
    refine sm_iload_n d_Md_fitsLength_104 rfl (j := 1) rfl ?_
    refine sm_bipush (v := 38) d_Md_fitsLength_105 (by decide) ?_
    refine sm_icmp_lt (tgt := 132) d_Md_fitsLength_107 (by decide) (fun h4 => ?_) (fun h4 => ?_)
    · rw [if_pos h4] at hf
      refine sm_iconst (v := 0) d_Md_fitsLength_132 (by decide) ?_
      cases hf
      refine sm_ireturn d_Md_fitsLength_133 rfl (by rfl) ?_
      exact ⟨rfl, rfl⟩
    · rw [if_neg h4] at hf
      refine sm_iload_n d_Md_fitsLength_110 rfl (j := 1) rfl ?_
      refine sm_bipush (v := 38) d_Md_fitsLength_111 (by decide) ?_
      refine sm_iconst (v := 3) d_Md_fitsLength_113 (by decide) ?_
      refine sm_aload_n d_Md_fitsLength_114 rfl (j := 2) rfl ?_
      refine sm_iload d_Md_fitsLength_115 (j := 0) rfl ?_
      refine sm_bipush (v := 34) d_Md_fitsLength_117 (by decide) ?_
      refine sm_iadd d_Md_fitsLength_119 ?_
      obtain ⟨r5, e6, hf⟩ := lo_bnd hf
      refine lo_callV d_Md_fitsLength_120 cs_Md_fitsLength_230 rfl hI ml_0 (As := [.int ((x2 + (4 : Int32)) + (34 : Int32))]) rfl rfl (Nat.le_of_ble_eq_true rfl) (c_Md_u2 hI ((x2 + (4 : Int32)) + (34 : Int32)) e6) ?_
      refine sm_imul d_Md_fitsLength_123 ?_
      refine sm_iadd d_Md_fitsLength_124 ?_
      refine sm_icmp_ne (tgt := 132) d_Md_fitsLength_125 (by decide) (fun h7 => ?_) (fun h7 => ?_)
      · rw [if_neg h7] at hf
        refine sm_iconst (v := 0) d_Md_fitsLength_132 (by decide) ?_
        cases hf
        refine sm_ireturn d_Md_fitsLength_133 rfl (by rfl) ?_
        exact ⟨rfl, rfl⟩
      · rw [if_pos h7] at hf
        refine sm_iconst (v := 1) d_Md_fitsLength_128 (by decide) ?_
        refine sm_goto (tgt := 133) d_Md_fitsLength_129 (by decide) ?_
        cases hf
        refine sm_ireturn d_Md_fitsLength_133 rfl (by rfl) ?_
        exact ⟨rfl, rfl⟩
  · rw [if_neg h3] at hf
    by_cases h8 : x1 = 82
    · rw [if_pos h8] at hf
      refine sm_lookup (tgt := 134) d_Md_fitsLength_14 (by decide) (by rw [h8] <;> rfl) (by decide) ?_
      refine sm_iload_n d_Md_fitsLength_134 rfl (j := 1) rfl ?_
      refine sm_bipush (v := 12) d_Md_fitsLength_135 (by decide) ?_
      refine sm_icmp_lt (tgt := 175) d_Md_fitsLength_137 (by decide) (fun h9 => ?_) (fun h9 => ?_)
      · rw [if_pos h9] at hf
        refine sm_iconst (v := 0) d_Md_fitsLength_175 (by decide) ?_
        cases hf
        refine sm_ireturn d_Md_fitsLength_176 rfl (by rfl) ?_
        exact ⟨rfl, rfl⟩
      · rw [if_neg h9] at hf
        refine sm_aload_n d_Md_fitsLength_140 rfl (j := 2) rfl ?_
        refine sm_iload_n d_Md_fitsLength_141 rfl (j := 1) rfl ?_
        refine sm_bipush (v := 12) d_Md_fitsLength_142 (by decide) ?_
        refine sm_aload_n d_Md_fitsLength_144 rfl (j := 2) rfl ?_
        refine sm_iload d_Md_fitsLength_145 (j := 0) rfl ?_
        obtain ⟨r10, e11, hf⟩ := lo_bnd hf
        refine lo_callV d_Md_fitsLength_147 cs_Md_fitsLength_233 rfl hI ml_0 (As := [.int (x2 + (4 : Int32))]) rfl rfl (Nat.le_of_ble_eq_true rfl) (c_Md_u1 hI (x2 + (4 : Int32)) e11) ?_
        refine sm_iconst (v := 1) d_Md_fitsLength_150 (by decide) ?_
        refine sm_iand d_Md_fitsLength_151 ?_
        refine sm_iconst (v := 1) d_Md_fitsLength_152 (by decide) ?_
        refine sm_icmp_ne (tgt := 160) d_Md_fitsLength_153 (by decide) (fun h12 => ?_) (fun h12 => ?_)
        · rw [if_neg h12] at hf
          refine sm_iconst (v := 0) d_Md_fitsLength_160 (by decide) ?_
          exact sm_pick [0] (w_Md_fitsLength_161 _ _ _ _ _ hI hf) rfl
        · rw [if_pos h12] at hf
          refine sm_iconst (v := 1) d_Md_fitsLength_156 (by decide) ?_
          refine sm_goto (tgt := 161) d_Md_fitsLength_157 (by decide) ?_
          exact sm_pick [0] (w_Md_fitsLength_161 _ _ _ _ _ hI hf) rfl
    · rw [if_neg h8] at hf
      by_cases h16 : x1 = 83
      · rw [if_pos h16] at hf
        refine sm_lookup (tgt := 177) d_Md_fitsLength_14 (by decide) (by rw [h16] <;> rfl) (by decide) ?_
        refine sm_iload_n d_Md_fitsLength_177 rfl (j := 1) rfl ?_
        refine sm_bipush (v := 9) d_Md_fitsLength_178 (by decide) ?_
        refine sm_icmp_lt (tgt := 220) d_Md_fitsLength_180 (by decide) (fun h17 => ?_) (fun h17 => ?_)
        · rw [if_pos h17] at hf
          refine sm_iconst (v := 0) d_Md_fitsLength_220 (by decide) ?_
          cases hf
          refine sm_ireturn d_Md_fitsLength_221 rfl (by rfl) ?_
          exact ⟨rfl, rfl⟩
        · rw [if_neg h17] at hf
          refine sm_aload_n d_Md_fitsLength_183 rfl (j := 2) rfl ?_
          refine sm_iload_n d_Md_fitsLength_184 rfl (j := 1) rfl ?_
          refine sm_bipush (v := 9) d_Md_fitsLength_185 (by decide) ?_
          refine sm_aload_n d_Md_fitsLength_187 rfl (j := 2) rfl ?_
          refine sm_iload d_Md_fitsLength_188 (j := 0) rfl ?_
          refine sm_iconst (v := 1) d_Md_fitsLength_190 (by decide) ?_
          refine sm_iadd d_Md_fitsLength_191 ?_
          obtain ⟨r18, e19, hf⟩ := lo_bnd hf
          refine lo_callV d_Md_fitsLength_192 cs_Md_fitsLength_233 rfl hI ml_0 (As := [.int ((x2 + (4 : Int32)) + (1 : Int32))]) rfl rfl (Nat.le_of_ble_eq_true rfl) (c_Md_u1 hI ((x2 + (4 : Int32)) + (1 : Int32)) e19) ?_
          refine sm_iconst (v := 1) d_Md_fitsLength_195 (by decide) ?_
          refine sm_iand d_Md_fitsLength_196 ?_
          refine sm_iconst (v := 1) d_Md_fitsLength_197 (by decide) ?_
          refine sm_icmp_ne (tgt := 205) d_Md_fitsLength_198 (by decide) (fun h20 => ?_) (fun h20 => ?_)
          · rw [if_neg h20] at hf
            refine sm_iconst (v := 0) d_Md_fitsLength_205 (by decide) ?_
            exact sm_pick [0] (w_Md_fitsLength_206 _ _ _ _ _ hI hf) rfl
          · rw [if_pos h20] at hf
            refine sm_iconst (v := 1) d_Md_fitsLength_201 (by decide) ?_
            refine sm_goto (tgt := 206) d_Md_fitsLength_202 (by decide) ?_
            exact sm_pick [0] (w_Md_fitsLength_206 _ _ _ _ _ hI hf) rfl
      · rw [if_neg h16] at hf
        by_cases h24 : x1 = 92
        · rw [if_pos h24] at hf
          refine sm_lookup (tgt := 222) d_Md_fitsLength_14 (by decide) (by rw [h24] <;> rfl) (by decide) ?_
          refine sm_iload_n d_Md_fitsLength_222 rfl (j := 1) rfl ?_
          refine sm_iconst (v := 3) d_Md_fitsLength_223 (by decide) ?_
          refine sm_icmp_lt (tgt := 249) d_Md_fitsLength_224 (by decide) (fun h25 => ?_) (fun h25 => ?_)
          · rw [if_pos h25] at hf
            refine sm_iconst (v := 0) d_Md_fitsLength_249 (by decide) ?_
            cases hf
            refine sm_ireturn d_Md_fitsLength_250 rfl (by rfl) ?_
            exact ⟨rfl, rfl⟩
          · rw [if_neg h25] at hf
            refine sm_aload_n d_Md_fitsLength_227 rfl (j := 2) rfl ?_
            refine sm_iload_n d_Md_fitsLength_228 rfl (j := 1) rfl ?_
            refine sm_iconst (v := 3) d_Md_fitsLength_229 (by decide) ?_
            refine sm_aload_n d_Md_fitsLength_230 rfl (j := 2) rfl ?_
            refine sm_iload d_Md_fitsLength_231 (j := 0) rfl ?_
            obtain ⟨r26, e27, hf⟩ := lo_bnd hf
            refine lo_callV d_Md_fitsLength_233 cs_Md_fitsLength_233 rfl hI ml_0 (As := [.int (x2 + (4 : Int32))]) rfl rfl (Nat.le_of_ble_eq_true rfl) (c_Md_u1 hI (x2 + (4 : Int32)) e27) ?_
            refine sm_bipush (v := 31) d_Md_fitsLength_236 (by decide) ?_
            refine sm_iand d_Md_fitsLength_238 ?_
            refine lo_callV d_Md_fitsLength_239 cs_Md_fitsLength_246 rfl hI ml_0 (As := [.int r1, .int (3 : Int32), .int (r26 &&& (31 : Int32))]) rfl rfl (Nat.le_of_ble_eq_true rfl) (c_Md_fitsRows hI r1 (3 : Int32) (r26 &&& (31 : Int32))) ?_
            refine sm_if_eq (tgt := 249) d_Md_fitsLength_242 (by decide) (fun h28 => ?_) (fun h28 => ?_)
            · rw [if_neg (bi0 h28)] at hf
              refine sm_iconst (v := 0) d_Md_fitsLength_249 (by decide) ?_
              cases hf
              refine sm_ireturn d_Md_fitsLength_250 rfl (by rfl) ?_
              exact ⟨rfl, rfl⟩
            · rw [if_pos (bi1 h28)] at hf
              refine sm_iconst (v := 1) d_Md_fitsLength_245 (by decide) ?_
              refine sm_goto (tgt := 250) d_Md_fitsLength_246 (by decide) ?_
              cases hf
              refine sm_ireturn d_Md_fitsLength_250 rfl (by rfl) ?_
              exact ⟨rfl, rfl⟩
        · rw [if_neg h24] at hf
          by_cases h29 : x1 = 93
          · rw [if_pos h29] at hf
            refine sm_lookup (tgt := 251) d_Md_fitsLength_14 (by decide) (by rw [h29] <;> rfl) (by decide) ?_
            refine sm_iload_n d_Md_fitsLength_251 rfl (j := 1) rfl ?_
            refine sm_iconst (v := 4) d_Md_fitsLength_252 (by decide) ?_
            refine sm_icmp_lt (tgt := 280) d_Md_fitsLength_253 (by decide) (fun h30 => ?_) (fun h30 => ?_)
            · rw [if_pos h30] at hf
              refine sm_iconst (v := 0) d_Md_fitsLength_280 (by decide) ?_
              cases hf
              refine sm_ireturn d_Md_fitsLength_281 rfl (by rfl) ?_
              exact ⟨rfl, rfl⟩
            · rw [if_neg h30] at hf
              refine sm_aload_n d_Md_fitsLength_256 rfl (j := 2) rfl ?_
              refine sm_iload_n d_Md_fitsLength_257 rfl (j := 1) rfl ?_
              refine sm_iconst (v := 4) d_Md_fitsLength_258 (by decide) ?_
              refine sm_aload_n d_Md_fitsLength_259 rfl (j := 2) rfl ?_
              refine sm_iload d_Md_fitsLength_260 (j := 0) rfl ?_
              refine sm_iconst (v := 1) d_Md_fitsLength_262 (by decide) ?_
              refine sm_iadd d_Md_fitsLength_263 ?_
              obtain ⟨r31, e32, hf⟩ := lo_bnd hf
              refine lo_callV d_Md_fitsLength_264 cs_Md_fitsLength_233 rfl hI ml_0 (As := [.int ((x2 + (4 : Int32)) + (1 : Int32))]) rfl rfl (Nat.le_of_ble_eq_true rfl) (c_Md_u1 hI ((x2 + (4 : Int32)) + (1 : Int32)) e32) ?_
              refine sm_bipush (v := 31) d_Md_fitsLength_267 (by decide) ?_
              refine sm_iand d_Md_fitsLength_269 ?_
              refine lo_callV d_Md_fitsLength_270 cs_Md_fitsLength_246 rfl hI ml_0 (As := [.int r1, .int (4 : Int32), .int (r31 &&& (31 : Int32))]) rfl rfl (Nat.le_of_ble_eq_true rfl) (c_Md_fitsRows hI r1 (4 : Int32) (r31 &&& (31 : Int32))) ?_
              refine sm_if_eq (tgt := 280) d_Md_fitsLength_273 (by decide) (fun h33 => ?_) (fun h33 => ?_)
              · rw [if_neg (bi0 h33)] at hf
                refine sm_iconst (v := 0) d_Md_fitsLength_280 (by decide) ?_
                cases hf
                refine sm_ireturn d_Md_fitsLength_281 rfl (by rfl) ?_
                exact ⟨rfl, rfl⟩
              · rw [if_pos (bi1 h33)] at hf
                refine sm_iconst (v := 1) d_Md_fitsLength_276 (by decide) ?_
                refine sm_goto (tgt := 281) d_Md_fitsLength_277 (by decide) ?_
                cases hf
                refine sm_ireturn d_Md_fitsLength_281 rfl (by rfl) ?_
                exact ⟨rfl, rfl⟩
          · rw [if_neg h29] at hf
            by_cases h34 : x1 = 94
            · rw [if_pos h34] at hf
              refine sm_lookup (tgt := 282) d_Md_fitsLength_14 (by decide) (by rw [h34] <;> rfl) (by decide) ?_
              refine sm_iload_n d_Md_fitsLength_282 rfl (j := 1) rfl ?_
              refine sm_iconst (v := 5) d_Md_fitsLength_283 (by decide) ?_
              refine sm_icmp_ne (tgt := 291) d_Md_fitsLength_284 (by decide) (fun h35 => ?_) (fun h35 => ?_)
              · rw [if_neg h35] at hf
                refine sm_iconst (v := 0) d_Md_fitsLength_291 (by decide) ?_
                cases hf
                refine sm_ireturn d_Md_fitsLength_292 rfl (by rfl) ?_
                exact ⟨rfl, rfl⟩
              · rw [if_pos h35] at hf
                refine sm_iconst (v := 1) d_Md_fitsLength_287 (by decide) ?_
                refine sm_goto (tgt := 292) d_Md_fitsLength_288 (by decide) ?_
                cases hf
                refine sm_ireturn d_Md_fitsLength_292 rfl (by rfl) ?_
                exact ⟨rfl, rfl⟩
            · rw [if_neg h34] at hf
              by_cases h36 : x1 = 95
              · rw [if_pos h36] at hf
                refine sm_lookup (tgt := 293) d_Md_fitsLength_14 (by decide) (by rw [h36] <;> rfl) (by decide) ?_
                refine sm_iload_n d_Md_fitsLength_293 rfl (j := 1) rfl ?_
                refine sm_iconst (v := 2) d_Md_fitsLength_294 (by decide) ?_
                refine sm_icmp_lt (tgt := 311) d_Md_fitsLength_295 (by decide) (fun h37 => ?_) (fun h37 => ?_)
                · rw [if_pos h37] at hf
                  refine sm_iconst (v := 0) d_Md_fitsLength_311 (by decide) ?_
                  cases hf
                  refine sm_ireturn d_Md_fitsLength_312 rfl (by rfl) ?_
                  exact ⟨rfl, rfl⟩
                · rw [if_neg h37] at hf
                  refine sm_iload_n d_Md_fitsLength_298 rfl (j := 1) rfl ?_
                  refine sm_iconst (v := 2) d_Md_fitsLength_299 (by decide) ?_
                  refine sm_isub d_Md_fitsLength_300 ?_
                  refine sm_bipush (v := 7) d_Md_fitsLength_301 (by decide) ?_
                  refine sm_irem d_Md_fitsLength_303 (by decide) ?_
                  refine sm_if_ne (tgt := 311) d_Md_fitsLength_304 (by decide) (fun h38 => ?_) (fun h38 => ?_)
                  · rw [if_neg h38] at hf
                    refine sm_iconst (v := 0) d_Md_fitsLength_311 (by decide) ?_
                    cases hf
                    refine sm_ireturn d_Md_fitsLength_312 rfl (by rfl) ?_
                    exact ⟨rfl, rfl⟩
                  · rw [if_pos h38] at hf
                    refine sm_iconst (v := 1) d_Md_fitsLength_307 (by decide) ?_
                    refine sm_goto (tgt := 312) d_Md_fitsLength_308 (by decide) ?_
                    cases hf
                    refine sm_ireturn d_Md_fitsLength_312 rfl (by rfl) ?_
                    exact ⟨rfl, rfl⟩
              · rw [if_neg h36] at hf
                by_cases h39 : x1 = 96 ∨ x1 = 97
                · rw [if_pos h39] at hf
                  rcases h39 with h39 | h39
                  · refine sm_lookup (tgt := 313) d_Md_fitsLength_14 (by decide) (by rw [h39] <;> rfl) (by decide) ?_
                    refine sm_iload_n d_Md_fitsLength_313 rfl (j := 1) rfl ?_
                    refine sm_iconst (v := 3) d_Md_fitsLength_314 (by decide) ?_
                    refine sm_icmp_lt (tgt := 322) d_Md_fitsLength_315 (by decide) (fun h40 => ?_) (fun h40 => ?_)
                    · rw [if_pos h40] at hf
                      refine sm_iconst (v := 0) d_Md_fitsLength_322 (by decide) ?_
                      cases hf
                      refine sm_ireturn d_Md_fitsLength_323 rfl (by rfl) ?_
                      exact ⟨rfl, rfl⟩
                    · rw [if_neg h40] at hf
                      refine sm_iconst (v := 1) d_Md_fitsLength_318 (by decide) ?_
                      refine sm_goto (tgt := 323) d_Md_fitsLength_319 (by decide) ?_
                      cases hf
                      refine sm_ireturn d_Md_fitsLength_323 rfl (by rfl) ?_
                      exact ⟨rfl, rfl⟩
                  · refine sm_lookup (tgt := 313) d_Md_fitsLength_14 (by decide) (by rw [h39] <;> rfl) (by decide) ?_
                    refine sm_iload_n d_Md_fitsLength_313 rfl (j := 1) rfl ?_
                    refine sm_iconst (v := 3) d_Md_fitsLength_314 (by decide) ?_
                    refine sm_icmp_lt (tgt := 322) d_Md_fitsLength_315 (by decide) (fun h40 => ?_) (fun h40 => ?_)
                    · rw [if_pos h40] at hf
                      refine sm_iconst (v := 0) d_Md_fitsLength_322 (by decide) ?_
                      cases hf
                      refine sm_ireturn d_Md_fitsLength_323 rfl (by rfl) ?_
                      exact ⟨rfl, rfl⟩
                    · rw [if_neg h40] at hf
                      refine sm_iconst (v := 1) d_Md_fitsLength_318 (by decide) ?_
                      refine sm_goto (tgt := 323) d_Md_fitsLength_319 (by decide) ?_
                      cases hf
                      refine sm_ireturn d_Md_fitsLength_323 rfl (by rfl) ?_
                      exact ⟨rfl, rfl⟩
                · rw [if_neg h39] at hf
                  by_cases h41 : x1 = 144
                  · rw [if_pos h41] at hf
                    refine sm_lookup (tgt := 324) d_Md_fitsLength_14 (by decide) (by rw [h41] <;> rfl) (by decide) ?_
                    refine sm_iload_n d_Md_fitsLength_324 rfl (j := 1) rfl ?_
                    refine sm_bipush (v := 10) d_Md_fitsLength_325 (by decide) ?_
                    refine sm_icmp_ne (tgt := 334) d_Md_fitsLength_327 (by decide) (fun h42 => ?_) (fun h42 => ?_)
                    · rw [if_neg h42] at hf
                      refine sm_iconst (v := 0) d_Md_fitsLength_334 (by decide) ?_
                      cases hf
                      refine sm_ireturn d_Md_fitsLength_335 rfl (by rfl) ?_
                      exact ⟨rfl, rfl⟩
                    · rw [if_pos h42] at hf
                      refine sm_iconst (v := 1) d_Md_fitsLength_330 (by decide) ?_
                      refine sm_goto (tgt := 335) d_Md_fitsLength_331 (by decide) ?_
                      cases hf
                      refine sm_ireturn d_Md_fitsLength_335 rfl (by rfl) ?_
                      exact ⟨rfl, rfl⟩
                  · rw [if_neg h41] at hf
                    refine sm_lookup (tgt := 336) d_Md_fitsLength_14 (by decide) (lo_offD (List.forall_mem_cons.mpr ⟨(fun e9 => h3 (sm_eqI.mpr (e9.symm.trans (by decide)))), List.forall_mem_cons.mpr ⟨(fun e9 => h8 (sm_eqI.mpr (e9.symm.trans (by decide)))), List.forall_mem_cons.mpr ⟨(fun e9 => h16 (sm_eqI.mpr (e9.symm.trans (by decide)))), List.forall_mem_cons.mpr ⟨(fun e9 => h24 (sm_eqI.mpr (e9.symm.trans (by decide)))), List.forall_mem_cons.mpr ⟨(fun e9 => h29 (sm_eqI.mpr (e9.symm.trans (by decide)))), List.forall_mem_cons.mpr ⟨(fun e9 => h34 (sm_eqI.mpr (e9.symm.trans (by decide)))), List.forall_mem_cons.mpr ⟨(fun e9 => h36 (sm_eqI.mpr (e9.symm.trans (by decide)))), List.forall_mem_cons.mpr ⟨(fun e9 => (fun e8 => h39 (Or.inl e8)) (sm_eqI.mpr (e9.symm.trans (by decide)))), List.forall_mem_cons.mpr ⟨(fun e9 => (fun e8 => h39 (Or.inr e8)) (sm_eqI.mpr (e9.symm.trans (by decide)))), List.forall_mem_cons.mpr ⟨(fun e9 => h41 (sm_eqI.mpr (e9.symm.trans (by decide)))), List.forall_mem_nil _⟩⟩⟩⟩⟩⟩⟩⟩⟩⟩)) (by decide) ?_
                    refine sm_iload_n d_Md_fitsLength_336 rfl (j := 1) rfl ?_
                    refine sm_iconst (v := 2) d_Md_fitsLength_337 (by decide) ?_
                    refine sm_icmp_lt (tgt := 345) d_Md_fitsLength_338 (by decide) (fun h43 => ?_) (fun h43 => ?_)
                    · rw [if_pos h43] at hf
                      refine sm_iconst (v := 0) d_Md_fitsLength_345 (by decide) ?_
                      cases hf
                      refine sm_ireturn d_Md_fitsLength_346 rfl (by rfl) ?_
                      exact ⟨rfl, rfl⟩
                    · rw [if_neg h43] at hf
                      refine sm_iconst (v := 1) d_Md_fitsLength_341 (by decide) ?_
                      refine sm_goto (tgt := 346) d_Md_fitsLength_342 (by decide) ?_
                      cases hf
                      refine sm_ireturn d_Md_fitsLength_346 rfl (by rfl) ?_
                      exact ⟨rfl, rfl⟩

def fn_Md_isPicture_37 (k4 : wd → Int32 → Bool → Int32 → Option (Bool)) (F : Nat) (w : wd) (x1 : Int32) (x3 : Int32) (s0 : Bool) : Option (Bool) := k4 w x1 s0 (x3 + 1)
set_option maxHeartbeats 1600000 in
set_option maxRecDepth 100000 in
theorem w_Md_isPicture_37 {G : sm_G} {b : Nat} {M0 : sm_M} {bc bs : Nat} {R : Bool} {F : Nat} {k4 : wd → Int32 → Bool → Int32 → Option (Bool)} (hk4 : ∀ (w : wd) (x1 : Int32) (x2 : Bool) (x3 : Int32), lo_in G md_L b M0 M0 w → k4 w x1 x2 x3 = some R → sm_W G mf_Md_isPicture 4 [(0, .ref (b + 0)), (1, .int x1), (2, .int (bi x2)), (3, .int x3)] [] M0 bc bs (sm_pu M0 (.int (bi R)))) : ∀ (w : wd) (x1 : Int32) (x3 : Int32) (s0 : Bool), lo_in G md_L b M0 M0 w → fn_Md_isPicture_37 k4 F w x1 x3 s0 = some R → sm_W G mf_Md_isPicture 37 [(0, .ref (b + 0)), (1, .int x1), (3, .int x3)] [.int (bi s0)] M0 bc bs (sm_pu M0 (.int (bi R))) := by
  intro w x1 x3 s0 hI  hf
  unfold fn_Md_isPicture_37 at hf
  refine sm_istore_n d_Md_isPicture_37 rfl (by decide) rfl ?_
  refine sm_iinc (v := (x3 + 1)) d_Md_isPicture_38 (j := 3) rfl rfl (by decide) rfl ?_
  refine sm_goto (tgt := 4) d_Md_isPicture_41 (by decide) ?_
  exact sm_pick [2, 3, 1, 0] (hk4 _ _ _ _ hI hf) rfl

def fn_Md_isPicture_36 (k4 : wd → Int32 → Bool → Int32 → Option (Bool)) (F : Nat) (w : wd) (x1 : Int32) (x3 : Int32) : Option (Bool) := fn_Md_isPicture_37 k4 F w x1 x3 false
set_option maxHeartbeats 1600000 in
set_option maxRecDepth 100000 in
theorem w_Md_isPicture_36 {G : sm_G} {b : Nat} {M0 : sm_M} {bc bs : Nat} {R : Bool} {F : Nat} {k4 : wd → Int32 → Bool → Int32 → Option (Bool)} (hk4 : ∀ (w : wd) (x1 : Int32) (x2 : Bool) (x3 : Int32), lo_in G md_L b M0 M0 w → k4 w x1 x2 x3 = some R → sm_W G mf_Md_isPicture 4 [(0, .ref (b + 0)), (1, .int x1), (2, .int (bi x2)), (3, .int x3)] [] M0 bc bs (sm_pu M0 (.int (bi R)))) : ∀ (w : wd) (x1 : Int32) (x3 : Int32), lo_in G md_L b M0 M0 w → fn_Md_isPicture_36 k4 F w x1 x3 = some R → sm_W G mf_Md_isPicture 36 [(0, .ref (b + 0)), (1, .int x1), (3, .int x3)] [] M0 bc bs (sm_pu M0 (.int (bi R))) := by
  intro w x1 x3 hI  hf
  unfold fn_Md_isPicture_36 at hf
  refine sm_iconst (v := 0) d_Md_isPicture_36 (by decide) ?_
  exact sm_pick [0, 1, 2] (w_Md_isPicture_37 hk4 _ _ _ _ hI hf) rfl

def fn_Md_isPicture_4 (F : Nat) : Nat → wd → Int32 → Bool → Int32 → Option (Bool)
 | 0, _, _, _, _ => none
 | n9 + 1, w, x1, x2, x3 => (if (8 : Int32) ≤ x3 then (if x2 = true then ((fn_Md_u4 w (x1 + (10 : Int32))).bind fun r3 => ((fn_Md_u4 w (x1 + (2 : Int32))).bind fun r5 => (if r5 ≤ r3 then some false else ((fn_Md_u4 w (x1 + (14 : Int32))).bind fun r8 => ((fn_Md_u4 w (x1 + (6 : Int32))).bind fun r10 => (if r10 ≤ r8 then some false else ((fn_Md_u4 w (x1 + (10 : Int32))).bind fun r13 => ((fn_Md_u4 w (x1 + (14 : Int32))).bind fun r15 => ((fn_Md_u4 w (x1 + (26 : Int32))).bind fun r17 => ((fn_Md_u4 w (x1 + (30 : Int32))).bind fun r19 => ((fn_Md_u4 w (x1 + (18 : Int32))).bind fun r21 => ((fn_Md_u4 w (x1 + (22 : Int32))).bind fun r23 => (if (fn_Md_lie r13 r15 r17 r19 r21 r23) = true then some true else some false))))))))))))) else some false) else (if x2 = true then ((fn_Md_u4 w ((x1 + (2 : Int32)) + ((4 : Int32) * x3))).bind fun r27 => (if (2147483648 : Int64) ≤ r27 then fn_Md_isPicture_36 (fn_Md_isPicture_4 F n9) F w x1 x3 else fn_Md_isPicture_37 (fn_Md_isPicture_4 F n9) F w x1 x3 true)) else fn_Md_isPicture_36 (fn_Md_isPicture_4 F n9) F w x1 x3))
set_option maxHeartbeats 1600000 in
set_option maxRecDepth 100000 in
theorem w_Md_isPicture_4 {G : sm_G} {b : Nat} {M0 : sm_M} {bc bs : Nat} {R : Bool} {F : Nat} : ∀ (n9 : Nat), ∀ (w : wd) (x1 : Int32) (x2 : Bool) (x3 : Int32), lo_in G md_L b M0 M0 w → fn_Md_isPicture_4 F n9 w x1 x2 x3 = some R → sm_W G mf_Md_isPicture 4 [(0, .ref (b + 0)), (1, .int x1), (2, .int (bi x2)), (3, .int x3)] [] M0 bc bs (sm_pu M0 (.int (bi R))) := by
  intro n9
  induction n9 with
  | zero => intro w x1 x2 x3 hI  hf; cases hf
  | succ n9 ih =>
    intro w x1 x2 x3 hI  hf
    rw [fn_Md_isPicture_4] at hf
    refine sm_iload_n d_Md_isPicture_4 rfl (j := 3) rfl ?_
    refine sm_bipush (v := 8) d_Md_isPicture_5 (by decide) ?_
    refine sm_icmp_ge (tgt := 44) d_Md_isPicture_7 (by decide) (fun h1 => ?_) (fun h1 => ?_)
    · rw [if_pos h1] at hf
      refine sm_iload_n d_Md_isPicture_44 rfl (j := 2) rfl ?_
      refine sm_if_eq (tgt := 145) d_Md_isPicture_45 (by decide) (fun h2 => ?_) (fun h2 => ?_)
      · rw [if_neg (bi0 h2)] at hf
        refine sm_iconst (v := 0) d_Md_isPicture_145 (by decide) ?_
        cases hf
        refine sm_ireturn d_Md_isPicture_146 rfl (by rfl) ?_
        exact ⟨rfl, rfl⟩
      · rw [if_pos (bi1 h2)] at hf
        refine sm_aload_n d_Md_isPicture_48 rfl (j := 0) rfl ?_
        refine sm_iload_n d_Md_isPicture_49 rfl (j := 1) rfl ?_
        refine sm_bipush (v := 10) d_Md_isPicture_50 (by decide) ?_
        refine sm_iadd d_Md_isPicture_52 ?_
        obtain ⟨r3, e4, hf⟩ := lo_bnd hf
        refine lo_callV d_Md_isPicture_53 cs_Md_isPicture_253 rfl hI ml_0 (As := [.int (x1 + (10 : Int32))]) rfl rfl (Nat.le_of_ble_eq_true rfl) (c_Md_u4 hI (x1 + (10 : Int32)) e4) ?_
        refine sm_aload_n d_Md_isPicture_56 rfl (j := 0) rfl ?_
        refine sm_iload_n d_Md_isPicture_57 rfl (j := 1) rfl ?_
        refine sm_iconst (v := 2) d_Md_isPicture_58 (by decide) ?_
        refine sm_iadd d_Md_isPicture_59 ?_
        obtain ⟨r5, e6, hf⟩ := lo_bnd hf
        refine lo_callV d_Md_isPicture_60 cs_Md_isPicture_253 rfl hI ml_0 (As := [.int (x1 + (2 : Int32))]) rfl rfl (Nat.le_of_ble_eq_true rfl) (c_Md_u4 hI (x1 + (2 : Int32)) e6) ?_
        refine sm_lcmp d_Md_isPicture_63 ?_
        refine sm_if_ge (tgt := 145) d_Md_isPicture_64 (by decide) (fun h7 => ?_) (fun h7 => ?_)
        · rw [if_pos ((lg_cmp_ge _ _).mp h7)] at hf
          refine sm_iconst (v := 0) d_Md_isPicture_145 (by decide) ?_
          cases hf
          refine sm_ireturn d_Md_isPicture_146 rfl (by rfl) ?_
          exact ⟨rfl, rfl⟩
        · rw [if_neg (mt (lg_cmp_ge _ _).mpr h7)] at hf
          refine sm_aload_n d_Md_isPicture_67 rfl (j := 0) rfl ?_
          refine sm_iload_n d_Md_isPicture_68 rfl (j := 1) rfl ?_
          refine sm_bipush (v := 14) d_Md_isPicture_69 (by decide) ?_
          refine sm_iadd d_Md_isPicture_71 ?_
          obtain ⟨r8, e9, hf⟩ := lo_bnd hf
          refine lo_callV d_Md_isPicture_72 cs_Md_isPicture_253 rfl hI ml_0 (As := [.int (x1 + (14 : Int32))]) rfl rfl (Nat.le_of_ble_eq_true rfl) (c_Md_u4 hI (x1 + (14 : Int32)) e9) ?_
          refine sm_aload_n d_Md_isPicture_75 rfl (j := 0) rfl ?_
          refine sm_iload_n d_Md_isPicture_76 rfl (j := 1) rfl ?_
          refine sm_bipush (v := 6) d_Md_isPicture_77 (by decide) ?_
          refine sm_iadd d_Md_isPicture_79 ?_
          obtain ⟨r10, e11, hf⟩ := lo_bnd hf
          refine lo_callV d_Md_isPicture_80 cs_Md_isPicture_253 rfl hI ml_0 (As := [.int (x1 + (6 : Int32))]) rfl rfl (Nat.le_of_ble_eq_true rfl) (c_Md_u4 hI (x1 + (6 : Int32)) e11) ?_
          refine sm_lcmp d_Md_isPicture_83 ?_
          refine sm_if_ge (tgt := 145) d_Md_isPicture_84 (by decide) (fun h12 => ?_) (fun h12 => ?_)
          · rw [if_pos ((lg_cmp_ge _ _).mp h12)] at hf
            refine sm_iconst (v := 0) d_Md_isPicture_145 (by decide) ?_
            cases hf
            refine sm_ireturn d_Md_isPicture_146 rfl (by rfl) ?_
            exact ⟨rfl, rfl⟩
          · rw [if_neg (mt (lg_cmp_ge _ _).mpr h12)] at hf
            refine sm_aload_n d_Md_isPicture_87 rfl (j := 0) rfl ?_
            refine sm_iload_n d_Md_isPicture_88 rfl (j := 1) rfl ?_
            refine sm_bipush (v := 10) d_Md_isPicture_89 (by decide) ?_
            refine sm_iadd d_Md_isPicture_91 ?_
            obtain ⟨r13, e14, hf⟩ := lo_bnd hf
            refine lo_callV d_Md_isPicture_92 cs_Md_isPicture_253 rfl hI ml_0 (As := [.int (x1 + (10 : Int32))]) rfl rfl (Nat.le_of_ble_eq_true rfl) (c_Md_u4 hI (x1 + (10 : Int32)) e14) ?_
            refine sm_aload_n d_Md_isPicture_95 rfl (j := 0) rfl ?_
            refine sm_iload_n d_Md_isPicture_96 rfl (j := 1) rfl ?_
            refine sm_bipush (v := 14) d_Md_isPicture_97 (by decide) ?_
            refine sm_iadd d_Md_isPicture_99 ?_
            obtain ⟨r15, e16, hf⟩ := lo_bnd hf
            refine lo_callV d_Md_isPicture_100 cs_Md_isPicture_253 rfl hI ml_0 (As := [.int (x1 + (14 : Int32))]) rfl rfl (Nat.le_of_ble_eq_true rfl) (c_Md_u4 hI (x1 + (14 : Int32)) e16) ?_
            refine sm_aload_n d_Md_isPicture_103 rfl (j := 0) rfl ?_
            refine sm_iload_n d_Md_isPicture_104 rfl (j := 1) rfl ?_
            refine sm_bipush (v := 26) d_Md_isPicture_105 (by decide) ?_
            refine sm_iadd d_Md_isPicture_107 ?_
            obtain ⟨r17, e18, hf⟩ := lo_bnd hf
            refine lo_callV d_Md_isPicture_108 cs_Md_isPicture_253 rfl hI ml_0 (As := [.int (x1 + (26 : Int32))]) rfl rfl (Nat.le_of_ble_eq_true rfl) (c_Md_u4 hI (x1 + (26 : Int32)) e18) ?_
            refine sm_aload_n d_Md_isPicture_111 rfl (j := 0) rfl ?_
            refine sm_iload_n d_Md_isPicture_112 rfl (j := 1) rfl ?_
            refine sm_bipush (v := 30) d_Md_isPicture_113 (by decide) ?_
            refine sm_iadd d_Md_isPicture_115 ?_
            obtain ⟨r19, e20, hf⟩ := lo_bnd hf
            refine lo_callV d_Md_isPicture_116 cs_Md_isPicture_253 rfl hI ml_0 (As := [.int (x1 + (30 : Int32))]) rfl rfl (Nat.le_of_ble_eq_true rfl) (c_Md_u4 hI (x1 + (30 : Int32)) e20) ?_
            refine sm_aload_n d_Md_isPicture_119 rfl (j := 0) rfl ?_
            refine sm_iload_n d_Md_isPicture_120 rfl (j := 1) rfl ?_
            refine sm_bipush (v := 18) d_Md_isPicture_121 (by decide) ?_
            refine sm_iadd d_Md_isPicture_123 ?_
            obtain ⟨r21, e22, hf⟩ := lo_bnd hf
            refine lo_callV d_Md_isPicture_124 cs_Md_isPicture_253 rfl hI ml_0 (As := [.int (x1 + (18 : Int32))]) rfl rfl (Nat.le_of_ble_eq_true rfl) (c_Md_u4 hI (x1 + (18 : Int32)) e22) ?_
            refine sm_aload_n d_Md_isPicture_127 rfl (j := 0) rfl ?_
            refine sm_iload_n d_Md_isPicture_128 rfl (j := 1) rfl ?_
            refine sm_bipush (v := 22) d_Md_isPicture_129 (by decide) ?_
            refine sm_iadd d_Md_isPicture_131 ?_
            obtain ⟨r23, e24, hf⟩ := lo_bnd hf
            refine lo_callV d_Md_isPicture_132 cs_Md_isPicture_253 rfl hI ml_0 (As := [.int (x1 + (22 : Int32))]) rfl rfl (Nat.le_of_ble_eq_true rfl) (c_Md_u4 hI (x1 + (22 : Int32)) e24) ?_
            refine sm_callSp d_Md_isPicture_135 cs_Md_isPicture_110 rfl (As := [.long r13, .long r15, .long r17, .long r19, .long r21, .long r23]) rfl rfl (Nat.le_of_ble_eq_true rfl) (c_Md_lie r13 r15 r17 r19 r21 r23) ?_
            refine sm_if_eq (tgt := 145) d_Md_isPicture_138 (by decide) (fun h25 => ?_) (fun h25 => ?_)
            · rw [if_neg (bi0 h25)] at hf
              refine sm_iconst (v := 0) d_Md_isPicture_145 (by decide) ?_
              cases hf
              refine sm_ireturn d_Md_isPicture_146 rfl (by rfl) ?_
              exact ⟨rfl, rfl⟩
            · rw [if_pos (bi1 h25)] at hf
              refine sm_iconst (v := 1) d_Md_isPicture_141 (by decide) ?_
              refine sm_goto (tgt := 146) d_Md_isPicture_142 (by decide) ?_
              cases hf
              refine sm_ireturn d_Md_isPicture_146 rfl (by rfl) ?_
              exact ⟨rfl, rfl⟩
    · rw [if_neg h1] at hf
      refine sm_iload_n d_Md_isPicture_10 rfl (j := 2) rfl ?_
      refine sm_if_eq (tgt := 36) d_Md_isPicture_11 (by decide) (fun h26 => ?_) (fun h26 => ?_)
      · rw [if_neg (bi0 h26)] at hf
        exact sm_pick [0, 1, 3] (w_Md_isPicture_36 ih _ _ _ hI hf) rfl
      · rw [if_pos (bi1 h26)] at hf
        refine sm_aload_n d_Md_isPicture_14 rfl (j := 0) rfl ?_
        refine sm_iload_n d_Md_isPicture_15 rfl (j := 1) rfl ?_
        refine sm_iconst (v := 2) d_Md_isPicture_16 (by decide) ?_
        refine sm_iadd d_Md_isPicture_17 ?_
        refine sm_iconst (v := 4) d_Md_isPicture_18 (by decide) ?_
        refine sm_iload_n d_Md_isPicture_19 rfl (j := 3) rfl ?_
        refine sm_imul d_Md_isPicture_20 ?_
        refine sm_iadd d_Md_isPicture_21 ?_
        obtain ⟨r27, e28, hf⟩ := lo_bnd hf
        refine lo_callV d_Md_isPicture_22 cs_Md_isPicture_253 rfl hI ml_0 (As := [.int ((x1 + (2 : Int32)) + ((4 : Int32) * x3))]) rfl rfl (Nat.le_of_ble_eq_true rfl) (c_Md_u4 hI ((x1 + (2 : Int32)) + ((4 : Int32) * x3)) e28) ?_
        refine sm_ldc2 (v := 2147483648) d_Md_isPicture_25 mw_1556 ?_
        refine sm_lcmp d_Md_isPicture_28 ?_
        refine sm_if_ge (tgt := 36) d_Md_isPicture_29 (by decide) (fun h29 => ?_) (fun h29 => ?_)
        · rw [if_pos ((lg_cmp_ge _ _).mp h29)] at hf
          exact sm_pick [0, 1, 3] (w_Md_isPicture_36 ih _ _ _ hI hf) rfl
        · rw [if_neg (mt (lg_cmp_ge _ _).mpr h29)] at hf
          refine sm_iconst (v := 1) d_Md_isPicture_32 (by decide) ?_
          refine sm_goto (tgt := 37) d_Md_isPicture_33 (by decide) ?_
          exact sm_pick [0, 1, 3] (w_Md_isPicture_37 ih _ _ _ _ hI hf) rfl

def fn_Md_isPicture (F : Nat) (w : wd) (x1 : Int32) : Option (Bool) := fn_Md_isPicture_4 F F w x1 true (0 : Int32)
set_option maxHeartbeats 1600000 in
set_option maxRecDepth 100000 in
theorem c_Md_isPicture {G : sm_G} {b : Nat} {M0 M : sm_M}  {w : wd} {F : Nat} (hI : lo_in G md_L b M0 M w)  (x1 : Int32)  {R : Bool} (hf : fn_Md_isPicture F w x1 = some R) : sm_C G mf_Md_isPicture [.ref (b + 0), .int x1] M 0 0 (sm_pu M (.int (bi R))) := by
  unfold fn_Md_isPicture at hf
  have hI := hI.here
  refine sm_ofW rfl (Nat.le_of_ble_eq_true rfl) ?_
  refine sm_iconst (v := 1) d_Md_isPicture_0 (by decide) ?_
  refine sm_istore_n d_Md_isPicture_1 rfl (by decide) rfl ?_
  refine sm_iconst (v := 0) d_Md_isPicture_2 (by decide) ?_
  refine sm_istore_n d_Md_isPicture_3 rfl (by decide) rfl ?_
  exact sm_pick [2, 3, 1, 0] (w_Md_isPicture_4 _ _ _ _ _ hI hf) rfl

