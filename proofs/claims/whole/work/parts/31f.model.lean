/-! StreamMarksModel, on; written by wip/tools/model.py -/
def fn_Md_addCodings_204 (k164 : wd → Int32 → Option (wd)) (F : Nat) (w : wd) (x1 : Int32) : Option (wd) := k164 w (x1 + 1)
set_option maxHeartbeats 1600000 in
set_option maxRecDepth 100000 in
theorem w_Md_addCodings_204 {G : sm_G} {b : Nat} {M0 : sm_M} {bc bs : Nat} {R : wd} {F : Nat} {k164 : wd → Int32 → Option (wd)} (hk164 : ∀ (M : sm_M) (w : wd) (x1 : Int32), lo_in G md_L b M0 M w → k164 w x1 = some R → sm_W G mf_Md_addCodings 164 [(0, .ref (b + 0)), (1, .int x1)] [] M bc bs (wd_Q G md_L b M0 none R)) : ∀ (M : sm_M) (w : wd) (x1 : Int32), lo_in G md_L b M0 M w → fn_Md_addCodings_204 k164 F w x1 = some R → sm_W G mf_Md_addCodings 204 [(0, .ref (b + 0)), (1, .int x1)] [] M bc bs (wd_Q G md_L b M0 none R) := by
  intro M w x1 hI  hf
  unfold fn_Md_addCodings_204 at hf
  refine sm_iinc (v := (x1 + 1)) d_Md_addCodings_204 (j := 1) rfl rfl (by decide) rfl ?_
  refine sm_goto (tgt := 164) d_Md_addCodings_207 (by decide) ?_
  exact sm_pick [1, 0] (hk164 _ _ _ hI hf) rfl

def fn_Md_addCodings_164 (F : Nat) : Nat → wd → Int32 → Option (wd)
 | 0, _, _ => none
 | n9 + 1, w, x1 => (if (w 0 3) ≤ x1 then some w else ((fn_Md_otherSteps F w x1).bind fun r42 => (if r42 = true then ((fn_Md_rowsLength w x1).bind fun r45 => ((fn_Md_beginSegment F w (93 : Int32) ((3 : Int32) + r45)).bind fun r47 => ((fn_Md_add F r47 x1 (1 : Int32)).bind fun r51 => ((fn_Md_rows F r51 x1).bind fun r55 => fn_Md_addCodings_204 (fn_Md_addCodings_164 F n9) F r55 x1)))) else fn_Md_addCodings_204 (fn_Md_addCodings_164 F n9) F w x1)))
set_option maxHeartbeats 1600000 in
set_option maxRecDepth 100000 in
theorem w_Md_addCodings_164 {G : sm_G} {b : Nat} {M0 : sm_M} {bc bs : Nat} {R : wd} {F : Nat} : ∀ (n9 : Nat), ∀ (M : sm_M) (w : wd) (x1 : Int32), lo_in G md_L b M0 M w → fn_Md_addCodings_164 F n9 w x1 = some R → sm_W G mf_Md_addCodings 164 [(0, .ref (b + 0)), (1, .int x1)] [] M bc bs (wd_Q G md_L b M0 none R) := by
  intro n9
  induction n9 with
  | zero => intro M w x1 hI  hf; cases hf
  | succ n9 ih =>
    intro M w x1 hI  hf
    rw [fn_Md_addCodings_164] at hf
    refine sm_iload_n d_Md_addCodings_164 rfl (j := 1) rfl ?_
    refine sm_aload_n d_Md_addCodings_165 rfl (j := 0) rfl ?_
    refine lo_get (v := .int (w 0 3)) d_Md_addCodings_166 fg_Md_88 hI ml_0 rfl ?_
    refine sm_icmp_ge (tgt := 210) d_Md_addCodings_169 (by decide) (fun h41 => ?_) (fun h41 => ?_)
    · rw [if_pos h41] at hf
      cases hf
      refine sm_return d_Md_addCodings_210 rfl ?_
      exact ⟨rfl, hI⟩
    · rw [if_neg h41] at hf
      refine sm_aload_n d_Md_addCodings_172 rfl (j := 0) rfl ?_
      refine sm_iload_n d_Md_addCodings_173 rfl (j := 1) rfl ?_
      obtain ⟨r42, e43, hf⟩ := lo_bnd hf
      refine lo_callV d_Md_addCodings_174 cs_Md_addCodings_216 rfl hI ml_0 (As := [.int x1]) rfl rfl (Nat.le_of_ble_eq_true rfl) (c_Md_otherSteps hI x1 e43) ?_
      refine sm_if_eq (tgt := 204) d_Md_addCodings_177 (by decide) (fun h44 => ?_) (fun h44 => ?_)
      · rw [if_neg (bi0 h44)] at hf
        exact sm_pick [0, 1] (w_Md_addCodings_204 ih _ _ _ hI hf) rfl
      · rw [if_pos (bi1 h44)] at hf
        refine sm_aload_n d_Md_addCodings_180 rfl (j := 0) rfl ?_
        refine sm_bipush (v := 93) d_Md_addCodings_181 (by decide) ?_
        refine sm_iconst (v := 3) d_Md_addCodings_183 (by decide) ?_
        refine sm_aload_n d_Md_addCodings_184 rfl (j := 0) rfl ?_
        refine sm_iload_n d_Md_addCodings_185 rfl (j := 1) rfl ?_
        obtain ⟨r45, e46, hf⟩ := lo_bnd hf
        refine lo_callV d_Md_addCodings_186 cs_Md_addCodings_207 rfl hI ml_0 (As := [.int x1]) rfl rfl (Nat.le_of_ble_eq_true rfl) (c_Md_rowsLength hI x1 e46) ?_
        refine sm_iadd d_Md_addCodings_189 ?_
        obtain ⟨r47, e48, hf⟩ := lo_bnd hf
        refine lo_callVm d_Md_addCodings_190 cs_Md_addCodings_198 rfl hI ml_0 (As := [.int (93 : Int32), .int ((3 : Int32) + r45)]) rfl rfl (Nat.le_of_ble_eq_true rfl) (c_Md_beginSegment hI (93 : Int32) ((3 : Int32) + r45) e48) (fun M49 hI50 => ?_)
        refine sm_aload_n d_Md_addCodings_193 rfl (j := 0) rfl ?_
        refine sm_iload_n d_Md_addCodings_194 rfl (j := 1) rfl ?_
        refine sm_iconst (v := 1) d_Md_addCodings_195 (by decide) ?_
        obtain ⟨r51, e52, hf⟩ := lo_bnd hf
        refine lo_callVm d_Md_addCodings_196 cs_Md_addCodings_183 rfl hI50 ml_0 (As := [.int x1, .int (1 : Int32)]) rfl rfl (Nat.le_of_ble_eq_true rfl) (c_Md_add hI50 x1 (1 : Int32) e52) (fun M53 hI54 => ?_)
        refine sm_aload_n d_Md_addCodings_199 rfl (j := 0) rfl ?_
        refine sm_iload_n d_Md_addCodings_200 rfl (j := 1) rfl ?_
        obtain ⟨r55, e56, hf⟩ := lo_bnd hf
        refine lo_callVm d_Md_addCodings_201 cs_Md_addCodings_210 rfl hI54 ml_0 (As := [.int x1]) rfl rfl (Nat.le_of_ble_eq_true rfl) (c_Md_rows hI54 x1 e56) (fun M57 hI58 => ?_)
        exact sm_pick [0, 1] (w_Md_addCodings_204 ih _ _ _ hI58 hf) rfl

def fn_Md_addCodings_156 (k98 : wd → Int32 → Option (wd)) (F : Nat) (w : wd) (x1 : Int32) : Option (wd) := k98 w (x1 + 1)
set_option maxHeartbeats 1600000 in
set_option maxRecDepth 100000 in
theorem w_Md_addCodings_156 {G : sm_G} {b : Nat} {M0 : sm_M} {bc bs : Nat} {R : wd} {F : Nat} {k98 : wd → Int32 → Option (wd)} (hk98 : ∀ (M : sm_M) (w : wd) (x1 : Int32), lo_in G md_L b M0 M w → k98 w x1 = some R → sm_W G mf_Md_addCodings 98 [(0, .ref (b + 0)), (1, .int x1)] [] M bc bs (wd_Q G md_L b M0 none R)) : ∀ (M : sm_M) (w : wd) (x1 : Int32), lo_in G md_L b M0 M w → fn_Md_addCodings_156 k98 F w x1 = some R → sm_W G mf_Md_addCodings 156 [(0, .ref (b + 0)), (1, .int x1)] [] M bc bs (wd_Q G md_L b M0 none R) := by
  intro M w x1 hI  hf
  unfold fn_Md_addCodings_156 at hf
  refine sm_iinc (v := (x1 + 1)) d_Md_addCodings_156 (j := 1) rfl rfl (by decide) rfl ?_
  refine sm_goto (tgt := 98) d_Md_addCodings_159 (by decide) ?_
  exact sm_pick [1, 0] (hk98 _ _ _ hI hf) rfl

def fn_Md_addCodings_147 (k98 : wd → Int32 → Option (wd)) (F : Nat) (w : wd) (x1 : Int32) (s0 : Bool) : Option (wd) := ((fn_Md_add F w (bi s0) (1 : Int32)).bind fun r75 => ((fn_Md_body F r75 x1).bind fun r79 => fn_Md_addCodings_156 k98 F r79 x1))
set_option maxHeartbeats 1600000 in
set_option maxRecDepth 100000 in
theorem w_Md_addCodings_147 {G : sm_G} {b : Nat} {M0 : sm_M} {bc bs : Nat} {R : wd} {F : Nat} {k98 : wd → Int32 → Option (wd)} (hk98 : ∀ (M : sm_M) (w : wd) (x1 : Int32), lo_in G md_L b M0 M w → k98 w x1 = some R → sm_W G mf_Md_addCodings 98 [(0, .ref (b + 0)), (1, .int x1)] [] M bc bs (wd_Q G md_L b M0 none R)) : ∀ (M : sm_M) (w : wd) (x1 : Int32) (s0 : Bool), lo_in G md_L b M0 M w → fn_Md_addCodings_147 k98 F w x1 s0 = some R → sm_W G mf_Md_addCodings 147 [(0, .ref (b + 0)), (1, .int x1)] [.int (bi s0), .ref (b + 0)] M bc bs (wd_Q G md_L b M0 none R) := by
  intro M w x1 s0 hI  hf
  unfold fn_Md_addCodings_147 at hf
  refine sm_iconst (v := 1) d_Md_addCodings_147 (by decide) ?_
  obtain ⟨r75, e76, hf⟩ := lo_bnd hf
  refine lo_callVm d_Md_addCodings_148 cs_Md_addCodings_183 rfl hI ml_0 (As := [.int (bi s0), .int (1 : Int32)]) rfl rfl (Nat.le_of_ble_eq_true rfl) (c_Md_add hI (bi s0) (1 : Int32) e76) (fun M77 hI78 => ?_)
  refine sm_aload_n d_Md_addCodings_151 rfl (j := 0) rfl ?_
  refine sm_iload_n d_Md_addCodings_152 rfl (j := 1) rfl ?_
  obtain ⟨r79, e80, hf⟩ := lo_bnd hf
  refine lo_callVm d_Md_addCodings_153 cs_Md_addCodings_204 rfl hI78 ml_0 (As := [.int x1]) rfl rfl (Nat.le_of_ble_eq_true rfl) (c_Md_body hI78 x1 e80) (fun M81 hI82 => ?_)
  exact sm_pick [0, 1] (w_Md_addCodings_156 hk98 _ _ _ hI82 hf) rfl

def fn_Md_addCodings_98 (F : Nat) : Nat → wd → Int32 → Option (wd)
 | 0, _, _ => none
 | n9 + 1, w, x1 => (if (w 0 3) ≤ x1 then fn_Md_addCodings_164 F F w (1 : Int32) else ((fn_Md_otherCoding F w x1).bind fun r59 => (if r59 = true then ((fn_Md_bodyLength F w x1).bind fun r62 => ((fn_Md_beginSegment F w (83 : Int32) ((4 : Int32) + r62)).bind fun r64 => ((fn_Md_add F r64 x1 (1 : Int32)).bind fun r68 => ((fn_Md_tells F r68 x1).bind fun r72 => (if r72 = true then fn_Md_addCodings_147 (fn_Md_addCodings_98 F n9) F r68 x1 true else fn_Md_addCodings_147 (fn_Md_addCodings_98 F n9) F r68 x1 false))))) else fn_Md_addCodings_156 (fn_Md_addCodings_98 F n9) F w x1)))
set_option maxHeartbeats 1600000 in
set_option maxRecDepth 100000 in
theorem w_Md_addCodings_98 {G : sm_G} {b : Nat} {M0 : sm_M} {bc bs : Nat} {R : wd} {F : Nat} : ∀ (n9 : Nat), ∀ (M : sm_M) (w : wd) (x1 : Int32), lo_in G md_L b M0 M w → fn_Md_addCodings_98 F n9 w x1 = some R → sm_W G mf_Md_addCodings 98 [(0, .ref (b + 0)), (1, .int x1)] [] M bc bs (wd_Q G md_L b M0 none R) := by
  intro n9
  induction n9 with
  | zero => intro M w x1 hI  hf; cases hf
  | succ n9 ih =>
    intro M w x1 hI  hf
    rw [fn_Md_addCodings_98] at hf
    refine sm_iload_n d_Md_addCodings_98 rfl (j := 1) rfl ?_
    refine sm_aload_n d_Md_addCodings_99 rfl (j := 0) rfl ?_
    refine lo_get (v := .int (w 0 3)) d_Md_addCodings_100 fg_Md_88 hI ml_0 rfl ?_
    refine sm_icmp_ge (tgt := 162) d_Md_addCodings_103 (by decide) (fun h40 => ?_) (fun h40 => ?_)
    · rw [if_pos h40] at hf
      refine sm_iconst (v := 1) d_Md_addCodings_162 (by decide) ?_
      refine sm_istore_n d_Md_addCodings_163 rfl (by decide) rfl ?_
      exact sm_pick [1, 0] (w_Md_addCodings_164 _ _ _ _ hI hf) rfl
    · rw [if_neg h40] at hf
      refine sm_aload_n d_Md_addCodings_106 rfl (j := 0) rfl ?_
      refine sm_iload_n d_Md_addCodings_107 rfl (j := 1) rfl ?_
      obtain ⟨r59, e60, hf⟩ := lo_bnd hf
      refine lo_callV d_Md_addCodings_108 cs_Md_addCodings_213 rfl hI ml_0 (As := [.int x1]) rfl rfl (Nat.le_of_ble_eq_true rfl) (c_Md_otherCoding hI x1 e60) ?_
      refine sm_if_eq (tgt := 156) d_Md_addCodings_111 (by decide) (fun h61 => ?_) (fun h61 => ?_)
      · rw [if_neg (bi0 h61)] at hf
        exact sm_pick [0, 1] (w_Md_addCodings_156 ih _ _ _ hI hf) rfl
      · rw [if_pos (bi1 h61)] at hf
        refine sm_aload_n d_Md_addCodings_114 rfl (j := 0) rfl ?_
        refine sm_bipush (v := 83) d_Md_addCodings_115 (by decide) ?_
        refine sm_iconst (v := 4) d_Md_addCodings_117 (by decide) ?_
        refine sm_aload_n d_Md_addCodings_118 rfl (j := 0) rfl ?_
        refine sm_iload_n d_Md_addCodings_119 rfl (j := 1) rfl ?_
        obtain ⟨r62, e63, hf⟩ := lo_bnd hf
        refine lo_callV d_Md_addCodings_120 cs_Md_addCodings_201 rfl hI ml_0 (As := [.int x1]) rfl rfl (Nat.le_of_ble_eq_true rfl) (c_Md_bodyLength hI x1 e63) ?_
        refine sm_iadd d_Md_addCodings_123 ?_
        obtain ⟨r64, e65, hf⟩ := lo_bnd hf
        refine lo_callVm d_Md_addCodings_124 cs_Md_addCodings_198 rfl hI ml_0 (As := [.int (83 : Int32), .int ((4 : Int32) + r62)]) rfl rfl (Nat.le_of_ble_eq_true rfl) (c_Md_beginSegment hI (83 : Int32) ((4 : Int32) + r62) e65) (fun M66 hI67 => ?_)
        refine sm_aload_n d_Md_addCodings_127 rfl (j := 0) rfl ?_
        refine sm_iload_n d_Md_addCodings_128 rfl (j := 1) rfl ?_
        refine sm_iconst (v := 1) d_Md_addCodings_129 (by decide) ?_
        obtain ⟨r68, e69, hf⟩ := lo_bnd hf
        refine lo_callVm d_Md_addCodings_130 cs_Md_addCodings_183 rfl hI67 ml_0 (As := [.int x1, .int (1 : Int32)]) rfl rfl (Nat.le_of_ble_eq_true rfl) (c_Md_add hI67 x1 (1 : Int32) e69) (fun M70 hI71 => ?_)
        refine sm_aload_n d_Md_addCodings_133 rfl (j := 0) rfl ?_
        refine sm_aload_n d_Md_addCodings_134 rfl (j := 0) rfl ?_
        refine sm_iload_n d_Md_addCodings_135 rfl (j := 1) rfl ?_
        obtain ⟨r72, e73, hf⟩ := lo_bnd hf
        refine lo_callV d_Md_addCodings_136 cs_Md_addCodings_187 rfl hI71 ml_0 (As := [.int x1]) rfl rfl (Nat.le_of_ble_eq_true rfl) (c_Md_tells hI71 x1 e73) ?_
        refine sm_if_eq (tgt := 146) d_Md_addCodings_139 (by decide) (fun h74 => ?_) (fun h74 => ?_)
        · rw [if_neg (bi0 h74)] at hf
          refine sm_iconst (v := 0) d_Md_addCodings_146 (by decide) ?_
          exact sm_pick [0, 1] (w_Md_addCodings_147 ih _ _ _ _ hI71 hf) rfl
        · rw [if_pos (bi1 h74)] at hf
          refine sm_iconst (v := 1) d_Md_addCodings_142 (by decide) ?_
          refine sm_goto (tgt := 147) d_Md_addCodings_143 (by decide) ?_
          exact sm_pick [0, 1] (w_Md_addCodings_147 ih _ _ _ _ hI71 hf) rfl

def fn_Md_addCodings_28 (F : Nat) (w : wd) (s0 : Bool) : Option (wd) := ((fn_Md_add F w (((bi s0) + ((2 : Int32) * (w 0 11))) + ((4 : Int32) * (w 0 12))) (1 : Int32)).bind fun r10 => ((fn_Md_add F r10 (r10 0 8) (1 : Int32)).bind fun r14 => ((fn_Md_add F r14 (r14 0 9) (2 : Int32)).bind fun r18 => ((fn_Md_add F r18 (r18 0 10) (1 : Int32)).bind fun r22 => ((fn_Md_body F r22 (0 : Int32)).bind fun r26 => ((fn_Md_rowsLength r26 (0 : Int32)).bind fun r30 => ((fn_Md_beginSegment F r26 (92 : Int32) ((2 : Int32) + r30)).bind fun r32 => ((fn_Md_rows F r32 (0 : Int32)).bind fun r36 => fn_Md_addCodings_98 F F r36 (1 : Int32)))))))))
set_option maxHeartbeats 1600000 in
set_option maxRecDepth 100000 in
theorem w_Md_addCodings_28 {G : sm_G} {b : Nat} {M0 : sm_M} {bc bs : Nat} {R : wd} {F : Nat} : ∀ (M : sm_M) (w : wd) (s0 : Bool), lo_in G md_L b M0 M w → fn_Md_addCodings_28 F w s0 = some R → sm_W G mf_Md_addCodings 28 [(0, .ref (b + 0))] [.int (bi s0), .ref (b + 0)] M bc bs (wd_Q G md_L b M0 none R) := by
  intro M w s0 hI  hf
  unfold fn_Md_addCodings_28 at hf
  refine sm_iconst (v := 2) d_Md_addCodings_28 (by decide) ?_
  refine sm_aload_n d_Md_addCodings_29 rfl (j := 0) rfl ?_
  refine lo_get (v := .int (w 0 11)) d_Md_addCodings_30 fg_Md_97 hI ml_0 rfl ?_
  refine sm_imul d_Md_addCodings_33 ?_
  refine sm_iadd d_Md_addCodings_34 ?_
  refine sm_iconst (v := 4) d_Md_addCodings_35 (by decide) ?_
  refine sm_aload_n d_Md_addCodings_36 rfl (j := 0) rfl ?_
  refine lo_get (v := .int (w 0 12)) d_Md_addCodings_37 fg_Md_100 hI ml_0 rfl ?_
  refine sm_imul d_Md_addCodings_40 ?_
  refine sm_iadd d_Md_addCodings_41 ?_
  refine sm_iconst (v := 1) d_Md_addCodings_42 (by decide) ?_
  obtain ⟨r10, e11, hf⟩ := lo_bnd hf
  refine lo_callVm d_Md_addCodings_43 cs_Md_addCodings_183 rfl hI ml_0 (As := [.int (((bi s0) + ((2 : Int32) * (w 0 11))) + ((4 : Int32) * (w 0 12))), .int (1 : Int32)]) rfl rfl (Nat.le_of_ble_eq_true rfl) (c_Md_add hI (((bi s0) + ((2 : Int32) * (w 0 11))) + ((4 : Int32) * (w 0 12))) (1 : Int32) e11) (fun M12 hI13 => ?_)
  refine sm_aload_n d_Md_addCodings_46 rfl (j := 0) rfl ?_
  refine sm_aload_n d_Md_addCodings_47 rfl (j := 0) rfl ?_
  refine lo_get (v := .int (r10 0 8)) d_Md_addCodings_48 fg_Md_91 hI13 ml_0 rfl ?_
  refine sm_iconst (v := 1) d_Md_addCodings_51 (by decide) ?_
  obtain ⟨r14, e15, hf⟩ := lo_bnd hf
  refine lo_callVm d_Md_addCodings_52 cs_Md_addCodings_183 rfl hI13 ml_0 (As := [.int (r10 0 8), .int (1 : Int32)]) rfl rfl (Nat.le_of_ble_eq_true rfl) (c_Md_add hI13 (r10 0 8) (1 : Int32) e15) (fun M16 hI17 => ?_)
  refine sm_aload_n d_Md_addCodings_55 rfl (j := 0) rfl ?_
  refine sm_aload_n d_Md_addCodings_56 rfl (j := 0) rfl ?_
  refine lo_get (v := .int (r14 0 9)) d_Md_addCodings_57 fg_Md_25 hI17 ml_0 rfl ?_
  refine sm_iconst (v := 2) d_Md_addCodings_60 (by decide) ?_
  obtain ⟨r18, e19, hf⟩ := lo_bnd hf
  refine lo_callVm d_Md_addCodings_61 cs_Md_addCodings_183 rfl hI17 ml_0 (As := [.int (r14 0 9), .int (2 : Int32)]) rfl rfl (Nat.le_of_ble_eq_true rfl) (c_Md_add hI17 (r14 0 9) (2 : Int32) e19) (fun M20 hI21 => ?_)
  refine sm_aload_n d_Md_addCodings_64 rfl (j := 0) rfl ?_
  refine sm_aload_n d_Md_addCodings_65 rfl (j := 0) rfl ?_
  refine lo_get (v := .int (r18 0 10)) d_Md_addCodings_66 fg_Md_94 hI21 ml_0 rfl ?_
  refine sm_iconst (v := 1) d_Md_addCodings_69 (by decide) ?_
  obtain ⟨r22, e23, hf⟩ := lo_bnd hf
  refine lo_callVm d_Md_addCodings_70 cs_Md_addCodings_183 rfl hI21 ml_0 (As := [.int (r18 0 10), .int (1 : Int32)]) rfl rfl (Nat.le_of_ble_eq_true rfl) (c_Md_add hI21 (r18 0 10) (1 : Int32) e23) (fun M24 hI25 => ?_)
  refine sm_aload_n d_Md_addCodings_73 rfl (j := 0) rfl ?_
  refine sm_iconst (v := 0) d_Md_addCodings_74 (by decide) ?_
  obtain ⟨r26, e27, hf⟩ := lo_bnd hf
  refine lo_callVm d_Md_addCodings_75 cs_Md_addCodings_204 rfl hI25 ml_0 (As := [.int (0 : Int32)]) rfl rfl (Nat.le_of_ble_eq_true rfl) (c_Md_body hI25 (0 : Int32) e27) (fun M28 hI29 => ?_)
  refine sm_aload_n d_Md_addCodings_78 rfl (j := 0) rfl ?_
  refine sm_bipush (v := 92) d_Md_addCodings_79 (by decide) ?_
  refine sm_iconst (v := 2) d_Md_addCodings_81 (by decide) ?_
  refine sm_aload_n d_Md_addCodings_82 rfl (j := 0) rfl ?_
  refine sm_iconst (v := 0) d_Md_addCodings_83 (by decide) ?_
  obtain ⟨r30, e31, hf⟩ := lo_bnd hf
  refine lo_callV d_Md_addCodings_84 cs_Md_addCodings_207 rfl hI29 ml_0 (As := [.int (0 : Int32)]) rfl rfl (Nat.le_of_ble_eq_true rfl) (c_Md_rowsLength hI29 (0 : Int32) e31) ?_
  refine sm_iadd d_Md_addCodings_87 ?_
  obtain ⟨r32, e33, hf⟩ := lo_bnd hf
  refine lo_callVm d_Md_addCodings_88 cs_Md_addCodings_198 rfl hI29 ml_0 (As := [.int (92 : Int32), .int ((2 : Int32) + r30)]) rfl rfl (Nat.le_of_ble_eq_true rfl) (c_Md_beginSegment hI29 (92 : Int32) ((2 : Int32) + r30) e33) (fun M34 hI35 => ?_)
  refine sm_aload_n d_Md_addCodings_91 rfl (j := 0) rfl ?_
  refine sm_iconst (v := 0) d_Md_addCodings_92 (by decide) ?_
  obtain ⟨r36, e37, hf⟩ := lo_bnd hf
  refine lo_callVm d_Md_addCodings_93 cs_Md_addCodings_210 rfl hI35 ml_0 (As := [.int (0 : Int32)]) rfl rfl (Nat.le_of_ble_eq_true rfl) (c_Md_rows hI35 (0 : Int32) e37) (fun M38 hI39 => ?_)
  refine sm_iconst (v := 1) d_Md_addCodings_96 (by decide) ?_
  refine sm_istore_n d_Md_addCodings_97 rfl (by decide) rfl ?_
  exact sm_pick [1, 0] (w_Md_addCodings_98 _ _ _ _ hI39 hf) rfl

def fn_Md_addCodings (F : Nat) (w : wd) : Option (wd) := ((fn_Md_bodyLength F w (0 : Int32)).bind fun r1 => ((fn_Md_beginSegment F w (82 : Int32) ((7 : Int32) + r1)).bind fun r3 => ((fn_Md_tells F r3 (0 : Int32)).bind fun r7 => (if r7 = true then fn_Md_addCodings_28 F r3 true else fn_Md_addCodings_28 F r3 false))))
set_option maxHeartbeats 1600000 in
set_option maxRecDepth 100000 in
theorem c_Md_addCodings {G : sm_G} {b : Nat} {M0 M : sm_M}  {w : wd} {F : Nat} (hI : lo_in G md_L b M0 M w)  {R : wd} (hf : fn_Md_addCodings F w = some R) : sm_C G mf_Md_addCodings [.ref (b + 0)] M 0 0 (wd_Q G md_L b M none R) := by
  unfold fn_Md_addCodings at hf
  have hI := hI.here
  refine sm_ofW rfl (Nat.le_of_ble_eq_true rfl) ?_
  refine sm_aload_n d_Md_addCodings_0 rfl (j := 0) rfl ?_
  refine sm_bipush (v := 82) d_Md_addCodings_1 (by decide) ?_
  refine sm_bipush (v := 7) d_Md_addCodings_3 (by decide) ?_
  refine sm_aload_n d_Md_addCodings_5 rfl (j := 0) rfl ?_
  refine sm_iconst (v := 0) d_Md_addCodings_6 (by decide) ?_
  obtain ⟨r1, e2, hf⟩ := lo_bnd hf
  refine lo_callV d_Md_addCodings_7 cs_Md_addCodings_201 rfl hI ml_0 (As := [.int (0 : Int32)]) rfl rfl (Nat.le_of_ble_eq_true rfl) (c_Md_bodyLength hI (0 : Int32) e2) ?_
  refine sm_iadd d_Md_addCodings_10 ?_
  obtain ⟨r3, e4, hf⟩ := lo_bnd hf
  refine lo_callVm d_Md_addCodings_11 cs_Md_addCodings_198 rfl hI ml_0 (As := [.int (82 : Int32), .int ((7 : Int32) + r1)]) rfl rfl (Nat.le_of_ble_eq_true rfl) (c_Md_beginSegment hI (82 : Int32) ((7 : Int32) + r1) e4) (fun M5 hI6 => ?_)
  refine sm_aload_n d_Md_addCodings_14 rfl (j := 0) rfl ?_
  refine sm_aload_n d_Md_addCodings_15 rfl (j := 0) rfl ?_
  refine sm_iconst (v := 0) d_Md_addCodings_16 (by decide) ?_
  obtain ⟨r7, e8, hf⟩ := lo_bnd hf
  refine lo_callV d_Md_addCodings_17 cs_Md_addCodings_187 rfl hI6 ml_0 (As := [.int (0 : Int32)]) rfl rfl (Nat.le_of_ble_eq_true rfl) (c_Md_tells hI6 (0 : Int32) e8) ?_
  refine sm_if_eq (tgt := 27) d_Md_addCodings_20 (by decide) (fun h9 => ?_) (fun h9 => ?_)
  · rw [if_neg (bi0 h9)] at hf
    refine sm_iconst (v := 0) d_Md_addCodings_27 (by decide) ?_
    exact sm_pick [0] (w_Md_addCodings_28 _ _ _ hI6 hf) rfl
  · rw [if_pos (bi1 h9)] at hf
    refine sm_iconst (v := 1) d_Md_addCodings_23 (by decide) ?_
    refine sm_goto (tgt := 28) d_Md_addCodings_24 (by decide) ?_
    exact sm_pick [0] (w_Md_addCodings_28 _ _ _ hI6 hf) rfl

def fn_Md_addRest_91 (F : Nat) : Nat → wd → Int32 → Option (wd)
 | 0, _, _ => none
 | n9 + 1, w, x1 => (if (w 0 17) ≤ x1 then some w else (if 0 ≤ ((6 : Int32) * x1).toInt ∧ ((6 : Int32) * x1).toInt < 192 then ((fn_Md_add F w (w 10 (((6 : Int32) * x1).toInt.toNat)) (1 : Int32)).bind fun r5 => (if 0 ≤ (((6 : Int32) * x1) + (1 : Int32)).toInt ∧ (((6 : Int32) * x1) + (1 : Int32)).toInt < 192 then ((fn_Md_add F r5 (r5 10 ((((6 : Int32) * x1) + (1 : Int32)).toInt.toNat)) (1 : Int32)).bind fun r10 => (if 0 ≤ (((6 : Int32) * x1) + (2 : Int32)).toInt ∧ (((6 : Int32) * x1) + (2 : Int32)).toInt < 192 then ((fn_Md_add F r10 (r10 10 ((((6 : Int32) * x1) + (2 : Int32)).toInt.toNat)) (2 : Int32)).bind fun r15 => (if 0 ≤ (((6 : Int32) * x1) + (3 : Int32)).toInt ∧ (((6 : Int32) * x1) + (3 : Int32)).toInt < 192 then ((fn_Md_add F r15 (r15 10 ((((6 : Int32) * x1) + (3 : Int32)).toInt.toNat)) (1 : Int32)).bind fun r20 => (if 0 ≤ (((6 : Int32) * x1) + (4 : Int32)).toInt ∧ (((6 : Int32) * x1) + (4 : Int32)).toInt < 192 then ((fn_Md_add F r20 (r20 10 ((((6 : Int32) * x1) + (4 : Int32)).toInt.toNat)) (1 : Int32)).bind fun r25 => (if 0 ≤ (((6 : Int32) * x1) + (5 : Int32)).toInt ∧ (((6 : Int32) * x1) + (5 : Int32)).toInt < 192 then ((fn_Md_add F r25 (r25 10 ((((6 : Int32) * x1) + (5 : Int32)).toInt.toNat)) (1 : Int32)).bind fun r30 => fn_Md_addRest_91 F n9 r30 (x1 + 1)) else none)) else none)) else none)) else none)) else none)) else none))
set_option maxHeartbeats 1600000 in
set_option maxRecDepth 100000 in
theorem w_Md_addRest_91 {G : sm_G} {b : Nat} {M0 : sm_M} {bc bs : Nat} {R : wd} {F : Nat} : ∀ (n9 : Nat), ∀ (M : sm_M) (w : wd) (x1 : Int32), lo_in G md_L b M0 M w → fn_Md_addRest_91 F n9 w x1 = some R → sm_W G mf_Md_addRest 91 [(0, .ref (b + 0)), (1, .int x1)] [] M bc bs (wd_Q G md_L b M0 none R) := by
  intro n9
  induction n9 with
  | zero => intro M w x1 hI  hf; cases hf
  | succ n9 ih =>
    intro M w x1 hI  hf
    rw [fn_Md_addRest_91] at hf
    refine sm_iload_n d_Md_addRest_91 rfl (j := 1) rfl ?_
    refine sm_aload_n d_Md_addRest_92 rfl (j := 0) rfl ?_
    refine lo_get (v := .int (w 0 17)) d_Md_addRest_93 fg_Md_103 hI ml_0 rfl ?_
    refine sm_icmp_ge (tgt := 199) d_Md_addRest_96 (by decide) (fun h3 => ?_) (fun h3 => ?_)
    · rw [if_pos h3] at hf
      cases hf
      refine sm_return d_Md_addRest_199 rfl ?_
      exact ⟨rfl, hI⟩
    · rw [if_neg h3] at hf
      refine sm_aload_n d_Md_addRest_99 rfl (j := 0) rfl ?_
      refine sm_aload_n d_Md_addRest_100 rfl (j := 0) rfl ?_
      refine lo_get (v := .ref (b + 10)) d_Md_addRest_101 fg_Md_41 hI ml_0 rfl ?_
      refine sm_bipush (v := 6) d_Md_addRest_104 (by decide) ?_
      refine sm_iload_n d_Md_addRest_106 rfl (j := 1) rfl ?_
      refine sm_imul d_Md_addRest_107 ?_
      obtain ⟨h4, hf⟩ := lo_chk hf
      refine lo_ald (j := ((6 : Int32) * x1).toInt.toNat) d_Md_addRest_108 hI ml_10 h4 rfl ?_
      refine sm_iconst (v := 1) d_Md_addRest_109 (by decide) ?_
      obtain ⟨r5, e6, hf⟩ := lo_bnd hf
      refine lo_callVm d_Md_addRest_110 cs_Md_addRest_183 rfl hI ml_0 (As := [.int (w 10 (((6 : Int32) * x1).toInt.toNat)), .int (1 : Int32)]) rfl rfl (Nat.le_of_ble_eq_true rfl) (c_Md_add hI (w 10 (((6 : Int32) * x1).toInt.toNat)) (1 : Int32) e6) (fun M7 hI8 => ?_)
      refine sm_aload_n d_Md_addRest_113 rfl (j := 0) rfl ?_
      refine sm_aload_n d_Md_addRest_114 rfl (j := 0) rfl ?_
      refine lo_get (v := .ref (b + 10)) d_Md_addRest_115 fg_Md_41 hI8 ml_0 rfl ?_
      refine sm_bipush (v := 6) d_Md_addRest_118 (by decide) ?_
      refine sm_iload_n d_Md_addRest_120 rfl (j := 1) rfl ?_
      refine sm_imul d_Md_addRest_121 ?_
      refine sm_iconst (v := 1) d_Md_addRest_122 (by decide) ?_
      refine sm_iadd d_Md_addRest_123 ?_
      obtain ⟨h9, hf⟩ := lo_chk hf
      refine lo_ald (j := (((6 : Int32) * x1) + (1 : Int32)).toInt.toNat) d_Md_addRest_124 hI8 ml_10 h9 rfl ?_
      refine sm_iconst (v := 1) d_Md_addRest_125 (by decide) ?_
      obtain ⟨r10, e11, hf⟩ := lo_bnd hf
      refine lo_callVm d_Md_addRest_126 cs_Md_addRest_183 rfl hI8 ml_0 (As := [.int (r5 10 ((((6 : Int32) * x1) + (1 : Int32)).toInt.toNat)), .int (1 : Int32)]) rfl rfl (Nat.le_of_ble_eq_true rfl) (c_Md_add hI8 (r5 10 ((((6 : Int32) * x1) + (1 : Int32)).toInt.toNat)) (1 : Int32) e11) (fun M12 hI13 => ?_)
      refine sm_aload_n d_Md_addRest_129 rfl (j := 0) rfl ?_
      refine sm_aload_n d_Md_addRest_130 rfl (j := 0) rfl ?_
      refine lo_get (v := .ref (b + 10)) d_Md_addRest_131 fg_Md_41 hI13 ml_0 rfl ?_
      refine sm_bipush (v := 6) d_Md_addRest_134 (by decide) ?_
      refine sm_iload_n d_Md_addRest_136 rfl (j := 1) rfl ?_
      refine sm_imul d_Md_addRest_137 ?_
      refine sm_iconst (v := 2) d_Md_addRest_138 (by decide) ?_
      refine sm_iadd d_Md_addRest_139 ?_
      obtain ⟨h14, hf⟩ := lo_chk hf
      refine lo_ald (j := (((6 : Int32) * x1) + (2 : Int32)).toInt.toNat) d_Md_addRest_140 hI13 ml_10 h14 rfl ?_
      refine sm_iconst (v := 2) d_Md_addRest_141 (by decide) ?_
      obtain ⟨r15, e16, hf⟩ := lo_bnd hf
      refine lo_callVm d_Md_addRest_142 cs_Md_addRest_183 rfl hI13 ml_0 (As := [.int (r10 10 ((((6 : Int32) * x1) + (2 : Int32)).toInt.toNat)), .int (2 : Int32)]) rfl rfl (Nat.le_of_ble_eq_true rfl) (c_Md_add hI13 (r10 10 ((((6 : Int32) * x1) + (2 : Int32)).toInt.toNat)) (2 : Int32) e16) (fun M17 hI18 => ?_)
      refine sm_aload_n d_Md_addRest_145 rfl (j := 0) rfl ?_
      refine sm_aload_n d_Md_addRest_146 rfl (j := 0) rfl ?_
      refine lo_get (v := .ref (b + 10)) d_Md_addRest_147 fg_Md_41 hI18 ml_0 rfl ?_
      refine sm_bipush (v := 6) d_Md_addRest_150 (by decide) ?_
      refine sm_iload_n d_Md_addRest_152 rfl (j := 1) rfl ?_
      refine sm_imul d_Md_addRest_153 ?_
      refine sm_iconst (v := 3) d_Md_addRest_154 (by decide) ?_
      refine sm_iadd d_Md_addRest_155 ?_
      obtain ⟨h19, hf⟩ := lo_chk hf
      refine lo_ald (j := (((6 : Int32) * x1) + (3 : Int32)).toInt.toNat) d_Md_addRest_156 hI18 ml_10 h19 rfl ?_
      refine sm_iconst (v := 1) d_Md_addRest_157 (by decide) ?_
      obtain ⟨r20, e21, hf⟩ := lo_bnd hf
      refine lo_callVm d_Md_addRest_158 cs_Md_addRest_183 rfl hI18 ml_0 (As := [.int (r15 10 ((((6 : Int32) * x1) + (3 : Int32)).toInt.toNat)), .int (1 : Int32)]) rfl rfl (Nat.le_of_ble_eq_true rfl) (c_Md_add hI18 (r15 10 ((((6 : Int32) * x1) + (3 : Int32)).toInt.toNat)) (1 : Int32) e21) (fun M22 hI23 => ?_)
      refine sm_aload_n d_Md_addRest_161 rfl (j := 0) rfl ?_
      refine sm_aload_n d_Md_addRest_162 rfl (j := 0) rfl ?_
      refine lo_get (v := .ref (b + 10)) d_Md_addRest_163 fg_Md_41 hI23 ml_0 rfl ?_
      refine sm_bipush (v := 6) d_Md_addRest_166 (by decide) ?_
      refine sm_iload_n d_Md_addRest_168 rfl (j := 1) rfl ?_
      refine sm_imul d_Md_addRest_169 ?_
      refine sm_iconst (v := 4) d_Md_addRest_170 (by decide) ?_
      refine sm_iadd d_Md_addRest_171 ?_
      obtain ⟨h24, hf⟩ := lo_chk hf
      refine lo_ald (j := (((6 : Int32) * x1) + (4 : Int32)).toInt.toNat) d_Md_addRest_172 hI23 ml_10 h24 rfl ?_
      refine sm_iconst (v := 1) d_Md_addRest_173 (by decide) ?_
      obtain ⟨r25, e26, hf⟩ := lo_bnd hf
      refine lo_callVm d_Md_addRest_174 cs_Md_addRest_183 rfl hI23 ml_0 (As := [.int (r20 10 ((((6 : Int32) * x1) + (4 : Int32)).toInt.toNat)), .int (1 : Int32)]) rfl rfl (Nat.le_of_ble_eq_true rfl) (c_Md_add hI23 (r20 10 ((((6 : Int32) * x1) + (4 : Int32)).toInt.toNat)) (1 : Int32) e26) (fun M27 hI28 => ?_)
      refine sm_aload_n d_Md_addRest_177 rfl (j := 0) rfl ?_
      refine sm_aload_n d_Md_addRest_178 rfl (j := 0) rfl ?_
      refine lo_get (v := .ref (b + 10)) d_Md_addRest_179 fg_Md_41 hI28 ml_0 rfl ?_
      refine sm_bipush (v := 6) d_Md_addRest_182 (by decide) ?_
      refine sm_iload_n d_Md_addRest_184 rfl (j := 1) rfl ?_
      refine sm_imul d_Md_addRest_185 ?_
      refine sm_iconst (v := 5) d_Md_addRest_186 (by decide) ?_
      refine sm_iadd d_Md_addRest_187 ?_
      obtain ⟨h29, hf⟩ := lo_chk hf
      refine lo_ald (j := (((6 : Int32) * x1) + (5 : Int32)).toInt.toNat) d_Md_addRest_188 hI28 ml_10 h29 rfl ?_
      refine sm_iconst (v := 1) d_Md_addRest_189 (by decide) ?_
      obtain ⟨r30, e31, hf⟩ := lo_bnd hf
      refine lo_callVm d_Md_addRest_190 cs_Md_addRest_183 rfl hI28 ml_0 (As := [.int (r25 10 ((((6 : Int32) * x1) + (5 : Int32)).toInt.toNat)), .int (1 : Int32)]) rfl rfl (Nat.le_of_ble_eq_true rfl) (c_Md_add hI28 (r25 10 ((((6 : Int32) * x1) + (5 : Int32)).toInt.toNat)) (1 : Int32) e31) (fun M32 hI33 => ?_)
      refine sm_iinc (v := (x1 + 1)) d_Md_addRest_193 (j := 1) rfl rfl (by decide) rfl ?_
      refine sm_goto (tgt := 91) d_Md_addRest_196 (by decide) ?_
      exact sm_pick [1, 0] (ih _ _ _ hI33 hf) rfl

def fn_Md_addRest_89 (F : Nat) (w : wd) : Option (wd) := fn_Md_addRest_91 F F w (0 : Int32)
set_option maxHeartbeats 1600000 in
set_option maxRecDepth 100000 in
theorem w_Md_addRest_89 {G : sm_G} {b : Nat} {M0 : sm_M} {bc bs : Nat} {R : wd} {F : Nat} : ∀ (M : sm_M) (w : wd) , lo_in G md_L b M0 M w → fn_Md_addRest_89 F w = some R → sm_W G mf_Md_addRest 89 [(0, .ref (b + 0))] [] M bc bs (wd_Q G md_L b M0 none R) := by
  intro M w  hI  hf
  unfold fn_Md_addRest_89 at hf
  refine sm_iconst (v := 0) d_Md_addRest_89 (by decide) ?_
  refine sm_istore_n d_Md_addRest_90 rfl (by decide) rfl ?_
  exact sm_pick [1, 0] (w_Md_addRest_91 _ _ _ _ hI hf) rfl

def fn_Md_addRest_61 (k2 : wd → Int32 → Option (wd)) (F : Nat) (w : wd) (x1 : Int32) : Option (wd) := k2 w (x1 + 1)
set_option maxHeartbeats 1600000 in
set_option maxRecDepth 100000 in
theorem w_Md_addRest_61 {G : sm_G} {b : Nat} {M0 : sm_M} {bc bs : Nat} {R : wd} {F : Nat} {k2 : wd → Int32 → Option (wd)} (hk2 : ∀ (M : sm_M) (w : wd) (x1 : Int32), lo_in G md_L b M0 M w → k2 w x1 = some R → sm_W G mf_Md_addRest 2 [(0, .ref (b + 0)), (1, .int x1)] [] M bc bs (wd_Q G md_L b M0 none R)) : ∀ (M : sm_M) (w : wd) (x1 : Int32), lo_in G md_L b M0 M w → fn_Md_addRest_61 k2 F w x1 = some R → sm_W G mf_Md_addRest 61 [(0, .ref (b + 0)), (1, .int x1)] [] M bc bs (wd_Q G md_L b M0 none R) := by
  intro M w x1 hI  hf
  unfold fn_Md_addRest_61 at hf
  refine sm_iinc (v := (x1 + 1)) d_Md_addRest_61 (j := 1) rfl rfl (by decide) rfl ?_
  refine sm_goto (tgt := 2) d_Md_addRest_64 (by decide) ?_
  exact sm_pick [1, 0] (hk2 _ _ _ hI hf) rfl

def fn_Md_addRest_2 (F : Nat) : Nat → wd → Int32 → Option (wd)
 | 0, _, _ => none
 | n9 + 1, w, x1 => (if (w 0 3) ≤ x1 then (if (w 0 17) ≤ 0 then fn_Md_addRest_89 F w else ((fn_Md_beginSegment F w (95 : Int32) ((2 : Int32) + ((7 : Int32) * (w 0 17)))).bind fun r34 => fn_Md_addRest_89 F r34)) else (if 0 ≤ (((8 : Int32) * x1) + (7 : Int32)).toInt ∧ (((8 : Int32) * x1) + (7 : Int32)).toInt < 128 then (if (w 6 ((((8 : Int32) * x1) + (7 : Int32)).toInt.toNat)) = 0 then fn_Md_addRest_61 (fn_Md_addRest_2 F n9) F w x1 else ((fn_Md_beginSegment F w (94 : Int32) (5 : Int32)).bind fun r40 => ((fn_Md_add F r40 x1 (1 : Int32)).bind fun r44 => ((fn_Md_add F r44 (0 : Int32) (1 : Int32)).bind fun r48 => (if 0 ≤ (((8 : Int32) * x1) + (7 : Int32)).toInt ∧ (((8 : Int32) * x1) + (7 : Int32)).toInt < 128 then ((fn_Md_add F r48 (r48 6 ((((8 : Int32) * x1) + (7 : Int32)).toInt.toNat)) (1 : Int32)).bind fun r53 => fn_Md_addRest_61 (fn_Md_addRest_2 F n9) F r53 x1) else none))))) else none))
set_option maxHeartbeats 1600000 in
set_option maxRecDepth 100000 in
theorem w_Md_addRest_2 {G : sm_G} {b : Nat} {M0 : sm_M} {bc bs : Nat} {R : wd} {F : Nat} : ∀ (n9 : Nat), ∀ (M : sm_M) (w : wd) (x1 : Int32), lo_in G md_L b M0 M w → fn_Md_addRest_2 F n9 w x1 = some R → sm_W G mf_Md_addRest 2 [(0, .ref (b + 0)), (1, .int x1)] [] M bc bs (wd_Q G md_L b M0 none R) := by
  intro n9
  induction n9 with
  | zero => intro M w x1 hI  hf; cases hf
  | succ n9 ih =>
    intro M w x1 hI  hf
    rw [fn_Md_addRest_2] at hf
    refine sm_iload_n d_Md_addRest_2 rfl (j := 1) rfl ?_
    refine sm_aload_n d_Md_addRest_3 rfl (j := 0) rfl ?_
    refine lo_get (v := .int (w 0 3)) d_Md_addRest_4 fg_Md_88 hI ml_0 rfl ?_
    refine sm_icmp_ge (tgt := 67) d_Md_addRest_7 (by decide) (fun h1 => ?_) (fun h1 => ?_)
    · rw [if_pos h1] at hf
      refine sm_aload_n d_Md_addRest_67 rfl (j := 0) rfl ?_
      refine lo_get (v := .int (w 0 17)) d_Md_addRest_68 fg_Md_103 hI ml_0 rfl ?_
      refine sm_if_le (tgt := 89) d_Md_addRest_71 (by decide) (fun h2 => ?_) (fun h2 => ?_)
      · rw [if_pos h2] at hf
        exact sm_pick [0] (w_Md_addRest_89 _ _ hI hf) rfl
      · rw [if_neg h2] at hf
        refine sm_aload_n d_Md_addRest_74 rfl (j := 0) rfl ?_
        refine sm_bipush (v := 95) d_Md_addRest_75 (by decide) ?_
        refine sm_iconst (v := 2) d_Md_addRest_77 (by decide) ?_
        refine sm_bipush (v := 7) d_Md_addRest_78 (by decide) ?_
        refine sm_aload_n d_Md_addRest_80 rfl (j := 0) rfl ?_
        refine lo_get (v := .int (w 0 17)) d_Md_addRest_81 fg_Md_103 hI ml_0 rfl ?_
        refine sm_imul d_Md_addRest_84 ?_
        refine sm_iadd d_Md_addRest_85 ?_
        obtain ⟨r34, e35, hf⟩ := lo_bnd hf
        refine lo_callVm d_Md_addRest_86 cs_Md_addRest_198 rfl hI ml_0 (As := [.int (95 : Int32), .int ((2 : Int32) + ((7 : Int32) * (w 0 17)))]) rfl rfl (Nat.le_of_ble_eq_true rfl) (c_Md_beginSegment hI (95 : Int32) ((2 : Int32) + ((7 : Int32) * (w 0 17))) e35) (fun M36 hI37 => ?_)
        exact sm_pick [0] (w_Md_addRest_89 _ _ hI37 hf) rfl
    · rw [if_neg h1] at hf
      refine sm_aload_n d_Md_addRest_10 rfl (j := 0) rfl ?_
      refine lo_get (v := .ref (b + 6)) d_Md_addRest_11 fg_Md_29 hI ml_0 rfl ?_
      refine sm_bipush (v := 8) d_Md_addRest_14 (by decide) ?_
      refine sm_iload_n d_Md_addRest_16 rfl (j := 1) rfl ?_
      refine sm_imul d_Md_addRest_17 ?_
      refine sm_bipush (v := 7) d_Md_addRest_18 (by decide) ?_
      refine sm_iadd d_Md_addRest_20 ?_
      obtain ⟨h38, hf⟩ := lo_chk hf
      refine lo_ald (j := (((8 : Int32) * x1) + (7 : Int32)).toInt.toNat) d_Md_addRest_21 hI ml_6 h38 rfl ?_
      refine sm_if_eq (tgt := 61) d_Md_addRest_22 (by decide) (fun h39 => ?_) (fun h39 => ?_)
      · rw [if_pos h39] at hf
        exact sm_pick [0, 1] (w_Md_addRest_61 ih _ _ _ hI hf) rfl
      · rw [if_neg h39] at hf
        refine sm_aload_n d_Md_addRest_25 rfl (j := 0) rfl ?_
        refine sm_bipush (v := 94) d_Md_addRest_26 (by decide) ?_
        refine sm_iconst (v := 5) d_Md_addRest_28 (by decide) ?_
        obtain ⟨r40, e41, hf⟩ := lo_bnd hf
        refine lo_callVm d_Md_addRest_29 cs_Md_addRest_198 rfl hI ml_0 (As := [.int (94 : Int32), .int (5 : Int32)]) rfl rfl (Nat.le_of_ble_eq_true rfl) (c_Md_beginSegment hI (94 : Int32) (5 : Int32) e41) (fun M42 hI43 => ?_)
        refine sm_aload_n d_Md_addRest_32 rfl (j := 0) rfl ?_
        refine sm_iload_n d_Md_addRest_33 rfl (j := 1) rfl ?_
        refine sm_iconst (v := 1) d_Md_addRest_34 (by decide) ?_
        obtain ⟨r44, e45, hf⟩ := lo_bnd hf
        refine lo_callVm d_Md_addRest_35 cs_Md_addRest_183 rfl hI43 ml_0 (As := [.int x1, .int (1 : Int32)]) rfl rfl (Nat.le_of_ble_eq_true rfl) (c_Md_add hI43 x1 (1 : Int32) e45) (fun M46 hI47 => ?_)
        refine sm_aload_n d_Md_addRest_38 rfl (j := 0) rfl ?_
        refine sm_iconst (v := 0) d_Md_addRest_39 (by decide) ?_
        refine sm_iconst (v := 1) d_Md_addRest_40 (by decide) ?_
        obtain ⟨r48, e49, hf⟩ := lo_bnd hf
        refine lo_callVm d_Md_addRest_41 cs_Md_addRest_183 rfl hI47 ml_0 (As := [.int (0 : Int32), .int (1 : Int32)]) rfl rfl (Nat.le_of_ble_eq_true rfl) (c_Md_add hI47 (0 : Int32) (1 : Int32) e49) (fun M50 hI51 => ?_)
        refine sm_aload_n d_Md_addRest_44 rfl (j := 0) rfl ?_
        refine sm_aload_n d_Md_addRest_45 rfl (j := 0) rfl ?_
        refine lo_get (v := .ref (b + 6)) d_Md_addRest_46 fg_Md_29 hI51 ml_0 rfl ?_
        refine sm_bipush (v := 8) d_Md_addRest_49 (by decide) ?_
        refine sm_iload_n d_Md_addRest_51 rfl (j := 1) rfl ?_
        refine sm_imul d_Md_addRest_52 ?_
        refine sm_bipush (v := 7) d_Md_addRest_53 (by decide) ?_
        refine sm_iadd d_Md_addRest_55 ?_
        obtain ⟨h52, hf⟩ := lo_chk hf
        refine lo_ald (j := (((8 : Int32) * x1) + (7 : Int32)).toInt.toNat) d_Md_addRest_56 hI51 ml_6 h52 rfl ?_
        refine sm_iconst (v := 1) d_Md_addRest_57 (by decide) ?_
        obtain ⟨r53, e54, hf⟩ := lo_bnd hf
        refine lo_callVm d_Md_addRest_58 cs_Md_addRest_183 rfl hI51 ml_0 (As := [.int (r48 6 ((((8 : Int32) * x1) + (7 : Int32)).toInt.toNat)), .int (1 : Int32)]) rfl rfl (Nat.le_of_ble_eq_true rfl) (c_Md_add hI51 (r48 6 ((((8 : Int32) * x1) + (7 : Int32)).toInt.toNat)) (1 : Int32) e54) (fun M55 hI56 => ?_)
        exact sm_pick [0, 1] (w_Md_addRest_61 ih _ _ _ hI56 hf) rfl

def fn_Md_addRest (F : Nat) (w : wd) : Option (wd) := fn_Md_addRest_2 F F w (0 : Int32)
set_option maxHeartbeats 1600000 in
set_option maxRecDepth 100000 in
theorem c_Md_addRest {G : sm_G} {b : Nat} {M0 M : sm_M}  {w : wd} {F : Nat} (hI : lo_in G md_L b M0 M w)  {R : wd} (hf : fn_Md_addRest F w = some R) : sm_C G mf_Md_addRest [.ref (b + 0)] M 0 0 (wd_Q G md_L b M none R) := by
  unfold fn_Md_addRest at hf
  have hI := hI.here
  refine sm_ofW rfl (Nat.le_of_ble_eq_true rfl) ?_
  refine sm_iconst (v := 0) d_Md_addRest_0 (by decide) ?_
  refine sm_istore_n d_Md_addRest_1 rfl (by decide) rfl ?_
  exact sm_pick [1, 0] (w_Md_addRest_2 _ _ _ _ hI hf) rfl

def fn_Md_write_65 (F : Nat) (w : wd) (s0 : Bool) (s1 : Bool) : Option (Int32 × wd) := (if (fn_Md_refuse w s1 s0).1 = true then some ((0 : Int32), (fn_Md_refuse w s1 s0).2) else some ((((fn_Md_refuse w s1 s0).2 0 36) - ((fn_Md_refuse w s1 s0).2 0 20)), (up2 (up2 (fn_Md_refuse w s1 s0).2 0 20 ((fn_Md_refuse w s1 s0).2 0 36)) 0 21 (0 : Int32))))
set_option maxHeartbeats 1600000 in
set_option maxRecDepth 100000 in
theorem w_Md_write_65 {G : sm_G} {b : Nat} {M0 : sm_M} {bc bs : Nat} {R : Int32 × wd} {F : Nat} : ∀ (M : sm_M) (w : wd) (s0 : Bool) (s1 : Bool), lo_in G md_L b M0 M w → fn_Md_write_65 F w s0 s1 = some R → sm_W G mf_Md_write 65 [(0, .ref (b + 0))] [.int (bi s0), .int (bi s1), .ref (b + 0)] M bc bs (wd_Q G md_L b M0 (some (.int R.1)) R.2) := by
  intro M w s0 s1 hI  hf
  unfold fn_Md_write_65 at hf
  refine lo_callVm d_Md_write_65 cs_Md_write_106 rfl hI ml_0 (As := [.int (bi s1), .int (bi s0)]) rfl rfl (Nat.le_of_ble_eq_true rfl) (c_Md_refuse hI s1 s0) (fun M20 hI21 => ?_)
  refine sm_if_eq (tgt := 73) d_Md_write_68 (by decide) (fun h22 => ?_) (fun h22 => ?_)
  · rw [if_neg (bi0 h22)] at hf
    refine sm_aload_n d_Md_write_73 rfl (j := 0) rfl ?_
    refine lo_get (v := .int ((fn_Md_refuse w s1 s0).2 0 36)) d_Md_write_74 fg_Md_180 hI21 ml_0 rfl ?_
    refine sm_aload_n d_Md_write_77 rfl (j := 0) rfl ?_
    refine lo_get (v := .int ((fn_Md_refuse w s1 s0).2 0 20)) d_Md_write_78 fg_Md_174 hI21 ml_0 rfl ?_
    refine sm_isub d_Md_write_81 ?_
    refine sm_istore_n d_Md_write_82 rfl (by decide) rfl ?_
    refine sm_aload_n d_Md_write_83 rfl (j := 1) rfl ?_
    refine sm_aload_n d_Md_write_84 rfl (j := 1) rfl ?_
    refine lo_get (v := .int ((fn_Md_refuse w s1 s0).2 0 36)) d_Md_write_85 fg_Md_180 hI21 ml_0 rfl ?_
    refine lo_put d_Md_write_88 fp_Md_174 (by decide) hI21 ml_0 rfl (by rfl) (by rfl) (fun M23 hI24 => ?_)
    refine sm_aload_n d_Md_write_91 rfl (j := 1) rfl ?_
    refine sm_iconst (v := 0) d_Md_write_92 (by decide) ?_
    refine lo_put d_Md_write_93 fp_Md_177 (by decide) hI24 ml_0 rfl (by rfl) (by rfl) (fun M25 hI26 => ?_)
    refine sm_iload_n d_Md_write_96 rfl (j := 0) rfl ?_
    cases hf
    refine sm_ireturn d_Md_write_97 rfl (by rfl) ?_
    exact ⟨rfl, hI26⟩
  · rw [if_pos (bi1 h22)] at hf
    refine sm_iconst (v := 0) d_Md_write_71 (by decide) ?_
    cases hf
    refine sm_ireturn d_Md_write_72 rfl (by rfl) ?_
    exact ⟨rfl, hI21⟩

def fn_Md_write_20 (F : Nat) (w : wd) (s0 : Bool) : Option (Int32 × wd) := (if (fn_Md_refuse w s0 false).1 = true then some ((0 : Int32), (fn_Md_refuse w s0 false).2) else ((fn_Md_addSize F (up2 (fn_Md_refuse w s0 false).2 0 36 ((fn_Md_refuse w s0 false).2 0 20))).bind fun r7 => ((fn_Md_addCodings F r7).bind fun r11 => ((fn_Md_addRest F r11).bind fun r15 => (if (r15 0 36) ≤ (65536 : Int32) then fn_Md_write_65 F r15 false false else fn_Md_write_65 F r15 true false)))))
set_option maxHeartbeats 1600000 in
set_option maxRecDepth 100000 in
theorem w_Md_write_20 {G : sm_G} {b : Nat} {M0 : sm_M} {bc bs : Nat} {R : Int32 × wd} {F : Nat} : ∀ (M : sm_M) (w : wd) (s0 : Bool), lo_in G md_L b M0 M w → fn_Md_write_20 F w s0 = some R → sm_W G mf_Md_write 20 [(0, .ref (b + 0))] [.int (bi s0), .ref (b + 0)] M bc bs (wd_Q G md_L b M0 (some (.int R.1)) R.2) := by
  intro M w s0 hI  hf
  unfold fn_Md_write_20 at hf
  refine sm_iconst (v := 0) d_Md_write_20 (by decide) ?_
  refine lo_callVm d_Md_write_21 cs_Md_write_106 rfl hI ml_0 (As := [.int (bi s0), .int (0 : Int32)]) rfl rfl (Nat.le_of_ble_eq_true rfl) (c_Md_refuse hI s0 false) (fun M2 hI3 => ?_)
  refine sm_if_eq (tgt := 29) d_Md_write_24 (by decide) (fun h4 => ?_) (fun h4 => ?_)
  · rw [if_neg (bi0 h4)] at hf
    refine sm_aload_n d_Md_write_29 rfl (j := 0) rfl ?_
    refine sm_aload_n d_Md_write_30 rfl (j := 0) rfl ?_
    refine lo_get (v := .int ((fn_Md_refuse w s0 false).2 0 20)) d_Md_write_31 fg_Md_174 hI3 ml_0 rfl ?_
    refine lo_put d_Md_write_34 fp_Md_180 (by decide) hI3 ml_0 rfl (by rfl) (by rfl) (fun M5 hI6 => ?_)
    refine sm_aload_n d_Md_write_37 rfl (j := 0) rfl ?_
    obtain ⟨r7, e8, hf⟩ := lo_bnd hf
    refine lo_callVm d_Md_write_38 cs_Md_write_219 rfl hI6 ml_0 (As := []) rfl rfl (Nat.le_of_ble_eq_true rfl) (c_Md_addSize hI6 e8) (fun M9 hI10 => ?_)
    refine sm_aload_n d_Md_write_41 rfl (j := 0) rfl ?_
    obtain ⟨r11, e12, hf⟩ := lo_bnd hf
    refine lo_callVm d_Md_write_42 cs_Md_write_222 rfl hI10 ml_0 (As := []) rfl rfl (Nat.le_of_ble_eq_true rfl) (c_Md_addCodings hI10 e12) (fun M13 hI14 => ?_)
    refine sm_aload_n d_Md_write_45 rfl (j := 0) rfl ?_
    obtain ⟨r15, e16, hf⟩ := lo_bnd hf
    refine lo_callVm d_Md_write_46 cs_Md_write_225 rfl hI14 ml_0 (As := []) rfl rfl (Nat.le_of_ble_eq_true rfl) (c_Md_addRest hI14 e16) (fun M17 hI18 => ?_)
    refine sm_aload_n d_Md_write_49 rfl (j := 0) rfl ?_
    refine sm_iconst (v := 0) d_Md_write_50 (by decide) ?_
    refine sm_aload_n d_Md_write_51 rfl (j := 0) rfl ?_
    refine lo_get (v := .int (r15 0 36)) d_Md_write_52 fg_Md_180 hI18 ml_0 rfl ?_
    refine sm_ldc (v := 65536) d_Md_write_55 mw_1192 ?_
    refine sm_icmp_le (tgt := 64) d_Md_write_57 (by decide) (fun h19 => ?_) (fun h19 => ?_)
    · rw [if_pos h19] at hf
      refine sm_iconst (v := 0) d_Md_write_64 (by decide) ?_
      exact sm_pick [0] (w_Md_write_65 _ _ _ _ hI18 hf) rfl
    · rw [if_neg h19] at hf
      refine sm_iconst (v := 1) d_Md_write_60 (by decide) ?_
      refine sm_goto (tgt := 65) d_Md_write_61 (by decide) ?_
      exact sm_pick [0] (w_Md_write_65 _ _ _ _ hI18 hf) rfl
  · rw [if_pos (bi1 h4)] at hf
    refine sm_iconst (v := 0) d_Md_write_27 (by decide) ?_
    cases hf
    refine sm_ireturn d_Md_write_28 rfl (by rfl) ?_
    exact ⟨rfl, hI3⟩

def fn_Md_write_15 (F : Nat) (w : wd) : Option (Int32 × wd) := fn_Md_write_20 F w true
set_option maxHeartbeats 1600000 in
set_option maxRecDepth 100000 in
theorem w_Md_write_15 {G : sm_G} {b : Nat} {M0 : sm_M} {bc bs : Nat} {R : Int32 × wd} {F : Nat} : ∀ (M : sm_M) (w : wd) , lo_in G md_L b M0 M w → fn_Md_write_15 F w = some R → sm_W G mf_Md_write 15 [(0, .ref (b + 0))] [.ref (b + 0)] M bc bs (wd_Q G md_L b M0 (some (.int R.1)) R.2) := by
  intro M w  hI  hf
  unfold fn_Md_write_15 at hf
  refine sm_iconst (v := 1) d_Md_write_15 (by decide) ?_
  refine sm_goto (tgt := 20) d_Md_write_16 (by decide) ?_
  exact sm_pick [0] (w_Md_write_20 _ _ _ hI hf) rfl

def fn_Md_write (F : Nat) (w : wd) : Option (Int32 × wd) := (if (w 0 2) = 0 then fn_Md_write_15 F w else (if (w 0 3) = 0 then fn_Md_write_15 F w else fn_Md_write_20 F w false))
set_option maxHeartbeats 1600000 in
set_option maxRecDepth 100000 in
theorem c_Md_write {G : sm_G} {b : Nat} {M0 M : sm_M}  {w : wd} {F : Nat} (hI : lo_in G md_L b M0 M w)  {R : Int32 × wd} (hf : fn_Md_write F w = some R) : sm_C G mf_Md_write [.ref (b + 0)] M 0 0 (wd_Q G md_L b M (some (.int R.1)) R.2) := by
  unfold fn_Md_write at hf
  have hI := hI.here
  refine sm_ofW rfl (Nat.le_of_ble_eq_true rfl) ?_
  refine sm_aload_n d_Md_write_0 rfl (j := 0) rfl ?_
  refine sm_aload_n d_Md_write_1 rfl (j := 0) rfl ?_
  refine lo_get (v := .int (w 0 2)) d_Md_write_2 fg_Md_84 hI ml_0 rfl ?_
  refine sm_if_eq (tgt := 15) d_Md_write_5 (by decide) (fun h1 => ?_) (fun h1 => ?_)
  · rw [if_pos h1] at hf
    exact sm_pick [0] (w_Md_write_15 _ _ hI hf) rfl
  · rw [if_neg h1] at hf
    refine sm_aload_n d_Md_write_8 rfl (j := 0) rfl ?_
    refine lo_get (v := .int (w 0 3)) d_Md_write_9 fg_Md_88 hI ml_0 rfl ?_
    refine sm_if_ne (tgt := 19) d_Md_write_12 (by decide) (fun h27 => ?_) (fun h27 => ?_)
    · rw [if_neg h27] at hf
      refine sm_iconst (v := 0) d_Md_write_19 (by decide) ?_
      exact sm_pick [0] (w_Md_write_20 _ _ _ hI hf) rfl
    · rw [if_pos h27] at hf
      exact sm_pick [0] (w_Md_write_15 _ _ hI hf) rfl

def fn_Md_part_84 (F : Nat) (w : wd) (x1 : Int32) (x2 : Int32) (x3 : Int32) (x4 : Int32) (s0 : Bool) (s1 : Bool) : Option (wd) := (if (fn_Md_refuse w s1 s0).1 = true then some (fn_Md_refuse w s1 s0).2 else ((fn_Md_beginSegment F (up2 (fn_Md_refuse w s1 s0).2 0 36 ((fn_Md_refuse w s1 s0).2 0 20)) (144 : Int32) (10 : Int32)).bind fun r9 => ((fn_Md_add F r9 x1 (2 : Int32)).bind fun r13 => ((fn_Md_add F r13 ((14 : Int32) + x4) (4 : Int32)).bind fun r17 => ((fn_Md_add F r17 x2 (1 : Int32)).bind fun r21 => ((fn_Md_add F r21 x3 (1 : Int32)).bind fun r25 => ((fn_Md_add F r25 (255 : Int32) (1 : Int32)).bind fun r29 => ((fn_Md_add F r29 (147 : Int32) (1 : Int32)).bind fun r33 => some (up2 (up2 r33 0 20 (r33 0 36)) 0 21 (0 : Int32))))))))))
set_option maxHeartbeats 1600000 in
set_option maxRecDepth 100000 in
theorem w_Md_part_84 {G : sm_G} {b : Nat} {M0 : sm_M} {bc bs : Nat} {R : wd} {F : Nat} : ∀ (M : sm_M) (w : wd) (x1 : Int32) (x2 : Int32) (x3 : Int32) (x4 : Int32) (s0 : Bool) (s1 : Bool), lo_in G md_L b M0 M w → fn_Md_part_84 F w x1 x2 x3 x4 s0 s1 = some R → sm_W G mf_Md_part 84 [(0, .ref (b + 0)), (1, .int x1), (2, .int x2), (3, .int x3), (4, .int x4)] [.int (bi s0), .int (bi s1), .ref (b + 0)] M bc bs (wd_Q G md_L b M0 none R) := by
  intro M w x1 x2 x3 x4 s0 s1 hI  hf
  unfold fn_Md_part_84 at hf
  refine lo_callVm d_Md_part_84 cs_Md_part_106 rfl hI ml_0 (As := [.int (bi s1), .int (bi s0)]) rfl rfl (Nat.le_of_ble_eq_true rfl) (c_Md_refuse hI s1 s0) (fun M4 hI5 => ?_)
  refine sm_if_eq (tgt := 91) d_Md_part_87 (by decide) (fun h6 => ?_) (fun h6 => ?_)
  · rw [if_neg (bi0 h6)] at hf
    refine sm_aload_n d_Md_part_91 rfl (j := 0) rfl ?_
    refine sm_aload_n d_Md_part_92 rfl (j := 0) rfl ?_
    refine lo_get (v := .int ((fn_Md_refuse w s1 s0).2 0 20)) d_Md_part_93 fg_Md_174 hI5 ml_0 rfl ?_
    refine lo_put d_Md_part_96 fp_Md_180 (by decide) hI5 ml_0 rfl (by rfl) (by rfl) (fun M7 hI8 => ?_)
    refine sm_aload_n d_Md_part_99 rfl (j := 0) rfl ?_
    refine sm_sipush (v := 144) d_Md_part_100 (by decide) ?_
    refine sm_bipush (v := 10) d_Md_part_103 (by decide) ?_
    obtain ⟨r9, e10, hf⟩ := lo_bnd hf
    refine lo_callVm d_Md_part_105 cs_Md_part_198 rfl hI8 ml_0 (As := [.int (144 : Int32), .int (10 : Int32)]) rfl rfl (Nat.le_of_ble_eq_true rfl) (c_Md_beginSegment hI8 (144 : Int32) (10 : Int32) e10) (fun M11 hI12 => ?_)
    refine sm_aload_n d_Md_part_108 rfl (j := 0) rfl ?_
    refine sm_iload_n d_Md_part_109 rfl (j := 1) rfl ?_
    refine sm_iconst (v := 2) d_Md_part_110 (by decide) ?_
    obtain ⟨r13, e14, hf⟩ := lo_bnd hf
    refine lo_callVm d_Md_part_111 cs_Md_part_183 rfl hI12 ml_0 (As := [.int x1, .int (2 : Int32)]) rfl rfl (Nat.le_of_ble_eq_true rfl) (c_Md_add hI12 x1 (2 : Int32) e14) (fun M15 hI16 => ?_)
    refine sm_aload_n d_Md_part_114 rfl (j := 0) rfl ?_
    refine sm_bipush (v := 14) d_Md_part_115 (by decide) ?_
    refine sm_iload d_Md_part_117 (j := 4) rfl ?_
    refine sm_iadd d_Md_part_119 ?_
    refine sm_iconst (v := 4) d_Md_part_120 (by decide) ?_
    obtain ⟨r17, e18, hf⟩ := lo_bnd hf
    refine lo_callVm d_Md_part_121 cs_Md_part_183 rfl hI16 ml_0 (As := [.int ((14 : Int32) + x4), .int (4 : Int32)]) rfl rfl (Nat.le_of_ble_eq_true rfl) (c_Md_add hI16 ((14 : Int32) + x4) (4 : Int32) e18) (fun M19 hI20 => ?_)
    refine sm_aload_n d_Md_part_124 rfl (j := 0) rfl ?_
    refine sm_iload_n d_Md_part_125 rfl (j := 2) rfl ?_
    refine sm_iconst (v := 1) d_Md_part_126 (by decide) ?_
    obtain ⟨r21, e22, hf⟩ := lo_bnd hf
    refine lo_callVm d_Md_part_127 cs_Md_part_183 rfl hI20 ml_0 (As := [.int x2, .int (1 : Int32)]) rfl rfl (Nat.le_of_ble_eq_true rfl) (c_Md_add hI20 x2 (1 : Int32) e22) (fun M23 hI24 => ?_)
    refine sm_aload_n d_Md_part_130 rfl (j := 0) rfl ?_
    refine sm_iload_n d_Md_part_131 rfl (j := 3) rfl ?_
    refine sm_iconst (v := 1) d_Md_part_132 (by decide) ?_
    obtain ⟨r25, e26, hf⟩ := lo_bnd hf
    refine lo_callVm d_Md_part_133 cs_Md_part_183 rfl hI24 ml_0 (As := [.int x3, .int (1 : Int32)]) rfl rfl (Nat.le_of_ble_eq_true rfl) (c_Md_add hI24 x3 (1 : Int32) e26) (fun M27 hI28 => ?_)
    refine sm_aload_n d_Md_part_136 rfl (j := 0) rfl ?_
    refine sm_sipush (v := 255) d_Md_part_137 (by decide) ?_
    refine sm_iconst (v := 1) d_Md_part_140 (by decide) ?_
    obtain ⟨r29, e30, hf⟩ := lo_bnd hf
    refine lo_callVm d_Md_part_141 cs_Md_part_183 rfl hI28 ml_0 (As := [.int (255 : Int32), .int (1 : Int32)]) rfl rfl (Nat.le_of_ble_eq_true rfl) (c_Md_add hI28 (255 : Int32) (1 : Int32) e30) (fun M31 hI32 => ?_)
    refine sm_aload_n d_Md_part_144 rfl (j := 0) rfl ?_
    refine sm_sipush (v := 147) d_Md_part_145 (by decide) ?_
    refine sm_iconst (v := 1) d_Md_part_148 (by decide) ?_
    obtain ⟨r33, e34, hf⟩ := lo_bnd hf
    refine lo_callVm d_Md_part_149 cs_Md_part_183 rfl hI32 ml_0 (As := [.int (147 : Int32), .int (1 : Int32)]) rfl rfl (Nat.le_of_ble_eq_true rfl) (c_Md_add hI32 (147 : Int32) (1 : Int32) e34) (fun M35 hI36 => ?_)
    refine sm_aload_n d_Md_part_152 rfl (j := 0) rfl ?_
    refine sm_aload_n d_Md_part_153 rfl (j := 0) rfl ?_
    refine lo_get (v := .int (r33 0 36)) d_Md_part_154 fg_Md_180 hI36 ml_0 rfl ?_
    refine lo_put d_Md_part_157 fp_Md_174 (by decide) hI36 ml_0 rfl (by rfl) (by rfl) (fun M37 hI38 => ?_)
    refine sm_aload_n d_Md_part_160 rfl (j := 0) rfl ?_
    refine sm_iconst (v := 0) d_Md_part_161 (by decide) ?_
    refine lo_put d_Md_part_162 fp_Md_177 (by decide) hI38 ml_0 rfl (by rfl) (by rfl) (fun M39 hI40 => ?_)
    cases hf
    refine sm_return d_Md_part_165 rfl ?_
    exact ⟨rfl, hI40⟩
  · rw [if_pos (bi1 h6)] at hf
    cases hf
    refine sm_return d_Md_part_90 rfl ?_
    exact ⟨rfl, hI5⟩

def fn_Md_part_67 (F : Nat) (w : wd) (x1 : Int32) (x2 : Int32) (x3 : Int32) (x4 : Int32) (s0 : Bool) : Option (wd) := (if ((w 0 20) + (14 : Int32)) ≤ (65536 : Int32) then fn_Md_part_84 F w x1 x2 x3 x4 false s0 else fn_Md_part_84 F w x1 x2 x3 x4 true s0)
set_option maxHeartbeats 1600000 in
set_option maxRecDepth 100000 in
theorem w_Md_part_67 {G : sm_G} {b : Nat} {M0 : sm_M} {bc bs : Nat} {R : wd} {F : Nat} : ∀ (M : sm_M) (w : wd) (x1 : Int32) (x2 : Int32) (x3 : Int32) (x4 : Int32) (s0 : Bool), lo_in G md_L b M0 M w → fn_Md_part_67 F w x1 x2 x3 x4 s0 = some R → sm_W G mf_Md_part 67 [(0, .ref (b + 0)), (1, .int x1), (2, .int x2), (3, .int x3), (4, .int x4)] [.int (bi s0), .ref (b + 0)] M bc bs (wd_Q G md_L b M0 none R) := by
  intro M w x1 x2 x3 x4 s0 hI  hf
  unfold fn_Md_part_67 at hf
  refine sm_aload_n d_Md_part_67 rfl (j := 0) rfl ?_
  refine lo_get (v := .int (w 0 20)) d_Md_part_68 fg_Md_174 hI ml_0 rfl ?_
  refine sm_bipush (v := 14) d_Md_part_71 (by decide) ?_
  refine sm_iadd d_Md_part_73 ?_
  refine sm_ldc (v := 65536) d_Md_part_74 mw_1192 ?_
  refine sm_icmp_le (tgt := 83) d_Md_part_76 (by decide) (fun h3 => ?_) (fun h3 => ?_)
  · rw [if_pos h3] at hf
    refine sm_iconst (v := 0) d_Md_part_83 (by decide) ?_
    exact sm_pick [0, 1, 2, 3, 4] (w_Md_part_84 _ _ _ _ _ _ _ _ hI hf) rfl
  · rw [if_neg h3] at hf
    refine sm_iconst (v := 1) d_Md_part_79 (by decide) ?_
    refine sm_goto (tgt := 84) d_Md_part_80 (by decide) ?_
    exact sm_pick [0, 1, 2, 3, 4] (w_Md_part_84 _ _ _ _ _ _ _ _ hI hf) rfl

def fn_Md_part_54 (F : Nat) (w : wd) (x1 : Int32) (x2 : Int32) (x3 : Int32) (x4 : Int32) (s0 : Bool) : Option (wd) := (if s0 = true then fn_Md_part_67 F w x1 x2 x3 x4 false else fn_Md_part_67 F w x1 x2 x3 x4 true)
set_option maxHeartbeats 1600000 in
set_option maxRecDepth 100000 in
theorem w_Md_part_54 {G : sm_G} {b : Nat} {M0 : sm_M} {bc bs : Nat} {R : wd} {F : Nat} : ∀ (M : sm_M) (w : wd) (x1 : Int32) (x2 : Int32) (x3 : Int32) (x4 : Int32) (s0 : Bool), lo_in G md_L b M0 M w → fn_Md_part_54 F w x1 x2 x3 x4 s0 = some R → sm_W G mf_Md_part 54 [(0, .ref (b + 0)), (1, .int x1), (2, .int x2), (3, .int x3), (4, .int x4)] [.int (bi s0)] M bc bs (wd_Q G md_L b M0 none R) := by
  intro M w x1 x2 x3 x4 s0 hI  hf
  unfold fn_Md_part_54 at hf
  refine sm_istore d_Md_part_54 (by decide) rfl ?_
  refine sm_aload_n d_Md_part_56 rfl (j := 1) rfl ?_
  refine sm_iload d_Md_part_57 (j := 0) rfl ?_
  refine sm_if_ne (tgt := 66) d_Md_part_59 (by decide) (fun h2 => ?_) (fun h2 => ?_)
  · rw [if_pos (bi1 h2)] at hf
    refine sm_iconst (v := 0) d_Md_part_66 (by decide) ?_
    exact sm_pick [1, 2, 3, 4, 5] (w_Md_part_67 _ _ _ _ _ _ _ hI hf) rfl
  · rw [if_neg (bi0 h2)] at hf
    refine sm_iconst (v := 1) d_Md_part_62 (by decide) ?_
    refine sm_goto (tgt := 67) d_Md_part_63 (by decide) ?_
    exact sm_pick [1, 2, 3, 4, 5] (w_Md_part_67 _ _ _ _ _ _ _ hI hf) rfl

def fn_Md_part_53 (F : Nat) (w : wd) (x1 : Int32) (x2 : Int32) (x3 : Int32) (x4 : Int32) : Option (wd) := fn_Md_part_54 F w x1 x2 x3 x4 false
set_option maxHeartbeats 1600000 in
set_option maxRecDepth 100000 in
theorem w_Md_part_53 {G : sm_G} {b : Nat} {M0 : sm_M} {bc bs : Nat} {R : wd} {F : Nat} : ∀ (M : sm_M) (w : wd) (x1 : Int32) (x2 : Int32) (x3 : Int32) (x4 : Int32), lo_in G md_L b M0 M w → fn_Md_part_53 F w x1 x2 x3 x4 = some R → sm_W G mf_Md_part 53 [(0, .ref (b + 0)), (1, .int x1), (2, .int x2), (3, .int x3), (4, .int x4)] [] M bc bs (wd_Q G md_L b M0 none R) := by
  intro M w x1 x2 x3 x4 hI  hf
  unfold fn_Md_part_53 at hf
  refine sm_iconst (v := 0) d_Md_part_53 (by decide) ?_
  exact sm_pick [0, 1, 2, 3, 4] (w_Md_part_54 _ _ _ _ _ _ _ hI hf) rfl

def fn_Md_part (F : Nat) (w : wd) (x1 : Int32) (x2 : Int32) (x3 : Int32) (x4 : Int32) : Option (wd) := (if (fn_Md_in x1.toInt64 (0 : Int64) (65535 : Int64)) = true then (if (fn_Md_in x2.toInt64 (0 : Int64) (255 : Int64)) = true then (if (fn_Md_in x3.toInt64 (0 : Int64) (255 : Int64)) = true then (if (fn_Md_in x4.toInt64 (0 : Int64) (65536 : Int64)) = true then fn_Md_part_54 F w x1 x2 x3 x4 true else fn_Md_part_53 F w x1 x2 x3 x4) else fn_Md_part_53 F w x1 x2 x3 x4) else fn_Md_part_53 F w x1 x2 x3 x4) else fn_Md_part_53 F w x1 x2 x3 x4)
set_option maxHeartbeats 1600000 in
set_option maxRecDepth 100000 in
theorem c_Md_part {G : sm_G} {b : Nat} {M0 M : sm_M}  {w : wd} {F : Nat} (hI : lo_in G md_L b M0 M w)  (x1 : Int32) (x2 : Int32) (x3 : Int32) (x4 : Int32)  {R : wd} (hf : fn_Md_part F w x1 x2 x3 x4 = some R) : sm_C G mf_Md_part [.ref (b + 0), .int x1, .int x2, .int x3, .int x4] M 0 0 (wd_Q G md_L b M none R) := by
  unfold fn_Md_part at hf
  have hI := hI.here
  refine sm_ofW rfl (Nat.le_of_ble_eq_true rfl) ?_
  refine sm_iload_n d_Md_part_0 rfl (j := 1) rfl ?_
  refine sm_i2l d_Md_part_1 ?_
  refine sm_lconst (v := 0) d_Md_part_2 (by decide) ?_
  refine sm_ldc2 (v := 65535) d_Md_part_3 mw_1382 ?_
  refine sm_callSp d_Md_part_6 cs_Md_part_122 rfl (As := [.long x1.toInt64, .long (0 : Int64), .long (65535 : Int64)]) rfl rfl (Nat.le_of_ble_eq_true rfl) (c_Md_in x1.toInt64 (0 : Int64) (65535 : Int64)) ?_
  refine sm_if_eq (tgt := 53) d_Md_part_9 (by decide) (fun h1 => ?_) (fun h1 => ?_)
  · rw [if_neg (bi0 h1)] at hf
    exact sm_pick [0, 1, 2, 3, 4] (w_Md_part_53 _ _ _ _ _ _ hI hf) rfl
  · rw [if_pos (bi1 h1)] at hf
    refine sm_iload_n d_Md_part_12 rfl (j := 2) rfl ?_
    refine sm_i2l d_Md_part_13 ?_
    refine sm_lconst (v := 0) d_Md_part_14 (by decide) ?_
    refine sm_ldc2 (v := 255) d_Md_part_15 mw_1344 ?_
    refine sm_callSp d_Md_part_18 cs_Md_part_122 rfl (As := [.long x2.toInt64, .long (0 : Int64), .long (255 : Int64)]) rfl rfl (Nat.le_of_ble_eq_true rfl) (c_Md_in x2.toInt64 (0 : Int64) (255 : Int64)) ?_
    refine sm_if_eq (tgt := 53) d_Md_part_21 (by decide) (fun h41 => ?_) (fun h41 => ?_)
    · rw [if_neg (bi0 h41)] at hf
      exact sm_pick [0, 1, 2, 3, 4] (w_Md_part_53 _ _ _ _ _ _ hI hf) rfl
    · rw [if_pos (bi1 h41)] at hf
      refine sm_iload_n d_Md_part_24 rfl (j := 3) rfl ?_
      refine sm_i2l d_Md_part_25 ?_
      refine sm_lconst (v := 0) d_Md_part_26 (by decide) ?_
      refine sm_ldc2 (v := 255) d_Md_part_27 mw_1344 ?_
      refine sm_callSp d_Md_part_30 cs_Md_part_122 rfl (As := [.long x3.toInt64, .long (0 : Int64), .long (255 : Int64)]) rfl rfl (Nat.le_of_ble_eq_true rfl) (c_Md_in x3.toInt64 (0 : Int64) (255 : Int64)) ?_
      refine sm_if_eq (tgt := 53) d_Md_part_33 (by decide) (fun h42 => ?_) (fun h42 => ?_)
      · rw [if_neg (bi0 h42)] at hf
        exact sm_pick [0, 1, 2, 3, 4] (w_Md_part_53 _ _ _ _ _ _ hI hf) rfl
      · rw [if_pos (bi1 h42)] at hf
        refine sm_iload d_Md_part_36 (j := 4) rfl ?_
        refine sm_i2l d_Md_part_38 ?_
        refine sm_lconst (v := 0) d_Md_part_39 (by decide) ?_
        refine sm_ldc2 (v := 65536) d_Md_part_40 mw_1480 ?_
        refine sm_callSp d_Md_part_43 cs_Md_part_122 rfl (As := [.long x4.toInt64, .long (0 : Int64), .long (65536 : Int64)]) rfl rfl (Nat.le_of_ble_eq_true rfl) (c_Md_in x4.toInt64 (0 : Int64) (65536 : Int64)) ?_
        refine sm_if_eq (tgt := 53) d_Md_part_46 (by decide) (fun h43 => ?_) (fun h43 => ?_)
        · rw [if_neg (bi0 h43)] at hf
          exact sm_pick [0, 1, 2, 3, 4] (w_Md_part_53 _ _ _ _ _ _ hI hf) rfl
        · rw [if_pos (bi1 h43)] at hf
          refine sm_iconst (v := 1) d_Md_part_49 (by decide) ?_
          refine sm_goto (tgt := 54) d_Md_part_50 (by decide) ?_
          exact sm_pick [0, 1, 2, 3, 4] (w_Md_part_54 _ _ _ _ _ _ _ hI hf) rfl

