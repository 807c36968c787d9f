/-! StreamMarksModel, on; written by wip/tools/model.py -/
def fn_Md_ofAll_172 (k18 : wd → Int32 → Int32 → Int32 → Int32 → Int32 → Int32 → Int32 → Option (Int32)) (F : Nat) (w : wd) (x1 : Int32) (x2 : Int32) (x3 : Int32) (x4 : Int32) (x5 : Int32) (x6 : Int32) (x7 : Int32) (x10 : Int32) : Option (Int32) := k18 w x1 x2 x3 (x4 + x10) x5 x6 (x7 + 1)
set_option maxHeartbeats 1600000 in
set_option maxRecDepth 100000 in
theorem w_Md_ofAll_172 {G : sm_G} {b : Nat} {M0 : sm_M} {bc bs : Nat} {R : Int32} {F : Nat} {k18 : wd → Int32 → Int32 → Int32 → Int32 → Int32 → Int32 → Int32 → Option (Int32)} (hk18 : ∀ (w : wd) (x1 : Int32) (x2 : Int32) (x3 : Int32) (x4 : Int32) (x5 : Int32) (x6 : Int32) (x7 : Int32), lo_in G md_L b M0 M0 w → k18 w x1 x2 x3 x4 x5 x6 x7 = some R → sm_W G mf_Md_ofAll 18 [(0, .ref (b + 0)), (1, .int x1), (2, .int x2), (3, .int x3), (4, .int x4), (5, .int x5), (6, .int x6), (7, .int x7)] [] M0 bc bs (sm_pu M0 (.int R))) : ∀ (w : wd) (x1 : Int32) (x2 : Int32) (x3 : Int32) (x4 : Int32) (x5 : Int32) (x6 : Int32) (x7 : Int32) (x10 : Int32), lo_in G md_L b M0 M0 w → fn_Md_ofAll_172 k18 F w x1 x2 x3 x4 x5 x6 x7 x10 = some R → sm_W G mf_Md_ofAll 172 [(0, .ref (b + 0)), (1, .int x1), (2, .int x2), (3, .int x3), (4, .int x4), (5, .int x5), (6, .int x6), (7, .int x7), (10, .int x10)] [] M0 bc bs (sm_pu M0 (.int R)) := by
  intro w x1 x2 x3 x4 x5 x6 x7 x10 hI  hf
  unfold fn_Md_ofAll_172 at hf
  refine sm_iload d_Md_ofAll_172 (j := 4) rfl ?_
  refine sm_iload d_Md_ofAll_174 (j := 8) rfl ?_
  refine sm_iadd d_Md_ofAll_176 ?_
  refine sm_istore d_Md_ofAll_177 (by decide) rfl ?_
  refine sm_iinc (v := (x7 + 1)) d_Md_ofAll_179 (j := 7) rfl rfl (by decide) rfl ?_
  refine sm_goto (tgt := 18) d_Md_ofAll_182 (by decide) ?_
  exact sm_pick [2, 3, 4, 5, 1, 6, 7, 0] (hk18 _ _ _ _ _ _ _ _ hI hf) rfl

def fn_Md_ofAll_163 (k18 : wd → Int32 → Int32 → Int32 → Int32 → Int32 → Int32 → Int32 → Option (Int32)) (F : Nat) (w : wd) (x1 : Int32) (x2 : Int32) (x3 : Int32) (x4 : Int32) (x5 : Int32) (x7 : Int32) (x10 : Int32) (s0 : Int32) : Option (Int32) := fn_Md_ofAll_172 k18 F w x1 x2 x3 x4 (x5 + x10) s0 x7 x10
set_option maxHeartbeats 1600000 in
set_option maxRecDepth 100000 in
theorem w_Md_ofAll_163 {G : sm_G} {b : Nat} {M0 : sm_M} {bc bs : Nat} {R : Int32} {F : Nat} {k18 : wd → Int32 → Int32 → Int32 → Int32 → Int32 → Int32 → Int32 → Option (Int32)} (hk18 : ∀ (w : wd) (x1 : Int32) (x2 : Int32) (x3 : Int32) (x4 : Int32) (x5 : Int32) (x6 : Int32) (x7 : Int32), lo_in G md_L b M0 M0 w → k18 w x1 x2 x3 x4 x5 x6 x7 = some R → sm_W G mf_Md_ofAll 18 [(0, .ref (b + 0)), (1, .int x1), (2, .int x2), (3, .int x3), (4, .int x4), (5, .int x5), (6, .int x6), (7, .int x7)] [] M0 bc bs (sm_pu M0 (.int R))) : ∀ (w : wd) (x1 : Int32) (x2 : Int32) (x3 : Int32) (x4 : Int32) (x5 : Int32) (x7 : Int32) (x10 : Int32) (s0 : Int32), lo_in G md_L b M0 M0 w → fn_Md_ofAll_163 k18 F w x1 x2 x3 x4 x5 x7 x10 s0 = some R → sm_W G mf_Md_ofAll 163 [(0, .ref (b + 0)), (1, .int x1), (2, .int x2), (3, .int x3), (4, .int x4), (5, .int x5), (7, .int x7), (10, .int x10)] [.int s0] M0 bc bs (sm_pu M0 (.int R)) := by
  intro w x1 x2 x3 x4 x5 x7 x10 s0 hI  hf
  unfold fn_Md_ofAll_163 at hf
  refine sm_istore d_Md_ofAll_163 (by decide) rfl ?_
  refine sm_iload d_Md_ofAll_165 (j := 6) rfl ?_
  refine sm_iload d_Md_ofAll_167 (j := 8) rfl ?_
  refine sm_iadd d_Md_ofAll_169 ?_
  refine sm_istore d_Md_ofAll_170 (by decide) rfl ?_
  exact sm_pick [2, 3, 4, 5, 6, 0, 1, 7, 8] (w_Md_ofAll_172 hk18 _ _ _ _ _ _ _ _ _ hI hf) rfl

def fn_Md_ofAll_161 (k18 : wd → Int32 → Int32 → Int32 → Int32 → Int32 → Int32 → Int32 → Option (Int32)) (F : Nat) (w : wd) (x1 : Int32) (x2 : Int32) (x3 : Int32) (x4 : Int32) (x5 : Int32) (x6 : Int32) (x7 : Int32) (x10 : Int32) : Option (Int32) := fn_Md_ofAll_163 k18 F w x1 x2 x3 x4 x5 x7 x10 x6
set_option maxHeartbeats 1600000 in
set_option maxRecDepth 100000 in
theorem w_Md_ofAll_161 {G : sm_G} {b : Nat} {M0 : sm_M} {bc bs : Nat} {R : Int32} {F : Nat} {k18 : wd → Int32 → Int32 → Int32 → Int32 → Int32 → Int32 → Int32 → Option (Int32)} (hk18 : ∀ (w : wd) (x1 : Int32) (x2 : Int32) (x3 : Int32) (x4 : Int32) (x5 : Int32) (x6 : Int32) (x7 : Int32), lo_in G md_L b M0 M0 w → k18 w x1 x2 x3 x4 x5 x6 x7 = some R → sm_W G mf_Md_ofAll 18 [(0, .ref (b + 0)), (1, .int x1), (2, .int x2), (3, .int x3), (4, .int x4), (5, .int x5), (6, .int x6), (7, .int x7)] [] M0 bc bs (sm_pu M0 (.int R))) : ∀ (w : wd) (x1 : Int32) (x2 : Int32) (x3 : Int32) (x4 : Int32) (x5 : Int32) (x6 : Int32) (x7 : Int32) (x10 : Int32), lo_in G md_L b M0 M0 w → fn_Md_ofAll_161 k18 F w x1 x2 x3 x4 x5 x6 x7 x10 = some R → sm_W G mf_Md_ofAll 161 [(0, .ref (b + 0)), (1, .int x1), (2, .int x2), (3, .int x3), (4, .int x4), (5, .int x5), (6, .int x6), (7, .int x7), (10, .int x10)] [] M0 bc bs (sm_pu M0 (.int R)) := by
  intro w x1 x2 x3 x4 x5 x6 x7 x10 hI  hf
  unfold fn_Md_ofAll_161 at hf
  refine sm_iload d_Md_ofAll_161 (j := 6) rfl ?_
  exact sm_pick [0, 1, 2, 3, 4, 5, 7, 8] (w_Md_ofAll_163 hk18 _ _ _ _ _ _ _ _ _ hI hf) rfl

def fn_Md_ofAll_119 (k18 : wd → Int32 → Int32 → Int32 → Int32 → Int32 → Int32 → Int32 → Option (Int32)) (F : Nat) (w : wd) (x1 : Int32) (x2 : Int32) (x3 : Int32) (x4 : Int32) (x5 : Int32) (x6 : Int32) (x7 : Int32) (s0 : Int32) : Option (Int32) := (if 0 ≤ x7.toInt ∧ x7.toInt < 256 then (if (w 16 x7.toInt.toNat) = x1 then (if x2 < x5 then fn_Md_ofAll_161 k18 F w x1 x2 x3 x4 x5 x6 x7 s0 else (if (x5 + s0) ≤ x2 then fn_Md_ofAll_161 k18 F w x1 x2 x3 x4 x5 x6 x7 s0 else ((fn_Md_packed F w ((x4 + x2) - x5)).bind fun r11 => fn_Md_ofAll_163 k18 F w x1 x2 x3 x4 x5 x7 s0 r11))) else fn_Md_ofAll_172 k18 F w x1 x2 x3 x4 x5 x6 x7 s0) else none)
set_option maxHeartbeats 1600000 in
set_option maxRecDepth 100000 in
theorem w_Md_ofAll_119 {G : sm_G} {b : Nat} {M0 : sm_M} {bc bs : Nat} {R : Int32} {F : Nat} {k18 : wd → Int32 → Int32 → Int32 → Int32 → Int32 → Int32 → Int32 → Option (Int32)} (hk18 : ∀ (w : wd) (x1 : Int32) (x2 : Int32) (x3 : Int32) (x4 : Int32) (x5 : Int32) (x6 : Int32) (x7 : Int32), lo_in G md_L b M0 M0 w → k18 w x1 x2 x3 x4 x5 x6 x7 = some R → sm_W G mf_Md_ofAll 18 [(0, .ref (b + 0)), (1, .int x1), (2, .int x2), (3, .int x3), (4, .int x4), (5, .int x5), (6, .int x6), (7, .int x7)] [] M0 bc bs (sm_pu M0 (.int R))) : ∀ (w : wd) (x1 : Int32) (x2 : Int32) (x3 : Int32) (x4 : Int32) (x5 : Int32) (x6 : Int32) (x7 : Int32) (s0 : Int32), lo_in G md_L b M0 M0 w → fn_Md_ofAll_119 k18 F w x1 x2 x3 x4 x5 x6 x7 s0 = some R → sm_W G mf_Md_ofAll 119 [(0, .ref (b + 0)), (1, .int x1), (2, .int x2), (3, .int x3), (4, .int x4), (5, .int x5), (6, .int x6), (7, .int x7)] [.int s0] M0 bc bs (sm_pu M0 (.int R)) := by
  intro w x1 x2 x3 x4 x5 x6 x7 s0 hI  hf
  unfold fn_Md_ofAll_119 at hf
  refine sm_istore d_Md_ofAll_119 (by decide) rfl ?_
  refine sm_aload_n d_Md_ofAll_121 rfl (j := 1) rfl ?_
  refine lo_get (v := .ref (b + 16)) d_Md_ofAll_122 fg_Md_63 hI ml_0 rfl ?_
  refine sm_iload d_Md_ofAll_125 (j := 8) rfl ?_
  obtain ⟨h7, hf⟩ := lo_chk hf
  refine lo_ald (j := x7.toInt.toNat) d_Md_ofAll_127 hI ml_16 h7 rfl ?_
  refine sm_iload_n d_Md_ofAll_128 rfl (j := 2) rfl ?_
  refine sm_icmp_ne (tgt := 172) d_Md_ofAll_129 (by decide) (fun h8 => ?_) (fun h8 => ?_)
  · rw [if_neg h8] at hf
    exact sm_pick [1, 2, 3, 4, 5, 6, 7, 8, 0] (w_Md_ofAll_172 hk18 _ _ _ _ _ _ _ _ _ hI hf) rfl
  · rw [if_pos h8] at hf
    refine sm_iload_n d_Md_ofAll_132 rfl (j := 3) rfl ?_
    refine sm_iload d_Md_ofAll_133 (j := 6) rfl ?_
    refine sm_icmp_lt (tgt := 161) d_Md_ofAll_135 (by decide) (fun h9 => ?_) (fun h9 => ?_)
    · rw [if_pos h9] at hf
      exact sm_pick [1, 2, 3, 4, 5, 6, 7, 8, 0] (w_Md_ofAll_161 hk18 _ _ _ _ _ _ _ _ _ hI hf) rfl
    · rw [if_neg h9] at hf
      refine sm_iload_n d_Md_ofAll_138 rfl (j := 3) rfl ?_
      refine sm_iload d_Md_ofAll_139 (j := 6) rfl ?_
      refine sm_iload d_Md_ofAll_141 (j := 0) rfl ?_
      refine sm_iadd d_Md_ofAll_143 ?_
      refine sm_icmp_ge (tgt := 161) d_Md_ofAll_144 (by decide) (fun h10 => ?_) (fun h10 => ?_)
      · rw [if_pos h10] at hf
        exact sm_pick [1, 2, 3, 4, 5, 6, 7, 8, 0] (w_Md_ofAll_161 hk18 _ _ _ _ _ _ _ _ _ hI hf) rfl
      · rw [if_neg h10] at hf
        refine sm_aload_n d_Md_ofAll_147 rfl (j := 1) rfl ?_
        refine sm_iload d_Md_ofAll_148 (j := 5) rfl ?_
        refine sm_iload_n d_Md_ofAll_150 rfl (j := 3) rfl ?_
        refine sm_iadd d_Md_ofAll_151 ?_
        refine sm_iload d_Md_ofAll_152 (j := 6) rfl ?_
        refine sm_isub d_Md_ofAll_154 ?_
        obtain ⟨r11, e12, hf⟩ := lo_bnd hf
        refine lo_callV d_Md_ofAll_155 cs_Md_ofAll_361 rfl hI ml_0 (As := [.int ((x4 + x2) - x5)]) rfl rfl (Nat.le_of_ble_eq_true rfl) (c_Md_packed hI ((x4 + x2) - x5) e12) ?_
        refine sm_goto (tgt := 163) d_Md_ofAll_158 (by decide) ?_
        exact sm_pick [1, 2, 3, 4, 5, 6, 8, 0] (w_Md_ofAll_163 hk18 _ _ _ _ _ _ _ _ _ hI hf) rfl

def fn_Md_ofAll_98 (k18 : wd → Int32 → Int32 → Int32 → Int32 → Int32 → Int32 → Int32 → Option (Int32)) (F : Nat) (w : wd) (x1 : Int32) (x2 : Int32) (x3 : Int32) (x4 : Int32) (x5 : Int32) (x6 : Int32) (x7 : Int32) (x8 : Int64) : Option (Int32) := (if x8 ≤ (x3 - x4).toInt64 then fn_Md_ofAll_119 k18 F w x1 x2 x3 x4 x5 x6 x7 x8.toInt32 else fn_Md_ofAll_119 k18 F w x1 x2 x3 x4 x5 x6 x7 (x3 - x4))
set_option maxHeartbeats 1600000 in
set_option maxRecDepth 100000 in
theorem w_Md_ofAll_98 {G : sm_G} {b : Nat} {M0 : sm_M} {bc bs : Nat} {R : Int32} {F : Nat} {k18 : wd → Int32 → Int32 → Int32 → Int32 → Int32 → Int32 → Int32 → Option (Int32)} (hk18 : ∀ (w : wd) (x1 : Int32) (x2 : Int32) (x3 : Int32) (x4 : Int32) (x5 : Int32) (x6 : Int32) (x7 : Int32), lo_in G md_L b M0 M0 w → k18 w x1 x2 x3 x4 x5 x6 x7 = some R → sm_W G mf_Md_ofAll 18 [(0, .ref (b + 0)), (1, .int x1), (2, .int x2), (3, .int x3), (4, .int x4), (5, .int x5), (6, .int x6), (7, .int x7)] [] M0 bc bs (sm_pu M0 (.int R))) : ∀ (w : wd) (x1 : Int32) (x2 : Int32) (x3 : Int32) (x4 : Int32) (x5 : Int32) (x6 : Int32) (x7 : Int32) (x8 : Int64), lo_in G md_L b M0 M0 w → fn_Md_ofAll_98 k18 F w x1 x2 x3 x4 x5 x6 x7 x8 = some R → sm_W G mf_Md_ofAll 98 [(0, .ref (b + 0)), (1, .int x1), (2, .int x2), (3, .int x3), (4, .int x4), (5, .int x5), (6, .int x6), (7, .int x7), (8, .long x8)] [] M0 bc bs (sm_pu M0 (.int R)) := by
  intro w x1 x2 x3 x4 x5 x6 x7 x8 hI  hf
  unfold fn_Md_ofAll_98 at hf
  refine sm_lload d_Md_ofAll_98 (j := 8) rfl ?_
  refine sm_iload_n d_Md_ofAll_100 rfl (j := 3) rfl ?_
  refine sm_iload d_Md_ofAll_101 (j := 4) rfl ?_
  refine sm_isub d_Md_ofAll_103 ?_
  refine sm_i2l d_Md_ofAll_104 ?_
  refine sm_lcmp d_Md_ofAll_105 ?_
  refine sm_if_le (tgt := 116) d_Md_ofAll_106 (by decide) (fun h6 => ?_) (fun h6 => ?_)
  · rw [if_pos ((lg_cmp_le _ _).mp h6)] at hf
    refine sm_lload d_Md_ofAll_116 (j := 8) rfl ?_
    refine sm_l2i d_Md_ofAll_118 ?_
    exact sm_pick [0, 1, 2, 3, 4, 5, 6, 7] (w_Md_ofAll_119 hk18 _ _ _ _ _ _ _ _ _ hI hf) rfl
  · rw [if_neg (mt (lg_cmp_le _ _).mpr h6)] at hf
    refine sm_iload_n d_Md_ofAll_109 rfl (j := 3) rfl ?_
    refine sm_iload d_Md_ofAll_110 (j := 4) rfl ?_
    refine sm_isub d_Md_ofAll_112 ?_
    refine sm_goto (tgt := 119) d_Md_ofAll_113 (by decide) ?_
    exact sm_pick [0, 1, 2, 3, 4, 5, 6, 7] (w_Md_ofAll_119 hk18 _ _ _ _ _ _ _ _ _ hI hf) rfl

def fn_Md_ofAll_18 (F : Nat) : Nat → wd → Int32 → Int32 → Int32 → Int32 → Int32 → Int32 → Int32 → Option (Int32)
 | 0, _, _, _, _, _, _, _, _ => none
 | n9 + 1, w, x1, x2, x3, x4, x5, x6, x7 => (if (w 0 28) ≤ x7 then (if 0 ≤ x2 then some x6 else some x5) else (if x3 < (x4 + (4 : Int32)) then fn_Md_ofAll_98 (fn_Md_ofAll_18 F n9) F w x1 x2 x3 x3 x5 x6 x7 (0 : Int64) else ((fn_Md_packed F w x4).bind fun r13 => ((fn_Md_packed F w (x4 + (1 : Int32))).bind fun r15 => ((fn_Md_packed F w (x4 + (2 : Int32))).bind fun r17 => ((fn_Md_packed F w (x4 + (3 : Int32))).bind fun r19 => fn_Md_ofAll_98 (fn_Md_ofAll_18 F n9) F w x1 x2 x3 (x4 + (4 : Int32)) x5 x6 x7 ((((r13.toInt64 <<< ((24 : Int32).toInt64 &&& 63)) + (r15 <<< ((16 : Int32) &&& 31)).toInt64) + (r17 <<< ((8 : Int32) &&& 31)).toInt64) + r19.toInt64)))))))
set_option maxHeartbeats 1600000 in
set_option maxRecDepth 100000 in
theorem w_Md_ofAll_18 {G : sm_G} {b : Nat} {M0 : sm_M} {bc bs : Nat} {R : Int32} {F : Nat} : ∀ (n9 : Nat), ∀ (w : wd) (x1 : Int32) (x2 : Int32) (x3 : Int32) (x4 : Int32) (x5 : Int32) (x6 : Int32) (x7 : Int32), lo_in G md_L b M0 M0 w → fn_Md_ofAll_18 F n9 w x1 x2 x3 x4 x5 x6 x7 = some R → sm_W G mf_Md_ofAll 18 [(0, .ref (b + 0)), (1, .int x1), (2, .int x2), (3, .int x3), (4, .int x4), (5, .int x5), (6, .int x6), (7, .int x7)] [] M0 bc bs (sm_pu M0 (.int R)) := by
  intro n9
  induction n9 with
  | zero => intro w x1 x2 x3 x4 x5 x6 x7 hI  hf; cases hf
  | succ n9 ih =>
    intro w x1 x2 x3 x4 x5 x6 x7 hI  hf
    rw [fn_Md_ofAll_18] at hf
    refine sm_iload d_Md_ofAll_18 (j := 7) rfl ?_
    refine sm_aload_n d_Md_ofAll_20 rfl (j := 0) rfl ?_
    refine lo_get (v := .int (w 0 28)) d_Md_ofAll_21 fg_Md_312 hI ml_0 rfl ?_
    refine sm_icmp_ge (tgt := 185) d_Md_ofAll_24 (by decide) (fun h3 => ?_) (fun h3 => ?_)
    · rw [if_pos h3] at hf
      refine sm_iload_n d_Md_ofAll_185 rfl (j := 2) rfl ?_
      refine sm_if_ge (tgt := 194) d_Md_ofAll_186 (by decide) (fun h4 => ?_) (fun h4 => ?_)
      · rw [if_pos h4] at hf
        refine sm_iload d_Md_ofAll_194 (j := 6) rfl ?_
        cases hf
        refine sm_ireturn d_Md_ofAll_196 rfl (by rfl) ?_
        exact ⟨rfl, rfl⟩
      · rw [if_neg h4] at hf
        refine sm_iload d_Md_ofAll_189 (j := 5) rfl ?_
        refine sm_goto (tgt := 196) d_Md_ofAll_191 (by decide) ?_
        cases hf
        refine sm_ireturn d_Md_ofAll_196 rfl (by rfl) ?_
        exact ⟨rfl, rfl⟩
    · rw [if_neg h3] at hf
      refine sm_lconst (v := 0) d_Md_ofAll_27 (by decide) ?_
      refine sm_lstore d_Md_ofAll_28 (by decide) rfl ?_
      refine sm_iload d_Md_ofAll_30 (j := 5) rfl ?_
      refine sm_iconst (v := 4) d_Md_ofAll_32 (by decide) ?_
      refine sm_iadd d_Md_ofAll_33 ?_
      refine sm_iload_n d_Md_ofAll_34 rfl (j := 4) rfl ?_
      refine sm_icmp_gt (tgt := 95) d_Md_ofAll_35 (by decide) (fun h5 => ?_) (fun h5 => ?_)
      · rw [if_pos h5] at hf
        refine sm_iload_n d_Md_ofAll_95 rfl (j := 4) rfl ?_
        refine sm_istore d_Md_ofAll_96 (by decide) rfl ?_
        exact sm_pick [2, 3, 4, 5, 0, 6, 7, 8, 1] (w_Md_ofAll_98 ih _ _ _ _ _ _ _ _ _ hI hf) rfl
      · rw [if_neg h5] at hf
        refine sm_aload_n d_Md_ofAll_38 rfl (j := 1) rfl ?_
        refine sm_iload d_Md_ofAll_39 (j := 5) rfl ?_
        obtain ⟨r13, e14, hf⟩ := lo_bnd hf
        refine lo_callV d_Md_ofAll_41 cs_Md_ofAll_361 rfl hI ml_0 (As := [.int x4]) rfl rfl (Nat.le_of_ble_eq_true rfl) (c_Md_packed hI x4 e14) ?_
        refine sm_i2l d_Md_ofAll_44 ?_
        refine sm_bipush (v := 24) d_Md_ofAll_45 (by decide) ?_
        refine sm_lshl d_Md_ofAll_47 ?_
        refine sm_aload_n d_Md_ofAll_48 rfl (j := 1) rfl ?_
        refine sm_iload d_Md_ofAll_49 (j := 5) rfl ?_
        refine sm_iconst (v := 1) d_Md_ofAll_51 (by decide) ?_
        refine sm_iadd d_Md_ofAll_52 ?_
        obtain ⟨r15, e16, hf⟩ := lo_bnd hf
        refine lo_callV d_Md_ofAll_53 cs_Md_ofAll_361 rfl hI ml_0 (As := [.int (x4 + (1 : Int32))]) rfl rfl (Nat.le_of_ble_eq_true rfl) (c_Md_packed hI (x4 + (1 : Int32)) e16) ?_
        refine sm_bipush (v := 16) d_Md_ofAll_56 (by decide) ?_
        refine sm_ishl d_Md_ofAll_58 ?_
        refine sm_i2l d_Md_ofAll_59 ?_
        refine sm_ladd d_Md_ofAll_60 ?_
        refine sm_aload_n d_Md_ofAll_61 rfl (j := 1) rfl ?_
        refine sm_iload d_Md_ofAll_62 (j := 5) rfl ?_
        refine sm_iconst (v := 2) d_Md_ofAll_64 (by decide) ?_
        refine sm_iadd d_Md_ofAll_65 ?_
        obtain ⟨r17, e18, hf⟩ := lo_bnd hf
        refine lo_callV d_Md_ofAll_66 cs_Md_ofAll_361 rfl hI ml_0 (As := [.int (x4 + (2 : Int32))]) rfl rfl (Nat.le_of_ble_eq_true rfl) (c_Md_packed hI (x4 + (2 : Int32)) e18) ?_
        refine sm_bipush (v := 8) d_Md_ofAll_69 (by decide) ?_
        refine sm_ishl d_Md_ofAll_71 ?_
        refine sm_i2l d_Md_ofAll_72 ?_
        refine sm_ladd d_Md_ofAll_73 ?_
        refine sm_aload_n d_Md_ofAll_74 rfl (j := 1) rfl ?_
        refine sm_iload d_Md_ofAll_75 (j := 5) rfl ?_
        refine sm_iconst (v := 3) d_Md_ofAll_77 (by decide) ?_
        refine sm_iadd d_Md_ofAll_78 ?_
        obtain ⟨r19, e20, hf⟩ := lo_bnd hf
        refine lo_callV d_Md_ofAll_79 cs_Md_ofAll_361 rfl hI ml_0 (As := [.int (x4 + (3 : Int32))]) rfl rfl (Nat.le_of_ble_eq_true rfl) (c_Md_packed hI (x4 + (3 : Int32)) e20) ?_
        refine sm_i2l d_Md_ofAll_82 ?_
        refine sm_ladd d_Md_ofAll_83 ?_
        refine sm_lstore d_Md_ofAll_84 (by decide) rfl ?_
        refine sm_iload d_Md_ofAll_86 (j := 5) rfl ?_
        refine sm_iconst (v := 4) d_Md_ofAll_88 (by decide) ?_
        refine sm_iadd d_Md_ofAll_89 ?_
        refine sm_istore d_Md_ofAll_90 (by decide) rfl ?_
        refine sm_goto (tgt := 98) d_Md_ofAll_92 (by decide) ?_
        exact sm_pick [2, 3, 4, 5, 0, 6, 7, 8, 1] (w_Md_ofAll_98 ih _ _ _ _ _ _ _ _ _ hI hf) rfl

def fn_Md_ofAll (F : Nat) (w : wd) (x1 : Int32) (x2 : Int32) : Option (Int32) := ((fn_Md_packed F w (-1 : Int32)).bind fun r1 => fn_Md_ofAll_18 F F w x1 x2 r1 (0 : Int32) (0 : Int32) (-1 : Int32) (0 : Int32))
set_option maxHeartbeats 1600000 in
set_option maxRecDepth 100000 in
theorem c_Md_ofAll {G : sm_G} {b : Nat} {M0 M : sm_M}  {w : wd} {F : Nat} (hI : lo_in G md_L b M0 M w)  (x1 : Int32) (x2 : Int32)  {R : Int32} (hf : fn_Md_ofAll F w x1 x2 = some R) : sm_C G mf_Md_ofAll [.ref (b + 0), .int x1, .int x2] M 0 0 (sm_pu M (.int R)) := by
  unfold fn_Md_ofAll at hf
  have hI := hI.here
  refine sm_ofW rfl (Nat.le_of_ble_eq_true rfl) ?_
  refine sm_aload_n d_Md_ofAll_0 rfl (j := 0) rfl ?_
  refine sm_iconst (v := -1) d_Md_ofAll_1 (by decide) ?_
  obtain ⟨r1, e2, hf⟩ := lo_bnd hf
  refine lo_callV d_Md_ofAll_2 cs_Md_ofAll_361 rfl hI ml_0 (As := [.int (-1 : Int32)]) rfl rfl (Nat.le_of_ble_eq_true rfl) (c_Md_packed hI (-1 : Int32) e2) ?_
  refine sm_istore_n d_Md_ofAll_5 rfl (by decide) rfl ?_
  refine sm_iconst (v := 0) d_Md_ofAll_6 (by decide) ?_
  refine sm_istore d_Md_ofAll_7 (by decide) rfl ?_
  refine sm_iconst (v := 0) d_Md_ofAll_9 (by decide) ?_
  refine sm_istore d_Md_ofAll_10 (by decide) rfl ?_
  refine sm_iconst (v := -1) d_Md_ofAll_12 (by decide) ?_
  refine sm_istore d_Md_ofAll_13 (by decide) rfl ?_
  refine sm_iconst (v := 0) d_Md_ofAll_15 (by decide) ?_
  refine sm_istore d_Md_ofAll_16 (by decide) rfl ?_
  exact sm_pick [5, 6, 7, 4, 3, 2, 1, 0] (w_Md_ofAll_18 _ _ _ _ _ _ _ _ _ hI hf) rfl

def fn_Md_ofTile_93 (k8 : wd → Int32 → Int32 → Int32 → Int32 → Int32 → Option (Int32)) (F : Nat) (w : wd) (x1 : Int32) (x2 : Int32) (x3 : Int32) (x4 : Int32) (x5 : Int32) : Option (Int32) := k8 w x1 x2 x3 x4 (x5 + 1)
set_option maxHeartbeats 1600000 in
set_option maxRecDepth 100000 in
theorem w_Md_ofTile_93 {G : sm_G} {b : Nat} {M0 : sm_M} {bc bs : Nat} {R : Int32} {F : Nat} {k8 : wd → Int32 → Int32 → Int32 → Int32 → Int32 → Option (Int32)} (hk8 : ∀ (w : wd) (x1 : Int32) (x2 : Int32) (x3 : Int32) (x4 : Int32) (x5 : Int32), lo_in G md_L b M0 M0 w → k8 w x1 x2 x3 x4 x5 = some R → sm_W G mf_Md_ofTile 8 [(0, .ref (b + 0)), (1, .int x1), (2, .int x2), (3, .int x3), (4, .int x4), (5, .int x5)] [] M0 bc bs (sm_pu M0 (.int R))) : ∀ (w : wd) (x1 : Int32) (x2 : Int32) (x3 : Int32) (x4 : Int32) (x5 : Int32), lo_in G md_L b M0 M0 w → fn_Md_ofTile_93 k8 F w x1 x2 x3 x4 x5 = some R → sm_W G mf_Md_ofTile 93 [(0, .ref (b + 0)), (1, .int x1), (2, .int x2), (3, .int x3), (4, .int x4), (5, .int x5)] [] M0 bc bs (sm_pu M0 (.int R)) := by
  intro w x1 x2 x3 x4 x5 hI  hf
  unfold fn_Md_ofTile_93 at hf
  refine sm_iinc (v := (x5 + 1)) d_Md_ofTile_93 (j := 5) rfl rfl (by decide) rfl ?_
  refine sm_goto (tgt := 8) d_Md_ofTile_96 (by decide) ?_
  exact sm_pick [1, 2, 3, 4, 5, 0] (hk8 _ _ _ _ _ _ hI hf) rfl

def fn_Md_ofTile_86 (k8 : wd → Int32 → Int32 → Int32 → Int32 → Int32 → Option (Int32)) (F : Nat) (w : wd) (x1 : Int32) (x2 : Int32) (x3 : Int32) (x5 : Int32) (x6 : Int32) (s0 : Int32) : Option (Int32) := fn_Md_ofTile_93 k8 F w x1 x2 (x3 + x6) s0 x5
set_option maxHeartbeats 1600000 in
set_option maxRecDepth 100000 in
theorem w_Md_ofTile_86 {G : sm_G} {b : Nat} {M0 : sm_M} {bc bs : Nat} {R : Int32} {F : Nat} {k8 : wd → Int32 → Int32 → Int32 → Int32 → Int32 → Option (Int32)} (hk8 : ∀ (w : wd) (x1 : Int32) (x2 : Int32) (x3 : Int32) (x4 : Int32) (x5 : Int32), lo_in G md_L b M0 M0 w → k8 w x1 x2 x3 x4 x5 = some R → sm_W G mf_Md_ofTile 8 [(0, .ref (b + 0)), (1, .int x1), (2, .int x2), (3, .int x3), (4, .int x4), (5, .int x5)] [] M0 bc bs (sm_pu M0 (.int R))) : ∀ (w : wd) (x1 : Int32) (x2 : Int32) (x3 : Int32) (x5 : Int32) (x6 : Int32) (s0 : Int32), lo_in G md_L b M0 M0 w → fn_Md_ofTile_86 k8 F w x1 x2 x3 x5 x6 s0 = some R → sm_W G mf_Md_ofTile 86 [(0, .ref (b + 0)), (1, .int x1), (2, .int x2), (3, .int x3), (5, .int x5), (6, .int x6)] [.int s0] M0 bc bs (sm_pu M0 (.int R)) := by
  intro w x1 x2 x3 x5 x6 s0 hI  hf
  unfold fn_Md_ofTile_86 at hf
  refine sm_istore d_Md_ofTile_86 (by decide) rfl ?_
  refine sm_iload_n d_Md_ofTile_88 rfl (j := 4) rfl ?_
  refine sm_iload d_Md_ofTile_89 (j := 6) rfl ?_
  refine sm_iadd d_Md_ofTile_91 ?_
  refine sm_istore_n d_Md_ofTile_92 rfl (by decide) rfl ?_
  exact sm_pick [2, 3, 4, 0, 1, 5] (w_Md_ofTile_93 hk8 _ _ _ _ _ _ hI hf) rfl

def fn_Md_ofTile_84 (k8 : wd → Int32 → Int32 → Int32 → Int32 → Int32 → Option (Int32)) (F : Nat) (w : wd) (x1 : Int32) (x2 : Int32) (x3 : Int32) (x4 : Int32) (x5 : Int32) (x6 : Int32) : Option (Int32) := fn_Md_ofTile_86 k8 F w x1 x2 x3 x5 x6 x4
set_option maxHeartbeats 1600000 in
set_option maxRecDepth 100000 in
theorem w_Md_ofTile_84 {G : sm_G} {b : Nat} {M0 : sm_M} {bc bs : Nat} {R : Int32} {F : Nat} {k8 : wd → Int32 → Int32 → Int32 → Int32 → Int32 → Option (Int32)} (hk8 : ∀ (w : wd) (x1 : Int32) (x2 : Int32) (x3 : Int32) (x4 : Int32) (x5 : Int32), lo_in G md_L b M0 M0 w → k8 w x1 x2 x3 x4 x5 = some R → sm_W G mf_Md_ofTile 8 [(0, .ref (b + 0)), (1, .int x1), (2, .int x2), (3, .int x3), (4, .int x4), (5, .int x5)] [] M0 bc bs (sm_pu M0 (.int R))) : ∀ (w : wd) (x1 : Int32) (x2 : Int32) (x3 : Int32) (x4 : Int32) (x5 : Int32) (x6 : Int32), lo_in G md_L b M0 M0 w → fn_Md_ofTile_84 k8 F w x1 x2 x3 x4 x5 x6 = some R → sm_W G mf_Md_ofTile 84 [(0, .ref (b + 0)), (1, .int x1), (2, .int x2), (3, .int x3), (4, .int x4), (5, .int x5), (6, .int x6)] [] M0 bc bs (sm_pu M0 (.int R)) := by
  intro w x1 x2 x3 x4 x5 x6 hI  hf
  unfold fn_Md_ofTile_84 at hf
  refine sm_iload d_Md_ofTile_84 (j := 4) rfl ?_
  exact sm_pick [0, 1, 2, 3, 5, 6] (w_Md_ofTile_86 hk8 _ _ _ _ _ _ _ hI hf) rfl

def fn_Md_ofTile_8 (F : Nat) : Nat → wd → Int32 → Int32 → Int32 → Int32 → Int32 → Option (Int32)
 | 0, _, _, _, _, _, _ => none
 | n9 + 1, w, x1, x2, x3, x4, x5 => (if (w 0 23) ≤ x5 then (if 0 ≤ x2 then some x4 else some x3) else (if 0 ≤ x5.toInt ∧ x5.toInt < 16500 then (if (w 12 x5.toInt.toNat) = (97 : Int32) then (if 0 ≤ x5.toInt ∧ x5.toInt < 16500 then (if (w 15 x5.toInt.toNat) = x1 then (if 0 ≤ x5.toInt ∧ x5.toInt < 16500 then (if x2 < x3 then fn_Md_ofTile_84 (fn_Md_ofTile_8 F n9) F w x1 x2 x3 x4 x5 ((w 14 x5.toInt.toNat) - (3 : Int32)) else (if (x3 + ((w 14 x5.toInt.toNat) - (3 : Int32))) ≤ x2 then fn_Md_ofTile_84 (fn_Md_ofTile_8 F n9) F w x1 x2 x3 x4 x5 ((w 14 x5.toInt.toNat) - (3 : Int32)) else (if 0 ≤ x5.toInt ∧ x5.toInt < 16500 then ((fn_Md_u1 w ((((w 13 x5.toInt.toNat) + (5 : Int32)) + x2) - x3)).bind fun r11 => fn_Md_ofTile_86 (fn_Md_ofTile_8 F n9) F w x1 x2 x3 x5 ((w 14 x5.toInt.toNat) - (3 : Int32)) r11) else none))) else none) else fn_Md_ofTile_93 (fn_Md_ofTile_8 F n9) F w x1 x2 x3 x4 x5) else none) else fn_Md_ofTile_93 (fn_Md_ofTile_8 F n9) F w x1 x2 x3 x4 x5) else none))
set_option maxHeartbeats 1600000 in
set_option maxRecDepth 100000 in
theorem w_Md_ofTile_8 {G : sm_G} {b : Nat} {M0 : sm_M} {bc bs : Nat} {R : Int32} {F : Nat} : ∀ (n9 : Nat), ∀ (w : wd) (x1 : Int32) (x2 : Int32) (x3 : Int32) (x4 : Int32) (x5 : Int32), lo_in G md_L b M0 M0 w → fn_Md_ofTile_8 F n9 w x1 x2 x3 x4 x5 = some R → sm_W G mf_Md_ofTile 8 [(0, .ref (b + 0)), (1, .int x1), (2, .int x2), (3, .int x3), (4, .int x4), (5, .int x5)] [] M0 bc bs (sm_pu M0 (.int R)) := by
  intro n9
  induction n9 with
  | zero => intro w x1 x2 x3 x4 x5 hI  hf; cases hf
  | succ n9 ih =>
    intro w x1 x2 x3 x4 x5 hI  hf
    rw [fn_Md_ofTile_8] at hf
    refine sm_iload d_Md_ofTile_8 (j := 5) rfl ?_
    refine sm_aload_n d_Md_ofTile_10 rfl (j := 0) rfl ?_
    refine lo_get (v := .int (w 0 23)) d_Md_ofTile_11 fg_Md_239 hI ml_0 rfl ?_
    refine sm_icmp_ge (tgt := 99) d_Md_ofTile_14 (by decide) (fun h1 => ?_) (fun h1 => ?_)
    · rw [if_pos h1] at hf
      refine sm_iload_n d_Md_ofTile_99 rfl (j := 2) rfl ?_
      refine sm_if_ge (tgt := 107) d_Md_ofTile_100 (by decide) (fun h2 => ?_) (fun h2 => ?_)
      · rw [if_pos h2] at hf
        refine sm_iload d_Md_ofTile_107 (j := 4) rfl ?_
        cases hf
        refine sm_ireturn d_Md_ofTile_109 rfl (by rfl) ?_
        exact ⟨rfl, rfl⟩
      · rw [if_neg h2] at hf
        refine sm_iload_n d_Md_ofTile_103 rfl (j := 3) rfl ?_
        refine sm_goto (tgt := 109) d_Md_ofTile_104 (by decide) ?_
        cases hf
        refine sm_ireturn d_Md_ofTile_109 rfl (by rfl) ?_
        exact ⟨rfl, rfl⟩
    · rw [if_neg h1] at hf
      refine sm_aload_n d_Md_ofTile_17 rfl (j := 0) rfl ?_
      refine lo_get (v := .ref (b + 12)) d_Md_ofTile_18 fg_Md_51 hI ml_0 rfl ?_
      refine sm_iload d_Md_ofTile_21 (j := 5) rfl ?_
      obtain ⟨h3, hf⟩ := lo_chk hf
      refine lo_ald (j := x5.toInt.toNat) d_Md_ofTile_23 hI ml_12 h3 rfl ?_
      refine sm_bipush (v := 97) d_Md_ofTile_24 (by decide) ?_
      refine sm_icmp_ne (tgt := 93) d_Md_ofTile_26 (by decide) (fun h4 => ?_) (fun h4 => ?_)
      · rw [if_neg h4] at hf
        exact sm_pick [0, 1, 2, 3, 4, 5] (w_Md_ofTile_93 ih _ _ _ _ _ _ hI hf) rfl
      · rw [if_pos h4] at hf
        refine sm_aload_n d_Md_ofTile_29 rfl (j := 0) rfl ?_
        refine lo_get (v := .ref (b + 15)) d_Md_ofTile_30 fg_Md_60 hI ml_0 rfl ?_
        refine sm_iload d_Md_ofTile_33 (j := 5) rfl ?_
        obtain ⟨h5, hf⟩ := lo_chk hf
        refine lo_ald (j := x5.toInt.toNat) d_Md_ofTile_35 hI ml_15 h5 rfl ?_
        refine sm_iload_n d_Md_ofTile_36 rfl (j := 1) rfl ?_
        refine sm_icmp_ne (tgt := 93) d_Md_ofTile_37 (by decide) (fun h6 => ?_) (fun h6 => ?_)
        · rw [if_neg h6] at hf
          exact sm_pick [0, 1, 2, 3, 4, 5] (w_Md_ofTile_93 ih _ _ _ _ _ _ hI hf) rfl
        · rw [if_pos h6] at hf
          refine sm_aload_n d_Md_ofTile_40 rfl (j := 0) rfl ?_
          refine lo_get (v := .ref (b + 14)) d_Md_ofTile_41 fg_Md_57 hI ml_0 rfl ?_
          refine sm_iload d_Md_ofTile_44 (j := 5) rfl ?_
          obtain ⟨h7, hf⟩ := lo_chk hf
          refine lo_ald (j := x5.toInt.toNat) d_Md_ofTile_46 hI ml_14 h7 rfl ?_
          refine sm_iconst (v := 3) d_Md_ofTile_47 (by decide) ?_
          refine sm_isub d_Md_ofTile_48 ?_
          refine sm_istore d_Md_ofTile_49 (by decide) rfl ?_
          refine sm_iload_n d_Md_ofTile_51 rfl (j := 3) rfl ?_
          refine sm_iload_n d_Md_ofTile_52 rfl (j := 4) rfl ?_
          refine sm_icmp_lt (tgt := 84) d_Md_ofTile_53 (by decide) (fun h8 => ?_) (fun h8 => ?_)
          · rw [if_pos h8] at hf
            exact sm_pick [1, 2, 3, 4, 5, 6, 0] (w_Md_ofTile_84 ih _ _ _ _ _ _ _ hI hf) rfl
          · rw [if_neg h8] at hf
            refine sm_iload_n d_Md_ofTile_56 rfl (j := 3) rfl ?_
            refine sm_iload_n d_Md_ofTile_57 rfl (j := 4) rfl ?_
            refine sm_iload d_Md_ofTile_58 (j := 0) rfl ?_
            refine sm_iadd d_Md_ofTile_60 ?_
            refine sm_icmp_ge (tgt := 84) d_Md_ofTile_61 (by decide) (fun h9 => ?_) (fun h9 => ?_)
            · rw [if_pos h9] at hf
              exact sm_pick [1, 2, 3, 4, 5, 6, 0] (w_Md_ofTile_84 ih _ _ _ _ _ _ _ hI hf) rfl
            · rw [if_neg h9] at hf
              refine sm_aload_n d_Md_ofTile_64 rfl (j := 1) rfl ?_
              refine sm_aload_n d_Md_ofTile_65 rfl (j := 1) rfl ?_
              refine lo_get (v := .ref (b + 13)) d_Md_ofTile_66 fg_Md_54 hI ml_0 rfl ?_
              refine sm_iload d_Md_ofTile_69 (j := 6) rfl ?_
              obtain ⟨h10, hf⟩ := lo_chk hf
              refine lo_ald (j := x5.toInt.toNat) d_Md_ofTile_71 hI ml_13 h10 rfl ?_
              refine sm_iconst (v := 5) d_Md_ofTile_72 (by decide) ?_
              refine sm_iadd d_Md_ofTile_73 ?_
              refine sm_iload_n d_Md_ofTile_74 rfl (j := 3) rfl ?_
              refine sm_iadd d_Md_ofTile_75 ?_
              refine sm_iload_n d_Md_ofTile_76 rfl (j := 4) rfl ?_
              refine sm_isub d_Md_ofTile_77 ?_
              obtain ⟨r11, e12, hf⟩ := lo_bnd hf
              refine lo_callV d_Md_ofTile_78 cs_Md_ofTile_233 rfl hI ml_0 (As := [.int ((((w 13 x5.toInt.toNat) + (5 : Int32)) + x2) - x3)]) rfl rfl (Nat.le_of_ble_eq_true rfl) (c_Md_u1 hI ((((w 13 x5.toInt.toNat) + (5 : Int32)) + x2) - x3) e12) ?_
              refine sm_goto (tgt := 86) d_Md_ofTile_81 (by decide) ?_
              exact sm_pick [1, 2, 3, 4, 6, 0] (w_Md_ofTile_86 ih _ _ _ _ _ _ _ hI hf) rfl

def fn_Md_ofTile (F : Nat) (w : wd) (x1 : Int32) (x2 : Int32) : Option (Int32) := fn_Md_ofTile_8 F F w x1 x2 (0 : Int32) (-1 : Int32) (0 : Int32)
set_option maxHeartbeats 1600000 in
set_option maxRecDepth 100000 in
theorem c_Md_ofTile {G : sm_G} {b : Nat} {M0 M : sm_M}  {w : wd} {F : Nat} (hI : lo_in G md_L b M0 M w)  (x1 : Int32) (x2 : Int32)  {R : Int32} (hf : fn_Md_ofTile F w x1 x2 = some R) : sm_C G mf_Md_ofTile [.ref (b + 0), .int x1, .int x2] M 0 0 (sm_pu M (.int R)) := by
  unfold fn_Md_ofTile at hf
  have hI := hI.here
  refine sm_ofW rfl (Nat.le_of_ble_eq_true rfl) ?_
  refine sm_iconst (v := 0) d_Md_ofTile_0 (by decide) ?_
  refine sm_istore_n d_Md_ofTile_1 rfl (by decide) rfl ?_
  refine sm_iconst (v := -1) d_Md_ofTile_2 (by decide) ?_
  refine sm_istore d_Md_ofTile_3 (by decide) rfl ?_
  refine sm_iconst (v := 0) d_Md_ofTile_5 (by decide) ?_
  refine sm_istore d_Md_ofTile_6 (by decide) rfl ?_
  exact sm_pick [3, 4, 5, 2, 1, 0] (w_Md_ofTile_8 _ _ _ _ _ _ _ hI hf) rfl

def fn_Md_headOf (F : Nat) (w : wd) (x1 : Int32) (x2 : Int32) : Option (Int32) := ((fn_Md_met F w (96 : Int32) (-1 : Int32)).bind fun r1 => (if r1 ≤ 0 then ((fn_Md_ofTile F w x1 x2).bind fun r4 => some r4) else ((fn_Md_ofAll F w x1 x2).bind fun r6 => some r6)))
set_option maxHeartbeats 1600000 in
set_option maxRecDepth 100000 in
theorem c_Md_headOf {G : sm_G} {b : Nat} {M0 M : sm_M}  {w : wd} {F : Nat} (hI : lo_in G md_L b M0 M w)  (x1 : Int32) (x2 : Int32)  {R : Int32} (hf : fn_Md_headOf F w x1 x2 = some R) : sm_C G mf_Md_headOf [.ref (b + 0), .int x1, .int x2] M 0 0 (sm_pu M (.int R)) := by
  unfold fn_Md_headOf at hf
  have hI := hI.here
  refine sm_ofW rfl (Nat.le_of_ble_eq_true rfl) ?_
  refine sm_aload_n d_Md_headOf_0 rfl (j := 0) rfl ?_
  refine sm_bipush (v := 96) d_Md_headOf_1 (by decide) ?_
  refine sm_iconst (v := -1) d_Md_headOf_3 (by decide) ?_
  obtain ⟨r1, e2, hf⟩ := lo_bnd hf
  refine lo_callV d_Md_headOf_4 cs_Md_headOf_275 rfl hI ml_0 (As := [.int (96 : Int32), .int (-1 : Int32)]) rfl rfl (Nat.le_of_ble_eq_true rfl) (c_Md_met hI (96 : Int32) (-1 : Int32) e2) ?_
  refine sm_if_le (tgt := 19) d_Md_headOf_7 (by decide) (fun h3 => ?_) (fun h3 => ?_)
  · rw [if_pos h3] at hf
    refine sm_aload_n d_Md_headOf_19 rfl (j := 0) rfl ?_
    refine sm_iload_n d_Md_headOf_20 rfl (j := 1) rfl ?_
    refine sm_iload_n d_Md_headOf_21 rfl (j := 2) rfl ?_
    obtain ⟨r4, e5, hf⟩ := lo_bnd hf
    refine lo_callV d_Md_headOf_22 cs_Md_headOf_367 rfl hI ml_0 (As := [.int x1, .int x2]) rfl rfl (Nat.le_of_ble_eq_true rfl) (c_Md_ofTile hI x1 x2 e5) ?_
    cases hf
    refine sm_ireturn d_Md_headOf_25 rfl (by rfl) ?_
    exact ⟨rfl, rfl⟩
  · rw [if_neg h3] at hf
    refine sm_aload_n d_Md_headOf_10 rfl (j := 0) rfl ?_
    refine sm_iload_n d_Md_headOf_11 rfl (j := 1) rfl ?_
    refine sm_iload_n d_Md_headOf_12 rfl (j := 2) rfl ?_
    obtain ⟨r6, e7, hf⟩ := lo_bnd hf
    refine lo_callV d_Md_headOf_13 cs_Md_headOf_364 rfl hI ml_0 (As := [.int x1, .int x2]) rfl rfl (Nat.le_of_ble_eq_true rfl) (c_Md_ofAll hI x1 x2 e7) ?_
    refine sm_goto (tgt := 25) d_Md_headOf_16 (by decide) ?_
    cases hf
    refine sm_ireturn d_Md_headOf_25 rfl (by rfl) ?_
    exact ⟨rfl, rfl⟩

def fn_Md_use_30 (F : Nat) (w : wd) (x1 : Int32) (s0 : Bool) (s1 : Bool) : Option (Int32 × wd) := (if (fn_Md_refuse w s1 s0).1 = true then some ((0 : Int32), (fn_Md_refuse w s1 s0).2) else ((fn_Md_make F (fn_Md_refuse w s1 s0).2 x1).bind fun r6 => ((fn_Md_headOf F r6 x1 (-1 : Int32)).bind fun r10 => some (r10, r6))))
set_option maxHeartbeats 1600000 in
set_option maxRecDepth 100000 in
theorem w_Md_use_30 {G : sm_G} {b : Nat} {M0 : sm_M} {bc bs : Nat} {R : Int32 × wd} {F : Nat} : ∀ (M : sm_M) (w : wd) (x1 : Int32) (s0 : Bool) (s1 : Bool), lo_in G md_L b M0 M w → fn_Md_use_30 F w x1 s0 s1 = some R → sm_W G mf_Md_use 30 [(0, .ref (b + 0)), (1, .int x1)] [.int (bi s0), .int (bi s1), .ref (b + 0)] M bc bs (wd_Q G md_L b M0 (some (.int R.1)) R.2) := by
  intro M w x1 s0 s1 hI  hf
  unfold fn_Md_use_30 at hf
  refine lo_callVm d_Md_use_30 cs_Md_use_106 rfl hI ml_0 (As := [.int (bi s1), .int (bi s0)]) rfl rfl (Nat.le_of_ble_eq_true rfl) (c_Md_refuse hI s1 s0) (fun M3 hI4 => ?_)
  refine sm_if_eq (tgt := 38) d_Md_use_33 (by decide) (fun h5 => ?_) (fun h5 => ?_)
  · rw [if_neg (bi0 h5)] at hf
    refine sm_aload_n d_Md_use_38 rfl (j := 0) rfl ?_
    refine sm_iload_n d_Md_use_39 rfl (j := 1) rfl ?_
    obtain ⟨r6, e7, hf⟩ := lo_bnd hf
    refine lo_callVm d_Md_use_40 cs_Md_use_341 rfl hI4 ml_0 (As := [.int x1]) rfl rfl (Nat.le_of_ble_eq_true rfl) (c_Md_make hI4 x1 e7) (fun M8 hI9 => ?_)
    refine sm_aload_n d_Md_use_43 rfl (j := 0) rfl ?_
    refine sm_iload_n d_Md_use_44 rfl (j := 1) rfl ?_
    refine sm_iconst (v := -1) d_Md_use_45 (by decide) ?_
    obtain ⟨r10, e11, hf⟩ := lo_bnd hf
    refine lo_callV d_Md_use_46 cs_Md_use_370 rfl hI9 ml_0 (As := [.int x1, .int (-1 : Int32)]) rfl rfl (Nat.le_of_ble_eq_true rfl) (c_Md_headOf hI9 x1 (-1 : Int32) e11) ?_
    cases hf
    refine sm_ireturn d_Md_use_49 rfl (by rfl) ?_
    exact ⟨rfl, hI9⟩
  · rw [if_pos (bi1 h5)] at hf
    refine sm_iconst (v := 0) d_Md_use_36 (by decide) ?_
    cases hf
    refine sm_ireturn d_Md_use_37 rfl (by rfl) ?_
    exact ⟨rfl, hI4⟩

def fn_Md_use_25 (F : Nat) (w : wd) (x1 : Int32) (s0 : Bool) : Option (Int32 × wd) := fn_Md_use_30 F w x1 true s0
set_option maxHeartbeats 1600000 in
set_option maxRecDepth 100000 in
theorem w_Md_use_25 {G : sm_G} {b : Nat} {M0 : sm_M} {bc bs : Nat} {R : Int32 × wd} {F : Nat} : ∀ (M : sm_M) (w : wd) (x1 : Int32) (s0 : Bool), lo_in G md_L b M0 M w → fn_Md_use_25 F w x1 s0 = some R → sm_W G mf_Md_use 25 [(0, .ref (b + 0)), (1, .int x1)] [.int (bi s0), .ref (b + 0)] M bc bs (wd_Q G md_L b M0 (some (.int R.1)) R.2) := by
  intro M w x1 s0 hI  hf
  unfold fn_Md_use_25 at hf
  refine sm_iconst (v := 1) d_Md_use_25 (by decide) ?_
  refine sm_goto (tgt := 30) d_Md_use_26 (by decide) ?_
  exact sm_pick [0, 1] (w_Md_use_30 _ _ _ _ _ hI hf) rfl

def fn_Md_use_13 (F : Nat) (w : wd) (x1 : Int32) (s0 : Bool) : Option (Int32 × wd) := (if x1 < 0 then fn_Md_use_25 F w x1 s0 else (if x1 < (w 0 34) then fn_Md_use_30 F w x1 false s0 else fn_Md_use_25 F w x1 s0))
set_option maxHeartbeats 1600000 in
set_option maxRecDepth 100000 in
theorem w_Md_use_13 {G : sm_G} {b : Nat} {M0 : sm_M} {bc bs : Nat} {R : Int32 × wd} {F : Nat} : ∀ (M : sm_M) (w : wd) (x1 : Int32) (s0 : Bool), lo_in G md_L b M0 M w → fn_Md_use_13 F w x1 s0 = some R → sm_W G mf_Md_use 13 [(0, .ref (b + 0)), (1, .int x1)] [.int (bi s0), .ref (b + 0)] M bc bs (wd_Q G md_L b M0 (some (.int R.1)) R.2) := by
  intro M w x1 s0 hI  hf
  unfold fn_Md_use_13 at hf
  refine sm_iload_n d_Md_use_13 rfl (j := 1) rfl ?_
  refine sm_if_lt (tgt := 25) d_Md_use_14 (by decide) (fun h2 => ?_) (fun h2 => ?_)
  · rw [if_pos h2] at hf
    exact sm_pick [0, 1] (w_Md_use_25 _ _ _ _ hI hf) rfl
  · rw [if_neg h2] at hf
    refine sm_iload_n d_Md_use_17 rfl (j := 1) rfl ?_
    refine sm_aload_n d_Md_use_18 rfl (j := 0) rfl ?_
    refine lo_get (v := .int (w 0 34)) d_Md_use_19 fg_Md_306 hI ml_0 rfl ?_
    refine sm_icmp_lt (tgt := 29) d_Md_use_22 (by decide) (fun h12 => ?_) (fun h12 => ?_)
    · rw [if_pos h12] at hf
      refine sm_iconst (v := 0) d_Md_use_29 (by decide) ?_
      exact sm_pick [0, 1] (w_Md_use_30 _ _ _ _ _ hI hf) rfl
    · rw [if_neg h12] at hf
      exact sm_pick [0, 1] (w_Md_use_25 _ _ _ _ hI hf) rfl

def fn_Md_use (F : Nat) (w : wd) (x1 : Int32) : Option (Int32 × wd) := (if (w 0 21) = 0 then fn_Md_use_13 F w x1 true else fn_Md_use_13 F w x1 false)
set_option maxHeartbeats 1600000 in
set_option maxRecDepth 100000 in
theorem c_Md_use {G : sm_G} {b : Nat} {M0 M : sm_M}  {w : wd} {F : Nat} (hI : lo_in G md_L b M0 M w)  (x1 : Int32)  {R : Int32 × wd} (hf : fn_Md_use F w x1 = some R) : sm_C G mf_Md_use [.ref (b + 0), .int x1] M 0 0 (wd_Q G md_L b M (some (.int R.1)) R.2) := by
  unfold fn_Md_use at hf
  have hI := hI.here
  refine sm_ofW rfl (Nat.le_of_ble_eq_true rfl) ?_
  refine sm_aload_n d_Md_use_0 rfl (j := 0) rfl ?_
  refine sm_aload_n d_Md_use_1 rfl (j := 0) rfl ?_
  refine lo_get (v := .int (w 0 21)) d_Md_use_2 fg_Md_177 hI ml_0 rfl ?_
  refine sm_if_ne (tgt := 12) d_Md_use_5 (by decide) (fun h1 => ?_) (fun h1 => ?_)
  · rw [if_neg h1] at hf
    refine sm_iconst (v := 0) d_Md_use_12 (by decide) ?_
    exact sm_pick [0, 1] (w_Md_use_13 _ _ _ _ hI hf) rfl
  · rw [if_pos h1] at hf
    refine sm_iconst (v := 1) d_Md_use_8 (by decide) ?_
    refine sm_goto (tgt := 13) d_Md_use_9 (by decide) ?_
    exact sm_pick [0, 1] (w_Md_use_13 _ _ _ _ hI hf) rfl

def fn_Md_head_58 (F : Nat) (w : wd) (x4 : Int32) (s0 : Bool) : Option (Int32 × wd) := (if 0 ≤ x4 then (if (fn_Md_refuse w s0 false).1 = true then some ((0 : Int32), (fn_Md_refuse w s0 false).2) else some (x4, (fn_Md_refuse w s0 false).2)) else (if (fn_Md_refuse w s0 true).1 = true then some ((0 : Int32), (fn_Md_refuse w s0 true).2) else some (x4, (fn_Md_refuse w s0 true).2)))
set_option maxHeartbeats 1600000 in
set_option maxRecDepth 100000 in
theorem w_Md_head_58 {G : sm_G} {b : Nat} {M0 : sm_M} {bc bs : Nat} {R : Int32 × wd} {F : Nat} : ∀ (M : sm_M) (w : wd) (x4 : Int32) (s0 : Bool), lo_in G md_L b M0 M w → fn_Md_head_58 F w x4 s0 = some R → sm_W G mf_Md_head 58 [(4, .int x4)] [.int (bi s0), .ref (b + 0)] M bc bs (wd_Q G md_L b M0 (some (.int R.1)) R.2) := by
  intro M w x4 s0 hI  hf
  unfold fn_Md_head_58 at hf
  refine sm_iload d_Md_head_58 (j := 0) rfl ?_
  refine sm_if_ge (tgt := 67) d_Md_head_60 (by decide) (fun h4 => ?_) (fun h4 => ?_)
  · rw [if_pos h4] at hf
    refine sm_iconst (v := 0) d_Md_head_67 (by decide) ?_
    refine lo_callVm d_Md_head_68 cs_Md_head_106 rfl hI ml_0 (As := [.int (bi s0), .int (0 : Int32)]) rfl rfl (Nat.le_of_ble_eq_true rfl) (c_Md_refuse hI s0 false) (fun M5 hI6 => ?_)
    refine sm_if_eq (tgt := 76) d_Md_head_71 (by decide) (fun h7 => ?_) (fun h7 => ?_)
    · rw [if_neg (bi0 h7)] at hf
      refine sm_iload d_Md_head_76 (j := 0) rfl ?_
      cases hf
      refine sm_ireturn d_Md_head_78 rfl (by rfl) ?_
      exact ⟨rfl, hI6⟩
    · rw [if_pos (bi1 h7)] at hf
      refine sm_iconst (v := 0) d_Md_head_74 (by decide) ?_
      cases hf
      refine sm_ireturn d_Md_head_75 rfl (by rfl) ?_
      exact ⟨rfl, hI6⟩
  · rw [if_neg h4] at hf
    refine sm_iconst (v := 1) d_Md_head_63 (by decide) ?_
    refine sm_goto (tgt := 68) d_Md_head_64 (by decide) ?_
    refine lo_callVm d_Md_head_68 cs_Md_head_106 rfl hI ml_0 (As := [.int (bi s0), .int (1 : Int32)]) rfl rfl (Nat.le_of_ble_eq_true rfl) (c_Md_refuse hI s0 true) (fun M8 hI9 => ?_)
    refine sm_if_eq (tgt := 76) d_Md_head_71 (by decide) (fun h10 => ?_) (fun h10 => ?_)
    · rw [if_neg (bi0 h10)] at hf
      refine sm_iload d_Md_head_76 (j := 0) rfl ?_
      cases hf
      refine sm_ireturn d_Md_head_78 rfl (by rfl) ?_
      exact ⟨rfl, hI9⟩
    · rw [if_pos (bi1 h10)] at hf
      refine sm_iconst (v := 0) d_Md_head_74 (by decide) ?_
      cases hf
      refine sm_ireturn d_Md_head_75 rfl (by rfl) ?_
      exact ⟨rfl, hI9⟩

def fn_Md_head_43 (F : Nat) (w : wd) (s0 : Int32) : Option (Int32 × wd) := (if (w 0 21) = 0 then fn_Md_head_58 F w s0 true else fn_Md_head_58 F w s0 false)
set_option maxHeartbeats 1600000 in
set_option maxRecDepth 100000 in
theorem w_Md_head_43 {G : sm_G} {b : Nat} {M0 : sm_M} {bc bs : Nat} {R : Int32 × wd} {F : Nat} : ∀ (M : sm_M) (w : wd) (s0 : Int32), lo_in G md_L b M0 M w → fn_Md_head_43 F w s0 = some R → sm_W G mf_Md_head 43 [(0, .ref (b + 0))] [.int s0] M bc bs (wd_Q G md_L b M0 (some (.int R.1)) R.2) := by
  intro M w s0 hI  hf
  unfold fn_Md_head_43 at hf
  refine sm_istore d_Md_head_43 (by decide) rfl ?_
  refine sm_aload_n d_Md_head_45 rfl (j := 1) rfl ?_
  refine sm_aload_n d_Md_head_46 rfl (j := 1) rfl ?_
  refine lo_get (v := .int (w 0 21)) d_Md_head_47 fg_Md_177 hI ml_0 rfl ?_
  refine sm_if_ne (tgt := 57) d_Md_head_50 (by decide) (fun h3 => ?_) (fun h3 => ?_)
  · rw [if_neg h3] at hf
    refine sm_iconst (v := 0) d_Md_head_57 (by decide) ?_
    exact sm_pick [0] (w_Md_head_58 _ _ _ _ hI hf) rfl
  · rw [if_pos h3] at hf
    refine sm_iconst (v := 1) d_Md_head_53 (by decide) ?_
    refine sm_goto (tgt := 58) d_Md_head_54 (by decide) ?_
    exact sm_pick [0] (w_Md_head_58 _ _ _ _ hI hf) rfl

def fn_Md_head_28 (F : Nat) (w : wd) (x1 : Int32) (x2 : Int32) (s0 : Bool) : Option (Int32 × wd) := (if s0 = true then ((fn_Md_headOf F w x1 x2).bind fun r11 => fn_Md_head_43 F w r11) else fn_Md_head_43 F w (-1 : Int32))
set_option maxHeartbeats 1600000 in
set_option maxRecDepth 100000 in
theorem w_Md_head_28 {G : sm_G} {b : Nat} {M0 : sm_M} {bc bs : Nat} {R : Int32 × wd} {F : Nat} : ∀ (M : sm_M) (w : wd) (x1 : Int32) (x2 : Int32) (s0 : Bool), lo_in G md_L b M0 M w → fn_Md_head_28 F w x1 x2 s0 = some R → sm_W G mf_Md_head 28 [(0, .ref (b + 0)), (1, .int x1), (2, .int x2)] [.int (bi s0)] M bc bs (wd_Q G md_L b M0 (some (.int R.1)) R.2) := by
  intro M w x1 x2 s0 hI  hf
  unfold fn_Md_head_28 at hf
  refine sm_istore_n d_Md_head_28 rfl (by decide) rfl ?_
  refine sm_iload_n d_Md_head_29 rfl (j := 0) rfl ?_
  refine sm_if_eq (tgt := 42) d_Md_head_30 (by decide) (fun h2 => ?_) (fun h2 => ?_)
  · rw [if_neg (bi0 h2)] at hf
    refine sm_iconst (v := -1) d_Md_head_42 (by decide) ?_
    exact sm_pick [1] (w_Md_head_43 _ _ _ hI hf) rfl
  · rw [if_pos (bi1 h2)] at hf
    refine sm_aload_n d_Md_head_33 rfl (j := 1) rfl ?_
    refine sm_iload_n d_Md_head_34 rfl (j := 2) rfl ?_
    refine sm_iload_n d_Md_head_35 rfl (j := 3) rfl ?_
    obtain ⟨r11, e12, hf⟩ := lo_bnd hf
    refine lo_callV d_Md_head_36 cs_Md_head_370 rfl hI ml_0 (As := [.int x1, .int x2]) rfl rfl (Nat.le_of_ble_eq_true rfl) (c_Md_headOf hI x1 x2 e12) ?_
    refine sm_goto (tgt := 43) d_Md_head_39 (by decide) ?_
    exact sm_pick [1] (w_Md_head_43 _ _ _ hI hf) rfl

def fn_Md_head_27 (F : Nat) (w : wd) (x1 : Int32) (x2 : Int32) : Option (Int32 × wd) := fn_Md_head_28 F w x1 x2 false
set_option maxHeartbeats 1600000 in
set_option maxRecDepth 100000 in
theorem w_Md_head_27 {G : sm_G} {b : Nat} {M0 : sm_M} {bc bs : Nat} {R : Int32 × wd} {F : Nat} : ∀ (M : sm_M) (w : wd) (x1 : Int32) (x2 : Int32), lo_in G md_L b M0 M w → fn_Md_head_27 F w x1 x2 = some R → sm_W G mf_Md_head 27 [(0, .ref (b + 0)), (1, .int x1), (2, .int x2)] [] M bc bs (wd_Q G md_L b M0 (some (.int R.1)) R.2) := by
  intro M w x1 x2 hI  hf
  unfold fn_Md_head_27 at hf
  refine sm_iconst (v := 0) d_Md_head_27 (by decide) ?_
  exact sm_pick [0, 1, 2] (w_Md_head_28 _ _ _ _ _ hI hf) rfl

def fn_Md_head (F : Nat) (w : wd) (x1 : Int32) (x2 : Int32) : Option (Int32 × wd) := (if (w 0 21) = 0 then fn_Md_head_27 F w x1 x2 else (if x1 < 0 then fn_Md_head_27 F w x1 x2 else (if (w 0 34) ≤ x1 then fn_Md_head_27 F w x1 x2 else (if x2 < 0 then fn_Md_head_27 F w x1 x2 else fn_Md_head_28 F w x1 x2 true))))
set_option maxHeartbeats 1600000 in
set_option maxRecDepth 100000 in
theorem c_Md_head {G : sm_G} {b : Nat} {M0 M : sm_M}  {w : wd} {F : Nat} (hI : lo_in G md_L b M0 M w)  (x1 : Int32) (x2 : Int32)  {R : Int32 × wd} (hf : fn_Md_head F w x1 x2 = some R) : sm_C G mf_Md_head [.ref (b + 0), .int x1, .int x2] M 0 0 (wd_Q G md_L b M (some (.int R.1)) R.2) := by
  unfold fn_Md_head at hf
  have hI := hI.here
  refine sm_ofW rfl (Nat.le_of_ble_eq_true rfl) ?_
  refine sm_aload_n d_Md_head_0 rfl (j := 0) rfl ?_
  refine lo_get (v := .int (w 0 21)) d_Md_head_1 fg_Md_177 hI ml_0 rfl ?_
  refine sm_if_eq (tgt := 27) d_Md_head_4 (by decide) (fun h1 => ?_) (fun h1 => ?_)
  · rw [if_pos h1] at hf
    exact sm_pick [0, 1, 2] (w_Md_head_27 _ _ _ _ hI hf) rfl
  · rw [if_neg h1] at hf
    refine sm_iload_n d_Md_head_7 rfl (j := 1) rfl ?_
    refine sm_if_lt (tgt := 27) d_Md_head_8 (by decide) (fun h13 => ?_) (fun h13 => ?_)
    · rw [if_pos h13] at hf
      exact sm_pick [0, 1, 2] (w_Md_head_27 _ _ _ _ hI hf) rfl
    · rw [if_neg h13] at hf
      refine sm_iload_n d_Md_head_11 rfl (j := 1) rfl ?_
      refine sm_aload_n d_Md_head_12 rfl (j := 0) rfl ?_
      refine lo_get (v := .int (w 0 34)) d_Md_head_13 fg_Md_306 hI ml_0 rfl ?_
      refine sm_icmp_ge (tgt := 27) d_Md_head_16 (by decide) (fun h14 => ?_) (fun h14 => ?_)
      · rw [if_pos h14] at hf
        exact sm_pick [0, 1, 2] (w_Md_head_27 _ _ _ _ hI hf) rfl
      · rw [if_neg h14] at hf
        refine sm_iload_n d_Md_head_19 rfl (j := 2) rfl ?_
        refine sm_if_lt (tgt := 27) d_Md_head_20 (by decide) (fun h15 => ?_) (fun h15 => ?_)
        · rw [if_pos h15] at hf
          exact sm_pick [0, 1, 2] (w_Md_head_27 _ _ _ _ hI hf) rfl
        · rw [if_neg h15] at hf
          refine sm_iconst (v := 1) d_Md_head_23 (by decide) ?_
          refine sm_goto (tgt := 28) d_Md_head_24 (by decide) ?_
          exact sm_pick [0, 1, 2] (w_Md_head_28 _ _ _ _ _ hI hf) rfl

def fn_Md_found_54 (w : wd) (x1 : Int32) (x2 : Int32) (s0 : Bool) (s1 : Bool) : Option (Int32 × wd) := (if (fn_Md_refuse w s1 s0).1 = true then some ((0 : Int32), (fn_Md_refuse w s1 s0).2) else (if 0 ≤ x1 then (if x2 = 0 then (if 0 ≤ x1.toInt ∧ x1.toInt < 256 then some (((fn_Md_refuse w s1 s0).2 16 x1.toInt.toNat), (fn_Md_refuse w s1 s0).2) else none) else (if x2 = 1 then (if 0 ≤ x1.toInt ∧ x1.toInt < 256 then some (((fn_Md_refuse w s1 s0).2 17 x1.toInt.toNat), (fn_Md_refuse w s1 s0).2) else none) else (if x2 = 2 then (if 0 ≤ x1.toInt ∧ x1.toInt < 256 then some (((fn_Md_refuse w s1 s0).2 18 x1.toInt.toNat), (fn_Md_refuse w s1 s0).2) else none) else (if x2 = 3 then (if 0 ≤ x1.toInt ∧ x1.toInt < 256 then some (((fn_Md_refuse w s1 s0).2 19 x1.toInt.toNat), (fn_Md_refuse w s1 s0).2) else none) else (if 0 ≤ x1.toInt ∧ x1.toInt < 256 then some (((fn_Md_refuse w s1 s0).2 20 x1.toInt.toNat), (fn_Md_refuse w s1 s0).2) else none))))) else some (((fn_Md_refuse w s1 s0).2 0 28), (fn_Md_refuse w s1 s0).2)))
set_option maxHeartbeats 1600000 in
set_option maxRecDepth 100000 in
theorem w_Md_found_54 {G : sm_G} {b : Nat} {M0 : sm_M} {bc bs : Nat} {R : Int32 × wd} : ∀ (M : sm_M) (w : wd) (x1 : Int32) (x2 : Int32) (s0 : Bool) (s1 : Bool), lo_in G md_L b M0 M w → fn_Md_found_54 w x1 x2 s0 s1 = some R → sm_W G mf_Md_found 54 [(0, .ref (b + 0)), (1, .int x1), (2, .int x2)] [.int (bi s0), .int (bi s1), .ref (b + 0)] M bc bs (wd_Q G md_L b M0 (some (.int R.1)) R.2) := by
  intro M w x1 x2 s0 s1 hI  hf
  unfold fn_Md_found_54 at hf
  refine lo_callVm d_Md_found_54 cs_Md_found_106 rfl hI ml_0 (As := [.int (bi s1), .int (bi s0)]) rfl rfl (Nat.le_of_ble_eq_true rfl) (c_Md_refuse hI s1 s0) (fun M4 hI5 => ?_)
  refine sm_if_eq (tgt := 62) d_Md_found_57 (by decide) (fun h6 => ?_) (fun h6 => ?_)
  · rw [if_neg (bi0 h6)] at hf
    refine sm_iload_n d_Md_found_62 rfl (j := 1) rfl ?_
    refine sm_if_ge (tgt := 71) d_Md_found_63 (by decide) (fun h7 => ?_) (fun h7 => ?_)
    · rw [if_pos h7] at hf
      refine sm_iload_n d_Md_found_71 rfl (j := 2) rfl ?_
      by_cases h8 : x2 = 0
      · rw [if_pos h8] at hf
        refine sm_tableIn (tgt := 104) d_Md_found_72 (by rw [h8] <;> decide) (by rw [h8] <;> decide) (by rw [h8] <;> rfl) (by decide) ?_
        refine sm_aload_n d_Md_found_104 rfl (j := 0) rfl ?_
        refine lo_get (v := .ref (b + 16)) d_Md_found_105 fg_Md_63 hI5 ml_0 rfl ?_
        refine sm_iload_n d_Md_found_108 rfl (j := 1) rfl ?_
        obtain ⟨h9, hf⟩ := lo_chk hf
        refine lo_ald (j := x1.toInt.toNat) d_Md_found_109 hI5 ml_16 h9 rfl ?_
        cases hf
        refine sm_ireturn d_Md_found_110 rfl (by rfl) ?_
        exact ⟨rfl, hI5⟩
      · rw [if_neg h8] at hf
        by_cases h10 : x2 = 1
        · rw [if_pos h10] at hf
          refine sm_tableIn (tgt := 111) d_Md_found_72 (by rw [h10] <;> decide) (by rw [h10] <;> decide) (by rw [h10] <;> rfl) (by decide) ?_
          refine sm_aload_n d_Md_found_111 rfl (j := 0) rfl ?_
          refine lo_get (v := .ref (b + 17)) d_Md_found_112 fg_Md_66 hI5 ml_0 rfl ?_
          refine sm_iload_n d_Md_found_115 rfl (j := 1) rfl ?_
          obtain ⟨h11, hf⟩ := lo_chk hf
          refine lo_ald (j := x1.toInt.toNat) d_Md_found_116 hI5 ml_17 h11 rfl ?_
          cases hf
          refine sm_ireturn d_Md_found_117 rfl (by rfl) ?_
          exact ⟨rfl, hI5⟩
        · rw [if_neg h10] at hf
          by_cases h12 : x2 = 2
          · rw [if_pos h12] at hf
            refine sm_tableIn (tgt := 118) d_Md_found_72 (by rw [h12] <;> decide) (by rw [h12] <;> decide) (by rw [h12] <;> rfl) (by decide) ?_
            refine sm_aload_n d_Md_found_118 rfl (j := 0) rfl ?_
            refine lo_get (v := .ref (b + 18)) d_Md_found_119 fg_Md_69 hI5 ml_0 rfl ?_
            refine sm_iload_n d_Md_found_122 rfl (j := 1) rfl ?_
            obtain ⟨h13, hf⟩ := lo_chk hf
            refine lo_ald (j := x1.toInt.toNat) d_Md_found_123 hI5 ml_18 h13 rfl ?_
            cases hf
            refine sm_ireturn d_Md_found_124 rfl (by rfl) ?_
            exact ⟨rfl, hI5⟩
          · rw [if_neg h12] at hf
            by_cases h14 : x2 = 3
            · rw [if_pos h14] at hf
              refine sm_tableIn (tgt := 125) d_Md_found_72 (by rw [h14] <;> decide) (by rw [h14] <;> decide) (by rw [h14] <;> rfl) (by decide) ?_
              refine sm_aload_n d_Md_found_125 rfl (j := 0) rfl ?_
              refine lo_get (v := .ref (b + 19)) d_Md_found_126 fg_Md_72 hI5 ml_0 rfl ?_
              refine sm_iload_n d_Md_found_129 rfl (j := 1) rfl ?_
              obtain ⟨h15, hf⟩ := lo_chk hf
              refine lo_ald (j := x1.toInt.toNat) d_Md_found_130 hI5 ml_19 h15 rfl ?_
              cases hf
              refine sm_ireturn d_Md_found_131 rfl (by rfl) ?_
              exact ⟨rfl, hI5⟩
            · rw [if_neg h14] at hf
              refine sm_tableOut (tgt := 132) d_Md_found_72 (by have := (mt sm_eqI.mpr h8); rw [show ((0 : Int32)).toInt = 0 by decide] at this; have := (mt sm_eqI.mpr h10); rw [show ((1 : Int32)).toInt = 1 by decide] at this; have := (mt sm_eqI.mpr h12); rw [show ((2 : Int32)).toInt = 2 by decide] at this; have := (mt sm_eqI.mpr h14); rw [show ((3 : Int32)).toInt = 3 by decide] at this; omega) (by decide) ?_
              refine sm_aload_n d_Md_found_132 rfl (j := 0) rfl ?_
              refine lo_get (v := .ref (b + 20)) d_Md_found_133 fg_Md_75 hI5 ml_0 rfl ?_
              refine sm_iload_n d_Md_found_136 rfl (j := 1) rfl ?_
              obtain ⟨h16, hf⟩ := lo_chk hf
              refine lo_ald (j := x1.toInt.toNat) d_Md_found_137 hI5 ml_20 h16 rfl ?_
              cases hf
              refine sm_ireturn d_Md_found_138 rfl (by rfl) ?_
              exact ⟨rfl, hI5⟩
    · rw [if_neg h7] at hf
      refine sm_aload_n d_Md_found_66 rfl (j := 0) rfl ?_
      refine lo_get (v := .int ((fn_Md_refuse w s1 s0).2 0 28)) d_Md_found_67 fg_Md_312 hI5 ml_0 rfl ?_
      cases hf
      refine sm_ireturn d_Md_found_70 rfl (by rfl) ?_
      exact ⟨rfl, hI5⟩
  · rw [if_pos (bi1 h6)] at hf
    refine sm_iconst (v := 0) d_Md_found_60 (by decide) ?_
    cases hf
    refine sm_ireturn d_Md_found_61 rfl (by rfl) ?_
    exact ⟨rfl, hI5⟩

def fn_Md_found_45 (w : wd) (x1 : Int32) (x2 : Int32) (x3 : Bool) (s0 : Bool) : Option (Int32 × wd) := (if x3 = true then fn_Md_found_54 w x1 x2 false s0 else fn_Md_found_54 w x1 x2 true s0)
set_option maxHeartbeats 1600000 in
set_option maxRecDepth 100000 in
theorem w_Md_found_45 {G : sm_G} {b : Nat} {M0 : sm_M} {bc bs : Nat} {R : Int32 × wd} : ∀ (M : sm_M) (w : wd) (x1 : Int32) (x2 : Int32) (x3 : Bool) (s0 : Bool), lo_in G md_L b M0 M w → fn_Md_found_45 w x1 x2 x3 s0 = some R → sm_W G mf_Md_found 45 [(0, .ref (b + 0)), (1, .int x1), (2, .int x2), (3, .int (bi x3))] [.int (bi s0), .ref (b + 0)] M bc bs (wd_Q G md_L b M0 (some (.int R.1)) R.2) := by
  intro M w x1 x2 x3 s0 hI  hf
  unfold fn_Md_found_45 at hf
  refine sm_iload_n d_Md_found_45 rfl (j := 3) rfl ?_
  refine sm_if_ne (tgt := 53) d_Md_found_46 (by decide) (fun h3 => ?_) (fun h3 => ?_)
  · rw [if_pos (bi1 h3)] at hf
    refine sm_iconst (v := 0) d_Md_found_53 (by decide) ?_
    exact sm_pick [0, 1, 2] (w_Md_found_54 _ _ _ _ _ _ hI hf) rfl
  · rw [if_neg (bi0 h3)] at hf
    refine sm_iconst (v := 1) d_Md_found_49 (by decide) ?_
    refine sm_goto (tgt := 54) d_Md_found_50 (by decide) ?_
    exact sm_pick [0, 1, 2] (w_Md_found_54 _ _ _ _ _ _ hI hf) rfl

def fn_Md_found_31 (w : wd) (x1 : Int32) (x2 : Int32) (s0 : Bool) : Option (Int32 × wd) := (if (w 0 21) = 0 then fn_Md_found_45 w x1 x2 s0 true else fn_Md_found_45 w x1 x2 s0 false)
set_option maxHeartbeats 1600000 in
set_option maxRecDepth 100000 in
theorem w_Md_found_31 {G : sm_G} {b : Nat} {M0 : sm_M} {bc bs : Nat} {R : Int32 × wd} : ∀ (M : sm_M) (w : wd) (x1 : Int32) (x2 : Int32) (s0 : Bool), lo_in G md_L b M0 M w → fn_Md_found_31 w x1 x2 s0 = some R → sm_W G mf_Md_found 31 [(0, .ref (b + 0)), (1, .int x1), (2, .int x2)] [.int (bi s0)] M bc bs (wd_Q G md_L b M0 (some (.int R.1)) R.2) := by
  intro M w x1 x2 s0 hI  hf
  unfold fn_Md_found_31 at hf
  refine sm_istore_n d_Md_found_31 rfl (by decide) rfl ?_
  refine sm_aload_n d_Md_found_32 rfl (j := 1) rfl ?_
  refine sm_aload_n d_Md_found_33 rfl (j := 1) rfl ?_
  refine lo_get (v := .int (w 0 21)) d_Md_found_34 fg_Md_177 hI ml_0 rfl ?_
  refine sm_if_ne (tgt := 44) d_Md_found_37 (by decide) (fun h2 => ?_) (fun h2 => ?_)
  · rw [if_neg h2] at hf
    refine sm_iconst (v := 0) d_Md_found_44 (by decide) ?_
    exact sm_pick [1, 2, 3, 0] (w_Md_found_45 _ _ _ _ _ _ hI hf) rfl
  · rw [if_pos h2] at hf
    refine sm_iconst (v := 1) d_Md_found_40 (by decide) ?_
    refine sm_goto (tgt := 45) d_Md_found_41 (by decide) ?_
    exact sm_pick [1, 2, 3, 0] (w_Md_found_45 _ _ _ _ _ _ hI hf) rfl

def fn_Md_found_26 (w : wd) (x1 : Int32) (x2 : Int32) : Option (Int32 × wd) := fn_Md_found_31 w x1 x2 true
set_option maxHeartbeats 1600000 in
set_option maxRecDepth 100000 in
theorem w_Md_found_26 {G : sm_G} {b : Nat} {M0 : sm_M} {bc bs : Nat} {R : Int32 × wd} : ∀ (M : sm_M) (w : wd) (x1 : Int32) (x2 : Int32), lo_in G md_L b M0 M w → fn_Md_found_26 w x1 x2 = some R → sm_W G mf_Md_found 26 [(0, .ref (b + 0)), (1, .int x1), (2, .int x2)] [] M bc bs (wd_Q G md_L b M0 (some (.int R.1)) R.2) := by
  intro M w x1 x2 hI  hf
  unfold fn_Md_found_26 at hf
  refine sm_iconst (v := 1) d_Md_found_26 (by decide) ?_
  refine sm_goto (tgt := 31) d_Md_found_27 (by decide) ?_
  exact sm_pick [0, 1, 2] (w_Md_found_31 _ _ _ _ _ hI hf) rfl

def fn_Md_found_30 (w : wd) (x1 : Int32) (x2 : Int32) : Option (Int32 × wd) := fn_Md_found_31 w x1 x2 false
set_option maxHeartbeats 1600000 in
set_option maxRecDepth 100000 in
theorem w_Md_found_30 {G : sm_G} {b : Nat} {M0 : sm_M} {bc bs : Nat} {R : Int32 × wd} : ∀ (M : sm_M) (w : wd) (x1 : Int32) (x2 : Int32), lo_in G md_L b M0 M w → fn_Md_found_30 w x1 x2 = some R → sm_W G mf_Md_found 30 [(0, .ref (b + 0)), (1, .int x1), (2, .int x2)] [] M bc bs (wd_Q G md_L b M0 (some (.int R.1)) R.2) := by
  intro M w x1 x2 hI  hf
  unfold fn_Md_found_30 at hf
  refine sm_iconst (v := 0) d_Md_found_30 (by decide) ?_
  exact sm_pick [0, 1, 2] (w_Md_found_31 _ _ _ _ _ hI hf) rfl

def fn_Md_found (w : wd) (x1 : Int32) (x2 : Int32) : Option (Int32 × wd) := (if x1 = (-1 : Int32) then fn_Md_found_26 w x1 x2 else (if x1 < 0 then fn_Md_found_30 w x1 x2 else (if (w 0 28) ≤ x1 then fn_Md_found_30 w x1 x2 else (if x2 < 0 then fn_Md_found_30 w x1 x2 else (if (4 : Int32) < x2 then fn_Md_found_30 w x1 x2 else fn_Md_found_26 w x1 x2)))))
set_option maxHeartbeats 1600000 in
set_option maxRecDepth 100000 in
theorem c_Md_found {G : sm_G} {b : Nat} {M0 M : sm_M}  {w : wd}  (hI : lo_in G md_L b M0 M w)  (x1 : Int32) (x2 : Int32)  {R : Int32 × wd} (hf : fn_Md_found w x1 x2 = some R) : sm_C G mf_Md_found [.ref (b + 0), .int x1, .int x2] M 0 0 (wd_Q G md_L b M (some (.int R.1)) R.2) := by
  unfold fn_Md_found at hf
  have hI := hI.here
  refine sm_ofW rfl (Nat.le_of_ble_eq_true rfl) ?_
  refine sm_iload_n d_Md_found_0 rfl (j := 1) rfl ?_
  refine sm_iconst (v := -1) d_Md_found_1 (by decide) ?_
  refine sm_icmp_eq (tgt := 26) d_Md_found_2 (by decide) (fun h1 => ?_) (fun h1 => ?_)
  · rw [if_pos h1] at hf
    exact sm_pick [0, 1, 2] (w_Md_found_26 _ _ _ _ hI hf) rfl
  · rw [if_neg h1] at hf
    refine sm_iload_n d_Md_found_5 rfl (j := 1) rfl ?_
    refine sm_if_lt (tgt := 30) d_Md_found_6 (by decide) (fun h17 => ?_) (fun h17 => ?_)
    · rw [if_pos h17] at hf
      exact sm_pick [0, 1, 2] (w_Md_found_30 _ _ _ _ hI hf) rfl
    · rw [if_neg h17] at hf
      refine sm_iload_n d_Md_found_9 rfl (j := 1) rfl ?_
      refine sm_aload_n d_Md_found_10 rfl (j := 0) rfl ?_
      refine lo_get (v := .int (w 0 28)) d_Md_found_11 fg_Md_312 hI ml_0 rfl ?_
      refine sm_icmp_ge (tgt := 30) d_Md_found_14 (by decide) (fun h18 => ?_) (fun h18 => ?_)
      · rw [if_pos h18] at hf
        exact sm_pick [0, 1, 2] (w_Md_found_30 _ _ _ _ hI hf) rfl
      · rw [if_neg h18] at hf
        refine sm_iload_n d_Md_found_17 rfl (j := 2) rfl ?_
        refine sm_if_lt (tgt := 30) d_Md_found_18 (by decide) (fun h19 => ?_) (fun h19 => ?_)
        · rw [if_pos h19] at hf
          exact sm_pick [0, 1, 2] (w_Md_found_30 _ _ _ _ hI hf) rfl
        · rw [if_neg h19] at hf
          refine sm_iload_n d_Md_found_21 rfl (j := 2) rfl ?_
          refine sm_iconst (v := 4) d_Md_found_22 (by decide) ?_
          refine sm_icmp_gt (tgt := 30) d_Md_found_23 (by decide) (fun h20 => ?_) (fun h20 => ?_)
          · rw [if_pos h20] at hf
            exact sm_pick [0, 1, 2] (w_Md_found_30 _ _ _ _ hI hf) rfl
          · rw [if_neg h20] at hf
            exact sm_pick [0, 1, 2] (w_Md_found_26 _ _ _ _ hI hf) rfl

