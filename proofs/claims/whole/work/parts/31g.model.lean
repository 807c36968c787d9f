/-! StreamMarksModel, on; written by wip/tools/model.py -/
def fn_Md_mark_34 (F : Nat) (w : wd) (x1 : Int32) (s0 : Bool) (s1 : Bool) : Option (wd) := (if (fn_Md_refuse w s1 s0).1 = true then some (fn_Md_refuse w s1 s0).2 else ((fn_Md_add F (up2 (fn_Md_refuse w s1 s0).2 0 36 ((fn_Md_refuse w s1 s0).2 0 20)) (255 : Int32) (1 : Int32)).bind fun r8 => ((fn_Md_add F r8 x1 (1 : Int32)).bind fun r12 => some (up2 (up2 r12 0 20 (r12 0 36)) 0 21 (0 : Int32)))))
set_option maxHeartbeats 1600000 in
set_option maxRecDepth 100000 in
theorem w_Md_mark_34 {G : sm_G} {b : Nat} {M0 : sm_M} {bc bs : Nat} {R : wd} {F : Nat} : ∀ (M : sm_M) (w : wd) (x1 : Int32) (s0 : Bool) (s1 : Bool), lo_in G md_L b M0 M w → fn_Md_mark_34 F w x1 s0 s1 = some R → sm_W G mf_Md_mark 34 [(0, .ref (b + 0)), (1, .int x1)] [.int (bi s0), .int (bi s1), .ref (b + 0)] M bc bs (wd_Q G md_L b M0 none R) := by
  intro M w x1 s0 s1 hI  hf
  unfold fn_Md_mark_34 at hf
  refine lo_callVm d_Md_mark_34 cs_Md_mark_106 rfl hI ml_0 (As := [.int (bi s1), .int (bi s0)]) rfl rfl (Nat.le_of_ble_eq_true rfl) (c_Md_refuse hI s1 s0) (fun M3 hI4 => ?_)
  refine sm_if_eq (tgt := 41) d_Md_mark_37 (by decide) (fun h5 => ?_) (fun h5 => ?_)
  · rw [if_neg (bi0 h5)] at hf
    refine sm_aload_n d_Md_mark_41 rfl (j := 0) rfl ?_
    refine sm_aload_n d_Md_mark_42 rfl (j := 0) rfl ?_
    refine lo_get (v := .int ((fn_Md_refuse w s1 s0).2 0 20)) d_Md_mark_43 fg_Md_174 hI4 ml_0 rfl ?_
    refine lo_put d_Md_mark_46 fp_Md_180 (by decide) hI4 ml_0 rfl (by rfl) (by rfl) (fun M6 hI7 => ?_)
    refine sm_aload_n d_Md_mark_49 rfl (j := 0) rfl ?_
    refine sm_sipush (v := 255) d_Md_mark_50 (by decide) ?_
    refine sm_iconst (v := 1) d_Md_mark_53 (by decide) ?_
    obtain ⟨r8, e9, hf⟩ := lo_bnd hf
    refine lo_callVm d_Md_mark_54 cs_Md_mark_183 rfl hI7 ml_0 (As := [.int (255 : Int32), .int (1 : Int32)]) rfl rfl (Nat.le_of_ble_eq_true rfl) (c_Md_add hI7 (255 : Int32) (1 : Int32) e9) (fun M10 hI11 => ?_)
    refine sm_aload_n d_Md_mark_57 rfl (j := 0) rfl ?_
    refine sm_iload_n d_Md_mark_58 rfl (j := 1) rfl ?_
    refine sm_iconst (v := 1) d_Md_mark_59 (by decide) ?_
    obtain ⟨r12, e13, hf⟩ := lo_bnd hf
    refine lo_callVm d_Md_mark_60 cs_Md_mark_183 rfl hI11 ml_0 (As := [.int x1, .int (1 : Int32)]) rfl rfl (Nat.le_of_ble_eq_true rfl) (c_Md_add hI11 x1 (1 : Int32) e13) (fun M14 hI15 => ?_)
    refine sm_aload_n d_Md_mark_63 rfl (j := 0) rfl ?_
    refine sm_aload_n d_Md_mark_64 rfl (j := 0) rfl ?_
    refine lo_get (v := .int (r12 0 36)) d_Md_mark_65 fg_Md_180 hI15 ml_0 rfl ?_
    refine lo_put d_Md_mark_68 fp_Md_174 (by decide) hI15 ml_0 rfl (by rfl) (by rfl) (fun M16 hI17 => ?_)
    refine sm_aload_n d_Md_mark_71 rfl (j := 0) rfl ?_
    refine sm_iconst (v := 0) d_Md_mark_72 (by decide) ?_
    refine lo_put d_Md_mark_73 fp_Md_177 (by decide) hI17 ml_0 rfl (by rfl) (by rfl) (fun M18 hI19 => ?_)
    cases hf
    refine sm_return d_Md_mark_76 rfl ?_
    exact ⟨rfl, hI19⟩
  · rw [if_pos (bi1 h5)] at hf
    cases hf
    refine sm_return d_Md_mark_40 rfl ?_
    exact ⟨rfl, hI4⟩

def fn_Md_mark_18 (F : Nat) (w : wd) (x1 : Int32) (s0 : Bool) : Option (wd) := (if ((w 0 20) + (2 : Int32)) ≤ (65536 : Int32) then fn_Md_mark_34 F w x1 false s0 else fn_Md_mark_34 F w x1 true s0)
set_option maxHeartbeats 1600000 in
set_option maxRecDepth 100000 in
theorem w_Md_mark_18 {G : sm_G} {b : Nat} {M0 : sm_M} {bc bs : Nat} {R : wd} {F : Nat} : ∀ (M : sm_M) (w : wd) (x1 : Int32) (s0 : Bool), lo_in G md_L b M0 M w → fn_Md_mark_18 F w x1 s0 = some R → sm_W G mf_Md_mark 18 [(0, .ref (b + 0)), (1, .int x1)] [.int (bi s0), .ref (b + 0)] M bc bs (wd_Q G md_L b M0 none R) := by
  intro M w x1 s0 hI  hf
  unfold fn_Md_mark_18 at hf
  refine sm_aload_n d_Md_mark_18 rfl (j := 0) rfl ?_
  refine lo_get (v := .int (w 0 20)) d_Md_mark_19 fg_Md_174 hI ml_0 rfl ?_
  refine sm_iconst (v := 2) d_Md_mark_22 (by decide) ?_
  refine sm_iadd d_Md_mark_23 ?_
  refine sm_ldc (v := 65536) d_Md_mark_24 mw_1192 ?_
  refine sm_icmp_le (tgt := 33) d_Md_mark_26 (by decide) (fun h2 => ?_) (fun h2 => ?_)
  · rw [if_pos h2] at hf
    refine sm_iconst (v := 0) d_Md_mark_33 (by decide) ?_
    exact sm_pick [0, 1] (w_Md_mark_34 _ _ _ _ _ hI hf) rfl
  · rw [if_neg h2] at hf
    refine sm_iconst (v := 1) d_Md_mark_29 (by decide) ?_
    refine sm_goto (tgt := 34) d_Md_mark_30 (by decide) ?_
    exact sm_pick [0, 1] (w_Md_mark_34 _ _ _ _ _ hI hf) rfl

def fn_Md_mark (F : Nat) (w : wd) (x1 : Int32) : Option (wd) := (if (fn_Md_in x1.toInt64 (0 : Int64) (255 : Int64)) = true then fn_Md_mark_18 F w x1 false else fn_Md_mark_18 F w x1 true)
set_option maxHeartbeats 1600000 in
set_option maxRecDepth 100000 in
theorem c_Md_mark {G : sm_G} {b : Nat} {M0 M : sm_M}  {w : wd} {F : Nat} (hI : lo_in G md_L b M0 M w)  (x1 : Int32)  {R : wd} (hf : fn_Md_mark F w x1 = some R) : sm_C G mf_Md_mark [.ref (b + 0), .int x1] M 0 0 (wd_Q G md_L b M none R) := by
  unfold fn_Md_mark at hf
  have hI := hI.here
  refine sm_ofW rfl (Nat.le_of_ble_eq_true rfl) ?_
  refine sm_aload_n d_Md_mark_0 rfl (j := 0) rfl ?_
  refine sm_iload_n d_Md_mark_1 rfl (j := 1) rfl ?_
  refine sm_i2l d_Md_mark_2 ?_
  refine sm_lconst (v := 0) d_Md_mark_3 (by decide) ?_
  refine sm_ldc2 (v := 255) d_Md_mark_4 mw_1344 ?_
  refine sm_callSp d_Md_mark_7 cs_Md_mark_122 rfl (As := [.long x1.toInt64, .long (0 : Int64), .long (255 : Int64)]) rfl rfl (Nat.le_of_ble_eq_true rfl) (c_Md_in x1.toInt64 (0 : Int64) (255 : Int64)) ?_
  refine sm_if_ne (tgt := 17) d_Md_mark_10 (by decide) (fun h1 => ?_) (fun h1 => ?_)
  · rw [if_pos (bi1 h1)] at hf
    refine sm_iconst (v := 0) d_Md_mark_17 (by decide) ?_
    exact sm_pick [0, 1] (w_Md_mark_18 _ _ _ _ hI hf) rfl
  · rw [if_neg (bi0 h1)] at hf
    refine sm_iconst (v := 1) d_Md_mark_13 (by decide) ?_
    refine sm_goto (tgt := 18) d_Md_mark_14 (by decide) ?_
    exact sm_pick [0, 1] (w_Md_mark_18 _ _ _ _ hI hf) rfl

def fn_Md_spoil_18 (w : wd) (x1 : Int32) (x2 : Int32) (s0 : Bool) : Option (wd) := (if (fn_Md_refuse w s0 false).1 = true then some (fn_Md_refuse w s0 false).2 else (if 0 ≤ x1.toInt ∧ x1.toInt < 65536 then some (up2 (up2 (fn_Md_refuse w s0 false).2 11 x1.toInt.toNat (x2 &&& (255 : Int32))) 0 21 (0 : Int32)) else none))
set_option maxHeartbeats 1600000 in
set_option maxRecDepth 100000 in
theorem w_Md_spoil_18 {G : sm_G} {b : Nat} {M0 : sm_M} {bc bs : Nat} {R : wd} : ∀ (M : sm_M) (w : wd) (x1 : Int32) (x2 : Int32) (s0 : Bool), lo_in G md_L b M0 M w → fn_Md_spoil_18 w x1 x2 s0 = some R → sm_W G mf_Md_spoil 18 [(0, .ref (b + 0)), (1, .int x1), (2, .int x2)] [.int (bi s0), .ref (b + 0)] M bc bs (wd_Q G md_L b M0 none R) := by
  intro M w x1 x2 s0 hI  hf
  unfold fn_Md_spoil_18 at hf
  refine sm_iconst (v := 0) d_Md_spoil_18 (by decide) ?_
  refine lo_callVm d_Md_spoil_19 cs_Md_spoil_106 rfl hI ml_0 (As := [.int (bi s0), .int (0 : Int32)]) rfl rfl (Nat.le_of_ble_eq_true rfl) (c_Md_refuse hI s0 false) (fun M2 hI3 => ?_)
  refine sm_if_eq (tgt := 26) d_Md_spoil_22 (by decide) (fun h4 => ?_) (fun h4 => ?_)
  · rw [if_neg (bi0 h4)] at hf
    refine sm_aload_n d_Md_spoil_26 rfl (j := 0) rfl ?_
    refine lo_get (v := .ref (b + 11)) d_Md_spoil_27 fg_Md_45 hI3 ml_0 rfl ?_
    refine sm_iload_n d_Md_spoil_30 rfl (j := 1) rfl ?_
    refine sm_iload_n d_Md_spoil_31 rfl (j := 2) rfl ?_
    refine sm_sipush (v := 255) d_Md_spoil_32 (by decide) ?_
    refine sm_iand d_Md_spoil_35 ?_
    obtain ⟨h5, hf⟩ := lo_chk hf
    refine lo_ast (j := x1.toInt.toNat) d_Md_spoil_36 hI3 ml_11 h5 rfl (fun M6 hI7 => ?_)
    refine sm_aload_n d_Md_spoil_37 rfl (j := 0) rfl ?_
    refine sm_iconst (v := 0) d_Md_spoil_38 (by decide) ?_
    refine lo_put d_Md_spoil_39 fp_Md_177 (by decide) hI7 ml_0 rfl (by rfl) (by rfl) (fun M8 hI9 => ?_)
    cases hf
    refine sm_return d_Md_spoil_42 rfl ?_
    exact ⟨rfl, hI9⟩
  · rw [if_pos (bi1 h4)] at hf
    cases hf
    refine sm_return d_Md_spoil_25 rfl ?_
    exact ⟨rfl, hI3⟩

def fn_Md_spoil_13 (w : wd) (x1 : Int32) (x2 : Int32) : Option (wd) := fn_Md_spoil_18 w x1 x2 true
set_option maxHeartbeats 1600000 in
set_option maxRecDepth 100000 in
theorem w_Md_spoil_13 {G : sm_G} {b : Nat} {M0 : sm_M} {bc bs : Nat} {R : wd} : ∀ (M : sm_M) (w : wd) (x1 : Int32) (x2 : Int32), lo_in G md_L b M0 M w → fn_Md_spoil_13 w x1 x2 = some R → sm_W G mf_Md_spoil 13 [(0, .ref (b + 0)), (1, .int x1), (2, .int x2)] [.ref (b + 0)] M bc bs (wd_Q G md_L b M0 none R) := by
  intro M w x1 x2 hI  hf
  unfold fn_Md_spoil_13 at hf
  refine sm_iconst (v := 1) d_Md_spoil_13 (by decide) ?_
  refine sm_goto (tgt := 18) d_Md_spoil_14 (by decide) ?_
  exact sm_pick [0, 1, 2] (w_Md_spoil_18 _ _ _ _ _ hI hf) rfl

def fn_Md_spoil (w : wd) (x1 : Int32) (x2 : Int32) : Option (wd) := (if x1 < 0 then fn_Md_spoil_13 w x1 x2 else (if x1 < (w 0 20) then fn_Md_spoil_18 w x1 x2 false else fn_Md_spoil_13 w x1 x2))
set_option maxHeartbeats 1600000 in
set_option maxRecDepth 100000 in
theorem c_Md_spoil {G : sm_G} {b : Nat} {M0 M : sm_M}  {w : wd}  (hI : lo_in G md_L b M0 M w)  (x1 : Int32) (x2 : Int32)  {R : wd} (hf : fn_Md_spoil w x1 x2 = some R) : sm_C G mf_Md_spoil [.ref (b + 0), .int x1, .int x2] M 0 0 (wd_Q G md_L b M none R) := by
  unfold fn_Md_spoil at hf
  have hI := hI.here
  refine sm_ofW rfl (Nat.le_of_ble_eq_true rfl) ?_
  refine sm_aload_n d_Md_spoil_0 rfl (j := 0) rfl ?_
  refine sm_iload_n d_Md_spoil_1 rfl (j := 1) rfl ?_
  refine sm_if_lt (tgt := 13) d_Md_spoil_2 (by decide) (fun h1 => ?_) (fun h1 => ?_)
  · rw [if_pos h1] at hf
    exact sm_pick [0, 1, 2] (w_Md_spoil_13 _ _ _ _ hI hf) rfl
  · rw [if_neg h1] at hf
    refine sm_iload_n d_Md_spoil_5 rfl (j := 1) rfl ?_
    refine sm_aload_n d_Md_spoil_6 rfl (j := 0) rfl ?_
    refine lo_get (v := .int (w 0 20)) d_Md_spoil_7 fg_Md_174 hI ml_0 rfl ?_
    refine sm_icmp_lt (tgt := 17) d_Md_spoil_10 (by decide) (fun h10 => ?_) (fun h10 => ?_)
    · rw [if_pos h10] at hf
      refine sm_iconst (v := 0) d_Md_spoil_17 (by decide) ?_
      exact sm_pick [0, 1, 2] (w_Md_spoil_18 _ _ _ _ _ hI hf) rfl
    · rw [if_neg h10] at hf
      exact sm_pick [0, 1, 2] (w_Md_spoil_13 _ _ _ _ hI hf) rfl

def fn_Md_u1 (w : wd) (x1 : Int32) : Option (Int32) := (if 0 ≤ x1.toInt ∧ x1.toInt < 65536 then some (w 11 x1.toInt.toNat) else none)
set_option maxHeartbeats 1600000 in
set_option maxRecDepth 100000 in
theorem c_Md_u1 {G : sm_G} {b : Nat} {M0 M : sm_M}  {w : wd}  (hI : lo_in G md_L b M0 M w)  (x1 : Int32)  {R : Int32} (hf : fn_Md_u1 w x1 = some R) : sm_C G mf_Md_u1 [.ref (b + 0), .int x1] M 0 0 (sm_pu M (.int R)) := by
  unfold fn_Md_u1 at hf
  have hI := hI.here
  refine sm_ofW rfl (Nat.le_of_ble_eq_true rfl) ?_
  refine sm_aload_n d_Md_u1_0 rfl (j := 0) rfl ?_
  refine lo_get (v := .ref (b + 11)) d_Md_u1_1 fg_Md_45 hI ml_0 rfl ?_
  refine sm_iload_n d_Md_u1_4 rfl (j := 1) rfl ?_
  obtain ⟨h1, hf⟩ := lo_chk hf
  refine lo_ald (j := x1.toInt.toNat) d_Md_u1_5 hI ml_11 h1 rfl ?_
  cases hf
  refine sm_ireturn d_Md_u1_6 rfl (by rfl) ?_
  exact ⟨rfl, rfl⟩

def fn_Md_u2 (w : wd) (x1 : Int32) : Option (Int32) := (if 0 ≤ x1.toInt ∧ x1.toInt < 65536 then (if 0 ≤ (x1 + (1 : Int32)).toInt ∧ (x1 + (1 : Int32)).toInt < 65536 then some (((w 11 x1.toInt.toNat) <<< ((8 : Int32) &&& 31)) ||| (w 11 ((x1 + (1 : Int32)).toInt.toNat))) else none) else none)
set_option maxHeartbeats 1600000 in
set_option maxRecDepth 100000 in
theorem c_Md_u2 {G : sm_G} {b : Nat} {M0 M : sm_M}  {w : wd}  (hI : lo_in G md_L b M0 M w)  (x1 : Int32)  {R : Int32} (hf : fn_Md_u2 w x1 = some R) : sm_C G mf_Md_u2 [.ref (b + 0), .int x1] M 0 0 (sm_pu M (.int R)) := by
  unfold fn_Md_u2 at hf
  have hI := hI.here
  refine sm_ofW rfl (Nat.le_of_ble_eq_true rfl) ?_
  refine sm_aload_n d_Md_u2_0 rfl (j := 0) rfl ?_
  refine lo_get (v := .ref (b + 11)) d_Md_u2_1 fg_Md_45 hI ml_0 rfl ?_
  refine sm_iload_n d_Md_u2_4 rfl (j := 1) rfl ?_
  obtain ⟨h1, hf⟩ := lo_chk hf
  refine lo_ald (j := x1.toInt.toNat) d_Md_u2_5 hI ml_11 h1 rfl ?_
  refine sm_bipush (v := 8) d_Md_u2_6 (by decide) ?_
  refine sm_ishl d_Md_u2_8 ?_
  refine sm_aload_n d_Md_u2_9 rfl (j := 0) rfl ?_
  refine lo_get (v := .ref (b + 11)) d_Md_u2_10 fg_Md_45 hI ml_0 rfl ?_
  refine sm_iload_n d_Md_u2_13 rfl (j := 1) rfl ?_
  refine sm_iconst (v := 1) d_Md_u2_14 (by decide) ?_
  refine sm_iadd d_Md_u2_15 ?_
  obtain ⟨h2, hf⟩ := lo_chk hf
  refine lo_ald (j := (x1 + (1 : Int32)).toInt.toNat) d_Md_u2_16 hI ml_11 h2 rfl ?_
  refine sm_ior d_Md_u2_17 ?_
  cases hf
  refine sm_ireturn d_Md_u2_18 rfl (by rfl) ?_
  exact ⟨rfl, rfl⟩

def fn_Md_u4 (w : wd) (x1 : Int32) : Option (Int64) := ((fn_Md_u2 w x1).bind fun r1 => ((fn_Md_u2 w (x1 + (2 : Int32))).bind fun r3 => some ((r1.toInt64 <<< ((16 : Int32).toInt64 &&& 63)) ||| r3.toInt64)))
set_option maxHeartbeats 1600000 in
set_option maxRecDepth 100000 in
theorem c_Md_u4 {G : sm_G} {b : Nat} {M0 M : sm_M}  {w : wd}  (hI : lo_in G md_L b M0 M w)  (x1 : Int32)  {R : Int64} (hf : fn_Md_u4 w x1 = some R) : sm_C G mf_Md_u4 [.ref (b + 0), .int x1] M 0 0 (sm_pu M (.long R)) := by
  unfold fn_Md_u4 at hf
  have hI := hI.here
  refine sm_ofW rfl (Nat.le_of_ble_eq_true rfl) ?_
  refine sm_aload_n d_Md_u4_0 rfl (j := 0) rfl ?_
  refine sm_iload_n d_Md_u4_1 rfl (j := 1) rfl ?_
  obtain ⟨r1, e2, hf⟩ := lo_bnd hf
  refine lo_callV d_Md_u4_2 cs_Md_u4_230 rfl hI ml_0 (As := [.int x1]) rfl rfl (Nat.le_of_ble_eq_true rfl) (c_Md_u2 hI x1 e2) ?_
  refine sm_i2l d_Md_u4_5 ?_
  refine sm_bipush (v := 16) d_Md_u4_6 (by decide) ?_
  refine sm_lshl d_Md_u4_8 ?_
  refine sm_aload_n d_Md_u4_9 rfl (j := 0) rfl ?_
  refine sm_iload_n d_Md_u4_10 rfl (j := 1) rfl ?_
  refine sm_iconst (v := 2) d_Md_u4_11 (by decide) ?_
  refine sm_iadd d_Md_u4_12 ?_
  obtain ⟨r3, e4, hf⟩ := lo_bnd hf
  refine lo_callV d_Md_u4_13 cs_Md_u4_230 rfl hI ml_0 (As := [.int (x1 + (2 : Int32))]) rfl rfl (Nat.le_of_ble_eq_true rfl) (c_Md_u2 hI (x1 + (2 : Int32)) e4) ?_
  refine sm_i2l d_Md_u4_16 ?_
  refine sm_lor d_Md_u4_17 ?_
  cases hf
  refine sm_lreturn d_Md_u4_18 rfl ?_
  exact ⟨rfl, rfl⟩

def fn_Md_no (w : wd) (x1 : Int32) (x2 : Int32) : Int32 × wd := (x1, (up2 w 0 22 x2))
set_option maxHeartbeats 1600000 in
set_option maxRecDepth 100000 in
theorem c_Md_no {G : sm_G} {b : Nat} {M0 M : sm_M}  {w : wd}  (hI : lo_in G md_L b M0 M w)  (x1 : Int32) (x2 : Int32)  : sm_C G mf_Md_no [.ref (b + 0), .int x1, .int x2] M 0 0 (wd_Q G md_L b M (some (.int (fn_Md_no w x1 x2).1)) (fn_Md_no w x1 x2).2) := by
  obtain ⟨R, hf⟩ : ∃ R, fn_Md_no w x1 x2 = R := ⟨_, rfl⟩
  rw [hf]
  unfold fn_Md_no at hf
  have hI := hI.here
  refine sm_ofW rfl (Nat.le_of_ble_eq_true rfl) ?_
  refine sm_aload_n d_Md_no_0 rfl (j := 0) rfl ?_
  refine sm_iload_n d_Md_no_1 rfl (j := 2) rfl ?_
  refine lo_put d_Md_no_2 fp_Md_48 (by decide) hI ml_0 rfl (by rfl) (by rfl) (fun M1 hI2 => ?_)
  refine sm_iload_n d_Md_no_5 rfl (j := 1) rfl ?_
  subst hf
  refine sm_ireturn d_Md_no_6 rfl (by rfl) ?_
  exact ⟨rfl, hI2⟩

def fn_Md_hasLength_12 (x0 : Int32) : Bool := (if x0 = (79 : Int32) then false else (if x0 = (146 : Int32) then false else (if x0 = (147 : Int32) then false else (if x0 = (217 : Int32) then false else true))))
set_option maxHeartbeats 1600000 in
set_option maxRecDepth 100000 in
theorem w_Md_hasLength_12 {G : sm_G} {M0 : sm_M} {bc bs : Nat} {R : Bool} : ∀ (x0 : Int32), fn_Md_hasLength_12 x0 = R → sm_W G mf_Md_hasLength 12 [(0, .int x0)] [] M0 bc bs (sm_pu M0 (.int (bi R))) := by
  intro x0   hf
  unfold fn_Md_hasLength_12 at hf
  refine sm_iload_n d_Md_hasLength_12 rfl (j := 0) rfl ?_
  refine sm_bipush (v := 79) d_Md_hasLength_13 (by decide) ?_
  refine sm_icmp_eq (tgt := 43) d_Md_hasLength_15 (by decide) (fun h2 => ?_) (fun h2 => ?_)
  · rw [if_pos h2] at hf
    refine sm_iconst (v := 0) d_Md_hasLength_43 (by decide) ?_
    subst hf
    refine sm_ireturn d_Md_hasLength_44 rfl (by rfl) ?_
    exact ⟨rfl, rfl⟩
  · rw [if_neg h2] at hf
    refine sm_iload_n d_Md_hasLength_18 rfl (j := 0) rfl ?_
    refine sm_sipush (v := 146) d_Md_hasLength_19 (by decide) ?_
    refine sm_icmp_eq (tgt := 43) d_Md_hasLength_22 (by decide) (fun h3 => ?_) (fun h3 => ?_)
    · rw [if_pos h3] at hf
      refine sm_iconst (v := 0) d_Md_hasLength_43 (by decide) ?_
      subst hf
      refine sm_ireturn d_Md_hasLength_44 rfl (by rfl) ?_
      exact ⟨rfl, rfl⟩
    · rw [if_neg h3] at hf
      refine sm_iload_n d_Md_hasLength_25 rfl (j := 0) rfl ?_
      refine sm_sipush (v := 147) d_Md_hasLength_26 (by decide) ?_
      refine sm_icmp_eq (tgt := 43) d_Md_hasLength_29 (by decide) (fun h4 => ?_) (fun h4 => ?_)
      · rw [if_pos h4] at hf
        refine sm_iconst (v := 0) d_Md_hasLength_43 (by decide) ?_
        subst hf
        refine sm_ireturn d_Md_hasLength_44 rfl (by rfl) ?_
        exact ⟨rfl, rfl⟩
      · rw [if_neg h4] at hf
        refine sm_iload_n d_Md_hasLength_32 rfl (j := 0) rfl ?_
        refine sm_sipush (v := 217) d_Md_hasLength_33 (by decide) ?_
        refine sm_icmp_eq (tgt := 43) d_Md_hasLength_36 (by decide) (fun h5 => ?_) (fun h5 => ?_)
        · rw [if_pos h5] at hf
          refine sm_iconst (v := 0) d_Md_hasLength_43 (by decide) ?_
          subst hf
          refine sm_ireturn d_Md_hasLength_44 rfl (by rfl) ?_
          exact ⟨rfl, rfl⟩
        · rw [if_neg h5] at hf
          refine sm_iconst (v := 1) d_Md_hasLength_39 (by decide) ?_
          refine sm_goto (tgt := 44) d_Md_hasLength_40 (by decide) ?_
          subst hf
          refine sm_ireturn d_Md_hasLength_44 rfl (by rfl) ?_
          exact ⟨rfl, rfl⟩

def fn_Md_hasLength (x0 : Int32) : Bool := (if x0 < (48 : Int32) then fn_Md_hasLength_12 x0 else (if x0 ≤ (63 : Int32) then false else fn_Md_hasLength_12 x0))
set_option maxHeartbeats 1600000 in
set_option maxRecDepth 100000 in
theorem c_Md_hasLength {G : sm_G} {M : sm_M}   (x0 : Int32)  : sm_C G mf_Md_hasLength [.int x0] M 0 0 (sm_pu M (.int (bi (fn_Md_hasLength x0)))) := by
  obtain ⟨R, hf⟩ : ∃ R, fn_Md_hasLength x0 = R := ⟨_, rfl⟩
  rw [hf]
  unfold fn_Md_hasLength at hf
  refine sm_ofW rfl (Nat.le_of_ble_eq_true rfl) ?_
  refine sm_iload_n d_Md_hasLength_0 rfl (j := 0) rfl ?_
  refine sm_bipush (v := 48) d_Md_hasLength_1 (by decide) ?_
  refine sm_icmp_lt (tgt := 12) d_Md_hasLength_3 (by decide) (fun h1 => ?_) (fun h1 => ?_)
  · rw [if_pos h1] at hf
    exact sm_pick [0] (w_Md_hasLength_12 _ hf) rfl
  · rw [if_neg h1] at hf
    refine sm_iload_n d_Md_hasLength_6 rfl (j := 0) rfl ?_
    refine sm_bipush (v := 63) d_Md_hasLength_7 (by decide) ?_
    refine sm_icmp_le (tgt := 43) d_Md_hasLength_9 (by decide) (fun h6 => ?_) (fun h6 => ?_)
    · rw [if_pos h6] at hf
      refine sm_iconst (v := 0) d_Md_hasLength_43 (by decide) ?_
      subst hf
      refine sm_ireturn d_Md_hasLength_44 rfl (by rfl) ?_
      exact ⟨rfl, rfl⟩
    · rw [if_neg h6] at hf
      exact sm_pick [0] (w_Md_hasLength_12 _ hf) rfl

def fn_Md_isCut (w : wd) (x1 : Int32) (x2 : Int32) : Option (Bool) := (if (x1 + (2 : Int32)) ≤ x2 then ((fn_Md_u1 w x1).bind fun r2 => (if r2 = (255 : Int32) then ((fn_Md_u1 w (x1 + (1 : Int32))).bind fun r5 => (if (fn_Md_hasLength r5) = true then (if x2 < (x1 + (4 : Int32)) then some true else ((fn_Md_u2 w (x1 + (2 : Int32))).bind fun r9 => (if ((x1 + (2 : Int32)) + r9) ≤ x2 then some false else some true))) else some false)) else some false)) else some true)
set_option maxHeartbeats 1600000 in
set_option maxRecDepth 100000 in
theorem c_Md_isCut {G : sm_G} {b : Nat} {M0 M : sm_M}  {w : wd}  (hI : lo_in G md_L b M0 M w)  (x1 : Int32) (x2 : Int32)  {R : Bool} (hf : fn_Md_isCut w x1 x2 = some R) : sm_C G mf_Md_isCut [.ref (b + 0), .int x1, .int x2] M 0 0 (sm_pu M (.int (bi R))) := by
  unfold fn_Md_isCut at hf
  have hI := hI.here
  refine sm_ofW rfl (Nat.le_of_ble_eq_true rfl) ?_
  refine sm_iload_n d_Md_isCut_0 rfl (j := 1) rfl ?_
  refine sm_iconst (v := 2) d_Md_isCut_1 (by decide) ?_
  refine sm_iadd d_Md_isCut_2 ?_
  refine sm_iload_n d_Md_isCut_3 rfl (j := 2) rfl ?_
  refine sm_icmp_le (tgt := 9) d_Md_isCut_4 (by decide) (fun h1 => ?_) (fun h1 => ?_)
  · rw [if_pos h1] at hf
    refine sm_aload_n d_Md_isCut_9 rfl (j := 0) rfl ?_
    refine sm_iload_n d_Md_isCut_10 rfl (j := 1) rfl ?_
    obtain ⟨r2, e3, hf⟩ := lo_bnd hf
    refine lo_callV d_Md_isCut_11 cs_Md_isCut_233 rfl hI ml_0 (As := [.int x1]) rfl rfl (Nat.le_of_ble_eq_true rfl) (c_Md_u1 hI x1 e3) ?_
    refine sm_sipush (v := 255) d_Md_isCut_14 (by decide) ?_
    refine sm_icmp_ne (tgt := 33) d_Md_isCut_17 (by decide) (fun h4 => ?_) (fun h4 => ?_)
    · rw [if_neg h4] at hf
      refine sm_iconst (v := 0) d_Md_isCut_33 (by decide) ?_
      cases hf
      refine sm_ireturn d_Md_isCut_34 rfl (by rfl) ?_
      exact ⟨rfl, rfl⟩
    · rw [if_pos h4] at hf
      refine sm_aload_n d_Md_isCut_20 rfl (j := 0) rfl ?_
      refine sm_iload_n d_Md_isCut_21 rfl (j := 1) rfl ?_
      refine sm_iconst (v := 1) d_Md_isCut_22 (by decide) ?_
      refine sm_iadd d_Md_isCut_23 ?_
      obtain ⟨r5, e6, hf⟩ := lo_bnd hf
      refine lo_callV d_Md_isCut_24 cs_Md_isCut_233 rfl hI ml_0 (As := [.int (x1 + (1 : Int32))]) rfl rfl (Nat.le_of_ble_eq_true rfl) (c_Md_u1 hI (x1 + (1 : Int32)) e6) ?_
      refine sm_callSp d_Md_isCut_27 cs_Md_isCut_236 rfl (As := [.int r5]) rfl rfl (Nat.le_of_ble_eq_true rfl) (c_Md_hasLength r5) ?_
      refine sm_if_ne (tgt := 35) d_Md_isCut_30 (by decide) (fun h7 => ?_) (fun h7 => ?_)
      · rw [if_pos (bi1 h7)] at hf
        refine sm_iload_n d_Md_isCut_35 rfl (j := 1) rfl ?_
        refine sm_iconst (v := 4) d_Md_isCut_36 (by decide) ?_
        refine sm_iadd d_Md_isCut_37 ?_
        refine sm_iload_n d_Md_isCut_38 rfl (j := 2) rfl ?_
        refine sm_icmp_gt (tgt := 57) d_Md_isCut_39 (by decide) (fun h8 => ?_) (fun h8 => ?_)
        · rw [if_pos h8] at hf
          refine sm_iconst (v := 1) d_Md_isCut_57 (by decide) ?_
          refine sm_goto (tgt := 62) d_Md_isCut_58 (by decide) ?_
          cases hf
          refine sm_ireturn d_Md_isCut_62 rfl (by rfl) ?_
          exact ⟨rfl, rfl⟩
        · rw [if_neg h8] at hf
          refine sm_iload_n d_Md_isCut_42 rfl (j := 1) rfl ?_
          refine sm_iconst (v := 2) d_Md_isCut_43 (by decide) ?_
          refine sm_iadd d_Md_isCut_44 ?_
          refine sm_aload_n d_Md_isCut_45 rfl (j := 0) rfl ?_
          refine sm_iload_n d_Md_isCut_46 rfl (j := 1) rfl ?_
          refine sm_iconst (v := 2) d_Md_isCut_47 (by decide) ?_
          refine sm_iadd d_Md_isCut_48 ?_
          obtain ⟨r9, e10, hf⟩ := lo_bnd hf
          refine lo_callV d_Md_isCut_49 cs_Md_isCut_230 rfl hI ml_0 (As := [.int (x1 + (2 : Int32))]) rfl rfl (Nat.le_of_ble_eq_true rfl) (c_Md_u2 hI (x1 + (2 : Int32)) e10) ?_
          refine sm_iadd d_Md_isCut_52 ?_
          refine sm_iload_n d_Md_isCut_53 rfl (j := 2) rfl ?_
          refine sm_icmp_le (tgt := 61) d_Md_isCut_54 (by decide) (fun h11 => ?_) (fun h11 => ?_)
          · rw [if_pos h11] at hf
            refine sm_iconst (v := 0) d_Md_isCut_61 (by decide) ?_
            cases hf
            refine sm_ireturn d_Md_isCut_62 rfl (by rfl) ?_
            exact ⟨rfl, rfl⟩
          · rw [if_neg h11] at hf
            refine sm_iconst (v := 1) d_Md_isCut_57 (by decide) ?_
            refine sm_goto (tgt := 62) d_Md_isCut_58 (by decide) ?_
            cases hf
            refine sm_ireturn d_Md_isCut_62 rfl (by rfl) ?_
            exact ⟨rfl, rfl⟩
      · rw [if_neg (bi0 h7)] at hf
        refine sm_iconst (v := 0) d_Md_isCut_33 (by decide) ?_
        cases hf
        refine sm_ireturn d_Md_isCut_34 rfl (by rfl) ?_
        exact ⟨rfl, rfl⟩
  · rw [if_neg h1] at hf
    refine sm_iconst (v := 1) d_Md_isCut_7 (by decide) ?_
    cases hf
    refine sm_ireturn d_Md_isCut_8 rfl (by rfl) ?_
    exact ⟨rfl, rfl⟩

def fn_Md_markAt (w : wd) (x1 : Int32) : Option (Int32) := ((fn_Md_u1 w x1).bind fun r1 => (if r1 = (255 : Int32) then ((fn_Md_u1 w (x1 + (1 : Int32))).bind fun r4 => some r4) else some (-1 : Int32)))
set_option maxHeartbeats 1600000 in
set_option maxRecDepth 100000 in
theorem c_Md_markAt {G : sm_G} {b : Nat} {M0 M : sm_M}  {w : wd}  (hI : lo_in G md_L b M0 M w)  (x1 : Int32)  {R : Int32} (hf : fn_Md_markAt w x1 = some R) : sm_C G mf_Md_markAt [.ref (b + 0), .int x1] M 0 0 (sm_pu M (.int R)) := by
  unfold fn_Md_markAt at hf
  have hI := hI.here
  refine sm_ofW rfl (Nat.le_of_ble_eq_true rfl) ?_
  refine sm_aload_n d_Md_markAt_0 rfl (j := 0) rfl ?_
  refine sm_iload_n d_Md_markAt_1 rfl (j := 1) rfl ?_
  obtain ⟨r1, e2, hf⟩ := lo_bnd hf
  refine lo_callV d_Md_markAt_2 cs_Md_markAt_233 rfl hI ml_0 (As := [.int x1]) rfl rfl (Nat.le_of_ble_eq_true rfl) (c_Md_u1 hI x1 e2) ?_
  refine sm_sipush (v := 255) d_Md_markAt_5 (by decide) ?_
  refine sm_icmp_ne (tgt := 21) d_Md_markAt_8 (by decide) (fun h3 => ?_) (fun h3 => ?_)
  · rw [if_neg h3] at hf
    refine sm_iconst (v := -1) d_Md_markAt_21 (by decide) ?_
    cases hf
    refine sm_ireturn d_Md_markAt_22 rfl (by rfl) ?_
    exact ⟨rfl, rfl⟩
  · rw [if_pos h3] at hf
    refine sm_aload_n d_Md_markAt_11 rfl (j := 0) rfl ?_
    refine sm_iload_n d_Md_markAt_12 rfl (j := 1) rfl ?_
    refine sm_iconst (v := 1) d_Md_markAt_13 (by decide) ?_
    refine sm_iadd d_Md_markAt_14 ?_
    obtain ⟨r4, e5, hf⟩ := lo_bnd hf
    refine lo_callV d_Md_markAt_15 cs_Md_markAt_233 rfl hI ml_0 (As := [.int (x1 + (1 : Int32))]) rfl rfl (Nat.le_of_ble_eq_true rfl) (c_Md_u1 hI (x1 + (1 : Int32)) e5) ?_
    refine sm_goto (tgt := 22) d_Md_markAt_18 (by decide) ?_
    cases hf
    refine sm_ireturn d_Md_markAt_22 rfl (by rfl) ?_
    exact ⟨rfl, rfl⟩

def fn_Md_mayStand (x0 : Int32) (x1 : Int32) : Bool := (if 0 ≤ x0 then (if x0 = 79 ∨ x0 = 81 ∨ x0 = 144 ∨ x0 = 146 ∨ x0 = 147 ∨ x0 = 217 then false else (if x0 = 82 ∨ x0 = 83 ∨ x0 = 92 ∨ x0 = 93 ∨ x0 = 94 ∨ x0 = 95 then (if x1 = 0 then false else true) else (if x0 = 85 ∨ x0 = 87 ∨ x0 = 96 ∨ x0 = 99 then (if 0 ≤ x1 then false else true) else (if x0 = 88 ∨ x0 = 97 then (if x1 < 0 then false else true) else true)))) else false)
set_option maxHeartbeats 1600000 in
set_option maxRecDepth 100000 in
theorem c_Md_mayStand {G : sm_G} {M : sm_M}   (x0 : Int32) (x1 : Int32)  : sm_C G mf_Md_mayStand [.int x0, .int x1] M 0 0 (sm_pu M (.int (bi (fn_Md_mayStand x0 x1)))) := by
  obtain ⟨R, hf⟩ : ∃ R, fn_Md_mayStand x0 x1 = R := ⟨_, rfl⟩
  rw [hf]
  unfold fn_Md_mayStand at hf
  refine sm_ofW rfl (Nat.le_of_ble_eq_true rfl) ?_
  refine sm_iload_n d_Md_mayStand_0 rfl (j := 0) rfl ?_
  refine sm_if_ge (tgt := 6) d_Md_mayStand_1 (by decide) (fun h1 => ?_) (fun h1 => ?_)
  · rw [if_pos h1] at hf
    refine sm_iload_n d_Md_mayStand_6 rfl (j := 0) rfl ?_
    by_cases h2 : x0 = 79 ∨ x0 = 81 ∨ x0 = 144 ∨ x0 = 146 ∨ x0 = 147 ∨ x0 = 217
    · rw [if_pos h2] at hf
      rcases h2 with h2 | h2 | h2 | h2 | h2 | h2
      · refine sm_lookup (tgt := 160) d_Md_mayStand_7 (by decide) (by rw [h2] <;> rfl) (by decide) ?_
        refine sm_iconst (v := 0) d_Md_mayStand_160 (by decide) ?_
        subst hf
        refine sm_ireturn d_Md_mayStand_161 rfl (by rfl) ?_
        exact ⟨rfl, rfl⟩
      · refine sm_lookup (tgt := 160) d_Md_mayStand_7 (by decide) (by rw [h2] <;> rfl) (by decide) ?_
        refine sm_iconst (v := 0) d_Md_mayStand_160 (by decide) ?_
        subst hf
        refine sm_ireturn d_Md_mayStand_161 rfl (by rfl) ?_
        exact ⟨rfl, rfl⟩
      · refine sm_lookup (tgt := 160) d_Md_mayStand_7 (by decide) (by rw [h2] <;> rfl) (by decide) ?_
        refine sm_iconst (v := 0) d_Md_mayStand_160 (by decide) ?_
        subst hf
        refine sm_ireturn d_Md_mayStand_161 rfl (by rfl) ?_
        exact ⟨rfl, rfl⟩
      · refine sm_lookup (tgt := 160) d_Md_mayStand_7 (by decide) (by rw [h2] <;> rfl) (by decide) ?_
        refine sm_iconst (v := 0) d_Md_mayStand_160 (by decide) ?_
        subst hf
        refine sm_ireturn d_Md_mayStand_161 rfl (by rfl) ?_
        exact ⟨rfl, rfl⟩
      · refine sm_lookup (tgt := 160) d_Md_mayStand_7 (by decide) (by rw [h2] <;> rfl) (by decide) ?_
        refine sm_iconst (v := 0) d_Md_mayStand_160 (by decide) ?_
        subst hf
        refine sm_ireturn d_Md_mayStand_161 rfl (by rfl) ?_
        exact ⟨rfl, rfl⟩
      · refine sm_lookup (tgt := 160) d_Md_mayStand_7 (by decide) (by rw [h2] <;> rfl) (by decide) ?_
        refine sm_iconst (v := 0) d_Md_mayStand_160 (by decide) ?_
        subst hf
        refine sm_ireturn d_Md_mayStand_161 rfl (by rfl) ?_
        exact ⟨rfl, rfl⟩
    · rw [if_neg h2] at hf
      by_cases h3 : x0 = 82 ∨ x0 = 83 ∨ x0 = 92 ∨ x0 = 93 ∨ x0 = 94 ∨ x0 = 95
      · rw [if_pos h3] at hf
        rcases h3 with h3 | h3 | h3 | h3 | h3 | h3
        · refine sm_lookup (tgt := 162) d_Md_mayStand_7 (by decide) (by rw [h3] <;> rfl) (by decide) ?_
          refine sm_iload_n d_Md_mayStand_162 rfl (j := 1) rfl ?_
          refine sm_if_eq (tgt := 170) d_Md_mayStand_163 (by decide) (fun h4 => ?_) (fun h4 => ?_)
          · rw [if_pos h4] at hf
            refine sm_iconst (v := 0) d_Md_mayStand_170 (by decide) ?_
            subst hf
            refine sm_ireturn d_Md_mayStand_171 rfl (by rfl) ?_
            exact ⟨rfl, rfl⟩
          · rw [if_neg h4] at hf
            refine sm_iconst (v := 1) d_Md_mayStand_166 (by decide) ?_
            refine sm_goto (tgt := 171) d_Md_mayStand_167 (by decide) ?_
            subst hf
            refine sm_ireturn d_Md_mayStand_171 rfl (by rfl) ?_
            exact ⟨rfl, rfl⟩
        · refine sm_lookup (tgt := 162) d_Md_mayStand_7 (by decide) (by rw [h3] <;> rfl) (by decide) ?_
          refine sm_iload_n d_Md_mayStand_162 rfl (j := 1) rfl ?_
          refine sm_if_eq (tgt := 170) d_Md_mayStand_163 (by decide) (fun h4 => ?_) (fun h4 => ?_)
          · rw [if_pos h4] at hf
            refine sm_iconst (v := 0) d_Md_mayStand_170 (by decide) ?_
            subst hf
            refine sm_ireturn d_Md_mayStand_171 rfl (by rfl) ?_
            exact ⟨rfl, rfl⟩
          · rw [if_neg h4] at hf
            refine sm_iconst (v := 1) d_Md_mayStand_166 (by decide) ?_
            refine sm_goto (tgt := 171) d_Md_mayStand_167 (by decide) ?_
            subst hf
            refine sm_ireturn d_Md_mayStand_171 rfl (by rfl) ?_
            exact ⟨rfl, rfl⟩
        · refine sm_lookup (tgt := 162) d_Md_mayStand_7 (by decide) (by rw [h3] <;> rfl) (by decide) ?_
          refine sm_iload_n d_Md_mayStand_162 rfl (j := 1) rfl ?_
          refine sm_if_eq (tgt := 170) d_Md_mayStand_163 (by decide) (fun h4 => ?_) (fun h4 => ?_)
          · rw [if_pos h4] at hf
            refine sm_iconst (v := 0) d_Md_mayStand_170 (by decide) ?_
            subst hf
            refine sm_ireturn d_Md_mayStand_171 rfl (by rfl) ?_
            exact ⟨rfl, rfl⟩
          · rw [if_neg h4] at hf
            refine sm_iconst (v := 1) d_Md_mayStand_166 (by decide) ?_
            refine sm_goto (tgt := 171) d_Md_mayStand_167 (by decide) ?_
            subst hf
            refine sm_ireturn d_Md_mayStand_171 rfl (by rfl) ?_
            exact ⟨rfl, rfl⟩
        · refine sm_lookup (tgt := 162) d_Md_mayStand_7 (by decide) (by rw [h3] <;> rfl) (by decide) ?_
          refine sm_iload_n d_Md_mayStand_162 rfl (j := 1) rfl ?_
          refine sm_if_eq (tgt := 170) d_Md_mayStand_163 (by decide) (fun h4 => ?_) (fun h4 => ?_)
          · rw [if_pos h4] at hf
            refine sm_iconst (v := 0) d_Md_mayStand_170 (by decide) ?_
            subst hf
            refine sm_ireturn d_Md_mayStand_171 rfl (by rfl) ?_
            exact ⟨rfl, rfl⟩
          · rw [if_neg h4] at hf
            refine sm_iconst (v := 1) d_Md_mayStand_166 (by decide) ?_
            refine sm_goto (tgt := 171) d_Md_mayStand_167 (by decide) ?_
            subst hf
            refine sm_ireturn d_Md_mayStand_171 rfl (by rfl) ?_
            exact ⟨rfl, rfl⟩
        · refine sm_lookup (tgt := 162) d_Md_mayStand_7 (by decide) (by rw [h3] <;> rfl) (by decide) ?_
          refine sm_iload_n d_Md_mayStand_162 rfl (j := 1) rfl ?_
          refine sm_if_eq (tgt := 170) d_Md_mayStand_163 (by decide) (fun h4 => ?_) (fun h4 => ?_)
          · rw [if_pos h4] at hf
            refine sm_iconst (v := 0) d_Md_mayStand_170 (by decide) ?_
            subst hf
            refine sm_ireturn d_Md_mayStand_171 rfl (by rfl) ?_
            exact ⟨rfl, rfl⟩
          · rw [if_neg h4] at hf
            refine sm_iconst (v := 1) d_Md_mayStand_166 (by decide) ?_
            refine sm_goto (tgt := 171) d_Md_mayStand_167 (by decide) ?_
            subst hf
            refine sm_ireturn d_Md_mayStand_171 rfl (by rfl) ?_
            exact ⟨rfl, rfl⟩
        · refine sm_lookup (tgt := 162) d_Md_mayStand_7 (by decide) (by rw [h3] <;> rfl) (by decide) ?_
          refine sm_iload_n d_Md_mayStand_162 rfl (j := 1) rfl ?_
          refine sm_if_eq (tgt := 170) d_Md_mayStand_163 (by decide) (fun h4 => ?_) (fun h4 => ?_)
          · rw [if_pos h4] at hf
            refine sm_iconst (v := 0) d_Md_mayStand_170 (by decide) ?_
            subst hf
            refine sm_ireturn d_Md_mayStand_171 rfl (by rfl) ?_
            exact ⟨rfl, rfl⟩
          · rw [if_neg h4] at hf
            refine sm_iconst (v := 1) d_Md_mayStand_166 (by decide) ?_
            refine sm_goto (tgt := 171) d_Md_mayStand_167 (by decide) ?_
            subst hf
            refine sm_ireturn d_Md_mayStand_171 rfl (by rfl) ?_
            exact ⟨rfl, rfl⟩
      · rw [if_neg h3] at hf
        by_cases h5 : x0 = 85 ∨ x0 = 87 ∨ x0 = 96 ∨ x0 = 99
        · rw [if_pos h5] at hf
          rcases h5 with h5 | h5 | h5 | h5
          · refine sm_lookup (tgt := 172) d_Md_mayStand_7 (by decide) (by rw [h5] <;> rfl) (by decide) ?_
            refine sm_iload_n d_Md_mayStand_172 rfl (j := 1) rfl ?_
            refine sm_if_ge (tgt := 180) d_Md_mayStand_173 (by decide) (fun h6 => ?_) (fun h6 => ?_)
            · rw [if_pos h6] at hf
              refine sm_iconst (v := 0) d_Md_mayStand_180 (by decide) ?_
              subst hf
              refine sm_ireturn d_Md_mayStand_181 rfl (by rfl) ?_
              exact ⟨rfl, rfl⟩
            · rw [if_neg h6] at hf
              refine sm_iconst (v := 1) d_Md_mayStand_176 (by decide) ?_
              refine sm_goto (tgt := 181) d_Md_mayStand_177 (by decide) ?_
              subst hf
              refine sm_ireturn d_Md_mayStand_181 rfl (by rfl) ?_
              exact ⟨rfl, rfl⟩
          · refine sm_lookup (tgt := 172) d_Md_mayStand_7 (by decide) (by rw [h5] <;> rfl) (by decide) ?_
            refine sm_iload_n d_Md_mayStand_172 rfl (j := 1) rfl ?_
            refine sm_if_ge (tgt := 180) d_Md_mayStand_173 (by decide) (fun h6 => ?_) (fun h6 => ?_)
            · rw [if_pos h6] at hf
              refine sm_iconst (v := 0) d_Md_mayStand_180 (by decide) ?_
              subst hf
              refine sm_ireturn d_Md_mayStand_181 rfl (by rfl) ?_
              exact ⟨rfl, rfl⟩
            · rw [if_neg h6] at hf
              refine sm_iconst (v := 1) d_Md_mayStand_176 (by decide) ?_
              refine sm_goto (tgt := 181) d_Md_mayStand_177 (by decide) ?_
              subst hf
              refine sm_ireturn d_Md_mayStand_181 rfl (by rfl) ?_
              exact ⟨rfl, rfl⟩
          · refine sm_lookup (tgt := 172) d_Md_mayStand_7 (by decide) (by rw [h5] <;> rfl) (by decide) ?_
            refine sm_iload_n d_Md_mayStand_172 rfl (j := 1) rfl ?_
            refine sm_if_ge (tgt := 180) d_Md_mayStand_173 (by decide) (fun h6 => ?_) (fun h6 => ?_)
            · rw [if_pos h6] at hf
              refine sm_iconst (v := 0) d_Md_mayStand_180 (by decide) ?_
              subst hf
              refine sm_ireturn d_Md_mayStand_181 rfl (by rfl) ?_
              exact ⟨rfl, rfl⟩
            · rw [if_neg h6] at hf
              refine sm_iconst (v := 1) d_Md_mayStand_176 (by decide) ?_
              refine sm_goto (tgt := 181) d_Md_mayStand_177 (by decide) ?_
              subst hf
              refine sm_ireturn d_Md_mayStand_181 rfl (by rfl) ?_
              exact ⟨rfl, rfl⟩
          · refine sm_lookup (tgt := 172) d_Md_mayStand_7 (by decide) (by rw [h5] <;> rfl) (by decide) ?_
            refine sm_iload_n d_Md_mayStand_172 rfl (j := 1) rfl ?_
            refine sm_if_ge (tgt := 180) d_Md_mayStand_173 (by decide) (fun h6 => ?_) (fun h6 => ?_)
            · rw [if_pos h6] at hf
              refine sm_iconst (v := 0) d_Md_mayStand_180 (by decide) ?_
              subst hf
              refine sm_ireturn d_Md_mayStand_181 rfl (by rfl) ?_
              exact ⟨rfl, rfl⟩
            · rw [if_neg h6] at hf
              refine sm_iconst (v := 1) d_Md_mayStand_176 (by decide) ?_
              refine sm_goto (tgt := 181) d_Md_mayStand_177 (by decide) ?_
              subst hf
              refine sm_ireturn d_Md_mayStand_181 rfl (by rfl) ?_
              exact ⟨rfl, rfl⟩
        · rw [if_neg h5] at hf
          by_cases h7 : x0 = 88 ∨ x0 = 97
          · rw [if_pos h7] at hf
            rcases h7 with h7 | h7
            · refine sm_lookup (tgt := 182) d_Md_mayStand_7 (by decide) (by rw [h7] <;> rfl) (by decide) ?_
              refine sm_iload_n d_Md_mayStand_182 rfl (j := 1) rfl ?_
              refine sm_if_lt (tgt := 190) d_Md_mayStand_183 (by decide) (fun h8 => ?_) (fun h8 => ?_)
              · rw [if_pos h8] at hf
                refine sm_iconst (v := 0) d_Md_mayStand_190 (by decide) ?_
                subst hf
                refine sm_ireturn d_Md_mayStand_191 rfl (by rfl) ?_
                exact ⟨rfl, rfl⟩
              · rw [if_neg h8] at hf
                refine sm_iconst (v := 1) d_Md_mayStand_186 (by decide) ?_
                refine sm_goto (tgt := 191) d_Md_mayStand_187 (by decide) ?_
                subst hf
                refine sm_ireturn d_Md_mayStand_191 rfl (by rfl) ?_
                exact ⟨rfl, rfl⟩
            · refine sm_lookup (tgt := 182) d_Md_mayStand_7 (by decide) (by rw [h7] <;> rfl) (by decide) ?_
              refine sm_iload_n d_Md_mayStand_182 rfl (j := 1) rfl ?_
              refine sm_if_lt (tgt := 190) d_Md_mayStand_183 (by decide) (fun h8 => ?_) (fun h8 => ?_)
              · rw [if_pos h8] at hf
                refine sm_iconst (v := 0) d_Md_mayStand_190 (by decide) ?_
                subst hf
                refine sm_ireturn d_Md_mayStand_191 rfl (by rfl) ?_
                exact ⟨rfl, rfl⟩
              · rw [if_neg h8] at hf
                refine sm_iconst (v := 1) d_Md_mayStand_186 (by decide) ?_
                refine sm_goto (tgt := 191) d_Md_mayStand_187 (by decide) ?_
                subst hf
                refine sm_ireturn d_Md_mayStand_191 rfl (by rfl) ?_
                exact ⟨rfl, rfl⟩
          · rw [if_neg h7] at hf
            refine sm_lookup (tgt := 192) d_Md_mayStand_7 (by decide) (lo_offD (List.forall_mem_cons.mpr ⟨(fun e9 => (fun e8 => h2 (Or.inl e8)) (sm_eqI.mpr (e9.symm.trans (by decide)))), List.forall_mem_cons.mpr ⟨(fun e9 => (fun e8 => h2 (Or.inr (Or.inl e8))) (sm_eqI.mpr (e9.symm.trans (by decide)))), List.forall_mem_cons.mpr ⟨(fun e9 => (fun e8 => h3 (Or.inl e8)) (sm_eqI.mpr (e9.symm.trans (by decide)))), List.forall_mem_cons.mpr ⟨(fun e9 => (fun e8 => h3 (Or.inr (Or.inl e8))) (sm_eqI.mpr (e9.symm.trans (by decide)))), List.forall_mem_cons.mpr ⟨(fun e9 => (fun e8 => h5 (Or.inl e8)) (sm_eqI.mpr (e9.symm.trans (by decide)))), List.forall_mem_cons.mpr ⟨(fun e9 => (fun e8 => h5 (Or.inr (Or.inl e8))) (sm_eqI.mpr (e9.symm.trans (by decide)))), List.forall_mem_cons.mpr ⟨(fun e9 => (fun e8 => h7 (Or.inl e8)) (sm_eqI.mpr (e9.symm.trans (by decide)))), List.forall_mem_cons.mpr ⟨(fun e9 => (fun e8 => h3 (Or.inr (Or.inr (Or.inl e8)))) (sm_eqI.mpr (e9.symm.trans (by decide)))), List.forall_mem_cons.mpr ⟨(fun e9 => (fun e8 => h3 (Or.inr (Or.inr (Or.inr (Or.inl e8))))) (sm_eqI.mpr (e9.symm.trans (by decide)))), List.forall_mem_cons.mpr ⟨(fun e9 => (fun e8 => h3 (Or.inr (Or.inr (Or.inr (Or.inr (Or.inl e8)))))) (sm_eqI.mpr (e9.symm.trans (by decide)))), List.forall_mem_cons.mpr ⟨(fun e9 => (fun e8 => h3 (Or.inr (Or.inr (Or.inr (Or.inr (Or.inr e8)))))) (sm_eqI.mpr (e9.symm.trans (by decide)))), List.forall_mem_cons.mpr ⟨(fun e9 => (fun e8 => h5 (Or.inr (Or.inr (Or.inl e8)))) (sm_eqI.mpr (e9.symm.trans (by decide)))), List.forall_mem_cons.mpr ⟨(fun e9 => (fun e8 => h7 (Or.inr e8)) (sm_eqI.mpr (e9.symm.trans (by decide)))), List.forall_mem_cons.mpr ⟨(fun e9 => (fun e8 => h5 (Or.inr (Or.inr (Or.inr e8)))) (sm_eqI.mpr (e9.symm.trans (by decide)))), List.forall_mem_cons.mpr ⟨(fun e9 => (fun e8 => h2 (Or.inr (Or.inr (Or.inl e8)))) (sm_eqI.mpr (e9.symm.trans (by decide)))), List.forall_mem_cons.mpr ⟨(fun e9 => (fun e8 => h2 (Or.inr (Or.inr (Or.inr (Or.inl e8))))) (sm_eqI.mpr (e9.symm.trans (by decide)))), List.forall_mem_cons.mpr ⟨(fun e9 => (fun e8 => h2 (Or.inr (Or.inr (Or.inr (Or.inr (Or.inl e8)))))) (sm_eqI.mpr (e9.symm.trans (by decide)))), List.forall_mem_cons.mpr ⟨(fun e9 => (fun e8 => h2 (Or.inr (Or.inr (Or.inr (Or.inr (Or.inr e8)))))) (sm_eqI.mpr (e9.symm.trans (by decide)))), List.forall_mem_nil _⟩⟩⟩⟩⟩⟩⟩⟩⟩⟩⟩⟩⟩⟩⟩⟩⟩⟩)) (by decide) ?_
            refine sm_iconst (v := 1) d_Md_mayStand_192 (by decide) ?_
            subst hf
            refine sm_ireturn d_Md_mayStand_193 rfl (by rfl) ?_
            exact ⟨rfl, rfl⟩
  · rw [if_neg h1] at hf
    refine sm_iconst (v := 0) d_Md_mayStand_4 (by decide) ?_
    subst hf
    refine sm_ireturn d_Md_mayStand_5 rfl (by rfl) ?_
    exact ⟨rfl, rfl⟩

def fn_Md_met_42 (k5 : wd → Int32 → Int32 → Int32 → Int32 → Option (Int32)) (F : Nat) (w : wd) (x1 : Int32) (x2 : Int32) (x4 : Int32) (s0 : Bool) (s1 : Int32) : Option (Int32) := k5 w x1 x2 (s1 + (bi s0)) (x4 + 1)
set_option maxHeartbeats 1600000 in
set_option maxRecDepth 100000 in
theorem w_Md_met_42 {G : sm_G} {b : Nat} {M0 : sm_M} {bc bs : Nat} {R : Int32} {F : Nat} {k5 : wd → Int32 → Int32 → Int32 → Int32 → Option (Int32)} (hk5 : ∀ (w : wd) (x1 : Int32) (x2 : Int32) (x3 : Int32) (x4 : Int32), lo_in G md_L b M0 M0 w → k5 w x1 x2 x3 x4 = some R → sm_W G mf_Md_met 5 [(0, .ref (b + 0)), (1, .int x1), (2, .int x2), (3, .int x3), (4, .int x4)] [] M0 bc bs (sm_pu M0 (.int R))) : ∀ (w : wd) (x1 : Int32) (x2 : Int32) (x4 : Int32) (s0 : Bool) (s1 : Int32), lo_in G md_L b M0 M0 w → fn_Md_met_42 k5 F w x1 x2 x4 s0 s1 = some R → sm_W G mf_Md_met 42 [(0, .ref (b + 0)), (1, .int x1), (2, .int x2), (4, .int x4)] [.int (bi s0), .int s1] M0 bc bs (sm_pu M0 (.int R)) := by
  intro w x1 x2 x4 s0 s1 hI  hf
  unfold fn_Md_met_42 at hf
  refine sm_iadd d_Md_met_42 ?_
  refine sm_istore_n d_Md_met_43 rfl (by decide) rfl ?_
  refine sm_iinc (v := (x4 + 1)) d_Md_met_44 (j := 4) rfl rfl (by decide) rfl ?_
  refine sm_goto (tgt := 5) d_Md_met_47 (by decide) ?_
  exact sm_pick [2, 3, 4, 1, 0] (hk5 _ _ _ _ _ hI hf) rfl

def fn_Md_met_41 (k5 : wd → Int32 → Int32 → Int32 → Int32 → Option (Int32)) (F : Nat) (w : wd) (x1 : Int32) (x2 : Int32) (x4 : Int32) (s0 : Int32) : Option (Int32) := fn_Md_met_42 k5 F w x1 x2 x4 false s0
set_option maxHeartbeats 1600000 in
set_option maxRecDepth 100000 in
theorem w_Md_met_41 {G : sm_G} {b : Nat} {M0 : sm_M} {bc bs : Nat} {R : Int32} {F : Nat} {k5 : wd → Int32 → Int32 → Int32 → Int32 → Option (Int32)} (hk5 : ∀ (w : wd) (x1 : Int32) (x2 : Int32) (x3 : Int32) (x4 : Int32), lo_in G md_L b M0 M0 w → k5 w x1 x2 x3 x4 = some R → sm_W G mf_Md_met 5 [(0, .ref (b + 0)), (1, .int x1), (2, .int x2), (3, .int x3), (4, .int x4)] [] M0 bc bs (sm_pu M0 (.int R))) : ∀ (w : wd) (x1 : Int32) (x2 : Int32) (x4 : Int32) (s0 : Int32), lo_in G md_L b M0 M0 w → fn_Md_met_41 k5 F w x1 x2 x4 s0 = some R → sm_W G mf_Md_met 41 [(0, .ref (b + 0)), (1, .int x1), (2, .int x2), (4, .int x4)] [.int s0] M0 bc bs (sm_pu M0 (.int R)) := by
  intro w x1 x2 x4 s0 hI  hf
  unfold fn_Md_met_41 at hf
  refine sm_iconst (v := 0) d_Md_met_41 (by decide) ?_
  exact sm_pick [0, 1, 2, 3] (w_Md_met_42 hk5 _ _ _ _ _ _ hI hf) rfl

def fn_Md_met_5 (F : Nat) : Nat → wd → Int32 → Int32 → Int32 → Int32 → Option (Int32)
 | 0, _, _, _, _, _ => none
 | n9 + 1, w, x1, x2, x3, x4 => (if (w 0 23) ≤ x4 then some x3 else (if 0 ≤ x4.toInt ∧ x4.toInt < 16500 then (if (w 12 x4.toInt.toNat) = x1 then (if 0 ≤ x4.toInt ∧ x4.toInt < 16500 then (if (w 15 x4.toInt.toNat) = x2 then fn_Md_met_42 (fn_Md_met_5 F n9) F w x1 x2 x4 true x3 else fn_Md_met_41 (fn_Md_met_5 F n9) F w x1 x2 x4 x3) else none) else fn_Md_met_41 (fn_Md_met_5 F n9) F w x1 x2 x4 x3) else none))
set_option maxHeartbeats 1600000 in
set_option maxRecDepth 100000 in
theorem w_Md_met_5 {G : sm_G} {b : Nat} {M0 : sm_M} {bc bs : Nat} {R : Int32} {F : Nat} : ∀ (n9 : Nat), ∀ (w : wd) (x1 : Int32) (x2 : Int32) (x3 : Int32) (x4 : Int32), lo_in G md_L b M0 M0 w → fn_Md_met_5 F n9 w x1 x2 x3 x4 = some R → sm_W G mf_Md_met 5 [(0, .ref (b + 0)), (1, .int x1), (2, .int x2), (3, .int x3), (4, .int x4)] [] M0 bc bs (sm_pu M0 (.int R)) := by
  intro n9
  induction n9 with
  | zero => intro w x1 x2 x3 x4 hI  hf; cases hf
  | succ n9 ih =>
    intro w x1 x2 x3 x4 hI  hf
    rw [fn_Md_met_5] at hf
    refine sm_iload d_Md_met_5 (j := 4) rfl ?_
    refine sm_aload_n d_Md_met_7 rfl (j := 0) rfl ?_
    refine lo_get (v := .int (w 0 23)) d_Md_met_8 fg_Md_239 hI ml_0 rfl ?_
    refine sm_icmp_ge (tgt := 50) d_Md_met_11 (by decide) (fun h1 => ?_) (fun h1 => ?_)
    · rw [if_pos h1] at hf
      refine sm_iload_n d_Md_met_50 rfl (j := 3) rfl ?_
      cases hf
      refine sm_ireturn d_Md_met_51 rfl (by rfl) ?_
      exact ⟨rfl, rfl⟩
    · rw [if_neg h1] at hf
      refine sm_iload_n d_Md_met_14 rfl (j := 3) rfl ?_
      refine sm_aload_n d_Md_met_15 rfl (j := 0) rfl ?_
      refine lo_get (v := .ref (b + 12)) d_Md_met_16 fg_Md_51 hI ml_0 rfl ?_
      refine sm_iload d_Md_met_19 (j := 4) rfl ?_
      obtain ⟨h2, hf⟩ := lo_chk hf
      refine lo_ald (j := x4.toInt.toNat) d_Md_met_21 hI ml_12 h2 rfl ?_
      refine sm_iload_n d_Md_met_22 rfl (j := 1) rfl ?_
      refine sm_icmp_ne (tgt := 41) d_Md_met_23 (by decide) (fun h3 => ?_) (fun h3 => ?_)
      · rw [if_neg h3] at hf
        exact sm_pick [0, 1, 2, 4] (w_Md_met_41 ih _ _ _ _ _ hI hf) rfl
      · rw [if_pos h3] at hf
        refine sm_aload_n d_Md_met_26 rfl (j := 0) rfl ?_
        refine lo_get (v := .ref (b + 15)) d_Md_met_27 fg_Md_60 hI ml_0 rfl ?_
        refine sm_iload d_Md_met_30 (j := 4) rfl ?_
        obtain ⟨h4, hf⟩ := lo_chk hf
        refine lo_ald (j := x4.toInt.toNat) d_Md_met_32 hI ml_15 h4 rfl ?_
        refine sm_iload_n d_Md_met_33 rfl (j := 2) rfl ?_
        refine sm_icmp_ne (tgt := 41) d_Md_met_34 (by decide) (fun h5 => ?_) (fun h5 => ?_)
        · rw [if_neg h5] at hf
          exact sm_pick [0, 1, 2, 4] (w_Md_met_41 ih _ _ _ _ _ hI hf) rfl
        · rw [if_pos h5] at hf
          refine sm_iconst (v := 1) d_Md_met_37 (by decide) ?_
          refine sm_goto (tgt := 42) d_Md_met_38 (by decide) ?_
          exact sm_pick [0, 1, 2, 4] (w_Md_met_42 ih _ _ _ _ _ _ hI hf) rfl

def fn_Md_met (F : Nat) (w : wd) (x1 : Int32) (x2 : Int32) : Option (Int32) := fn_Md_met_5 F F w x1 x2 (0 : Int32) (0 : Int32)
set_option maxHeartbeats 1600000 in
set_option maxRecDepth 100000 in
theorem c_Md_met {G : sm_G} {b : Nat} {M0 M : sm_M}  {w : wd} {F : Nat} (hI : lo_in G md_L b M0 M w)  (x1 : Int32) (x2 : Int32)  {R : Int32} (hf : fn_Md_met F w x1 x2 = some R) : sm_C G mf_Md_met [.ref (b + 0), .int x1, .int x2] M 0 0 (sm_pu M (.int R)) := by
  unfold fn_Md_met at hf
  have hI := hI.here
  refine sm_ofW rfl (Nat.le_of_ble_eq_true rfl) ?_
  refine sm_iconst (v := 0) d_Md_met_0 (by decide) ?_
  refine sm_istore_n d_Md_met_1 rfl (by decide) rfl ?_
  refine sm_iconst (v := 0) d_Md_met_2 (by decide) ?_
  refine sm_istore d_Md_met_3 (by decide) rfl ?_
  exact sm_pick [2, 3, 4, 1, 0] (w_Md_met_5 _ _ _ _ _ _ hI hf) rfl

def fn_Md_metOf_64 (k6 : wd → Int32 → Int32 → Int32 → Bool → Int32 → Option (Bool)) (F : Nat) (w : wd) (x1 : Int32) (x2 : Int32) (x3 : Int32) (x5 : Int32) (s0 : Bool) : Option (Bool) := k6 w x1 x2 x3 s0 (x5 + 1)
set_option maxHeartbeats 1600000 in
set_option maxRecDepth 100000 in
theorem w_Md_metOf_64 {G : sm_G} {b : Nat} {M0 : sm_M} {bc bs : Nat} {R : Bool} {F : Nat} {k6 : wd → Int32 → Int32 → Int32 → Bool → Int32 → Option (Bool)} (hk6 : ∀ (w : wd) (x1 : Int32) (x2 : Int32) (x3 : Int32) (x4 : Bool) (x5 : Int32), lo_in G md_L b M0 M0 w → k6 w x1 x2 x3 x4 x5 = some R → sm_W G mf_Md_metOf 6 [(0, .ref (b + 0)), (1, .int x1), (2, .int x2), (3, .int x3), (4, .int (bi x4)), (5, .int x5)] [] M0 bc bs (sm_pu M0 (.int (bi R)))) : ∀ (w : wd) (x1 : Int32) (x2 : Int32) (x3 : Int32) (x5 : Int32) (s0 : Bool), lo_in G md_L b M0 M0 w → fn_Md_metOf_64 k6 F w x1 x2 x3 x5 s0 = some R → sm_W G mf_Md_metOf 64 [(0, .ref (b + 0)), (1, .int x1), (2, .int x2), (3, .int x3), (5, .int x5)] [.int (bi s0)] M0 bc bs (sm_pu M0 (.int (bi R))) := by
  intro w x1 x2 x3 x5 s0 hI  hf
  unfold fn_Md_metOf_64 at hf
  refine sm_istore d_Md_metOf_64 (by decide) rfl ?_
  refine sm_iinc (v := (x5 + 1)) d_Md_metOf_66 (j := 5) rfl rfl (by decide) rfl ?_
  refine sm_goto (tgt := 6) d_Md_metOf_69 (by decide) ?_
  exact sm_pick [2, 3, 4, 5, 1, 0] (hk6 _ _ _ _ _ _ hI hf) rfl

def fn_Md_metOf_59 (k6 : wd → Int32 → Int32 → Int32 → Bool → Int32 → Option (Bool)) (F : Nat) (w : wd) (x1 : Int32) (x2 : Int32) (x3 : Int32) (x5 : Int32) : Option (Bool) := fn_Md_metOf_64 k6 F w x1 x2 x3 x5 true
set_option maxHeartbeats 1600000 in
set_option maxRecDepth 100000 in
theorem w_Md_metOf_59 {G : sm_G} {b : Nat} {M0 : sm_M} {bc bs : Nat} {R : Bool} {F : Nat} {k6 : wd → Int32 → Int32 → Int32 → Bool → Int32 → Option (Bool)} (hk6 : ∀ (w : wd) (x1 : Int32) (x2 : Int32) (x3 : Int32) (x4 : Bool) (x5 : Int32), lo_in G md_L b M0 M0 w → k6 w x1 x2 x3 x4 x5 = some R → sm_W G mf_Md_metOf 6 [(0, .ref (b + 0)), (1, .int x1), (2, .int x2), (3, .int x3), (4, .int (bi x4)), (5, .int x5)] [] M0 bc bs (sm_pu M0 (.int (bi R)))) : ∀ (w : wd) (x1 : Int32) (x2 : Int32) (x3 : Int32) (x5 : Int32), lo_in G md_L b M0 M0 w → fn_Md_metOf_59 k6 F w x1 x2 x3 x5 = some R → sm_W G mf_Md_metOf 59 [(0, .ref (b + 0)), (1, .int x1), (2, .int x2), (3, .int x3), (5, .int x5)] [] M0 bc bs (sm_pu M0 (.int (bi R))) := by
  intro w x1 x2 x3 x5 hI  hf
  unfold fn_Md_metOf_59 at hf
  refine sm_iconst (v := 1) d_Md_metOf_59 (by decide) ?_
  refine sm_goto (tgt := 64) d_Md_metOf_60 (by decide) ?_
  exact sm_pick [0, 1, 2, 3, 4] (w_Md_metOf_64 hk6 _ _ _ _ _ _ hI hf) rfl

def fn_Md_metOf_63 (k6 : wd → Int32 → Int32 → Int32 → Bool → Int32 → Option (Bool)) (F : Nat) (w : wd) (x1 : Int32) (x2 : Int32) (x3 : Int32) (x5 : Int32) : Option (Bool) := fn_Md_metOf_64 k6 F w x1 x2 x3 x5 false
set_option maxHeartbeats 1600000 in
set_option maxRecDepth 100000 in
theorem w_Md_metOf_63 {G : sm_G} {b : Nat} {M0 : sm_M} {bc bs : Nat} {R : Bool} {F : Nat} {k6 : wd → Int32 → Int32 → Int32 → Bool → Int32 → Option (Bool)} (hk6 : ∀ (w : wd) (x1 : Int32) (x2 : Int32) (x3 : Int32) (x4 : Bool) (x5 : Int32), lo_in G md_L b M0 M0 w → k6 w x1 x2 x3 x4 x5 = some R → sm_W G mf_Md_metOf 6 [(0, .ref (b + 0)), (1, .int x1), (2, .int x2), (3, .int x3), (4, .int (bi x4)), (5, .int x5)] [] M0 bc bs (sm_pu M0 (.int (bi R)))) : ∀ (w : wd) (x1 : Int32) (x2 : Int32) (x3 : Int32) (x5 : Int32), lo_in G md_L b M0 M0 w → fn_Md_metOf_63 k6 F w x1 x2 x3 x5 = some R → sm_W G mf_Md_metOf 63 [(0, .ref (b + 0)), (1, .int x1), (2, .int x2), (3, .int x3), (5, .int x5)] [] M0 bc bs (sm_pu M0 (.int (bi R))) := by
  intro w x1 x2 x3 x5 hI  hf
  unfold fn_Md_metOf_63 at hf
  refine sm_iconst (v := 0) d_Md_metOf_63 (by decide) ?_
  exact sm_pick [0, 1, 2, 3, 4] (w_Md_metOf_64 hk6 _ _ _ _ _ _ hI hf) rfl

def fn_Md_metOf_6 (F : Nat) : Nat → wd → Int32 → Int32 → Int32 → Bool → Int32 → Option (Bool)
 | 0, _, _, _, _, _, _ => none
 | n9 + 1, w, x1, x2, x3, x4, x5 => (if (w 0 23) ≤ x5 then some x4 else (if x4 = true then fn_Md_metOf_59 (fn_Md_metOf_6 F n9) F w x1 x2 x3 x5 else (if 0 ≤ x5.toInt ∧ x5.toInt < 16500 then (if (w 12 x5.toInt.toNat) = x1 then (if 0 ≤ x5.toInt ∧ x5.toInt < 16500 then (if (w 15 x5.toInt.toNat) = x2 then (if 0 ≤ x5.toInt ∧ x5.toInt < 16500 then ((fn_Md_u1 w ((w 13 x5.toInt.toNat) + (4 : Int32))).bind fun r8 => (if r8 = x3 then fn_Md_metOf_59 (fn_Md_metOf_6 F n9) F w x1 x2 x3 x5 else fn_Md_metOf_63 (fn_Md_metOf_6 F n9) F w x1 x2 x3 x5)) else none) else fn_Md_metOf_63 (fn_Md_metOf_6 F n9) F w x1 x2 x3 x5) else none) else fn_Md_metOf_63 (fn_Md_metOf_6 F n9) F w x1 x2 x3 x5) else none)))
set_option maxHeartbeats 1600000 in
set_option maxRecDepth 100000 in
theorem w_Md_metOf_6 {G : sm_G} {b : Nat} {M0 : sm_M} {bc bs : Nat} {R : Bool} {F : Nat} : ∀ (n9 : Nat), ∀ (w : wd) (x1 : Int32) (x2 : Int32) (x3 : Int32) (x4 : Bool) (x5 : Int32), lo_in G md_L b M0 M0 w → fn_Md_metOf_6 F n9 w x1 x2 x3 x4 x5 = some R → sm_W G mf_Md_metOf 6 [(0, .ref (b + 0)), (1, .int x1), (2, .int x2), (3, .int x3), (4, .int (bi x4)), (5, .int x5)] [] M0 bc bs (sm_pu M0 (.int (bi R))) := by
  intro n9
  induction n9 with
  | zero => intro w x1 x2 x3 x4 x5 hI  hf; cases hf
  | succ n9 ih =>
    intro w x1 x2 x3 x4 x5 hI  hf
    rw [fn_Md_metOf_6] at hf
    refine sm_iload d_Md_metOf_6 (j := 5) rfl ?_
    refine sm_aload_n d_Md_metOf_8 rfl (j := 0) rfl ?_
    refine lo_get (v := .int (w 0 23)) d_Md_metOf_9 fg_Md_239 hI ml_0 rfl ?_
    refine sm_icmp_ge (tgt := 72) d_Md_metOf_12 (by decide) (fun h1 => ?_) (fun h1 => ?_)
    · rw [if_pos h1] at hf
      refine sm_iload d_Md_metOf_72 (j := 4) rfl ?_
      cases hf
      refine sm_ireturn d_Md_metOf_74 rfl (bi_n _) ?_
      exact ⟨rfl, rfl⟩
    · rw [if_neg h1] at hf
      refine sm_iload d_Md_metOf_15 (j := 4) rfl ?_
      refine sm_if_ne (tgt := 59) d_Md_metOf_17 (by decide) (fun h2 => ?_) (fun h2 => ?_)
      · rw [if_pos (bi1 h2)] at hf
        exact sm_pick [0, 1, 2, 3, 5] (w_Md_metOf_59 ih _ _ _ _ _ hI hf) rfl
      · rw [if_neg (bi0 h2)] at hf
        refine sm_aload_n d_Md_metOf_20 rfl (j := 0) rfl ?_
        refine lo_get (v := .ref (b + 12)) d_Md_metOf_21 fg_Md_51 hI ml_0 rfl ?_
        refine sm_iload d_Md_metOf_24 (j := 5) rfl ?_
        obtain ⟨h3, hf⟩ := lo_chk hf
        refine lo_ald (j := x5.toInt.toNat) d_Md_metOf_26 hI ml_12 h3 rfl ?_
        refine sm_iload_n d_Md_metOf_27 rfl (j := 1) rfl ?_
        refine sm_icmp_ne (tgt := 63) d_Md_metOf_28 (by decide) (fun h4 => ?_) (fun h4 => ?_)
        · rw [if_neg h4] at hf
          exact sm_pick [0, 1, 2, 3, 5] (w_Md_metOf_63 ih _ _ _ _ _ hI hf) rfl
        · rw [if_pos h4] at hf
          refine sm_aload_n d_Md_metOf_31 rfl (j := 0) rfl ?_
          refine lo_get (v := .ref (b + 15)) d_Md_metOf_32 fg_Md_60 hI ml_0 rfl ?_
          refine sm_iload d_Md_metOf_35 (j := 5) rfl ?_
          obtain ⟨h5, hf⟩ := lo_chk hf
          refine lo_ald (j := x5.toInt.toNat) d_Md_metOf_37 hI ml_15 h5 rfl ?_
          refine sm_iload_n d_Md_metOf_38 rfl (j := 2) rfl ?_
          refine sm_icmp_ne (tgt := 63) d_Md_metOf_39 (by decide) (fun h6 => ?_) (fun h6 => ?_)
          · rw [if_neg h6] at hf
            exact sm_pick [0, 1, 2, 3, 5] (w_Md_metOf_63 ih _ _ _ _ _ hI hf) rfl
          · rw [if_pos h6] at hf
            refine sm_aload_n d_Md_metOf_42 rfl (j := 0) rfl ?_
            refine sm_aload_n d_Md_metOf_43 rfl (j := 0) rfl ?_
            refine lo_get (v := .ref (b + 13)) d_Md_metOf_44 fg_Md_54 hI ml_0 rfl ?_
            refine sm_iload d_Md_metOf_47 (j := 5) rfl ?_
            obtain ⟨h7, hf⟩ := lo_chk hf
            refine lo_ald (j := x5.toInt.toNat) d_Md_metOf_49 hI ml_13 h7 rfl ?_
            refine sm_iconst (v := 4) d_Md_metOf_50 (by decide) ?_
            refine sm_iadd d_Md_metOf_51 ?_
            obtain ⟨r8, e9, hf⟩ := lo_bnd hf
            refine lo_callV d_Md_metOf_52 cs_Md_metOf_233 rfl hI ml_0 (As := [.int ((w 13 x5.toInt.toNat) + (4 : Int32))]) rfl rfl (Nat.le_of_ble_eq_true rfl) (c_Md_u1 hI ((w 13 x5.toInt.toNat) + (4 : Int32)) e9) ?_
            refine sm_iload_n d_Md_metOf_55 rfl (j := 3) rfl ?_
            refine sm_icmp_ne (tgt := 63) d_Md_metOf_56 (by decide) (fun h10 => ?_) (fun h10 => ?_)
            · rw [if_neg h10] at hf
              exact sm_pick [0, 1, 2, 3, 5] (w_Md_metOf_63 ih _ _ _ _ _ hI hf) rfl
            · rw [if_pos h10] at hf
              exact sm_pick [0, 1, 2, 3, 5] (w_Md_metOf_59 ih _ _ _ _ _ hI hf) rfl

def fn_Md_metOf (F : Nat) (w : wd) (x1 : Int32) (x2 : Int32) (x3 : Int32) : Option (Bool) := fn_Md_metOf_6 F F w x1 x2 x3 false (0 : Int32)
set_option maxHeartbeats 1600000 in
set_option maxRecDepth 100000 in
theorem c_Md_metOf {G : sm_G} {b : Nat} {M0 M : sm_M}  {w : wd} {F : Nat} (hI : lo_in G md_L b M0 M w)  (x1 : Int32) (x2 : Int32) (x3 : Int32)  {R : Bool} (hf : fn_Md_metOf F w x1 x2 x3 = some R) : sm_C G mf_Md_metOf [.ref (b + 0), .int x1, .int x2, .int x3] M 0 0 (sm_pu M (.int (bi R))) := by
  unfold fn_Md_metOf at hf
  have hI := hI.here
  refine sm_ofW rfl (Nat.le_of_ble_eq_true rfl) ?_
  refine sm_iconst (v := 0) d_Md_metOf_0 (by decide) ?_
  refine sm_istore d_Md_metOf_1 (by decide) rfl ?_
  refine sm_iconst (v := 0) d_Md_metOf_3 (by decide) ?_
  refine sm_istore d_Md_metOf_4 (by decide) rfl ?_
  exact sm_pick [2, 3, 4, 5, 1, 0] (w_Md_metOf_6 _ _ _ _ _ _ _ hI hf) rfl

def fn_Md_fitsBody (w : wd) (x1 : Int32) (x2 : Int32) (x3 : Bool) (x4 : Int32) : Option (Bool) := (if x1 < x2 then some false else (if x3 = true then ((fn_Md_u1 w x4).bind fun r4 => (if x1 = (x2 + (r4 + (1 : Int32))) then some true else some false)) else (if x1 = (x2 + (0 : Int32)) then some true else some false)))
set_option maxHeartbeats 1600000 in
set_option maxRecDepth 100000 in
theorem c_Md_fitsBody {G : sm_G} {b : Nat} {M0 M : sm_M}  {w : wd}  (hI : lo_in G md_L b M0 M w)  (x1 : Int32) (x2 : Int32) (x3 : Bool) (x4 : Int32)  {R : Bool} (hf : fn_Md_fitsBody w x1 x2 x3 x4 = some R) : sm_C G mf_Md_fitsBody [.ref (b + 0), .int x1, .int x2, .int (bi x3), .int x4] M 0 0 (sm_pu M (.int (bi R))) := by
  unfold fn_Md_fitsBody at hf
  have hI := hI.here
  refine sm_ofW rfl (Nat.le_of_ble_eq_true rfl) ?_
  refine sm_iload_n d_Md_fitsBody_0 rfl (j := 1) rfl ?_
  refine sm_iload_n d_Md_fitsBody_1 rfl (j := 2) rfl ?_
  refine sm_icmp_lt (tgt := 31) d_Md_fitsBody_2 (by decide) (fun h1 => ?_) (fun h1 => ?_)
  · rw [if_pos h1] at hf
    refine sm_iconst (v := 0) d_Md_fitsBody_31 (by decide) ?_
    cases hf
    refine sm_ireturn d_Md_fitsBody_32 rfl (by rfl) ?_
    exact ⟨rfl, rfl⟩
  · rw [if_neg h1] at hf
    refine sm_iload_n d_Md_fitsBody_5 rfl (j := 1) rfl ?_
    refine sm_iload_n d_Md_fitsBody_6 rfl (j := 2) rfl ?_
    refine sm_iload_n d_Md_fitsBody_7 rfl (j := 3) rfl ?_
    refine sm_if_eq (tgt := 22) d_Md_fitsBody_8 (by decide) (fun h2 => ?_) (fun h2 => ?_)
    · rw [if_neg (bi0 h2)] at hf
      refine sm_iconst (v := 0) d_Md_fitsBody_22 (by decide) ?_
      refine sm_iadd d_Md_fitsBody_23 ?_
      refine sm_icmp_ne (tgt := 31) d_Md_fitsBody_24 (by decide) (fun h3 => ?_) (fun h3 => ?_)
      · rw [if_neg h3] at hf
        refine sm_iconst (v := 0) d_Md_fitsBody_31 (by decide) ?_
        cases hf
        refine sm_ireturn d_Md_fitsBody_32 rfl (by rfl) ?_
        exact ⟨rfl, rfl⟩
      · rw [if_pos h3] at hf
        refine sm_iconst (v := 1) d_Md_fitsBody_27 (by decide) ?_
        refine sm_goto (tgt := 32) d_Md_fitsBody_28 (by decide) ?_
        cases hf
        refine sm_ireturn d_Md_fitsBody_32 rfl (by rfl) ?_
        exact ⟨rfl, rfl⟩
    · rw [if_pos (bi1 h2)] at hf
      refine sm_aload_n d_Md_fitsBody_11 rfl (j := 0) rfl ?_
      refine sm_iload d_Md_fitsBody_12 (j := 4) rfl ?_
      obtain ⟨r4, e5, hf⟩ := lo_bnd hf
      refine lo_callV d_Md_fitsBody_14 cs_Md_fitsBody_233 rfl hI ml_0 (As := [.int x4]) rfl rfl (Nat.le_of_ble_eq_true rfl) (c_Md_u1 hI x4 e5) ?_
      refine sm_iconst (v := 1) d_Md_fitsBody_17 (by decide) ?_
      refine sm_iadd d_Md_fitsBody_18 ?_
      refine sm_goto (tgt := 23) d_Md_fitsBody_19 (by decide) ?_
      refine sm_iadd d_Md_fitsBody_23 ?_
      refine sm_icmp_ne (tgt := 31) d_Md_fitsBody_24 (by decide) (fun h6 => ?_) (fun h6 => ?_)
      · rw [if_neg h6] at hf
        refine sm_iconst (v := 0) d_Md_fitsBody_31 (by decide) ?_
        cases hf
        refine sm_ireturn d_Md_fitsBody_32 rfl (by rfl) ?_
        exact ⟨rfl, rfl⟩
      · rw [if_pos h6] at hf
        refine sm_iconst (v := 1) d_Md_fitsBody_27 (by decide) ?_
        refine sm_goto (tgt := 32) d_Md_fitsBody_28 (by decide) ?_
        cases hf
        refine sm_ireturn d_Md_fitsBody_32 rfl (by rfl) ?_
        exact ⟨rfl, rfl⟩

