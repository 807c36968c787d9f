/-! StreamMarksModel: its cells, and its methods as functions of the words; written by wip/tools/model.py -/
def md_L (a : Nat) : Option lo_T := match a with
  | 0 => some (.inr (10, [none, some 1, none, none, some 2, some 3, some 4, some 5, none, none, none, none, none, some 6, some 7, some 8, some 9, none, some 10, some 11, none, none, none, none, some 12, some 13, some 14, some 15, none, some 16, some 17, some 18, some 19, some 20, none, none, none]))
  | 1 => some (.inl 8)
  | 2 => some (.inl 16)
  | 3 => some (.inl 16)
  | 4 => some (.inl 16)
  | 5 => some (.inl 16)
  | 6 => some (.inl 128)
  | 7 => some (.inl 528)
  | 8 => some (.inl 528)
  | 9 => some (.inl 1552)
  | 10 => some (.inl 192)
  | 11 => some (.inl 65536)
  | 12 => some (.inl 16500)
  | 13 => some (.inl 16500)
  | 14 => some (.inl 16500)
  | 15 => some (.inl 16500)
  | 16 => some (.inl 256)
  | 17 => some (.inl 256)
  | 18 => some (.inl 256)
  | 19 => some (.inl 256)
  | 20 => some (.inl 256)
  | _ => none
theorem ml_0 : md_L 0 = some (.inr (10, [none, some 1, none, none, some 2, some 3, some 4, some 5, none, none, none, none, none, some 6, some 7, some 8, some 9, none, some 10, some 11, none, none, none, none, some 12, some 13, some 14, some 15, none, some 16, some 17, some 18, some 19, some 20, none, none, none])) := rfl
theorem ml_1 : md_L 1 = some (.inl 8) := rfl
theorem ml_2 : md_L 2 = some (.inl 16) := rfl
theorem ml_3 : md_L 3 = some (.inl 16) := rfl
theorem ml_4 : md_L 4 = some (.inl 16) := rfl
theorem ml_5 : md_L 5 = some (.inl 16) := rfl
theorem ml_6 : md_L 6 = some (.inl 128) := rfl
theorem ml_7 : md_L 7 = some (.inl 528) := rfl
theorem ml_8 : md_L 8 = some (.inl 528) := rfl
theorem ml_9 : md_L 9 = some (.inl 1552) := rfl
theorem ml_10 : md_L 10 = some (.inl 192) := rfl
theorem ml_11 : md_L 11 = some (.inl 65536) := rfl
theorem ml_12 : md_L 12 = some (.inl 16500) := rfl
theorem ml_13 : md_L 13 = some (.inl 16500) := rfl
theorem ml_14 : md_L 14 = some (.inl 16500) := rfl
theorem ml_15 : md_L 15 = some (.inl 16500) := rfl
theorem ml_16 : md_L 16 = some (.inl 256) := rfl
theorem ml_17 : md_L 17 = some (.inl 256) := rfl
theorem ml_18 : md_L 18 = some (.inl 256) := rfl
theorem ml_19 : md_L 19 = some (.inl 256) := rfl
theorem ml_20 : md_L 20 = some (.inl 256) := rfl
-- words: 0 0 thrown, 0 2 pictured, 0 3 components, 0 8 order, 0 9 layers, 0 10 colour, 0 11 ahead, 0 12 behind, 0 17 changes, 0 20 size, 0 21 scanned, 0 22 refusedAt, 0 23 segments, 0 28 parts, 0 34 tiles, 0 35 count, 0 36 cursor; 1 area, 2 bits, 3 signs, 4 stepX, 5 stepY, 6 codes, 7 wide, 8 high, 9 values, 10 change, 11 stream, 12 markOf, 13 placeOf, 14 lengthOf, 15 tileOf, 16 partTile, 17 partNumber, 18 partParts, 19 partData, 20 partMany
def fn_Md_thrown (w : wd) : Int32 := (w 0 0)
set_option maxHeartbeats 1600000 in
set_option maxRecDepth 100000 in
theorem c_Md_thrown {G : sm_G} {b : Nat} {M0 M : sm_M}  {w : wd}  (hI : lo_in G md_L b M0 M w)  : sm_C G mf_Md_thrown [.ref (b + 0)] M 0 0 (sm_pu M (.int (fn_Md_thrown w))) := by
  obtain ⟨R, hf⟩ : ∃ R, fn_Md_thrown w = R := ⟨_, rfl⟩
  rw [hf]
  unfold fn_Md_thrown at hf
  have hI := hI.here
  refine sm_ofW rfl (Nat.le_of_ble_eq_true rfl) ?_
  refine sm_aload_n d_Md_thrown_0 rfl (j := 0) rfl ?_
  refine lo_get (v := .int (w 0 0)) d_Md_thrown_1 fg_Md_78 hI ml_0 rfl ?_
  subst hf
  refine sm_ireturn d_Md_thrown_4 rfl (by rfl) ?_
  exact ⟨rfl, rfl⟩

def fn_Md_refuse_18 (w : wd) (s0 : Int32) : Bool × wd := (if ((up2 w 0 0 s0) 0 0) ≤ 0 then (false, (up2 w 0 0 s0)) else (true, (up2 w 0 0 s0)))
set_option maxHeartbeats 1600000 in
set_option maxRecDepth 100000 in
theorem w_Md_refuse_18 {G : sm_G} {b : Nat} {M0 : sm_M} {bc bs : Nat} {R : Bool × wd} : ∀ (M : sm_M) (w : wd) (s0 : Int32), lo_in G md_L b M0 M w → fn_Md_refuse_18 w s0 = R → sm_W G mf_Md_refuse 18 [(0, .ref (b + 0))] [.int s0, .ref (b + 0)] M bc bs (wd_Q G md_L b M0 (some (.int (bi R.1))) R.2) := by
  intro M w s0 hI  hf
  unfold fn_Md_refuse_18 at hf
  refine lo_put d_Md_refuse_18 fp_Md_78 (by decide) hI ml_0 rfl (by rfl) (by rfl) (fun M3 hI4 => ?_)
  refine sm_aload_n d_Md_refuse_21 rfl (j := 0) rfl ?_
  refine lo_get (v := .int ((up2 w 0 0 s0) 0 0)) d_Md_refuse_22 fg_Md_78 hI4 ml_0 rfl ?_
  refine sm_if_le (tgt := 32) d_Md_refuse_25 (by decide) (fun h5 => ?_) (fun h5 => ?_)
  · rw [if_pos h5] at hf
    refine sm_iconst (v := 0) d_Md_refuse_32 (by decide) ?_
    subst hf
    refine sm_ireturn d_Md_refuse_33 rfl (by rfl) ?_
    exact ⟨rfl, hI4⟩
  · rw [if_neg h5] at hf
    refine sm_iconst (v := 1) d_Md_refuse_28 (by decide) ?_
    refine sm_goto (tgt := 33) d_Md_refuse_29 (by decide) ?_
    subst hf
    refine sm_ireturn d_Md_refuse_33 rfl (by rfl) ?_
    exact ⟨rfl, hI4⟩

def fn_Md_refuse (w : wd) (x1 : Bool) (x2 : Bool) : Bool × wd := (if x1 = true then fn_Md_refuse_18 w (1 : Int32) else (if x2 = true then fn_Md_refuse_18 w (2 : Int32) else fn_Md_refuse_18 w (0 : Int32)))
set_option maxHeartbeats 1600000 in
set_option maxRecDepth 100000 in
theorem c_Md_refuse {G : sm_G} {b : Nat} {M0 M : sm_M}  {w : wd}  (hI : lo_in G md_L b M0 M w)  (x1 : Bool) (x2 : Bool)  : sm_C G mf_Md_refuse [.ref (b + 0), .int (bi x1), .int (bi x2)] M 0 0 (wd_Q G md_L b M (some (.int (bi (fn_Md_refuse w x1 x2).1))) (fn_Md_refuse w x1 x2).2) := by
  obtain ⟨R, hf⟩ : ∃ R, fn_Md_refuse w x1 x2 = R := ⟨_, rfl⟩
  rw [hf]
  unfold fn_Md_refuse at hf
  have hI := hI.here
  refine sm_ofW rfl (Nat.le_of_ble_eq_true rfl) ?_
  refine sm_aload_n d_Md_refuse_0 rfl (j := 0) rfl ?_
  refine sm_iload_n d_Md_refuse_1 rfl (j := 1) rfl ?_
  refine sm_if_eq (tgt := 9) d_Md_refuse_2 (by decide) (fun h1 => ?_) (fun h1 => ?_)
  · rw [if_neg (bi0 h1)] at hf
    refine sm_iload_n d_Md_refuse_9 rfl (j := 2) rfl ?_
    refine sm_if_eq (tgt := 17) d_Md_refuse_10 (by decide) (fun h2 => ?_) (fun h2 => ?_)
    · rw [if_neg (bi0 h2)] at hf
      refine sm_iconst (v := 0) d_Md_refuse_17 (by decide) ?_
      exact sm_pick [0] (w_Md_refuse_18 _ _ _ hI hf) rfl
    · rw [if_pos (bi1 h2)] at hf
      refine sm_iconst (v := 2) d_Md_refuse_13 (by decide) ?_
      refine sm_goto (tgt := 18) d_Md_refuse_14 (by decide) ?_
      exact sm_pick [0] (w_Md_refuse_18 _ _ _ hI hf) rfl
  · rw [if_pos (bi1 h1)] at hf
    refine sm_iconst (v := 1) d_Md_refuse_5 (by decide) ?_
    refine sm_goto (tgt := 18) d_Md_refuse_6 (by decide) ?_
    exact sm_pick [0] (w_Md_refuse_18 _ _ _ hI hf) rfl

def fn_Md_in (x0 : Int64) (x2 : Int64) (x4 : Int64) : Bool := (if x0 < x2 then false else (if x4 < x0 then false else true))
set_option maxHeartbeats 1600000 in
set_option maxRecDepth 100000 in
theorem c_Md_in {G : sm_G} {M : sm_M}   (x0 : Int64) (x2 : Int64) (x4 : Int64)  : sm_C G mf_Md_in [.long x0, .long x2, .long x4] M 0 0 (sm_pu M (.int (bi (fn_Md_in x0 x2 x4)))) := by
  obtain ⟨R, hf⟩ : ∃ R, fn_Md_in x0 x2 x4 = R := ⟨_, rfl⟩
  rw [hf]
  unfold fn_Md_in at hf
  refine sm_ofW rfl (Nat.le_of_ble_eq_true rfl) ?_
  refine sm_lload_n d_Md_in_0 rfl (j := 0) rfl ?_
  refine sm_lload_n d_Md_in_1 rfl (j := 1) rfl ?_
  refine sm_lcmp d_Md_in_2 ?_
  refine sm_if_lt (tgt := 17) d_Md_in_3 (by decide) (fun h1 => ?_) (fun h1 => ?_)
  · rw [if_pos ((lg_cmp_lt _ _).mp h1)] at hf
    refine sm_iconst (v := 0) d_Md_in_17 (by decide) ?_
    subst hf
    refine sm_ireturn d_Md_in_18 rfl (by rfl) ?_
    exact ⟨rfl, rfl⟩
  · rw [if_neg (mt (lg_cmp_lt _ _).mpr h1)] at hf
    refine sm_lload_n d_Md_in_6 rfl (j := 0) rfl ?_
    refine sm_lload d_Md_in_7 (j := 2) rfl ?_
    refine sm_lcmp d_Md_in_9 ?_
    refine sm_if_gt (tgt := 17) d_Md_in_10 (by decide) (fun h2 => ?_) (fun h2 => ?_)
    · rw [if_pos ((lg_cmp_gt _ _).mp h2)] at hf
      refine sm_iconst (v := 0) d_Md_in_17 (by decide) ?_
      subst hf
      refine sm_ireturn d_Md_in_18 rfl (by rfl) ?_
      exact ⟨rfl, rfl⟩
    · rw [if_neg (mt (lg_cmp_gt _ _).mpr h2)] at hf
      refine sm_iconst (v := 1) d_Md_in_13 (by decide) ?_
      refine sm_goto (tgt := 18) d_Md_in_14 (by decide) ?_
      subst hf
      refine sm_ireturn d_Md_in_18 rfl (by rfl) ?_
      exact ⟨rfl, rfl⟩

def fn_Md_empty_2 (F : Nat) : Nat → wd → Int32 → Option (wd)
 | 0, _, _ => none
 | n9 + 1, w, x1 => (if (8 : Int32) ≤ x1 then some (up2 (up2 (up2 (up2 (up2 (up2 (up2 (up2 w 0 2 (0 : Int32)) 0 3 (0 : Int32)) 0 8 (0 : Int32)) 0 9 (1 : Int32)) 0 10 (0 : Int32)) 0 11 (0 : Int32)) 0 12 (0 : Int32)) 0 17 (0 : Int32)) else (if 0 ≤ x1.toInt ∧ x1.toInt < 8 then fn_Md_empty_2 F n9 (up2 w 1 x1.toInt.toNat (0 : Int32)) (x1 + 1) else none))
set_option maxHeartbeats 1600000 in
set_option maxRecDepth 100000 in
theorem w_Md_empty_2 {G : sm_G} {b : Nat} {M0 : sm_M} {bc bs : Nat} {R : wd} {F : Nat} : ∀ (n9 : Nat), ∀ (M : sm_M) (w : wd) (x1 : Int32), lo_in G md_L b M0 M w → fn_Md_empty_2 F n9 w x1 = some R → sm_W G mf_Md_empty 2 [(0, .ref (b + 0)), (1, .int x1)] [] M bc bs (wd_Q G md_L b M0 none R) := by
  intro n9
  induction n9 with
  | zero => intro M w x1 hI  hf; cases hf
  | succ n9 ih =>
    intro M w x1 hI  hf
    rw [fn_Md_empty_2] at hf
    refine sm_iload_n d_Md_empty_2 rfl (j := 1) rfl ?_
    refine sm_bipush (v := 8) d_Md_empty_3 (by decide) ?_
    refine sm_icmp_ge (tgt := 21) d_Md_empty_5 (by decide) (fun h1 => ?_) (fun h1 => ?_)
    · rw [if_pos h1] at hf
      refine sm_aload_n d_Md_empty_21 rfl (j := 0) rfl ?_
      refine sm_iconst (v := 0) d_Md_empty_22 (by decide) ?_
      refine lo_put d_Md_empty_23 fp_Md_84 (by decide) hI ml_0 rfl (by rfl) (by rfl) (fun M2 hI3 => ?_)
      refine sm_aload_n d_Md_empty_26 rfl (j := 0) rfl ?_
      refine sm_iconst (v := 0) d_Md_empty_27 (by decide) ?_
      refine lo_put d_Md_empty_28 fp_Md_88 (by decide) hI3 ml_0 rfl (by rfl) (by rfl) (fun M4 hI5 => ?_)
      refine sm_aload_n d_Md_empty_31 rfl (j := 0) rfl ?_
      refine sm_iconst (v := 0) d_Md_empty_32 (by decide) ?_
      refine lo_put d_Md_empty_33 fp_Md_91 (by decide) hI5 ml_0 rfl (by rfl) (by rfl) (fun M6 hI7 => ?_)
      refine sm_aload_n d_Md_empty_36 rfl (j := 0) rfl ?_
      refine sm_iconst (v := 1) d_Md_empty_37 (by decide) ?_
      refine lo_put d_Md_empty_38 fp_Md_25 (by decide) hI7 ml_0 rfl (by rfl) (by rfl) (fun M8 hI9 => ?_)
      refine sm_aload_n d_Md_empty_41 rfl (j := 0) rfl ?_
      refine sm_iconst (v := 0) d_Md_empty_42 (by decide) ?_
      refine lo_put d_Md_empty_43 fp_Md_94 (by decide) hI9 ml_0 rfl (by rfl) (by rfl) (fun M10 hI11 => ?_)
      refine sm_aload_n d_Md_empty_46 rfl (j := 0) rfl ?_
      refine sm_iconst (v := 0) d_Md_empty_47 (by decide) ?_
      refine lo_put d_Md_empty_48 fp_Md_97 (by decide) hI11 ml_0 rfl (by rfl) (by rfl) (fun M12 hI13 => ?_)
      refine sm_aload_n d_Md_empty_51 rfl (j := 0) rfl ?_
      refine sm_iconst (v := 0) d_Md_empty_52 (by decide) ?_
      refine lo_put d_Md_empty_53 fp_Md_100 (by decide) hI13 ml_0 rfl (by rfl) (by rfl) (fun M14 hI15 => ?_)
      refine sm_aload_n d_Md_empty_56 rfl (j := 0) rfl ?_
      refine sm_iconst (v := 0) d_Md_empty_57 (by decide) ?_
      refine lo_put d_Md_empty_58 fp_Md_103 (by decide) hI15 ml_0 rfl (by rfl) (by rfl) (fun M16 hI17 => ?_)
      cases hf
      refine sm_return d_Md_empty_61 rfl ?_
      exact ⟨rfl, hI17⟩
    · rw [if_neg h1] at hf
      refine sm_aload_n d_Md_empty_8 rfl (j := 0) rfl ?_
      refine lo_get (v := .ref (b + 1)) d_Md_empty_9 fg_Md_7 hI ml_0 rfl ?_
      refine sm_iload_n d_Md_empty_12 rfl (j := 1) rfl ?_
      refine sm_iconst (v := 0) d_Md_empty_13 (by decide) ?_
      obtain ⟨h18, hf⟩ := lo_chk hf
      refine lo_ast (j := x1.toInt.toNat) d_Md_empty_14 hI ml_1 h18 rfl (fun M19 hI20 => ?_)
      refine sm_iinc (v := (x1 + 1)) d_Md_empty_15 (j := 1) rfl rfl (by decide) rfl ?_
      refine sm_goto (tgt := 2) d_Md_empty_18 (by decide) ?_
      exact sm_pick [1, 0] (ih _ _ _ hI20 hf) rfl

def fn_Md_empty (F : Nat) (w : wd) : Option (wd) := fn_Md_empty_2 F F w (0 : Int32)
set_option maxHeartbeats 1600000 in
set_option maxRecDepth 100000 in
theorem c_Md_empty {G : sm_G} {b : Nat} {M0 M : sm_M}  {w : wd} {F : Nat} (hI : lo_in G md_L b M0 M w)  {R : wd} (hf : fn_Md_empty F w = some R) : sm_C G mf_Md_empty [.ref (b + 0)] M 0 0 (wd_Q G md_L b M none R) := by
  unfold fn_Md_empty at hf
  have hI := hI.here
  refine sm_ofW rfl (Nat.le_of_ble_eq_true rfl) ?_
  refine sm_iconst (v := 0) d_Md_empty_0 (by decide) ?_
  refine sm_istore_n d_Md_empty_1 rfl (by decide) rfl ?_
  exact sm_pick [1, 0] (w_Md_empty_2 _ _ _ _ hI hf) rfl

def fn_Md_plan (F : Nat) (w : wd) : Option (wd) := ((fn_Md_empty F (up2 w 0 0 (0 : Int32))).bind fun r3 => some r3)
set_option maxHeartbeats 1600000 in
set_option maxRecDepth 100000 in
theorem c_Md_plan {G : sm_G} {b : Nat} {M0 M : sm_M}  {w : wd} {F : Nat} (hI : lo_in G md_L b M0 M w)  {R : wd} (hf : fn_Md_plan F w = some R) : sm_C G mf_Md_plan [.ref (b + 0)] M 0 0 (wd_Q G md_L b M none R) := by
  unfold fn_Md_plan at hf
  have hI := hI.here
  refine sm_ofW rfl (Nat.le_of_ble_eq_true rfl) ?_
  refine sm_aload_n d_Md_plan_0 rfl (j := 0) rfl ?_
  refine sm_iconst (v := 0) d_Md_plan_1 (by decide) ?_
  refine lo_put d_Md_plan_2 fp_Md_78 (by decide) hI ml_0 rfl (by rfl) (by rfl) (fun M1 hI2 => ?_)
  refine sm_aload_n d_Md_plan_5 rfl (j := 0) rfl ?_
  obtain ⟨r3, e4, hf⟩ := lo_bnd hf
  refine lo_callVm d_Md_plan_6 cs_Md_plan_81 rfl hI2 ml_0 (As := []) rfl rfl (Nat.le_of_ble_eq_true rfl) (c_Md_empty hI2 e4) (fun M5 hI6 => ?_)
  cases hf
  refine sm_return d_Md_plan_9 rfl ?_
  exact ⟨rfl, hI6⟩

def fn_Md_picture_25 (w : wd) (x1 : Int32) (x2 : Int32) (x3 : Int32) (x4 : Int32) (s0 : Bool) : wd := (if (fn_Md_refuse w s0 false).1 = true then (fn_Md_refuse w s0 false).2 else (up2 (up2 (up2 (up2 (up2 (up2 (up2 (up2 (up2 (fn_Md_refuse w s0 false).2 0 2 (1 : Int32)) 1 0 x1) 1 1 x2) 1 2 x3) 1 3 x4) 1 4 (0 : Int32)) 1 5 (0 : Int32)) 1 6 x3) 1 7 x4))
set_option maxHeartbeats 1600000 in
set_option maxRecDepth 100000 in
theorem w_Md_picture_25 {G : sm_G} {b : Nat} {M0 : sm_M} {bc bs : Nat} {R : wd} : ∀ (M : sm_M) (w : wd) (x1 : Int32) (x2 : Int32) (x3 : Int32) (x4 : Int32) (s0 : Bool), lo_in G md_L b M0 M w → fn_Md_picture_25 w x1 x2 x3 x4 s0 = R → sm_W G mf_Md_picture 25 [(0, .ref (b + 0)), (1, .int x1), (2, .int x2), (3, .int x3), (4, .int x4)] [.int (bi s0), .ref (b + 0)] M bc bs (wd_Q G md_L b M0 none R) := by
  intro M w x1 x2 x3 x4 s0 hI  hf
  unfold fn_Md_picture_25 at hf
  refine sm_iconst (v := 0) d_Md_picture_25 (by decide) ?_
  refine lo_callVm d_Md_picture_26 cs_Md_picture_106 rfl hI ml_0 (As := [.int (bi s0), .int (0 : Int32)]) rfl rfl (Nat.le_of_ble_eq_true rfl) (c_Md_refuse hI s0 false) (fun M2 hI3 => ?_)
  refine sm_if_eq (tgt := 33) d_Md_picture_29 (by decide) (fun h4 => ?_) (fun h4 => ?_)
  · rw [if_neg (bi0 h4)] at hf
    refine sm_aload_n d_Md_picture_33 rfl (j := 0) rfl ?_
    refine sm_iconst (v := 1) d_Md_picture_34 (by decide) ?_
    refine lo_put d_Md_picture_35 fp_Md_84 (by decide) hI3 ml_0 rfl (by rfl) (by rfl) (fun M5 hI6 => ?_)
    refine sm_aload_n d_Md_picture_38 rfl (j := 0) rfl ?_
    refine lo_get (v := .ref (b + 1)) d_Md_picture_39 fg_Md_7 hI6 ml_0 rfl ?_
    refine sm_iconst (v := 0) d_Md_picture_42 (by decide) ?_
    refine sm_iload_n d_Md_picture_43 rfl (j := 1) rfl ?_
    refine lo_ast (j := 0) d_Md_picture_44 hI6 ml_1 (by decide) rfl (fun M7 hI8 => ?_)
    refine sm_aload_n d_Md_picture_45 rfl (j := 0) rfl ?_
    refine lo_get (v := .ref (b + 1)) d_Md_picture_46 fg_Md_7 hI8 ml_0 rfl ?_
    refine sm_iconst (v := 1) d_Md_picture_49 (by decide) ?_
    refine sm_iload_n d_Md_picture_50 rfl (j := 2) rfl ?_
    refine lo_ast (j := 1) d_Md_picture_51 hI8 ml_1 (by decide) rfl (fun M9 hI10 => ?_)
    refine sm_aload_n d_Md_picture_52 rfl (j := 0) rfl ?_
    refine lo_get (v := .ref (b + 1)) d_Md_picture_53 fg_Md_7 hI10 ml_0 rfl ?_
    refine sm_iconst (v := 2) d_Md_picture_56 (by decide) ?_
    refine sm_iload_n d_Md_picture_57 rfl (j := 3) rfl ?_
    refine lo_ast (j := 2) d_Md_picture_58 hI10 ml_1 (by decide) rfl (fun M11 hI12 => ?_)
    refine sm_aload_n d_Md_picture_59 rfl (j := 0) rfl ?_
    refine lo_get (v := .ref (b + 1)) d_Md_picture_60 fg_Md_7 hI12 ml_0 rfl ?_
    refine sm_iconst (v := 3) d_Md_picture_63 (by decide) ?_
    refine sm_iload d_Md_picture_64 (j := 4) rfl ?_
    refine lo_ast (j := 3) d_Md_picture_66 hI12 ml_1 (by decide) rfl (fun M13 hI14 => ?_)
    refine sm_aload_n d_Md_picture_67 rfl (j := 0) rfl ?_
    refine lo_get (v := .ref (b + 1)) d_Md_picture_68 fg_Md_7 hI14 ml_0 rfl ?_
    refine sm_iconst (v := 4) d_Md_picture_71 (by decide) ?_
    refine sm_iconst (v := 0) d_Md_picture_72 (by decide) ?_
    refine lo_ast (j := 4) d_Md_picture_73 hI14 ml_1 (by decide) rfl (fun M15 hI16 => ?_)
    refine sm_aload_n d_Md_picture_74 rfl (j := 0) rfl ?_
    refine lo_get (v := .ref (b + 1)) d_Md_picture_75 fg_Md_7 hI16 ml_0 rfl ?_
    refine sm_iconst (v := 5) d_Md_picture_78 (by decide) ?_
    refine sm_iconst (v := 0) d_Md_picture_79 (by decide) ?_
    refine lo_ast (j := 5) d_Md_picture_80 hI16 ml_1 (by decide) rfl (fun M17 hI18 => ?_)
    refine sm_aload_n d_Md_picture_81 rfl (j := 0) rfl ?_
    refine lo_get (v := .ref (b + 1)) d_Md_picture_82 fg_Md_7 hI18 ml_0 rfl ?_
    refine sm_bipush (v := 6) d_Md_picture_85 (by decide) ?_
    refine sm_iload_n d_Md_picture_87 rfl (j := 3) rfl ?_
    refine lo_ast (j := 6) d_Md_picture_88 hI18 ml_1 (by decide) rfl (fun M19 hI20 => ?_)
    refine sm_aload_n d_Md_picture_89 rfl (j := 0) rfl ?_
    refine lo_get (v := .ref (b + 1)) d_Md_picture_90 fg_Md_7 hI20 ml_0 rfl ?_
    refine sm_bipush (v := 7) d_Md_picture_93 (by decide) ?_
    refine sm_iload d_Md_picture_95 (j := 4) rfl ?_
    refine lo_ast (j := 7) d_Md_picture_97 hI20 ml_1 (by decide) rfl (fun M21 hI22 => ?_)
    subst hf
    refine sm_return d_Md_picture_98 rfl ?_
    exact ⟨rfl, hI22⟩
  · rw [if_pos (bi1 h4)] at hf
    subst hf
    refine sm_return d_Md_picture_32 rfl ?_
    exact ⟨rfl, hI3⟩

def fn_Md_picture_20 (w : wd) (x1 : Int32) (x2 : Int32) (x3 : Int32) (x4 : Int32) : wd := fn_Md_picture_25 w x1 x2 x3 x4 true
set_option maxHeartbeats 1600000 in
set_option maxRecDepth 100000 in
theorem w_Md_picture_20 {G : sm_G} {b : Nat} {M0 : sm_M} {bc bs : Nat} {R : wd} : ∀ (M : sm_M) (w : wd) (x1 : Int32) (x2 : Int32) (x3 : Int32) (x4 : Int32), lo_in G md_L b M0 M w → fn_Md_picture_20 w x1 x2 x3 x4 = R → sm_W G mf_Md_picture 20 [(0, .ref (b + 0)), (1, .int x1), (2, .int x2), (3, .int x3), (4, .int x4)] [.ref (b + 0)] M bc bs (wd_Q G md_L b M0 none R) := by
  intro M w x1 x2 x3 x4 hI  hf
  unfold fn_Md_picture_20 at hf
  refine sm_iconst (v := 1) d_Md_picture_20 (by decide) ?_
  refine sm_goto (tgt := 25) d_Md_picture_21 (by decide) ?_
  exact sm_pick [0, 1, 2, 3, 4] (w_Md_picture_25 _ _ _ _ _ _ _ hI hf) rfl

def fn_Md_picture (w : wd) (x1 : Int32) (x2 : Int32) (x3 : Int32) (x4 : Int32) : wd := (if x1 < 0 then fn_Md_picture_20 w x1 x2 x3 x4 else (if x2 < 0 then fn_Md_picture_20 w x1 x2 x3 x4 else (if x3 ≤ x1 then fn_Md_picture_20 w x1 x2 x3 x4 else (if x2 < x4 then fn_Md_picture_25 w x1 x2 x3 x4 false else fn_Md_picture_20 w x1 x2 x3 x4))))
set_option maxHeartbeats 1600000 in
set_option maxRecDepth 100000 in
theorem c_Md_picture {G : sm_G} {b : Nat} {M0 M : sm_M}  {w : wd}  (hI : lo_in G md_L b M0 M w)  (x1 : Int32) (x2 : Int32) (x3 : Int32) (x4 : Int32)  : sm_C G mf_Md_picture [.ref (b + 0), .int x1, .int x2, .int x3, .int x4] M 0 0 (wd_Q G md_L b M none (fn_Md_picture w x1 x2 x3 x4)) := by
  obtain ⟨R, hf⟩ : ∃ R, fn_Md_picture w x1 x2 x3 x4 = R := ⟨_, rfl⟩
  rw [hf]
  unfold fn_Md_picture at hf
  have hI := hI.here
  refine sm_ofW rfl (Nat.le_of_ble_eq_true rfl) ?_
  refine sm_aload_n d_Md_picture_0 rfl (j := 0) rfl ?_
  refine sm_iload_n d_Md_picture_1 rfl (j := 1) rfl ?_
  refine sm_if_lt (tgt := 20) d_Md_picture_2 (by decide) (fun h1 => ?_) (fun h1 => ?_)
  · rw [if_pos h1] at hf
    exact sm_pick [0, 1, 2, 3, 4] (w_Md_picture_20 _ _ _ _ _ _ hI hf) rfl
  · rw [if_neg h1] at hf
    refine sm_iload_n d_Md_picture_5 rfl (j := 2) rfl ?_
    refine sm_if_lt (tgt := 20) d_Md_picture_6 (by decide) (fun h23 => ?_) (fun h23 => ?_)
    · rw [if_pos h23] at hf
      exact sm_pick [0, 1, 2, 3, 4] (w_Md_picture_20 _ _ _ _ _ _ hI hf) rfl
    · rw [if_neg h23] at hf
      refine sm_iload_n d_Md_picture_9 rfl (j := 3) rfl ?_
      refine sm_iload_n d_Md_picture_10 rfl (j := 1) rfl ?_
      refine sm_icmp_le (tgt := 20) d_Md_picture_11 (by decide) (fun h24 => ?_) (fun h24 => ?_)
      · rw [if_pos h24] at hf
        exact sm_pick [0, 1, 2, 3, 4] (w_Md_picture_20 _ _ _ _ _ _ hI hf) rfl
      · rw [if_neg h24] at hf
        refine sm_iload d_Md_picture_14 (j := 4) rfl ?_
        refine sm_iload_n d_Md_picture_16 rfl (j := 2) rfl ?_
        refine sm_icmp_gt (tgt := 24) d_Md_picture_17 (by decide) (fun h25 => ?_) (fun h25 => ?_)
        · rw [if_pos h25] at hf
          refine sm_iconst (v := 0) d_Md_picture_24 (by decide) ?_
          exact sm_pick [0, 1, 2, 3, 4] (w_Md_picture_25 _ _ _ _ _ _ _ hI hf) rfl
        · rw [if_neg h25] at hf
          exact sm_pick [0, 1, 2, 3, 4] (w_Md_picture_20 _ _ _ _ _ _ hI hf) rfl

def fn_Md_lie (x0 : Int64) (x2 : Int64) (x4 : Int64) (x6 : Int64) (x8 : Int64) (x10 : Int64) : Bool := (if x4 < (0 : Int64) then false else (if x6 < (0 : Int64) then false else (if x8 < (1 : Int64) then false else (if x10 < (1 : Int64) then false else (if x0 < x4 then false else (if x2 < x6 then false else (if (x4 + x8) ≤ x0 then false else (if (x6 + x10) ≤ x2 then false else true))))))))
set_option maxHeartbeats 1600000 in
set_option maxRecDepth 100000 in
theorem c_Md_lie {G : sm_G} {M : sm_M}   (x0 : Int64) (x2 : Int64) (x4 : Int64) (x6 : Int64) (x8 : Int64) (x10 : Int64)  : sm_C G mf_Md_lie [.long x0, .long x2, .long x4, .long x6, .long x8, .long x10] M 0 0 (sm_pu M (.int (bi (fn_Md_lie x0 x2 x4 x6 x8 x10)))) := by
  obtain ⟨R, hf⟩ : ∃ R, fn_Md_lie x0 x2 x4 x6 x8 x10 = R := ⟨_, rfl⟩
  rw [hf]
  unfold fn_Md_lie at hf
  refine sm_ofW rfl (Nat.le_of_ble_eq_true rfl) ?_
  refine sm_lload d_Md_lie_0 (j := 2) rfl ?_
  refine sm_lconst (v := 0) d_Md_lie_2 (by decide) ?_
  refine sm_lcmp d_Md_lie_3 ?_
  refine sm_if_lt (tgt := 66) d_Md_lie_4 (by decide) (fun h1 => ?_) (fun h1 => ?_)
  · rw [if_pos ((lg_cmp_lt _ _).mp h1)] at hf
    refine sm_iconst (v := 0) d_Md_lie_66 (by decide) ?_
    subst hf
    refine sm_ireturn d_Md_lie_67 rfl (by rfl) ?_
    exact ⟨rfl, rfl⟩
  · rw [if_neg (mt (lg_cmp_lt _ _).mpr h1)] at hf
    refine sm_lload d_Md_lie_7 (j := 3) rfl ?_
    refine sm_lconst (v := 0) d_Md_lie_9 (by decide) ?_
    refine sm_lcmp d_Md_lie_10 ?_
    refine sm_if_lt (tgt := 66) d_Md_lie_11 (by decide) (fun h2 => ?_) (fun h2 => ?_)
    · rw [if_pos ((lg_cmp_lt _ _).mp h2)] at hf
      refine sm_iconst (v := 0) d_Md_lie_66 (by decide) ?_
      subst hf
      refine sm_ireturn d_Md_lie_67 rfl (by rfl) ?_
      exact ⟨rfl, rfl⟩
    · rw [if_neg (mt (lg_cmp_lt _ _).mpr h2)] at hf
      refine sm_lload d_Md_lie_14 (j := 4) rfl ?_
      refine sm_lconst (v := 1) d_Md_lie_16 (by decide) ?_
      refine sm_lcmp d_Md_lie_17 ?_
      refine sm_if_lt (tgt := 66) d_Md_lie_18 (by decide) (fun h3 => ?_) (fun h3 => ?_)
      · rw [if_pos ((lg_cmp_lt _ _).mp h3)] at hf
        refine sm_iconst (v := 0) d_Md_lie_66 (by decide) ?_
        subst hf
        refine sm_ireturn d_Md_lie_67 rfl (by rfl) ?_
        exact ⟨rfl, rfl⟩
      · rw [if_neg (mt (lg_cmp_lt _ _).mpr h3)] at hf
        refine sm_lload d_Md_lie_21 (j := 5) rfl ?_
        refine sm_lconst (v := 1) d_Md_lie_23 (by decide) ?_
        refine sm_lcmp d_Md_lie_24 ?_
        refine sm_if_lt (tgt := 66) d_Md_lie_25 (by decide) (fun h4 => ?_) (fun h4 => ?_)
        · rw [if_pos ((lg_cmp_lt _ _).mp h4)] at hf
          refine sm_iconst (v := 0) d_Md_lie_66 (by decide) ?_
          subst hf
          refine sm_ireturn d_Md_lie_67 rfl (by rfl) ?_
          exact ⟨rfl, rfl⟩
        · rw [if_neg (mt (lg_cmp_lt _ _).mpr h4)] at hf
          refine sm_lload d_Md_lie_28 (j := 2) rfl ?_
          refine sm_lload_n d_Md_lie_30 rfl (j := 0) rfl ?_
          refine sm_lcmp d_Md_lie_31 ?_
          refine sm_if_gt (tgt := 66) d_Md_lie_32 (by decide) (fun h5 => ?_) (fun h5 => ?_)
          · rw [if_pos ((lg_cmp_gt _ _).mp h5)] at hf
            refine sm_iconst (v := 0) d_Md_lie_66 (by decide) ?_
            subst hf
            refine sm_ireturn d_Md_lie_67 rfl (by rfl) ?_
            exact ⟨rfl, rfl⟩
          · rw [if_neg (mt (lg_cmp_gt _ _).mpr h5)] at hf
            refine sm_lload d_Md_lie_35 (j := 3) rfl ?_
            refine sm_lload_n d_Md_lie_37 rfl (j := 1) rfl ?_
            refine sm_lcmp d_Md_lie_38 ?_
            refine sm_if_gt (tgt := 66) d_Md_lie_39 (by decide) (fun h6 => ?_) (fun h6 => ?_)
            · rw [if_pos ((lg_cmp_gt _ _).mp h6)] at hf
              refine sm_iconst (v := 0) d_Md_lie_66 (by decide) ?_
              subst hf
              refine sm_ireturn d_Md_lie_67 rfl (by rfl) ?_
              exact ⟨rfl, rfl⟩
            · rw [if_neg (mt (lg_cmp_gt _ _).mpr h6)] at hf
              refine sm_lload d_Md_lie_42 (j := 2) rfl ?_
              refine sm_lload d_Md_lie_44 (j := 4) rfl ?_
              refine sm_ladd d_Md_lie_46 ?_
              refine sm_lload_n d_Md_lie_47 rfl (j := 0) rfl ?_
              refine sm_lcmp d_Md_lie_48 ?_
              refine sm_if_le (tgt := 66) d_Md_lie_49 (by decide) (fun h7 => ?_) (fun h7 => ?_)
              · rw [if_pos ((lg_cmp_le _ _).mp h7)] at hf
                refine sm_iconst (v := 0) d_Md_lie_66 (by decide) ?_
                subst hf
                refine sm_ireturn d_Md_lie_67 rfl (by rfl) ?_
                exact ⟨rfl, rfl⟩
              · rw [if_neg (mt (lg_cmp_le _ _).mpr h7)] at hf
                refine sm_lload d_Md_lie_52 (j := 3) rfl ?_
                refine sm_lload d_Md_lie_54 (j := 5) rfl ?_
                refine sm_ladd d_Md_lie_56 ?_
                refine sm_lload_n d_Md_lie_57 rfl (j := 1) rfl ?_
                refine sm_lcmp d_Md_lie_58 ?_
                refine sm_if_le (tgt := 66) d_Md_lie_59 (by decide) (fun h8 => ?_) (fun h8 => ?_)
                · rw [if_pos ((lg_cmp_le _ _).mp h8)] at hf
                  refine sm_iconst (v := 0) d_Md_lie_66 (by decide) ?_
                  subst hf
                  refine sm_ireturn d_Md_lie_67 rfl (by rfl) ?_
                  exact ⟨rfl, rfl⟩
                · rw [if_neg (mt (lg_cmp_le _ _).mpr h8)] at hf
                  refine sm_iconst (v := 1) d_Md_lie_62 (by decide) ?_
                  refine sm_goto (tgt := 67) d_Md_lie_63 (by decide) ?_
                  subst hf
                  refine sm_ireturn d_Md_lie_67 rfl (by rfl) ?_
                  exact ⟨rfl, rfl⟩

def fn_Md_across (x0 : Int64) (x2 : Int64) (x4 : Int64) : Option (Int64) := (if ¬ x4 = 0 then some ((((x2 - x0) + x4) - (1 : Int64)) / x4) else none)
set_option maxHeartbeats 1600000 in
set_option maxRecDepth 100000 in
theorem c_Md_across {G : sm_G} {M : sm_M}   (x0 : Int64) (x2 : Int64) (x4 : Int64)  {R : Int64} (hf : fn_Md_across x0 x2 x4 = some R) : sm_C G mf_Md_across [.long x0, .long x2, .long x4] M 0 0 (sm_pu M (.long R)) := by
  unfold fn_Md_across at hf
  refine sm_ofW rfl (Nat.le_of_ble_eq_true rfl) ?_
  refine sm_lload_n d_Md_across_0 rfl (j := 1) rfl ?_
  refine sm_lload_n d_Md_across_1 rfl (j := 0) rfl ?_
  refine sm_lsub d_Md_across_2 ?_
  refine sm_lload d_Md_across_3 (j := 2) rfl ?_
  refine sm_ladd d_Md_across_5 ?_
  refine sm_lconst (v := 1) d_Md_across_6 (by decide) ?_
  refine sm_lsub d_Md_across_7 ?_
  refine sm_lload d_Md_across_8 (j := 2) rfl ?_
  obtain ⟨h1, hf⟩ := lo_chk hf
  refine sm_ldiv d_Md_across_10 h1 ?_
  cases hf
  refine sm_lreturn d_Md_across_11 rfl ?_
  exact ⟨rfl, rfl⟩

def fn_Md_tiles_163 (w : wd) (x1 : Int32) (x2 : Int32) (x3 : Int32) (x4 : Int32) (s0 : Bool) (s1 : Bool) : Option (wd) := (if (fn_Md_refuse w s1 s0).1 = true then some (fn_Md_refuse w s1 s0).2 else some (up2 (up2 (up2 (up2 (fn_Md_refuse w s1 s0).2 1 4 x1) 1 5 x2) 1 6 x3) 1 7 x4))
set_option maxHeartbeats 1600000 in
set_option maxRecDepth 100000 in
theorem w_Md_tiles_163 {G : sm_G} {b : Nat} {M0 : sm_M} {bc bs : Nat} {R : wd} : ∀ (M : sm_M) (w : wd) (x1 : Int32) (x2 : Int32) (x3 : Int32) (x4 : Int32) (s0 : Bool) (s1 : Bool), lo_in G md_L b M0 M w → fn_Md_tiles_163 w x1 x2 x3 x4 s0 s1 = some R → sm_W G mf_Md_tiles 163 [(0, .ref (b + 0)), (1, .int x1), (2, .int x2), (3, .int x3), (4, .int x4)] [.int (bi s0), .int (bi s1), .ref (b + 0)] M bc bs (wd_Q G md_L b M0 none R) := by
  intro M w x1 x2 x3 x4 s0 s1 hI  hf
  unfold fn_Md_tiles_163 at hf
  refine lo_callVm d_Md_tiles_163 cs_Md_tiles_106 rfl hI ml_0 (As := [.int (bi s1), .int (bi s0)]) rfl rfl (Nat.le_of_ble_eq_true rfl) (c_Md_refuse hI s1 s0) (fun M5 hI6 => ?_)
  refine sm_if_eq (tgt := 170) d_Md_tiles_166 (by decide) (fun h7 => ?_) (fun h7 => ?_)
  · rw [if_neg (bi0 h7)] at hf
    refine sm_aload_n d_Md_tiles_170 rfl (j := 0) rfl ?_
    refine lo_get (v := .ref (b + 1)) d_Md_tiles_171 fg_Md_7 hI6 ml_0 rfl ?_
    refine sm_iconst (v := 4) d_Md_tiles_174 (by decide) ?_
    refine sm_iload_n d_Md_tiles_175 rfl (j := 1) rfl ?_
    refine lo_ast (j := 4) d_Md_tiles_176 hI6 ml_1 (by decide) rfl (fun M8 hI9 => ?_)
    refine sm_aload_n d_Md_tiles_177 rfl (j := 0) rfl ?_
    refine lo_get (v := .ref (b + 1)) d_Md_tiles_178 fg_Md_7 hI9 ml_0 rfl ?_
    refine sm_iconst (v := 5) d_Md_tiles_181 (by decide) ?_
    refine sm_iload_n d_Md_tiles_182 rfl (j := 2) rfl ?_
    refine lo_ast (j := 5) d_Md_tiles_183 hI9 ml_1 (by decide) rfl (fun M10 hI11 => ?_)
    refine sm_aload_n d_Md_tiles_184 rfl (j := 0) rfl ?_
    refine lo_get (v := .ref (b + 1)) d_Md_tiles_185 fg_Md_7 hI11 ml_0 rfl ?_
    refine sm_bipush (v := 6) d_Md_tiles_188 (by decide) ?_
    refine sm_iload_n d_Md_tiles_190 rfl (j := 3) rfl ?_
    refine lo_ast (j := 6) d_Md_tiles_191 hI11 ml_1 (by decide) rfl (fun M12 hI13 => ?_)
    refine sm_aload_n d_Md_tiles_192 rfl (j := 0) rfl ?_
    refine lo_get (v := .ref (b + 1)) d_Md_tiles_193 fg_Md_7 hI13 ml_0 rfl ?_
    refine sm_bipush (v := 7) d_Md_tiles_196 (by decide) ?_
    refine sm_iload d_Md_tiles_198 (j := 4) rfl ?_
    refine lo_ast (j := 7) d_Md_tiles_200 hI13 ml_1 (by decide) rfl (fun M14 hI15 => ?_)
    cases hf
    refine sm_return d_Md_tiles_201 rfl ?_
    exact ⟨rfl, hI15⟩
  · rw [if_pos (bi1 h7)] at hf
    cases hf
    refine sm_return d_Md_tiles_169 rfl ?_
    exact ⟨rfl, hI6⟩

def fn_Md_tiles_158 (w : wd) (x1 : Int32) (x2 : Int32) (x3 : Int32) (x4 : Int32) (s0 : Bool) : Option (wd) := fn_Md_tiles_163 w x1 x2 x3 x4 true s0
set_option maxHeartbeats 1600000 in
set_option maxRecDepth 100000 in
theorem w_Md_tiles_158 {G : sm_G} {b : Nat} {M0 : sm_M} {bc bs : Nat} {R : wd} : ∀ (M : sm_M) (w : wd) (x1 : Int32) (x2 : Int32) (x3 : Int32) (x4 : Int32) (s0 : Bool), lo_in G md_L b M0 M w → fn_Md_tiles_158 w x1 x2 x3 x4 s0 = some R → sm_W G mf_Md_tiles 158 [(0, .ref (b + 0)), (1, .int x1), (2, .int x2), (3, .int x3), (4, .int x4)] [.int (bi s0), .ref (b + 0)] M bc bs (wd_Q G md_L b M0 none R) := by
  intro M w x1 x2 x3 x4 s0 hI  hf
  unfold fn_Md_tiles_158 at hf
  refine sm_iconst (v := 1) d_Md_tiles_158 (by decide) ?_
  refine sm_goto (tgt := 163) d_Md_tiles_159 (by decide) ?_
  exact sm_pick [0, 1, 2, 3, 4] (w_Md_tiles_163 _ _ _ _ _ _ _ _ hI hf) rfl

def fn_Md_tiles_148 (w : wd) (x1 : Int32) (x2 : Int32) (x3 : Int32) (x4 : Int32) (x5 : Bool) (x6 : Bool) (s0 : Bool) : Option (wd) := (if x5 = true then (if x6 = true then fn_Md_tiles_158 w x1 x2 x3 x4 s0 else fn_Md_tiles_163 w x1 x2 x3 x4 false s0) else fn_Md_tiles_158 w x1 x2 x3 x4 s0)
set_option maxHeartbeats 1600000 in
set_option maxRecDepth 100000 in
theorem w_Md_tiles_148 {G : sm_G} {b : Nat} {M0 : sm_M} {bc bs : Nat} {R : wd} : ∀ (M : sm_M) (w : wd) (x1 : Int32) (x2 : Int32) (x3 : Int32) (x4 : Int32) (x5 : Bool) (x6 : Bool) (s0 : Bool), lo_in G md_L b M0 M w → fn_Md_tiles_148 w x1 x2 x3 x4 x5 x6 s0 = some R → sm_W G mf_Md_tiles 148 [(0, .ref (b + 0)), (1, .int x1), (2, .int x2), (3, .int x3), (4, .int x4), (5, .int (bi x5)), (6, .int (bi x6))] [.int (bi s0), .ref (b + 0)] M bc bs (wd_Q G md_L b M0 none R) := by
  intro M w x1 x2 x3 x4 x5 x6 s0 hI  hf
  unfold fn_Md_tiles_148 at hf
  refine sm_iload d_Md_tiles_148 (j := 5) rfl ?_
  refine sm_if_eq (tgt := 158) d_Md_tiles_150 (by decide) (fun h4 => ?_) (fun h4 => ?_)
  · rw [if_neg (bi0 h4)] at hf
    exact sm_pick [0, 1, 2, 3, 4] (w_Md_tiles_158 _ _ _ _ _ _ _ hI hf) rfl
  · rw [if_pos (bi1 h4)] at hf
    refine sm_iload d_Md_tiles_153 (j := 6) rfl ?_
    refine sm_if_eq (tgt := 162) d_Md_tiles_155 (by decide) (fun h16 => ?_) (fun h16 => ?_)
    · rw [if_neg (bi0 h16)] at hf
      refine sm_iconst (v := 0) d_Md_tiles_162 (by decide) ?_
      exact sm_pick [0, 1, 2, 3, 4] (w_Md_tiles_163 _ _ _ _ _ _ _ _ hI hf) rfl
    · rw [if_pos (bi1 h16)] at hf
      exact sm_pick [0, 1, 2, 3, 4] (w_Md_tiles_158 _ _ _ _ _ _ _ hI hf) rfl

def fn_Md_tiles_133 (w : wd) (x1 : Int32) (x2 : Int32) (x3 : Int32) (x4 : Int32) (x5 : Bool) (s0 : Bool) : Option (wd) := (if (w 0 2) = 0 then fn_Md_tiles_148 w x1 x2 x3 x4 x5 s0 true else fn_Md_tiles_148 w x1 x2 x3 x4 x5 s0 false)
set_option maxHeartbeats 1600000 in
set_option maxRecDepth 100000 in
theorem w_Md_tiles_133 {G : sm_G} {b : Nat} {M0 : sm_M} {bc bs : Nat} {R : wd} : ∀ (M : sm_M) (w : wd) (x1 : Int32) (x2 : Int32) (x3 : Int32) (x4 : Int32) (x5 : Bool) (s0 : Bool), lo_in G md_L b M0 M w → fn_Md_tiles_133 w x1 x2 x3 x4 x5 s0 = some R → sm_W G mf_Md_tiles 133 [(0, .ref (b + 0)), (1, .int x1), (2, .int x2), (3, .int x3), (4, .int x4), (5, .int (bi x5))] [.int (bi s0)] M bc bs (wd_Q G md_L b M0 none R) := by
  intro M w x1 x2 x3 x4 x5 s0 hI  hf
  unfold fn_Md_tiles_133 at hf
  refine sm_istore d_Md_tiles_133 (by decide) rfl ?_
  refine sm_aload_n d_Md_tiles_135 rfl (j := 1) rfl ?_
  refine sm_aload_n d_Md_tiles_136 rfl (j := 1) rfl ?_
  refine lo_get (v := .int (w 0 2)) d_Md_tiles_137 fg_Md_84 hI ml_0 rfl ?_
  refine sm_if_ne (tgt := 147) d_Md_tiles_140 (by decide) (fun h3 => ?_) (fun h3 => ?_)
  · rw [if_neg h3] at hf
    refine sm_iconst (v := 0) d_Md_tiles_147 (by decide) ?_
    exact sm_pick [1, 2, 3, 4, 5, 6, 0] (w_Md_tiles_148 _ _ _ _ _ _ _ _ _ hI hf) rfl
  · rw [if_pos h3] at hf
    refine sm_iconst (v := 1) d_Md_tiles_143 (by decide) ?_
    refine sm_goto (tgt := 148) d_Md_tiles_144 (by decide) ?_
    exact sm_pick [1, 2, 3, 4, 5, 6, 0] (w_Md_tiles_148 _ _ _ _ _ _ _ _ _ hI hf) rfl

def fn_Md_tiles_132 (w : wd) (x1 : Int32) (x2 : Int32) (x3 : Int32) (x4 : Int32) (x5 : Bool) : Option (wd) := fn_Md_tiles_133 w x1 x2 x3 x4 x5 false
set_option maxHeartbeats 1600000 in
set_option maxRecDepth 100000 in
theorem w_Md_tiles_132 {G : sm_G} {b : Nat} {M0 : sm_M} {bc bs : Nat} {R : wd} : ∀ (M : sm_M) (w : wd) (x1 : Int32) (x2 : Int32) (x3 : Int32) (x4 : Int32) (x5 : Bool), lo_in G md_L b M0 M w → fn_Md_tiles_132 w x1 x2 x3 x4 x5 = some R → sm_W G mf_Md_tiles 132 [(0, .ref (b + 0)), (1, .int x1), (2, .int x2), (3, .int x3), (4, .int x4), (5, .int (bi x5))] [] M bc bs (wd_Q G md_L b M0 none R) := by
  intro M w x1 x2 x3 x4 x5 hI  hf
  unfold fn_Md_tiles_132 at hf
  refine sm_iconst (v := 0) d_Md_tiles_132 (by decide) ?_
  exact sm_pick [0, 1, 2, 3, 4, 5] (w_Md_tiles_133 _ _ _ _ _ _ _ _ hI hf) rfl

def fn_Md_tiles_128 (w : wd) (x1 : Int32) (x2 : Int32) (x3 : Int32) (x4 : Int32) (x5 : Bool) : Option (wd) := fn_Md_tiles_133 w x1 x2 x3 x4 x5 true
set_option maxHeartbeats 1600000 in
set_option maxRecDepth 100000 in
theorem w_Md_tiles_128 {G : sm_G} {b : Nat} {M0 : sm_M} {bc bs : Nat} {R : wd} : ∀ (M : sm_M) (w : wd) (x1 : Int32) (x2 : Int32) (x3 : Int32) (x4 : Int32) (x5 : Bool), lo_in G md_L b M0 M w → fn_Md_tiles_128 w x1 x2 x3 x4 x5 = some R → sm_W G mf_Md_tiles 128 [(0, .ref (b + 0)), (1, .int x1), (2, .int x2), (3, .int x3), (4, .int x4), (5, .int (bi x5))] [] M bc bs (wd_Q G md_L b M0 none R) := by
  intro M w x1 x2 x3 x4 x5 hI  hf
  unfold fn_Md_tiles_128 at hf
  refine sm_iconst (v := 1) d_Md_tiles_128 (by decide) ?_
  refine sm_goto (tgt := 133) d_Md_tiles_129 (by decide) ?_
  exact sm_pick [0, 1, 2, 3, 4, 5] (w_Md_tiles_133 _ _ _ _ _ _ _ _ hI hf) rfl

def fn_Md_tiles_41 (w : wd) (x1 : Int32) (x2 : Int32) (x3 : Int32) (x4 : Int32) (s0 : Bool) : Option (wd) := (if s0 = true then ((fn_Md_across x1.toInt64 ((w 1 2).toInt64) x3.toInt64).bind fun r17 => (if (64 : Int64) < r17 then fn_Md_tiles_128 w x1 x2 x3 x4 s0 else ((fn_Md_across x2.toInt64 ((w 1 3).toInt64) x4.toInt64).bind fun r20 => (if (64 : Int64) < r20 then fn_Md_tiles_128 w x1 x2 x3 x4 s0 else ((fn_Md_across x1.toInt64 ((w 1 2).toInt64) x3.toInt64).bind fun r23 => ((fn_Md_across x2.toInt64 ((w 1 3).toInt64) x4.toInt64).bind fun r25 => (if (r23 * r25) ≤ (64 : Int64) then fn_Md_tiles_132 w x1 x2 x3 x4 s0 else fn_Md_tiles_128 w x1 x2 x3 x4 s0))))))) else fn_Md_tiles_132 w x1 x2 x3 x4 s0)
set_option maxHeartbeats 1600000 in
set_option maxRecDepth 100000 in
theorem w_Md_tiles_41 {G : sm_G} {b : Nat} {M0 : sm_M} {bc bs : Nat} {R : wd} : ∀ (M : sm_M) (w : wd) (x1 : Int32) (x2 : Int32) (x3 : Int32) (x4 : Int32) (s0 : Bool), lo_in G md_L b M0 M w → fn_Md_tiles_41 w x1 x2 x3 x4 s0 = some R → sm_W G mf_Md_tiles 41 [(0, .ref (b + 0)), (1, .int x1), (2, .int x2), (3, .int x3), (4, .int x4)] [.int (bi s0)] M bc bs (wd_Q G md_L b M0 none R) := by
  intro M w x1 x2 x3 x4 s0 hI  hf
  unfold fn_Md_tiles_41 at hf
  refine sm_istore d_Md_tiles_41 (by decide) rfl ?_
  refine sm_iload d_Md_tiles_43 (j := 0) rfl ?_
  refine sm_if_eq (tgt := 132) d_Md_tiles_45 (by decide) (fun h2 => ?_) (fun h2 => ?_)
  · rw [if_neg (bi0 h2)] at hf
    exact sm_pick [1, 2, 3, 4, 5, 0] (w_Md_tiles_132 _ _ _ _ _ _ _ hI hf) rfl
  · rw [if_pos (bi1 h2)] at hf
    refine sm_iload_n d_Md_tiles_48 rfl (j := 2) rfl ?_
    refine sm_i2l d_Md_tiles_49 ?_
    refine sm_aload_n d_Md_tiles_50 rfl (j := 1) rfl ?_
    refine lo_get (v := .ref (b + 1)) d_Md_tiles_51 fg_Md_7 hI ml_0 rfl ?_
    refine sm_iconst (v := 2) d_Md_tiles_54 (by decide) ?_
    refine lo_ald (j := 2) d_Md_tiles_55 hI ml_1 (by decide) rfl ?_
    refine sm_i2l d_Md_tiles_56 ?_
    refine sm_iload_n d_Md_tiles_57 rfl (j := 4) rfl ?_
    refine sm_i2l d_Md_tiles_58 ?_
    obtain ⟨r17, e18, hf⟩ := lo_bnd hf
    refine sm_callSp d_Md_tiles_59 cs_Md_tiles_114 rfl (As := [.long x1.toInt64, .long (w 1 2).toInt64, .long x3.toInt64]) rfl rfl (Nat.le_of_ble_eq_true rfl) (c_Md_across x1.toInt64 ((w 1 2).toInt64) x3.toInt64 e18) ?_
    refine sm_ldc2 (v := 64) d_Md_tiles_62 mw_1335 ?_
    refine sm_lcmp d_Md_tiles_65 ?_
    refine sm_if_gt (tgt := 128) d_Md_tiles_66 (by decide) (fun h19 => ?_) (fun h19 => ?_)
    · rw [if_pos ((lg_cmp_gt _ _).mp h19)] at hf
      exact sm_pick [1, 2, 3, 4, 5, 0] (w_Md_tiles_128 _ _ _ _ _ _ _ hI hf) rfl
    · rw [if_neg (mt (lg_cmp_gt _ _).mpr h19)] at hf
      refine sm_iload_n d_Md_tiles_69 rfl (j := 3) rfl ?_
      refine sm_i2l d_Md_tiles_70 ?_
      refine sm_aload_n d_Md_tiles_71 rfl (j := 1) rfl ?_
      refine lo_get (v := .ref (b + 1)) d_Md_tiles_72 fg_Md_7 hI ml_0 rfl ?_
      refine sm_iconst (v := 3) d_Md_tiles_75 (by decide) ?_
      refine lo_ald (j := 3) d_Md_tiles_76 hI ml_1 (by decide) rfl ?_
      refine sm_i2l d_Md_tiles_77 ?_
      refine sm_iload d_Md_tiles_78 (j := 5) rfl ?_
      refine sm_i2l d_Md_tiles_80 ?_
      obtain ⟨r20, e21, hf⟩ := lo_bnd hf
      refine sm_callSp d_Md_tiles_81 cs_Md_tiles_114 rfl (As := [.long x2.toInt64, .long (w 1 3).toInt64, .long x4.toInt64]) rfl rfl (Nat.le_of_ble_eq_true rfl) (c_Md_across x2.toInt64 ((w 1 3).toInt64) x4.toInt64 e21) ?_
      refine sm_ldc2 (v := 64) d_Md_tiles_84 mw_1335 ?_
      refine sm_lcmp d_Md_tiles_87 ?_
      refine sm_if_gt (tgt := 128) d_Md_tiles_88 (by decide) (fun h22 => ?_) (fun h22 => ?_)
      · rw [if_pos ((lg_cmp_gt _ _).mp h22)] at hf
        exact sm_pick [1, 2, 3, 4, 5, 0] (w_Md_tiles_128 _ _ _ _ _ _ _ hI hf) rfl
      · rw [if_neg (mt (lg_cmp_gt _ _).mpr h22)] at hf
        refine sm_iload_n d_Md_tiles_91 rfl (j := 2) rfl ?_
        refine sm_i2l d_Md_tiles_92 ?_
        refine sm_aload_n d_Md_tiles_93 rfl (j := 1) rfl ?_
        refine lo_get (v := .ref (b + 1)) d_Md_tiles_94 fg_Md_7 hI ml_0 rfl ?_
        refine sm_iconst (v := 2) d_Md_tiles_97 (by decide) ?_
        refine lo_ald (j := 2) d_Md_tiles_98 hI ml_1 (by decide) rfl ?_
        refine sm_i2l d_Md_tiles_99 ?_
        refine sm_iload_n d_Md_tiles_100 rfl (j := 4) rfl ?_
        refine sm_i2l d_Md_tiles_101 ?_
        obtain ⟨r23, e24, hf⟩ := lo_bnd hf
        refine sm_callSp d_Md_tiles_102 cs_Md_tiles_114 rfl (As := [.long x1.toInt64, .long (w 1 2).toInt64, .long x3.toInt64]) rfl rfl (Nat.le_of_ble_eq_true rfl) (c_Md_across x1.toInt64 ((w 1 2).toInt64) x3.toInt64 e24) ?_
        refine sm_iload_n d_Md_tiles_105 rfl (j := 3) rfl ?_
        refine sm_i2l d_Md_tiles_106 ?_
        refine sm_aload_n d_Md_tiles_107 rfl (j := 1) rfl ?_
        refine lo_get (v := .ref (b + 1)) d_Md_tiles_108 fg_Md_7 hI ml_0 rfl ?_
        refine sm_iconst (v := 3) d_Md_tiles_111 (by decide) ?_
        refine lo_ald (j := 3) d_Md_tiles_112 hI ml_1 (by decide) rfl ?_
        refine sm_i2l d_Md_tiles_113 ?_
        refine sm_iload d_Md_tiles_114 (j := 5) rfl ?_
        refine sm_i2l d_Md_tiles_116 ?_
        obtain ⟨r25, e26, hf⟩ := lo_bnd hf
        refine sm_callSp d_Md_tiles_117 cs_Md_tiles_114 rfl (As := [.long x2.toInt64, .long (w 1 3).toInt64, .long x4.toInt64]) rfl rfl (Nat.le_of_ble_eq_true rfl) (c_Md_across x2.toInt64 ((w 1 3).toInt64) x4.toInt64 e26) ?_
        refine sm_lmul d_Md_tiles_120 ?_
        refine sm_ldc2 (v := 64) d_Md_tiles_121 mw_1335 ?_
        refine sm_lcmp d_Md_tiles_124 ?_
        refine sm_if_le (tgt := 132) d_Md_tiles_125 (by decide) (fun h27 => ?_) (fun h27 => ?_)
        · rw [if_pos ((lg_cmp_le _ _).mp h27)] at hf
          exact sm_pick [1, 2, 3, 4, 5, 0] (w_Md_tiles_132 _ _ _ _ _ _ _ hI hf) rfl
        · rw [if_neg (mt (lg_cmp_le _ _).mpr h27)] at hf
          exact sm_pick [1, 2, 3, 4, 5, 0] (w_Md_tiles_128 _ _ _ _ _ _ _ hI hf) rfl

def fn_Md_tiles_40 (w : wd) (x1 : Int32) (x2 : Int32) (x3 : Int32) (x4 : Int32) : Option (wd) := fn_Md_tiles_41 w x1 x2 x3 x4 false
set_option maxHeartbeats 1600000 in
set_option maxRecDepth 100000 in
theorem w_Md_tiles_40 {G : sm_G} {b : Nat} {M0 : sm_M} {bc bs : Nat} {R : wd} : ∀ (M : sm_M) (w : wd) (x1 : Int32) (x2 : Int32) (x3 : Int32) (x4 : Int32), lo_in G md_L b M0 M w → fn_Md_tiles_40 w x1 x2 x3 x4 = some R → sm_W G mf_Md_tiles 40 [(0, .ref (b + 0)), (1, .int x1), (2, .int x2), (3, .int x3), (4, .int x4)] [] M bc bs (wd_Q G md_L b M0 none R) := by
  intro M w x1 x2 x3 x4 hI  hf
  unfold fn_Md_tiles_40 at hf
  refine sm_iconst (v := 0) d_Md_tiles_40 (by decide) ?_
  exact sm_pick [0, 1, 2, 3, 4] (w_Md_tiles_41 _ _ _ _ _ _ _ hI hf) rfl

def fn_Md_tiles (w : wd) (x1 : Int32) (x2 : Int32) (x3 : Int32) (x4 : Int32) : Option (wd) := (if (w 0 2) = 0 then fn_Md_tiles_40 w x1 x2 x3 x4 else (if (fn_Md_lie ((w 1 0).toInt64) ((w 1 1).toInt64) x1.toInt64 x2.toInt64 x3.toInt64 x4.toInt64) = true then fn_Md_tiles_41 w x1 x2 x3 x4 true else fn_Md_tiles_40 w x1 x2 x3 x4))
set_option maxHeartbeats 1600000 in
set_option maxRecDepth 100000 in
theorem c_Md_tiles {G : sm_G} {b : Nat} {M0 M : sm_M}  {w : wd}  (hI : lo_in G md_L b M0 M w)  (x1 : Int32) (x2 : Int32) (x3 : Int32) (x4 : Int32)  {R : wd} (hf : fn_Md_tiles w x1 x2 x3 x4 = some R) : sm_C G mf_Md_tiles [.ref (b + 0), .int x1, .int x2, .int x3, .int x4] M 0 0 (wd_Q G md_L b M none R) := by
  unfold fn_Md_tiles at hf
  have hI := hI.here
  refine sm_ofW rfl (Nat.le_of_ble_eq_true rfl) ?_
  refine sm_aload_n d_Md_tiles_0 rfl (j := 0) rfl ?_
  refine lo_get (v := .int (w 0 2)) d_Md_tiles_1 fg_Md_84 hI ml_0 rfl ?_
  refine sm_if_eq (tgt := 40) d_Md_tiles_4 (by decide) (fun h1 => ?_) (fun h1 => ?_)
  · rw [if_pos h1] at hf
    exact sm_pick [0, 1, 2, 3, 4] (w_Md_tiles_40 _ _ _ _ _ _ hI hf) rfl
  · rw [if_neg h1] at hf
    refine sm_aload_n d_Md_tiles_7 rfl (j := 0) rfl ?_
    refine lo_get (v := .ref (b + 1)) d_Md_tiles_8 fg_Md_7 hI ml_0 rfl ?_
    refine sm_iconst (v := 0) d_Md_tiles_11 (by decide) ?_
    refine lo_ald (j := 0) d_Md_tiles_12 hI ml_1 (by decide) rfl ?_
    refine sm_i2l d_Md_tiles_13 ?_
    refine sm_aload_n d_Md_tiles_14 rfl (j := 0) rfl ?_
    refine lo_get (v := .ref (b + 1)) d_Md_tiles_15 fg_Md_7 hI ml_0 rfl ?_
    refine sm_iconst (v := 1) d_Md_tiles_18 (by decide) ?_
    refine lo_ald (j := 1) d_Md_tiles_19 hI ml_1 (by decide) rfl ?_
    refine sm_i2l d_Md_tiles_20 ?_
    refine sm_iload_n d_Md_tiles_21 rfl (j := 1) rfl ?_
    refine sm_i2l d_Md_tiles_22 ?_
    refine sm_iload_n d_Md_tiles_23 rfl (j := 2) rfl ?_
    refine sm_i2l d_Md_tiles_24 ?_
    refine sm_iload_n d_Md_tiles_25 rfl (j := 3) rfl ?_
    refine sm_i2l d_Md_tiles_26 ?_
    refine sm_iload d_Md_tiles_27 (j := 4) rfl ?_
    refine sm_i2l d_Md_tiles_29 ?_
    refine sm_callSp d_Md_tiles_30 cs_Md_tiles_110 rfl (As := [.long (w 1 0).toInt64, .long (w 1 1).toInt64, .long x1.toInt64, .long x2.toInt64, .long x3.toInt64, .long x4.toInt64]) rfl rfl (Nat.le_of_ble_eq_true rfl) (c_Md_lie ((w 1 0).toInt64) ((w 1 1).toInt64) x1.toInt64 x2.toInt64 x3.toInt64 x4.toInt64) ?_
    refine sm_if_eq (tgt := 40) d_Md_tiles_33 (by decide) (fun h28 => ?_) (fun h28 => ?_)
    · rw [if_neg (bi0 h28)] at hf
      exact sm_pick [0, 1, 2, 3, 4] (w_Md_tiles_40 _ _ _ _ _ _ hI hf) rfl
    · rw [if_pos (bi1 h28)] at hf
      refine sm_iconst (v := 1) d_Md_tiles_36 (by decide) ?_
      refine sm_goto (tgt := 41) d_Md_tiles_37 (by decide) ?_
      exact sm_pick [0, 1, 2, 3, 4] (w_Md_tiles_41 _ _ _ _ _ _ _ hI hf) rfl

def fn_Md_fresh_102 (F : Nat) : Nat → wd → Int32 → Int32 → Option (wd)
 | 0, _, _, _ => none
 | n9 + 1, w, x1, x2 => (if (97 : Int32) ≤ x2 then some w else (if 0 ≤ (((97 : Int32) * x1) + x2).toInt ∧ (((97 : Int32) * x1) + x2).toInt < 1552 then fn_Md_fresh_102 F n9 (up2 w 9 ((((97 : Int32) * x1) + x2).toInt.toNat) (0 : Int32)) x1 (x2 + 1) else none))
set_option maxHeartbeats 1600000 in
set_option maxRecDepth 100000 in
theorem w_Md_fresh_102 {G : sm_G} {b : Nat} {M0 : sm_M} {bc bs : Nat} {R : wd} {F : Nat} : ∀ (n9 : Nat), ∀ (M : sm_M) (w : wd) (x1 : Int32) (x2 : Int32), lo_in G md_L b M0 M w → fn_Md_fresh_102 F n9 w x1 x2 = some R → sm_W G mf_Md_fresh 102 [(0, .ref (b + 0)), (1, .int x1), (2, .int x2)] [] M bc bs (wd_Q G md_L b M0 none R) := by
  intro n9
  induction n9 with
  | zero => intro M w x1 x2 hI  hf; cases hf
  | succ n9 ih =>
    intro M w x1 x2 hI  hf
    rw [fn_Md_fresh_102] at hf
    refine sm_iload_n d_Md_fresh_102 rfl (j := 2) rfl ?_
    refine sm_bipush (v := 97) d_Md_fresh_103 (by decide) ?_
    refine sm_icmp_ge (tgt := 126) d_Md_fresh_105 (by decide) (fun h3 => ?_) (fun h3 => ?_)
    · rw [if_pos h3] at hf
      cases hf
      refine sm_return d_Md_fresh_126 rfl ?_
      exact ⟨rfl, hI⟩
    · rw [if_neg h3] at hf
      refine sm_aload_n d_Md_fresh_108 rfl (j := 0) rfl ?_
      refine lo_get (v := .ref (b + 9)) d_Md_fresh_109 fg_Md_38 hI ml_0 rfl ?_
      refine sm_bipush (v := 97) d_Md_fresh_112 (by decide) ?_
      refine sm_iload_n d_Md_fresh_114 rfl (j := 1) rfl ?_
      refine sm_imul d_Md_fresh_115 ?_
      refine sm_iload_n d_Md_fresh_116 rfl (j := 2) rfl ?_
      refine sm_iadd d_Md_fresh_117 ?_
      refine sm_iconst (v := 0) d_Md_fresh_118 (by decide) ?_
      obtain ⟨h4, hf⟩ := lo_chk hf
      refine lo_ast (j := (((97 : Int32) * x1) + x2).toInt.toNat) d_Md_fresh_119 hI ml_9 h4 rfl (fun M5 hI6 => ?_)
      refine sm_iinc (v := (x2 + 1)) d_Md_fresh_120 (j := 2) rfl rfl (by decide) rfl ?_
      refine sm_goto (tgt := 102) d_Md_fresh_123 (by decide) ?_
      exact sm_pick [1, 2, 0] (ih _ _ _ _ hI6 hf) rfl

def fn_Md_fresh_62 (F : Nat) : Nat → wd → Int32 → Int32 → Option (wd)
 | 0, _, _, _ => none
 | n9 + 1, w, x1, x2 => (if (33 : Int32) ≤ x2 then fn_Md_fresh_102 F F w x1 (0 : Int32) else (if 0 ≤ (((33 : Int32) * x1) + x2).toInt ∧ (((33 : Int32) * x1) + x2).toInt < 528 then (if 0 ≤ (((33 : Int32) * x1) + x2).toInt ∧ (((33 : Int32) * x1) + x2).toInt < 528 then fn_Md_fresh_62 F n9 (up2 (up2 w 7 ((((33 : Int32) * x1) + x2).toInt.toNat) (15 : Int32)) 8 ((((33 : Int32) * x1) + x2).toInt.toNat) (15 : Int32)) x1 (x2 + 1) else none) else none))
set_option maxHeartbeats 1600000 in
set_option maxRecDepth 100000 in
theorem w_Md_fresh_62 {G : sm_G} {b : Nat} {M0 : sm_M} {bc bs : Nat} {R : wd} {F : Nat} : ∀ (n9 : Nat), ∀ (M : sm_M) (w : wd) (x1 : Int32) (x2 : Int32), lo_in G md_L b M0 M w → fn_Md_fresh_62 F n9 w x1 x2 = some R → sm_W G mf_Md_fresh 62 [(0, .ref (b + 0)), (1, .int x1), (2, .int x2)] [] M bc bs (wd_Q G md_L b M0 none R) := by
  intro n9
  induction n9 with
  | zero => intro M w x1 x2 hI  hf; cases hf
  | succ n9 ih =>
    intro M w x1 x2 hI  hf
    rw [fn_Md_fresh_62] at hf
    refine sm_iload_n d_Md_fresh_62 rfl (j := 2) rfl ?_
    refine sm_bipush (v := 33) d_Md_fresh_63 (by decide) ?_
    refine sm_icmp_ge (tgt := 100) d_Md_fresh_65 (by decide) (fun h2 => ?_) (fun h2 => ?_)
    · rw [if_pos h2] at hf
      refine sm_iconst (v := 0) d_Md_fresh_100 (by decide) ?_
      refine sm_istore_n d_Md_fresh_101 rfl (by decide) rfl ?_
      exact sm_pick [1, 2, 0] (w_Md_fresh_102 _ _ _ _ _ hI hf) rfl
    · rw [if_neg h2] at hf
      refine sm_aload_n d_Md_fresh_68 rfl (j := 0) rfl ?_
      refine lo_get (v := .ref (b + 7)) d_Md_fresh_69 fg_Md_32 hI ml_0 rfl ?_
      refine sm_bipush (v := 33) d_Md_fresh_72 (by decide) ?_
      refine sm_iload_n d_Md_fresh_74 rfl (j := 1) rfl ?_
      refine sm_imul d_Md_fresh_75 ?_
      refine sm_iload_n d_Md_fresh_76 rfl (j := 2) rfl ?_
      refine sm_iadd d_Md_fresh_77 ?_
      refine sm_bipush (v := 15) d_Md_fresh_78 (by decide) ?_
      obtain ⟨h7, hf⟩ := lo_chk hf
      refine lo_ast (j := (((33 : Int32) * x1) + x2).toInt.toNat) d_Md_fresh_80 hI ml_7 h7 rfl (fun M8 hI9 => ?_)
      refine sm_aload_n d_Md_fresh_81 rfl (j := 0) rfl ?_
      refine lo_get (v := .ref (b + 8)) d_Md_fresh_82 fg_Md_35 hI9 ml_0 rfl ?_
      refine sm_bipush (v := 33) d_Md_fresh_85 (by decide) ?_
      refine sm_iload_n d_Md_fresh_87 rfl (j := 1) rfl ?_
      refine sm_imul d_Md_fresh_88 ?_
      refine sm_iload_n d_Md_fresh_89 rfl (j := 2) rfl ?_
      refine sm_iadd d_Md_fresh_90 ?_
      refine sm_bipush (v := 15) d_Md_fresh_91 (by decide) ?_
      obtain ⟨h10, hf⟩ := lo_chk hf
      refine lo_ast (j := (((33 : Int32) * x1) + x2).toInt.toNat) d_Md_fresh_93 hI9 ml_8 h10 rfl (fun M11 hI12 => ?_)
      refine sm_iinc (v := (x2 + 1)) d_Md_fresh_94 (j := 2) rfl rfl (by decide) rfl ?_
      refine sm_goto (tgt := 62) d_Md_fresh_97 (by decide) ?_
      exact sm_pick [1, 2, 0] (ih _ _ _ _ hI12 hf) rfl

def fn_Md_fresh_53 (k2 : wd → Int32 → Int32 → Option (wd)) (F : Nat) (w : wd) (x1 : Int32) (x2 : Int32) (s0 : Int32) (s1 : Int32) : Option (wd) := (if 0 ≤ s1.toInt ∧ s1.toInt < 128 then k2 (up2 w 6 s1.toInt.toNat s0) x1 (x2 + 1) else none)
set_option maxHeartbeats 1600000 in
set_option maxRecDepth 100000 in
theorem w_Md_fresh_53 {G : sm_G} {b : Nat} {M0 : sm_M} {bc bs : Nat} {R : wd} {F : Nat} {k2 : wd → Int32 → Int32 → Option (wd)} (hk2 : ∀ (M : sm_M) (w : wd) (x1 : Int32) (x2 : Int32), lo_in G md_L b M0 M w → k2 w x1 x2 = some R → sm_W G mf_Md_fresh 2 [(0, .ref (b + 0)), (1, .int x1), (2, .int x2)] [] M bc bs (wd_Q G md_L b M0 none R)) : ∀ (M : sm_M) (w : wd) (x1 : Int32) (x2 : Int32) (s0 : Int32) (s1 : Int32), lo_in G md_L b M0 M w → fn_Md_fresh_53 k2 F w x1 x2 s0 s1 = some R → sm_W G mf_Md_fresh 53 [(0, .ref (b + 0)), (1, .int x1), (2, .int x2)] [.int s0, .int s1, .ref (b + 6)] M bc bs (wd_Q G md_L b M0 none R) := by
  intro M w x1 x2 s0 s1 hI  hf
  unfold fn_Md_fresh_53 at hf
  obtain ⟨h14, hf⟩ := lo_chk hf
  refine lo_ast (j := s1.toInt.toNat) d_Md_fresh_53 hI ml_6 h14 rfl (fun M15 hI16 => ?_)
  refine sm_iinc (v := (x2 + 1)) d_Md_fresh_54 (j := 2) rfl rfl (by decide) rfl ?_
  refine sm_goto (tgt := 2) d_Md_fresh_57 (by decide) ?_
  exact sm_pick [1, 2, 0] (hk2 _ _ _ _ hI16 hf) rfl

def fn_Md_fresh_28 (k2 : wd → Int32 → Int32 → Option (wd)) (F : Nat) (w : wd) (x1 : Int32) (x2 : Int32) (s0 : Int32) : Option (wd) := fn_Md_fresh_53 k2 F w x1 x2 (6 : Int32) s0
set_option maxHeartbeats 1600000 in
set_option maxRecDepth 100000 in
theorem w_Md_fresh_28 {G : sm_G} {b : Nat} {M0 : sm_M} {bc bs : Nat} {R : wd} {F : Nat} {k2 : wd → Int32 → Int32 → Option (wd)} (hk2 : ∀ (M : sm_M) (w : wd) (x1 : Int32) (x2 : Int32), lo_in G md_L b M0 M w → k2 w x1 x2 = some R → sm_W G mf_Md_fresh 2 [(0, .ref (b + 0)), (1, .int x1), (2, .int x2)] [] M bc bs (wd_Q G md_L b M0 none R)) : ∀ (M : sm_M) (w : wd) (x1 : Int32) (x2 : Int32) (s0 : Int32), lo_in G md_L b M0 M w → fn_Md_fresh_28 k2 F w x1 x2 s0 = some R → sm_W G mf_Md_fresh 28 [(0, .ref (b + 0)), (1, .int x1), (2, .int x2)] [.int s0, .ref (b + 6)] M bc bs (wd_Q G md_L b M0 none R) := by
  intro M w x1 x2 s0 hI  hf
  unfold fn_Md_fresh_28 at hf
  refine sm_bipush (v := 6) d_Md_fresh_28 (by decide) ?_
  refine sm_goto (tgt := 53) d_Md_fresh_30 (by decide) ?_
  exact sm_pick [0, 1, 2] (w_Md_fresh_53 hk2 _ _ _ _ _ _ hI hf) rfl

def fn_Md_fresh_2 (F : Nat) : Nat → wd → Int32 → Int32 → Option (wd)
 | 0, _, _, _ => none
 | n9 + 1, w, x1, x2 => (if (8 : Int32) ≤ x2 then fn_Md_fresh_62 F F w x1 (0 : Int32) else (if x2 = (1 : Int32) then fn_Md_fresh_28 (fn_Md_fresh_2 F n9) F w x1 x2 (((8 : Int32) * x1) + x2) else (if x2 = (2 : Int32) then fn_Md_fresh_28 (fn_Md_fresh_2 F n9) F w x1 x2 (((8 : Int32) * x1) + x2) else (if x2 = (4 : Int32) then fn_Md_fresh_53 (fn_Md_fresh_2 F n9) F w x1 x2 (1 : Int32) (((8 : Int32) * x1) + x2) else (if x2 = (6 : Int32) then fn_Md_fresh_53 (fn_Md_fresh_2 F n9) F w x1 x2 (2 : Int32) (((8 : Int32) * x1) + x2) else fn_Md_fresh_53 (fn_Md_fresh_2 F n9) F w x1 x2 (0 : Int32) (((8 : Int32) * x1) + x2))))))
set_option maxHeartbeats 1600000 in
set_option maxRecDepth 100000 in
theorem w_Md_fresh_2 {G : sm_G} {b : Nat} {M0 : sm_M} {bc bs : Nat} {R : wd} {F : Nat} : ∀ (n9 : Nat), ∀ (M : sm_M) (w : wd) (x1 : Int32) (x2 : Int32), lo_in G md_L b M0 M w → fn_Md_fresh_2 F n9 w x1 x2 = some R → sm_W G mf_Md_fresh 2 [(0, .ref (b + 0)), (1, .int x1), (2, .int x2)] [] M bc bs (wd_Q G md_L b M0 none R) := by
  intro n9
  induction n9 with
  | zero => intro M w x1 x2 hI  hf; cases hf
  | succ n9 ih =>
    intro M w x1 x2 hI  hf
    rw [fn_Md_fresh_2] at hf
    refine sm_iload_n d_Md_fresh_2 rfl (j := 2) rfl ?_
    refine sm_bipush (v := 8) d_Md_fresh_3 (by decide) ?_
    refine sm_icmp_ge (tgt := 60) d_Md_fresh_5 (by decide) (fun h1 => ?_) (fun h1 => ?_)
    · rw [if_pos h1] at hf
      refine sm_iconst (v := 0) d_Md_fresh_60 (by decide) ?_
      refine sm_istore_n d_Md_fresh_61 rfl (by decide) rfl ?_
      exact sm_pick [1, 2, 0] (w_Md_fresh_62 _ _ _ _ _ hI hf) rfl
    · rw [if_neg h1] at hf
      refine sm_aload_n d_Md_fresh_8 rfl (j := 0) rfl ?_
      refine lo_get (v := .ref (b + 6)) d_Md_fresh_9 fg_Md_29 hI ml_0 rfl ?_
      refine sm_bipush (v := 8) d_Md_fresh_12 (by decide) ?_
      refine sm_iload_n d_Md_fresh_14 rfl (j := 1) rfl ?_
      refine sm_imul d_Md_fresh_15 ?_
      refine sm_iload_n d_Md_fresh_16 rfl (j := 2) rfl ?_
      refine sm_iadd d_Md_fresh_17 ?_
      refine sm_iload_n d_Md_fresh_18 rfl (j := 2) rfl ?_
      refine sm_iconst (v := 1) d_Md_fresh_19 (by decide) ?_
      refine sm_icmp_eq (tgt := 28) d_Md_fresh_20 (by decide) (fun h13 => ?_) (fun h13 => ?_)
      · rw [if_pos h13] at hf
        exact sm_pick [0, 1, 2] (w_Md_fresh_28 ih _ _ _ _ _ hI hf) rfl
      · rw [if_neg h13] at hf
        refine sm_iload_n d_Md_fresh_23 rfl (j := 2) rfl ?_
        refine sm_iconst (v := 2) d_Md_fresh_24 (by decide) ?_
        refine sm_icmp_ne (tgt := 33) d_Md_fresh_25 (by decide) (fun h17 => ?_) (fun h17 => ?_)
        · rw [if_neg h17] at hf
          refine sm_iload_n d_Md_fresh_33 rfl (j := 2) rfl ?_
          refine sm_iconst (v := 4) d_Md_fresh_34 (by decide) ?_
          refine sm_icmp_ne (tgt := 42) d_Md_fresh_35 (by decide) (fun h18 => ?_) (fun h18 => ?_)
          · rw [if_neg h18] at hf
            refine sm_iload_n d_Md_fresh_42 rfl (j := 2) rfl ?_
            refine sm_bipush (v := 6) d_Md_fresh_43 (by decide) ?_
            refine sm_icmp_ne (tgt := 52) d_Md_fresh_45 (by decide) (fun h19 => ?_) (fun h19 => ?_)
            · rw [if_neg h19] at hf
              refine sm_iconst (v := 0) d_Md_fresh_52 (by decide) ?_
              exact sm_pick [0, 1, 2] (w_Md_fresh_53 ih _ _ _ _ _ _ hI hf) rfl
            · rw [if_pos h19] at hf
              refine sm_iconst (v := 2) d_Md_fresh_48 (by decide) ?_
              refine sm_goto (tgt := 53) d_Md_fresh_49 (by decide) ?_
              exact sm_pick [0, 1, 2] (w_Md_fresh_53 ih _ _ _ _ _ _ hI hf) rfl
          · rw [if_pos h18] at hf
            refine sm_iconst (v := 1) d_Md_fresh_38 (by decide) ?_
            refine sm_goto (tgt := 53) d_Md_fresh_39 (by decide) ?_
            exact sm_pick [0, 1, 2] (w_Md_fresh_53 ih _ _ _ _ _ _ hI hf) rfl
        · rw [if_pos h17] at hf
          exact sm_pick [0, 1, 2] (w_Md_fresh_28 ih _ _ _ _ _ hI hf) rfl

def fn_Md_fresh (F : Nat) (w : wd) (x1 : Int32) : Option (wd) := fn_Md_fresh_2 F F w x1 (0 : Int32)
set_option maxHeartbeats 1600000 in
set_option maxRecDepth 100000 in
theorem c_Md_fresh {G : sm_G} {b : Nat} {M0 M : sm_M}  {w : wd} {F : Nat} (hI : lo_in G md_L b M0 M w)  (x1 : Int32)  {R : wd} (hf : fn_Md_fresh F w x1 = some R) : sm_C G mf_Md_fresh [.ref (b + 0), .int x1] M 0 0 (wd_Q G md_L b M none R) := by
  unfold fn_Md_fresh at hf
  have hI := hI.here
  refine sm_ofW rfl (Nat.le_of_ble_eq_true rfl) ?_
  refine sm_iconst (v := 0) d_Md_fresh_0 (by decide) ?_
  refine sm_istore_n d_Md_fresh_1 rfl (by decide) rfl ?_
  exact sm_pick [1, 2, 0] (w_Md_fresh_2 _ _ _ _ _ hI hf) rfl

