/-! StreamMarksModel, on; written by wip/tools/model.py -/
def fn_Md_valuesOf (w : wd) (x1 : Int32) : Option (Int32) := (if 0 ≤ (((8 : Int32) * x1) + (5 : Int32)).toInt ∧ (((8 : Int32) * x1) + (5 : Int32)).toInt < 128 then (if (w 6 ((((8 : Int32) * x1) + (5 : Int32)).toInt.toNat)) = (1 : Int32) then some (1 : Int32) else (if 0 ≤ ((8 : Int32) * x1).toInt ∧ ((8 : Int32) * x1).toInt < 128 then some (((3 : Int32) * (w 6 (((8 : Int32) * x1).toInt.toNat))) + (1 : Int32)) else none)) else none)
set_option maxHeartbeats 1600000 in
set_option maxRecDepth 100000 in
theorem c_Md_valuesOf {G : sm_G} {b : Nat} {M0 M : sm_M}  {w : wd}  (hI : lo_in G md_L b M0 M w)  (x1 : Int32)  {R : Int32} (hf : fn_Md_valuesOf w x1 = some R) : sm_C G mf_Md_valuesOf [.ref (b + 0), .int x1] M 0 0 (sm_pu M (.int R)) := by
  unfold fn_Md_valuesOf at hf
  have hI := hI.here
  refine sm_ofW rfl (Nat.le_of_ble_eq_true rfl) ?_
  refine sm_aload_n d_Md_valuesOf_0 rfl (j := 0) rfl ?_
  refine lo_get (v := .ref (b + 6)) d_Md_valuesOf_1 fg_Md_29 hI ml_0 rfl ?_
  refine sm_bipush (v := 8) d_Md_valuesOf_4 (by decide) ?_
  refine sm_iload_n d_Md_valuesOf_6 rfl (j := 1) rfl ?_
  refine sm_imul d_Md_valuesOf_7 ?_
  refine sm_iconst (v := 5) d_Md_valuesOf_8 (by decide) ?_
  refine sm_iadd d_Md_valuesOf_9 ?_
  obtain ⟨h1, hf⟩ := lo_chk hf
  refine lo_ald (j := (((8 : Int32) * x1) + (5 : Int32)).toInt.toNat) d_Md_valuesOf_10 hI ml_6 h1 rfl ?_
  refine sm_iconst (v := 1) d_Md_valuesOf_11 (by decide) ?_
  refine sm_icmp_ne (tgt := 19) d_Md_valuesOf_12 (by decide) (fun h2 => ?_) (fun h2 => ?_)
  · rw [if_neg h2] at hf
    refine sm_iconst (v := 3) d_Md_valuesOf_19 (by decide) ?_
    refine sm_aload_n d_Md_valuesOf_20 rfl (j := 0) rfl ?_
    refine lo_get (v := .ref (b + 6)) d_Md_valuesOf_21 fg_Md_29 hI ml_0 rfl ?_
    refine sm_bipush (v := 8) d_Md_valuesOf_24 (by decide) ?_
    refine sm_iload_n d_Md_valuesOf_26 rfl (j := 1) rfl ?_
    refine sm_imul d_Md_valuesOf_27 ?_
    obtain ⟨h3, hf⟩ := lo_chk hf
    refine lo_ald (j := ((8 : Int32) * x1).toInt.toNat) d_Md_valuesOf_28 hI ml_6 h3 rfl ?_
    refine sm_imul d_Md_valuesOf_29 ?_
    refine sm_iconst (v := 1) d_Md_valuesOf_30 (by decide) ?_
    refine sm_iadd d_Md_valuesOf_31 ?_
    cases hf
    refine sm_ireturn d_Md_valuesOf_32 rfl (by rfl) ?_
    exact ⟨rfl, rfl⟩
  · rw [if_pos h2] at hf
    refine sm_iconst (v := 1) d_Md_valuesOf_15 (by decide) ?_
    refine sm_goto (tgt := 32) d_Md_valuesOf_16 (by decide) ?_
    cases hf
    refine sm_ireturn d_Md_valuesOf_32 rfl (by rfl) ?_
    exact ⟨rfl, rfl⟩

def fn_Md_valueOf (w : wd) (x1 : Int32) (x2 : Int32) : Option (Int32) := (if 0 ≤ (((8 : Int32) * x1) + (5 : Int32)).toInt ∧ (((8 : Int32) * x1) + (5 : Int32)).toInt < 128 then (if (w 6 ((((8 : Int32) * x1) + (5 : Int32)).toInt.toNat)) = 0 then (if 0 ≤ (((97 : Int32) * x1) + x2).toInt ∧ (((97 : Int32) * x1) + x2).toInt < 1552 then some ((w 9 ((((97 : Int32) * x1) + x2).toInt.toNat)) / (256 : Int32)) else none) else (if 0 ≤ (((97 : Int32) * x1) + x2).toInt ∧ (((97 : Int32) * x1) + x2).toInt < 1552 then some (w 9 ((((97 : Int32) * x1) + x2).toInt.toNat)) else none)) else none)
set_option maxHeartbeats 1600000 in
set_option maxRecDepth 100000 in
theorem c_Md_valueOf {G : sm_G} {b : Nat} {M0 M : sm_M}  {w : wd}  (hI : lo_in G md_L b M0 M w)  (x1 : Int32) (x2 : Int32)  {R : Int32} (hf : fn_Md_valueOf w x1 x2 = some R) : sm_C G mf_Md_valueOf [.ref (b + 0), .int x1, .int x2] M 0 0 (sm_pu M (.int R)) := by
  unfold fn_Md_valueOf at hf
  have hI := hI.here
  refine sm_ofW rfl (Nat.le_of_ble_eq_true rfl) ?_
  refine sm_aload_n d_Md_valueOf_0 rfl (j := 0) rfl ?_
  refine lo_get (v := .ref (b + 6)) d_Md_valueOf_1 fg_Md_29 hI ml_0 rfl ?_
  refine sm_bipush (v := 8) d_Md_valueOf_4 (by decide) ?_
  refine sm_iload_n d_Md_valueOf_6 rfl (j := 1) rfl ?_
  refine sm_imul d_Md_valueOf_7 ?_
  refine sm_iconst (v := 5) d_Md_valueOf_8 (by decide) ?_
  refine sm_iadd d_Md_valueOf_9 ?_
  obtain ⟨h1, hf⟩ := lo_chk hf
  refine lo_ald (j := (((8 : Int32) * x1) + (5 : Int32)).toInt.toNat) d_Md_valueOf_10 hI ml_6 h1 rfl ?_
  refine sm_if_ne (tgt := 32) d_Md_valueOf_11 (by decide) (fun h2 => ?_) (fun h2 => ?_)
  · rw [if_neg h2] at hf
    refine sm_aload_n d_Md_valueOf_32 rfl (j := 0) rfl ?_
    refine lo_get (v := .ref (b + 9)) d_Md_valueOf_33 fg_Md_38 hI ml_0 rfl ?_
    refine sm_bipush (v := 97) d_Md_valueOf_36 (by decide) ?_
    refine sm_iload_n d_Md_valueOf_38 rfl (j := 1) rfl ?_
    refine sm_imul d_Md_valueOf_39 ?_
    refine sm_iload_n d_Md_valueOf_40 rfl (j := 2) rfl ?_
    refine sm_iadd d_Md_valueOf_41 ?_
    obtain ⟨h3, hf⟩ := lo_chk hf
    refine lo_ald (j := (((97 : Int32) * x1) + x2).toInt.toNat) d_Md_valueOf_42 hI ml_9 h3 rfl ?_
    cases hf
    refine sm_ireturn d_Md_valueOf_43 rfl (by rfl) ?_
    exact ⟨rfl, rfl⟩
  · rw [if_pos h2] at hf
    refine sm_aload_n d_Md_valueOf_14 rfl (j := 0) rfl ?_
    refine lo_get (v := .ref (b + 9)) d_Md_valueOf_15 fg_Md_38 hI ml_0 rfl ?_
    refine sm_bipush (v := 97) d_Md_valueOf_18 (by decide) ?_
    refine sm_iload_n d_Md_valueOf_20 rfl (j := 1) rfl ?_
    refine sm_imul d_Md_valueOf_21 ?_
    refine sm_iload_n d_Md_valueOf_22 rfl (j := 2) rfl ?_
    refine sm_iadd d_Md_valueOf_23 ?_
    obtain ⟨h4, hf⟩ := lo_chk hf
    refine lo_ald (j := (((97 : Int32) * x1) + x2).toInt.toNat) d_Md_valueOf_24 hI ml_9 h4 rfl ?_
    refine sm_sipush (v := 256) d_Md_valueOf_25 (by decide) ?_
    refine sm_idiv d_Md_valueOf_28 (by decide) ?_
    refine sm_goto (tgt := 43) d_Md_valueOf_29 (by decide) ?_
    cases hf
    refine sm_ireturn d_Md_valueOf_43 rfl (by rfl) ?_
    exact ⟨rfl, rfl⟩

def fn_Md_rows_69 (k34 : wd → Int32 → Int32 → Option (wd)) (F : Nat) (w : wd) (x1 : Int32) (x2 : Int32) (s0 : Int32) (s1 : Int32) : Option (wd) := ((fn_Md_add F w s1 s0).bind fun r14 => k34 r14 x1 (x2 + 1))
set_option maxHeartbeats 1600000 in
set_option maxRecDepth 100000 in
theorem w_Md_rows_69 {G : sm_G} {b : Nat} {M0 : sm_M} {bc bs : Nat} {R : wd} {F : Nat} {k34 : wd → Int32 → Int32 → Option (wd)} (hk34 : ∀ (M : sm_M) (w : wd) (x1 : Int32) (x2 : Int32), lo_in G md_L b M0 M w → k34 w x1 x2 = some R → sm_W G mf_Md_rows 34 [(0, .ref (b + 0)), (1, .int x1), (2, .int x2)] [] M bc bs (wd_Q G md_L b M0 none R)) : ∀ (M : sm_M) (w : wd) (x1 : Int32) (x2 : Int32) (s0 : Int32) (s1 : Int32), lo_in G md_L b M0 M w → fn_Md_rows_69 k34 F w x1 x2 s0 s1 = some R → sm_W G mf_Md_rows 69 [(0, .ref (b + 0)), (1, .int x1), (2, .int x2)] [.int s0, .int s1, .ref (b + 0)] M bc bs (wd_Q G md_L b M0 none R) := by
  intro M w x1 x2 s0 s1 hI  hf
  unfold fn_Md_rows_69 at hf
  obtain ⟨r14, e15, hf⟩ := lo_bnd hf
  refine lo_callVm d_Md_rows_69 cs_Md_rows_183 rfl hI ml_0 (As := [.int s1, .int s0]) rfl rfl (Nat.le_of_ble_eq_true rfl) (c_Md_add hI s1 s0 e15) (fun M16 hI17 => ?_)
  refine sm_iinc (v := (x2 + 1)) d_Md_rows_72 (j := 2) rfl rfl (by decide) rfl ?_
  refine sm_goto (tgt := 34) d_Md_rows_75 (by decide) ?_
  exact sm_pick [1, 2, 0] (hk34 _ _ _ _ hI17 hf) rfl

def fn_Md_rows_34 (F : Nat) : Nat → wd → Int32 → Int32 → Option (wd)
 | 0, _, _, _ => none
 | n9 + 1, w, x1, x2 => ((fn_Md_valuesOf w x1).bind fun r7 => (if r7 ≤ x2 then some w else ((fn_Md_valueOf w x1 x2).bind fun r10 => (if 0 ≤ (((8 : Int32) * x1) + (5 : Int32)).toInt ∧ (((8 : Int32) * x1) + (5 : Int32)).toInt < 128 then (if (w 6 ((((8 : Int32) * x1) + (5 : Int32)).toInt.toNat)) = 0 then fn_Md_rows_69 (fn_Md_rows_34 F n9) F w x1 x2 (1 : Int32) r10 else fn_Md_rows_69 (fn_Md_rows_34 F n9) F w x1 x2 (2 : Int32) r10) else none))))
set_option maxHeartbeats 1600000 in
set_option maxRecDepth 100000 in
theorem w_Md_rows_34 {G : sm_G} {b : Nat} {M0 : sm_M} {bc bs : Nat} {R : wd} {F : Nat} : ∀ (n9 : Nat), ∀ (M : sm_M) (w : wd) (x1 : Int32) (x2 : Int32), lo_in G md_L b M0 M w → fn_Md_rows_34 F n9 w x1 x2 = some R → sm_W G mf_Md_rows 34 [(0, .ref (b + 0)), (1, .int x1), (2, .int x2)] [] M bc bs (wd_Q G md_L b M0 none R) := by
  intro n9
  induction n9 with
  | zero => intro M w x1 x2 hI  hf; cases hf
  | succ n9 ih =>
    intro M w x1 x2 hI  hf
    rw [fn_Md_rows_34] at hf
    refine sm_iload_n d_Md_rows_34 rfl (j := 2) rfl ?_
    refine sm_aload_n d_Md_rows_35 rfl (j := 0) rfl ?_
    refine sm_iload_n d_Md_rows_36 rfl (j := 1) rfl ?_
    obtain ⟨r7, e8, hf⟩ := lo_bnd hf
    refine lo_callV d_Md_rows_37 cs_Md_rows_190 rfl hI ml_0 (As := [.int x1]) rfl rfl (Nat.le_of_ble_eq_true rfl) (c_Md_valuesOf hI x1 e8) ?_
    refine sm_icmp_ge (tgt := 78) d_Md_rows_40 (by decide) (fun h9 => ?_) (fun h9 => ?_)
    · rw [if_pos h9] at hf
      cases hf
      refine sm_return d_Md_rows_78 rfl ?_
      exact ⟨rfl, hI⟩
    · rw [if_neg h9] at hf
      refine sm_aload_n d_Md_rows_43 rfl (j := 0) rfl ?_
      refine sm_aload_n d_Md_rows_44 rfl (j := 0) rfl ?_
      refine sm_iload_n d_Md_rows_45 rfl (j := 1) rfl ?_
      refine sm_iload_n d_Md_rows_46 rfl (j := 2) rfl ?_
      obtain ⟨r10, e11, hf⟩ := lo_bnd hf
      refine lo_callV d_Md_rows_47 cs_Md_rows_194 rfl hI ml_0 (As := [.int x1, .int x2]) rfl rfl (Nat.le_of_ble_eq_true rfl) (c_Md_valueOf hI x1 x2 e11) ?_
      refine sm_aload_n d_Md_rows_50 rfl (j := 0) rfl ?_
      refine lo_get (v := .ref (b + 6)) d_Md_rows_51 fg_Md_29 hI ml_0 rfl ?_
      refine sm_bipush (v := 8) d_Md_rows_54 (by decide) ?_
      refine sm_iload_n d_Md_rows_56 rfl (j := 1) rfl ?_
      refine sm_imul d_Md_rows_57 ?_
      refine sm_iconst (v := 5) d_Md_rows_58 (by decide) ?_
      refine sm_iadd d_Md_rows_59 ?_
      obtain ⟨h12, hf⟩ := lo_chk hf
      refine lo_ald (j := (((8 : Int32) * x1) + (5 : Int32)).toInt.toNat) d_Md_rows_60 hI ml_6 h12 rfl ?_
      refine sm_if_ne (tgt := 68) d_Md_rows_61 (by decide) (fun h13 => ?_) (fun h13 => ?_)
      · rw [if_neg h13] at hf
        refine sm_iconst (v := 2) d_Md_rows_68 (by decide) ?_
        exact sm_pick [0, 1, 2] (w_Md_rows_69 ih _ _ _ _ _ _ hI hf) rfl
      · rw [if_pos h13] at hf
        refine sm_iconst (v := 1) d_Md_rows_64 (by decide) ?_
        refine sm_goto (tgt := 69) d_Md_rows_65 (by decide) ?_
        exact sm_pick [0, 1, 2] (w_Md_rows_69 ih _ _ _ _ _ _ hI hf) rfl

def fn_Md_rows (F : Nat) (w : wd) (x1 : Int32) : Option (wd) := (if 0 ≤ (((8 : Int32) * x1) + (5 : Int32)).toInt ∧ (((8 : Int32) * x1) + (5 : Int32)).toInt < 128 then (if 0 ≤ (((8 : Int32) * x1) + (6 : Int32)).toInt ∧ (((8 : Int32) * x1) + (6 : Int32)).toInt < 128 then ((fn_Md_add F w ((w 6 ((((8 : Int32) * x1) + (5 : Int32)).toInt.toNat)) + ((32 : Int32) * (w 6 ((((8 : Int32) * x1) + (6 : Int32)).toInt.toNat)))) (1 : Int32)).bind fun r3 => fn_Md_rows_34 F F r3 x1 (0 : Int32)) else none) else none)
set_option maxHeartbeats 1600000 in
set_option maxRecDepth 100000 in
theorem c_Md_rows {G : sm_G} {b : Nat} {M0 M : sm_M}  {w : wd} {F : Nat} (hI : lo_in G md_L b M0 M w)  (x1 : Int32)  {R : wd} (hf : fn_Md_rows F w x1 = some R) : sm_C G mf_Md_rows [.ref (b + 0), .int x1] M 0 0 (wd_Q G md_L b M none R) := by
  unfold fn_Md_rows at hf
  have hI := hI.here
  refine sm_ofW rfl (Nat.le_of_ble_eq_true rfl) ?_
  refine sm_aload_n d_Md_rows_0 rfl (j := 0) rfl ?_
  refine sm_aload_n d_Md_rows_1 rfl (j := 0) rfl ?_
  refine lo_get (v := .ref (b + 6)) d_Md_rows_2 fg_Md_29 hI ml_0 rfl ?_
  refine sm_bipush (v := 8) d_Md_rows_5 (by decide) ?_
  refine sm_iload_n d_Md_rows_7 rfl (j := 1) rfl ?_
  refine sm_imul d_Md_rows_8 ?_
  refine sm_iconst (v := 5) d_Md_rows_9 (by decide) ?_
  refine sm_iadd d_Md_rows_10 ?_
  obtain ⟨h1, hf⟩ := lo_chk hf
  refine lo_ald (j := (((8 : Int32) * x1) + (5 : Int32)).toInt.toNat) d_Md_rows_11 hI ml_6 h1 rfl ?_
  refine sm_bipush (v := 32) d_Md_rows_12 (by decide) ?_
  refine sm_aload_n d_Md_rows_14 rfl (j := 0) rfl ?_
  refine lo_get (v := .ref (b + 6)) d_Md_rows_15 fg_Md_29 hI ml_0 rfl ?_
  refine sm_bipush (v := 8) d_Md_rows_18 (by decide) ?_
  refine sm_iload_n d_Md_rows_20 rfl (j := 1) rfl ?_
  refine sm_imul d_Md_rows_21 ?_
  refine sm_bipush (v := 6) d_Md_rows_22 (by decide) ?_
  refine sm_iadd d_Md_rows_24 ?_
  obtain ⟨h2, hf⟩ := lo_chk hf
  refine lo_ald (j := (((8 : Int32) * x1) + (6 : Int32)).toInt.toNat) d_Md_rows_25 hI ml_6 h2 rfl ?_
  refine sm_imul d_Md_rows_26 ?_
  refine sm_iadd d_Md_rows_27 ?_
  refine sm_iconst (v := 1) d_Md_rows_28 (by decide) ?_
  obtain ⟨r3, e4, hf⟩ := lo_bnd hf
  refine lo_callVm d_Md_rows_29 cs_Md_rows_183 rfl hI ml_0 (As := [.int ((w 6 ((((8 : Int32) * x1) + (5 : Int32)).toInt.toNat)) + ((32 : Int32) * (w 6 ((((8 : Int32) * x1) + (6 : Int32)).toInt.toNat)))), .int (1 : Int32)]) rfl rfl (Nat.le_of_ble_eq_true rfl) (c_Md_add hI ((w 6 ((((8 : Int32) * x1) + (5 : Int32)).toInt.toNat)) + ((32 : Int32) * (w 6 ((((8 : Int32) * x1) + (6 : Int32)).toInt.toNat)))) (1 : Int32) e4) (fun M5 hI6 => ?_)
  refine sm_iconst (v := 0) d_Md_rows_32 (by decide) ?_
  refine sm_istore_n d_Md_rows_33 rfl (by decide) rfl ?_
  exact sm_pick [1, 2, 0] (w_Md_rows_34 _ _ _ _ _ hI6 hf) rfl

def fn_Md_rowsLength (w : wd) (x1 : Int32) : Option (Int32) := ((fn_Md_valuesOf w x1).bind fun r1 => (if 0 ≤ (((8 : Int32) * x1) + (5 : Int32)).toInt ∧ (((8 : Int32) * x1) + (5 : Int32)).toInt < 128 then (if (w 6 ((((8 : Int32) * x1) + (5 : Int32)).toInt.toNat)) = 0 then some ((r1 * (1 : Int32)) + (1 : Int32)) else some ((r1 * (2 : Int32)) + (1 : Int32))) else none))
set_option maxHeartbeats 1600000 in
set_option maxRecDepth 100000 in
theorem c_Md_rowsLength {G : sm_G} {b : Nat} {M0 M : sm_M}  {w : wd}  (hI : lo_in G md_L b M0 M w)  (x1 : Int32)  {R : Int32} (hf : fn_Md_rowsLength w x1 = some R) : sm_C G mf_Md_rowsLength [.ref (b + 0), .int x1] M 0 0 (sm_pu M (.int R)) := by
  unfold fn_Md_rowsLength at hf
  have hI := hI.here
  refine sm_ofW rfl (Nat.le_of_ble_eq_true rfl) ?_
  refine sm_aload_n d_Md_rowsLength_0 rfl (j := 0) rfl ?_
  refine sm_iload_n d_Md_rowsLength_1 rfl (j := 1) rfl ?_
  obtain ⟨r1, e2, hf⟩ := lo_bnd hf
  refine lo_callV d_Md_rowsLength_2 cs_Md_rowsLength_190 rfl hI ml_0 (As := [.int x1]) rfl rfl (Nat.le_of_ble_eq_true rfl) (c_Md_valuesOf hI x1 e2) ?_
  refine sm_aload_n d_Md_rowsLength_5 rfl (j := 0) rfl ?_
  refine lo_get (v := .ref (b + 6)) d_Md_rowsLength_6 fg_Md_29 hI ml_0 rfl ?_
  refine sm_bipush (v := 8) d_Md_rowsLength_9 (by decide) ?_
  refine sm_iload_n d_Md_rowsLength_11 rfl (j := 1) rfl ?_
  refine sm_imul d_Md_rowsLength_12 ?_
  refine sm_iconst (v := 5) d_Md_rowsLength_13 (by decide) ?_
  refine sm_iadd d_Md_rowsLength_14 ?_
  obtain ⟨h3, hf⟩ := lo_chk hf
  refine lo_ald (j := (((8 : Int32) * x1) + (5 : Int32)).toInt.toNat) d_Md_rowsLength_15 hI ml_6 h3 rfl ?_
  refine sm_if_ne (tgt := 23) d_Md_rowsLength_16 (by decide) (fun h4 => ?_) (fun h4 => ?_)
  · rw [if_neg h4] at hf
    refine sm_iconst (v := 2) d_Md_rowsLength_23 (by decide) ?_
    refine sm_imul d_Md_rowsLength_24 ?_
    refine sm_iconst (v := 1) d_Md_rowsLength_25 (by decide) ?_
    refine sm_iadd d_Md_rowsLength_26 ?_
    cases hf
    refine sm_ireturn d_Md_rowsLength_27 rfl (by rfl) ?_
    exact ⟨rfl, rfl⟩
  · rw [if_pos h4] at hf
    refine sm_iconst (v := 1) d_Md_rowsLength_19 (by decide) ?_
    refine sm_goto (tgt := 24) d_Md_rowsLength_20 (by decide) ?_
    refine sm_imul d_Md_rowsLength_24 ?_
    refine sm_iconst (v := 1) d_Md_rowsLength_25 (by decide) ?_
    refine sm_iadd d_Md_rowsLength_26 ?_
    cases hf
    refine sm_ireturn d_Md_rowsLength_27 rfl (by rfl) ?_
    exact ⟨rfl, rfl⟩

def fn_Md_bodyLength (F : Nat) (w : wd) (x1 : Int32) : Option (Int32) := ((fn_Md_tells F w x1).bind fun r1 => (if r1 = true then (if 0 ≤ ((8 : Int32) * x1).toInt ∧ ((8 : Int32) * x1).toInt < 128 then some ((5 : Int32) + ((w 6 (((8 : Int32) * x1).toInt.toNat)) + (1 : Int32))) else none) else some ((5 : Int32) + (0 : Int32))))
set_option maxHeartbeats 1600000 in
set_option maxRecDepth 100000 in
theorem c_Md_bodyLength {G : sm_G} {b : Nat} {M0 M : sm_M}  {w : wd} {F : Nat} (hI : lo_in G md_L b M0 M w)  (x1 : Int32)  {R : Int32} (hf : fn_Md_bodyLength F w x1 = some R) : sm_C G mf_Md_bodyLength [.ref (b + 0), .int x1] M 0 0 (sm_pu M (.int R)) := by
  unfold fn_Md_bodyLength at hf
  have hI := hI.here
  refine sm_ofW rfl (Nat.le_of_ble_eq_true rfl) ?_
  refine sm_iconst (v := 5) d_Md_bodyLength_0 (by decide) ?_
  refine sm_aload_n d_Md_bodyLength_1 rfl (j := 0) rfl ?_
  refine sm_iload_n d_Md_bodyLength_2 rfl (j := 1) rfl ?_
  obtain ⟨r1, e2, hf⟩ := lo_bnd hf
  refine lo_callV d_Md_bodyLength_3 cs_Md_bodyLength_187 rfl hI ml_0 (As := [.int x1]) rfl rfl (Nat.le_of_ble_eq_true rfl) (c_Md_tells hI x1 e2) ?_
  refine sm_if_eq (tgt := 23) d_Md_bodyLength_6 (by decide) (fun h3 => ?_) (fun h3 => ?_)
  · rw [if_neg (bi0 h3)] at hf
    refine sm_iconst (v := 0) d_Md_bodyLength_23 (by decide) ?_
    refine sm_iadd d_Md_bodyLength_24 ?_
    cases hf
    refine sm_ireturn d_Md_bodyLength_25 rfl (by rfl) ?_
    exact ⟨rfl, rfl⟩
  · rw [if_pos (bi1 h3)] at hf
    refine sm_aload_n d_Md_bodyLength_9 rfl (j := 0) rfl ?_
    refine lo_get (v := .ref (b + 6)) d_Md_bodyLength_10 fg_Md_29 hI ml_0 rfl ?_
    refine sm_bipush (v := 8) d_Md_bodyLength_13 (by decide) ?_
    refine sm_iload_n d_Md_bodyLength_15 rfl (j := 1) rfl ?_
    refine sm_imul d_Md_bodyLength_16 ?_
    obtain ⟨h4, hf⟩ := lo_chk hf
    refine lo_ald (j := ((8 : Int32) * x1).toInt.toNat) d_Md_bodyLength_17 hI ml_6 h4 rfl ?_
    refine sm_iconst (v := 1) d_Md_bodyLength_18 (by decide) ?_
    refine sm_iadd d_Md_bodyLength_19 ?_
    refine sm_goto (tgt := 24) d_Md_bodyLength_20 (by decide) ?_
    refine sm_iadd d_Md_bodyLength_24 ?_
    cases hf
    refine sm_ireturn d_Md_bodyLength_25 rfl (by rfl) ?_
    exact ⟨rfl, rfl⟩

def fn_Md_otherCoding_109 (k47 : wd → Int32 → Bool → Int32 → Option (Bool)) (F : Nat) (w : wd) (x1 : Int32) (x3 : Int32) (s0 : Bool) : Option (Bool) := k47 w x1 s0 (x3 + 1)
set_option maxHeartbeats 1600000 in
set_option maxRecDepth 100000 in
theorem w_Md_otherCoding_109 {G : sm_G} {b : Nat} {M0 : sm_M} {bc bs : Nat} {R : Bool} {F : Nat} {k47 : wd → Int32 → Bool → Int32 → Option (Bool)} (hk47 : ∀ (w : wd) (x1 : Int32) (x2 : Bool) (x3 : Int32), lo_in G md_L b M0 M0 w → k47 w x1 x2 x3 = some R → sm_W G mf_Md_otherCoding 47 [(0, .ref (b + 0)), (1, .int x1), (2, .int (bi x2)), (3, .int x3)] [] M0 bc bs (sm_pu M0 (.int (bi R)))) : ∀ (w : wd) (x1 : Int32) (x3 : Int32) (s0 : Bool), lo_in G md_L b M0 M0 w → fn_Md_otherCoding_109 k47 F w x1 x3 s0 = some R → sm_W G mf_Md_otherCoding 109 [(0, .ref (b + 0)), (1, .int x1), (3, .int x3)] [.int (bi s0)] M0 bc bs (sm_pu M0 (.int (bi R))) := by
  intro w x1 x3 s0 hI  hf
  unfold fn_Md_otherCoding_109 at hf
  refine sm_istore_n d_Md_otherCoding_109 rfl (by decide) rfl ?_
  refine sm_iinc (v := (x3 + 1)) d_Md_otherCoding_110 (j := 3) rfl rfl (by decide) rfl ?_
  refine sm_goto (tgt := 47) d_Md_otherCoding_113 (by decide) ?_
  exact sm_pick [2, 3, 1, 0] (hk47 _ _ _ _ hI hf) rfl

def fn_Md_otherCoding_108 (k47 : wd → Int32 → Bool → Int32 → Option (Bool)) (F : Nat) (w : wd) (x1 : Int32) (x3 : Int32) : Option (Bool) := fn_Md_otherCoding_109 k47 F w x1 x3 false
set_option maxHeartbeats 1600000 in
set_option maxRecDepth 100000 in
theorem w_Md_otherCoding_108 {G : sm_G} {b : Nat} {M0 : sm_M} {bc bs : Nat} {R : Bool} {F : Nat} {k47 : wd → Int32 → Bool → Int32 → Option (Bool)} (hk47 : ∀ (w : wd) (x1 : Int32) (x2 : Bool) (x3 : Int32), lo_in G md_L b M0 M0 w → k47 w x1 x2 x3 = some R → sm_W G mf_Md_otherCoding 47 [(0, .ref (b + 0)), (1, .int x1), (2, .int (bi x2)), (3, .int x3)] [] M0 bc bs (sm_pu M0 (.int (bi R)))) : ∀ (w : wd) (x1 : Int32) (x3 : Int32), lo_in G md_L b M0 M0 w → fn_Md_otherCoding_108 k47 F w x1 x3 = some R → sm_W G mf_Md_otherCoding 108 [(0, .ref (b + 0)), (1, .int x1), (3, .int x3)] [] M0 bc bs (sm_pu M0 (.int (bi R))) := by
  intro w x1 x3 hI  hf
  unfold fn_Md_otherCoding_108 at hf
  refine sm_iconst (v := 0) d_Md_otherCoding_108 (by decide) ?_
  exact sm_pick [0, 1, 2] (w_Md_otherCoding_109 hk47 _ _ _ _ hI hf) rfl

def fn_Md_otherCoding_47 (F : Nat) : Nat → wd → Int32 → Bool → Int32 → Option (Bool)
 | 0, _, _, _, _ => none
 | n9 + 1, w, x1, x2, x3 => (if 0 ≤ ((8 : Int32) * x1).toInt ∧ ((8 : Int32) * x1).toInt < 128 then (if (w 6 (((8 : Int32) * x1).toInt.toNat)) < x3 then (if x2 = true then some false else some true) else (if x2 = true then (if 0 ≤ (((33 : Int32) * x1) + x3).toInt ∧ (((33 : Int32) * x1) + x3).toInt < 528 then (if 0 ≤ x3.toInt ∧ x3.toInt < 528 then (if (w 7 ((((33 : Int32) * x1) + x3).toInt.toNat)) = (w 7 x3.toInt.toNat) then (if 0 ≤ (((33 : Int32) * x1) + x3).toInt ∧ (((33 : Int32) * x1) + x3).toInt < 528 then (if 0 ≤ x3.toInt ∧ x3.toInt < 528 then (if (w 8 ((((33 : Int32) * x1) + x3).toInt.toNat)) = (w 8 x3.toInt.toNat) then fn_Md_otherCoding_109 (fn_Md_otherCoding_47 F n9) F w x1 x3 true else fn_Md_otherCoding_108 (fn_Md_otherCoding_47 F n9) F w x1 x3) else none) else none) else fn_Md_otherCoding_108 (fn_Md_otherCoding_47 F n9) F w x1 x3) else none) else none) else (if x2 = true then some false else some true))) else none)
set_option maxHeartbeats 1600000 in
set_option maxRecDepth 100000 in
theorem w_Md_otherCoding_47 {G : sm_G} {b : Nat} {M0 : sm_M} {bc bs : Nat} {R : Bool} {F : Nat} : ∀ (n9 : Nat), ∀ (w : wd) (x1 : Int32) (x2 : Bool) (x3 : Int32), lo_in G md_L b M0 M0 w → fn_Md_otherCoding_47 F n9 w x1 x2 x3 = some R → sm_W G mf_Md_otherCoding 47 [(0, .ref (b + 0)), (1, .int x1), (2, .int (bi x2)), (3, .int x3)] [] M0 bc bs (sm_pu M0 (.int (bi R))) := by
  intro n9
  induction n9 with
  | zero => intro w x1 x2 x3 hI  hf; cases hf
  | succ n9 ih =>
    intro w x1 x2 x3 hI  hf
    rw [fn_Md_otherCoding_47] at hf
    refine sm_iload_n d_Md_otherCoding_47 rfl (j := 3) rfl ?_
    refine sm_aload_n d_Md_otherCoding_48 rfl (j := 0) rfl ?_
    refine lo_get (v := .ref (b + 6)) d_Md_otherCoding_49 fg_Md_29 hI ml_0 rfl ?_
    refine sm_bipush (v := 8) d_Md_otherCoding_52 (by decide) ?_
    refine sm_iload_n d_Md_otherCoding_54 rfl (j := 1) rfl ?_
    refine sm_imul d_Md_otherCoding_55 ?_
    obtain ⟨h2, hf⟩ := lo_chk hf
    refine lo_ald (j := ((8 : Int32) * x1).toInt.toNat) d_Md_otherCoding_56 hI ml_6 h2 rfl ?_
    refine sm_icmp_gt (tgt := 116) d_Md_otherCoding_57 (by decide) (fun h3 => ?_) (fun h3 => ?_)
    · rw [if_pos h3] at hf
      refine sm_iload_n d_Md_otherCoding_116 rfl (j := 2) rfl ?_
      refine sm_if_ne (tgt := 124) d_Md_otherCoding_117 (by decide) (fun h4 => ?_) (fun h4 => ?_)
      · rw [if_pos (bi1 h4)] at hf
        refine sm_iconst (v := 0) d_Md_otherCoding_124 (by decide) ?_
        cases hf
        refine sm_ireturn d_Md_otherCoding_125 rfl (by rfl) ?_
        exact ⟨rfl, rfl⟩
      · rw [if_neg (bi0 h4)] at hf
        refine sm_iconst (v := 1) d_Md_otherCoding_120 (by decide) ?_
        refine sm_goto (tgt := 125) d_Md_otherCoding_121 (by decide) ?_
        cases hf
        refine sm_ireturn d_Md_otherCoding_125 rfl (by rfl) ?_
        exact ⟨rfl, rfl⟩
    · rw [if_neg h3] at hf
      refine sm_iload_n d_Md_otherCoding_60 rfl (j := 2) rfl ?_
      refine sm_if_eq (tgt := 116) d_Md_otherCoding_61 (by decide) (fun h5 => ?_) (fun h5 => ?_)
      · rw [if_neg (bi0 h5)] at hf
        refine sm_iload_n d_Md_otherCoding_116 rfl (j := 2) rfl ?_
        refine sm_if_ne (tgt := 124) d_Md_otherCoding_117 (by decide) (fun h6 => ?_) (fun h6 => ?_)
        · rw [if_pos (bi1 h6)] at hf
          refine sm_iconst (v := 0) d_Md_otherCoding_124 (by decide) ?_
          cases hf
          refine sm_ireturn d_Md_otherCoding_125 rfl (by rfl) ?_
          exact ⟨rfl, rfl⟩
        · rw [if_neg (bi0 h6)] at hf
          refine sm_iconst (v := 1) d_Md_otherCoding_120 (by decide) ?_
          refine sm_goto (tgt := 125) d_Md_otherCoding_121 (by decide) ?_
          cases hf
          refine sm_ireturn d_Md_otherCoding_125 rfl (by rfl) ?_
          exact ⟨rfl, rfl⟩
      · rw [if_pos (bi1 h5)] at hf
        refine sm_aload_n d_Md_otherCoding_64 rfl (j := 0) rfl ?_
        refine lo_get (v := .ref (b + 7)) d_Md_otherCoding_65 fg_Md_32 hI ml_0 rfl ?_
        refine sm_bipush (v := 33) d_Md_otherCoding_68 (by decide) ?_
        refine sm_iload_n d_Md_otherCoding_70 rfl (j := 1) rfl ?_
        refine sm_imul d_Md_otherCoding_71 ?_
        refine sm_iload_n d_Md_otherCoding_72 rfl (j := 3) rfl ?_
        refine sm_iadd d_Md_otherCoding_73 ?_
        obtain ⟨h7, hf⟩ := lo_chk hf
        refine lo_ald (j := (((33 : Int32) * x1) + x3).toInt.toNat) d_Md_otherCoding_74 hI ml_7 h7 rfl ?_
        refine sm_aload_n d_Md_otherCoding_75 rfl (j := 0) rfl ?_
        refine lo_get (v := .ref (b + 7)) d_Md_otherCoding_76 fg_Md_32 hI ml_0 rfl ?_
        refine sm_iload_n d_Md_otherCoding_79 rfl (j := 3) rfl ?_
        obtain ⟨h8, hf⟩ := lo_chk hf
        refine lo_ald (j := x3.toInt.toNat) d_Md_otherCoding_80 hI ml_7 h8 rfl ?_
        refine sm_icmp_ne (tgt := 108) d_Md_otherCoding_81 (by decide) (fun h9 => ?_) (fun h9 => ?_)
        · rw [if_neg h9] at hf
          exact sm_pick [0, 1, 3] (w_Md_otherCoding_108 ih _ _ _ hI hf) rfl
        · rw [if_pos h9] at hf
          refine sm_aload_n d_Md_otherCoding_84 rfl (j := 0) rfl ?_
          refine lo_get (v := .ref (b + 8)) d_Md_otherCoding_85 fg_Md_35 hI ml_0 rfl ?_
          refine sm_bipush (v := 33) d_Md_otherCoding_88 (by decide) ?_
          refine sm_iload_n d_Md_otherCoding_90 rfl (j := 1) rfl ?_
          refine sm_imul d_Md_otherCoding_91 ?_
          refine sm_iload_n d_Md_otherCoding_92 rfl (j := 3) rfl ?_
          refine sm_iadd d_Md_otherCoding_93 ?_
          obtain ⟨h10, hf⟩ := lo_chk hf
          refine lo_ald (j := (((33 : Int32) * x1) + x3).toInt.toNat) d_Md_otherCoding_94 hI ml_8 h10 rfl ?_
          refine sm_aload_n d_Md_otherCoding_95 rfl (j := 0) rfl ?_
          refine lo_get (v := .ref (b + 8)) d_Md_otherCoding_96 fg_Md_35 hI ml_0 rfl ?_
          refine sm_iload_n d_Md_otherCoding_99 rfl (j := 3) rfl ?_
          obtain ⟨h11, hf⟩ := lo_chk hf
          refine lo_ald (j := x3.toInt.toNat) d_Md_otherCoding_100 hI ml_8 h11 rfl ?_
          refine sm_icmp_ne (tgt := 108) d_Md_otherCoding_101 (by decide) (fun h12 => ?_) (fun h12 => ?_)
          · rw [if_neg h12] at hf
            exact sm_pick [0, 1, 3] (w_Md_otherCoding_108 ih _ _ _ hI hf) rfl
          · rw [if_pos h12] at hf
            refine sm_iconst (v := 1) d_Md_otherCoding_104 (by decide) ?_
            refine sm_goto (tgt := 109) d_Md_otherCoding_105 (by decide) ?_
            exact sm_pick [0, 1, 3] (w_Md_otherCoding_109 ih _ _ _ _ hI hf) rfl

def fn_Md_otherCoding_38 (k4 : wd → Int32 → Bool → Int32 → Option (Bool)) (F : Nat) (w : wd) (x1 : Int32) (x3 : Int32) (s0 : Bool) : Option (Bool) := k4 w x1 s0 (x3 + 1)
set_option maxHeartbeats 1600000 in
set_option maxRecDepth 100000 in
theorem w_Md_otherCoding_38 {G : sm_G} {b : Nat} {M0 : sm_M} {bc bs : Nat} {R : Bool} {F : Nat} {k4 : wd → Int32 → Bool → Int32 → Option (Bool)} (hk4 : ∀ (w : wd) (x1 : Int32) (x2 : Bool) (x3 : Int32), lo_in G md_L b M0 M0 w → k4 w x1 x2 x3 = some R → sm_W G mf_Md_otherCoding 4 [(0, .ref (b + 0)), (1, .int x1), (2, .int (bi x2)), (3, .int x3)] [] M0 bc bs (sm_pu M0 (.int (bi R)))) : ∀ (w : wd) (x1 : Int32) (x3 : Int32) (s0 : Bool), lo_in G md_L b M0 M0 w → fn_Md_otherCoding_38 k4 F w x1 x3 s0 = some R → sm_W G mf_Md_otherCoding 38 [(0, .ref (b + 0)), (1, .int x1), (3, .int x3)] [.int (bi s0)] M0 bc bs (sm_pu M0 (.int (bi R))) := by
  intro w x1 x3 s0 hI  hf
  unfold fn_Md_otherCoding_38 at hf
  refine sm_istore_n d_Md_otherCoding_38 rfl (by decide) rfl ?_
  refine sm_iinc (v := (x3 + 1)) d_Md_otherCoding_39 (j := 3) rfl rfl (by decide) rfl ?_
  refine sm_goto (tgt := 4) d_Md_otherCoding_42 (by decide) ?_
  exact sm_pick [2, 3, 1, 0] (hk4 _ _ _ _ hI hf) rfl

def fn_Md_otherCoding_37 (k4 : wd → Int32 → Bool → Int32 → Option (Bool)) (F : Nat) (w : wd) (x1 : Int32) (x3 : Int32) : Option (Bool) := fn_Md_otherCoding_38 k4 F w x1 x3 false
set_option maxHeartbeats 1600000 in
set_option maxRecDepth 100000 in
theorem w_Md_otherCoding_37 {G : sm_G} {b : Nat} {M0 : sm_M} {bc bs : Nat} {R : Bool} {F : Nat} {k4 : wd → Int32 → Bool → Int32 → Option (Bool)} (hk4 : ∀ (w : wd) (x1 : Int32) (x2 : Bool) (x3 : Int32), lo_in G md_L b M0 M0 w → k4 w x1 x2 x3 = some R → sm_W G mf_Md_otherCoding 4 [(0, .ref (b + 0)), (1, .int x1), (2, .int (bi x2)), (3, .int x3)] [] M0 bc bs (sm_pu M0 (.int (bi R)))) : ∀ (w : wd) (x1 : Int32) (x3 : Int32), lo_in G md_L b M0 M0 w → fn_Md_otherCoding_37 k4 F w x1 x3 = some R → sm_W G mf_Md_otherCoding 37 [(0, .ref (b + 0)), (1, .int x1), (3, .int x3)] [] M0 bc bs (sm_pu M0 (.int (bi R))) := by
  intro w x1 x3 hI  hf
  unfold fn_Md_otherCoding_37 at hf
  refine sm_iconst (v := 0) d_Md_otherCoding_37 (by decide) ?_
  exact sm_pick [0, 1, 2] (w_Md_otherCoding_38 hk4 _ _ _ _ hI hf) rfl

def fn_Md_otherCoding_4 (F : Nat) : Nat → wd → Int32 → Bool → Int32 → Option (Bool)
 | 0, _, _, _, _ => none
 | n9 + 1, w, x1, x2, x3 => (if (5 : Int32) ≤ x3 then fn_Md_otherCoding_47 F F w x1 x2 (0 : Int32) else (if x2 = true then (if 0 ≤ (((8 : Int32) * x1) + x3).toInt ∧ (((8 : Int32) * x1) + x3).toInt < 128 then (if 0 ≤ x3.toInt ∧ x3.toInt < 128 then (if (w 6 ((((8 : Int32) * x1) + x3).toInt.toNat)) = (w 6 x3.toInt.toNat) then fn_Md_otherCoding_38 (fn_Md_otherCoding_4 F n9) F w x1 x3 true else fn_Md_otherCoding_37 (fn_Md_otherCoding_4 F n9) F w x1 x3) else none) else none) else fn_Md_otherCoding_37 (fn_Md_otherCoding_4 F n9) F w x1 x3))
set_option maxHeartbeats 1600000 in
set_option maxRecDepth 100000 in
theorem w_Md_otherCoding_4 {G : sm_G} {b : Nat} {M0 : sm_M} {bc bs : Nat} {R : Bool} {F : Nat} : ∀ (n9 : Nat), ∀ (w : wd) (x1 : Int32) (x2 : Bool) (x3 : Int32), lo_in G md_L b M0 M0 w → fn_Md_otherCoding_4 F n9 w x1 x2 x3 = some R → sm_W G mf_Md_otherCoding 4 [(0, .ref (b + 0)), (1, .int x1), (2, .int (bi x2)), (3, .int x3)] [] M0 bc bs (sm_pu M0 (.int (bi R))) := by
  intro n9
  induction n9 with
  | zero => intro w x1 x2 x3 hI  hf; cases hf
  | succ n9 ih =>
    intro w x1 x2 x3 hI  hf
    rw [fn_Md_otherCoding_4] at hf
    refine sm_iload_n d_Md_otherCoding_4 rfl (j := 3) rfl ?_
    refine sm_iconst (v := 5) d_Md_otherCoding_5 (by decide) ?_
    refine sm_icmp_ge (tgt := 45) d_Md_otherCoding_6 (by decide) (fun h1 => ?_) (fun h1 => ?_)
    · rw [if_pos h1] at hf
      refine sm_iconst (v := 0) d_Md_otherCoding_45 (by decide) ?_
      refine sm_istore_n d_Md_otherCoding_46 rfl (by decide) rfl ?_
      exact sm_pick [1, 2, 3, 0] (w_Md_otherCoding_47 _ _ _ _ _ hI hf) rfl
    · rw [if_neg h1] at hf
      refine sm_iload_n d_Md_otherCoding_9 rfl (j := 2) rfl ?_
      refine sm_if_eq (tgt := 37) d_Md_otherCoding_10 (by decide) (fun h13 => ?_) (fun h13 => ?_)
      · rw [if_neg (bi0 h13)] at hf
        exact sm_pick [0, 1, 3] (w_Md_otherCoding_37 ih _ _ _ hI hf) rfl
      · rw [if_pos (bi1 h13)] at hf
        refine sm_aload_n d_Md_otherCoding_13 rfl (j := 0) rfl ?_
        refine lo_get (v := .ref (b + 6)) d_Md_otherCoding_14 fg_Md_29 hI ml_0 rfl ?_
        refine sm_bipush (v := 8) d_Md_otherCoding_17 (by decide) ?_
        refine sm_iload_n d_Md_otherCoding_19 rfl (j := 1) rfl ?_
        refine sm_imul d_Md_otherCoding_20 ?_
        refine sm_iload_n d_Md_otherCoding_21 rfl (j := 3) rfl ?_
        refine sm_iadd d_Md_otherCoding_22 ?_
        obtain ⟨h14, hf⟩ := lo_chk hf
        refine lo_ald (j := (((8 : Int32) * x1) + x3).toInt.toNat) d_Md_otherCoding_23 hI ml_6 h14 rfl ?_
        refine sm_aload_n d_Md_otherCoding_24 rfl (j := 0) rfl ?_
        refine lo_get (v := .ref (b + 6)) d_Md_otherCoding_25 fg_Md_29 hI ml_0 rfl ?_
        refine sm_iload_n d_Md_otherCoding_28 rfl (j := 3) rfl ?_
        obtain ⟨h15, hf⟩ := lo_chk hf
        refine lo_ald (j := x3.toInt.toNat) d_Md_otherCoding_29 hI ml_6 h15 rfl ?_
        refine sm_icmp_ne (tgt := 37) d_Md_otherCoding_30 (by decide) (fun h16 => ?_) (fun h16 => ?_)
        · rw [if_neg h16] at hf
          exact sm_pick [0, 1, 3] (w_Md_otherCoding_37 ih _ _ _ hI hf) rfl
        · rw [if_pos h16] at hf
          refine sm_iconst (v := 1) d_Md_otherCoding_33 (by decide) ?_
          refine sm_goto (tgt := 38) d_Md_otherCoding_34 (by decide) ?_
          exact sm_pick [0, 1, 3] (w_Md_otherCoding_38 ih _ _ _ _ hI hf) rfl

def fn_Md_otherCoding (F : Nat) (w : wd) (x1 : Int32) : Option (Bool) := fn_Md_otherCoding_4 F F w x1 true (0 : Int32)
set_option maxHeartbeats 1600000 in
set_option maxRecDepth 100000 in
theorem c_Md_otherCoding {G : sm_G} {b : Nat} {M0 M : sm_M}  {w : wd} {F : Nat} (hI : lo_in G md_L b M0 M w)  (x1 : Int32)  {R : Bool} (hf : fn_Md_otherCoding F w x1 = some R) : sm_C G mf_Md_otherCoding [.ref (b + 0), .int x1] M 0 0 (sm_pu M (.int (bi R))) := by
  unfold fn_Md_otherCoding at hf
  have hI := hI.here
  refine sm_ofW rfl (Nat.le_of_ble_eq_true rfl) ?_
  refine sm_iconst (v := 1) d_Md_otherCoding_0 (by decide) ?_
  refine sm_istore_n d_Md_otherCoding_1 rfl (by decide) rfl ?_
  refine sm_iconst (v := 0) d_Md_otherCoding_2 (by decide) ?_
  refine sm_istore_n d_Md_otherCoding_3 rfl (by decide) rfl ?_
  exact sm_pick [2, 3, 1, 0] (w_Md_otherCoding_4 _ _ _ _ _ hI hf) rfl

def fn_Md_otherSteps_96 (k63 : wd → Int32 → Bool → Int32 → Option (Bool)) (F : Nat) (w : wd) (x1 : Int32) (x3 : Int32) (s0 : Bool) : Option (Bool) := k63 w x1 s0 (x3 + 1)
set_option maxHeartbeats 1600000 in
set_option maxRecDepth 100000 in
theorem w_Md_otherSteps_96 {G : sm_G} {b : Nat} {M0 : sm_M} {bc bs : Nat} {R : Bool} {F : Nat} {k63 : wd → Int32 → Bool → Int32 → Option (Bool)} (hk63 : ∀ (w : wd) (x1 : Int32) (x2 : Bool) (x3 : Int32), lo_in G md_L b M0 M0 w → k63 w x1 x2 x3 = some R → sm_W G mf_Md_otherSteps 63 [(0, .ref (b + 0)), (1, .int x1), (2, .int (bi x2)), (3, .int x3)] [] M0 bc bs (sm_pu M0 (.int (bi R)))) : ∀ (w : wd) (x1 : Int32) (x3 : Int32) (s0 : Bool), lo_in G md_L b M0 M0 w → fn_Md_otherSteps_96 k63 F w x1 x3 s0 = some R → sm_W G mf_Md_otherSteps 96 [(0, .ref (b + 0)), (1, .int x1), (3, .int x3)] [.int (bi s0)] M0 bc bs (sm_pu M0 (.int (bi R))) := by
  intro w x1 x3 s0 hI  hf
  unfold fn_Md_otherSteps_96 at hf
  refine sm_istore_n d_Md_otherSteps_96 rfl (by decide) rfl ?_
  refine sm_iinc (v := (x3 + 1)) d_Md_otherSteps_97 (j := 3) rfl rfl (by decide) rfl ?_
  refine sm_goto (tgt := 63) d_Md_otherSteps_100 (by decide) ?_
  exact sm_pick [2, 3, 1, 0] (hk63 _ _ _ _ hI hf) rfl

def fn_Md_otherSteps_63 (F : Nat) : Nat → wd → Int32 → Bool → Int32 → Option (Bool)
 | 0, _, _, _, _ => none
 | n9 + 1, w, x1, x2, x3 => ((fn_Md_valuesOf w x1).bind fun r3 => (if r3 ≤ x3 then (if x2 = true then some false else some true) else (if x2 = true then ((fn_Md_valueOf w x1 x3).bind fun r9 => ((fn_Md_valueOf w (0 : Int32) x3).bind fun r11 => (if r9 = r11 then fn_Md_otherSteps_96 (fn_Md_otherSteps_63 F n9) F w x1 x3 true else fn_Md_otherSteps_96 (fn_Md_otherSteps_63 F n9) F w x1 x3 false))) else (if x2 = true then some false else some true))))
set_option maxHeartbeats 1600000 in
set_option maxRecDepth 100000 in
theorem w_Md_otherSteps_63 {G : sm_G} {b : Nat} {M0 : sm_M} {bc bs : Nat} {R : Bool} {F : Nat} : ∀ (n9 : Nat), ∀ (w : wd) (x1 : Int32) (x2 : Bool) (x3 : Int32), lo_in G md_L b M0 M0 w → fn_Md_otherSteps_63 F n9 w x1 x2 x3 = some R → sm_W G mf_Md_otherSteps 63 [(0, .ref (b + 0)), (1, .int x1), (2, .int (bi x2)), (3, .int x3)] [] M0 bc bs (sm_pu M0 (.int (bi R))) := by
  intro n9
  induction n9 with
  | zero => intro w x1 x2 x3 hI  hf; cases hf
  | succ n9 ih =>
    intro w x1 x2 x3 hI  hf
    rw [fn_Md_otherSteps_63] at hf
    refine sm_iload_n d_Md_otherSteps_63 rfl (j := 3) rfl ?_
    refine sm_aload_n d_Md_otherSteps_64 rfl (j := 0) rfl ?_
    refine sm_iload_n d_Md_otherSteps_65 rfl (j := 1) rfl ?_
    obtain ⟨r3, e4, hf⟩ := lo_bnd hf
    refine lo_callV d_Md_otherSteps_66 cs_Md_otherSteps_190 rfl hI ml_0 (As := [.int x1]) rfl rfl (Nat.le_of_ble_eq_true rfl) (c_Md_valuesOf hI x1 e4) ?_
    refine sm_icmp_ge (tgt := 103) d_Md_otherSteps_69 (by decide) (fun h5 => ?_) (fun h5 => ?_)
    · rw [if_pos h5] at hf
      refine sm_iload_n d_Md_otherSteps_103 rfl (j := 2) rfl ?_
      refine sm_if_ne (tgt := 111) d_Md_otherSteps_104 (by decide) (fun h6 => ?_) (fun h6 => ?_)
      · rw [if_pos (bi1 h6)] at hf
        refine sm_iconst (v := 0) d_Md_otherSteps_111 (by decide) ?_
        cases hf
        refine sm_ireturn d_Md_otherSteps_112 rfl (by rfl) ?_
        exact ⟨rfl, rfl⟩
      · rw [if_neg (bi0 h6)] at hf
        refine sm_iconst (v := 1) d_Md_otherSteps_107 (by decide) ?_
        refine sm_goto (tgt := 112) d_Md_otherSteps_108 (by decide) ?_
        cases hf
        refine sm_ireturn d_Md_otherSteps_112 rfl (by rfl) ?_
        exact ⟨rfl, rfl⟩
    · rw [if_neg h5] at hf
      refine sm_iload_n d_Md_otherSteps_72 rfl (j := 2) rfl ?_
      refine sm_if_eq (tgt := 103) d_Md_otherSteps_73 (by decide) (fun h7 => ?_) (fun h7 => ?_)
      · rw [if_neg (bi0 h7)] at hf
        refine sm_iload_n d_Md_otherSteps_103 rfl (j := 2) rfl ?_
        refine sm_if_ne (tgt := 111) d_Md_otherSteps_104 (by decide) (fun h8 => ?_) (fun h8 => ?_)
        · rw [if_pos (bi1 h8)] at hf
          refine sm_iconst (v := 0) d_Md_otherSteps_111 (by decide) ?_
          cases hf
          refine sm_ireturn d_Md_otherSteps_112 rfl (by rfl) ?_
          exact ⟨rfl, rfl⟩
        · rw [if_neg (bi0 h8)] at hf
          refine sm_iconst (v := 1) d_Md_otherSteps_107 (by decide) ?_
          refine sm_goto (tgt := 112) d_Md_otherSteps_108 (by decide) ?_
          cases hf
          refine sm_ireturn d_Md_otherSteps_112 rfl (by rfl) ?_
          exact ⟨rfl, rfl⟩
      · rw [if_pos (bi1 h7)] at hf
        refine sm_aload_n d_Md_otherSteps_76 rfl (j := 0) rfl ?_
        refine sm_iload_n d_Md_otherSteps_77 rfl (j := 1) rfl ?_
        refine sm_iload_n d_Md_otherSteps_78 rfl (j := 3) rfl ?_
        obtain ⟨r9, e10, hf⟩ := lo_bnd hf
        refine lo_callV d_Md_otherSteps_79 cs_Md_otherSteps_194 rfl hI ml_0 (As := [.int x1, .int x3]) rfl rfl (Nat.le_of_ble_eq_true rfl) (c_Md_valueOf hI x1 x3 e10) ?_
        refine sm_aload_n d_Md_otherSteps_82 rfl (j := 0) rfl ?_
        refine sm_iconst (v := 0) d_Md_otherSteps_83 (by decide) ?_
        refine sm_iload_n d_Md_otherSteps_84 rfl (j := 3) rfl ?_
        obtain ⟨r11, e12, hf⟩ := lo_bnd hf
        refine lo_callV d_Md_otherSteps_85 cs_Md_otherSteps_194 rfl hI ml_0 (As := [.int (0 : Int32), .int x3]) rfl rfl (Nat.le_of_ble_eq_true rfl) (c_Md_valueOf hI (0 : Int32) x3 e12) ?_
        refine sm_icmp_ne (tgt := 95) d_Md_otherSteps_88 (by decide) (fun h13 => ?_) (fun h13 => ?_)
        · rw [if_neg h13] at hf
          refine sm_iconst (v := 0) d_Md_otherSteps_95 (by decide) ?_
          exact sm_pick [0, 1, 3] (w_Md_otherSteps_96 ih _ _ _ _ hI hf) rfl
        · rw [if_pos h13] at hf
          refine sm_iconst (v := 1) d_Md_otherSteps_91 (by decide) ?_
          refine sm_goto (tgt := 96) d_Md_otherSteps_92 (by decide) ?_
          exact sm_pick [0, 1, 3] (w_Md_otherSteps_96 ih _ _ _ _ hI hf) rfl

def fn_Md_otherSteps_60 (F : Nat) (w : wd) (x1 : Int32) (s0 : Bool) : Option (Bool) := fn_Md_otherSteps_63 F F w x1 s0 (0 : Int32)
set_option maxHeartbeats 1600000 in
set_option maxRecDepth 100000 in
theorem w_Md_otherSteps_60 {G : sm_G} {b : Nat} {M0 : sm_M} {bc bs : Nat} {R : Bool} {F : Nat} : ∀ (w : wd) (x1 : Int32) (s0 : Bool), lo_in G md_L b M0 M0 w → fn_Md_otherSteps_60 F w x1 s0 = some R → sm_W G mf_Md_otherSteps 60 [(0, .ref (b + 0)), (1, .int x1)] [.int (bi s0)] M0 bc bs (sm_pu M0 (.int (bi R))) := by
  intro w x1 s0 hI  hf
  unfold fn_Md_otherSteps_60 at hf
  refine sm_istore_n d_Md_otherSteps_60 rfl (by decide) rfl ?_
  refine sm_iconst (v := 0) d_Md_otherSteps_61 (by decide) ?_
  refine sm_istore_n d_Md_otherSteps_62 rfl (by decide) rfl ?_
  exact sm_pick [2, 3, 1, 0] (w_Md_otherSteps_63 _ _ _ _ _ hI hf) rfl

def fn_Md_otherSteps_59 (F : Nat) (w : wd) (x1 : Int32) : Option (Bool) := fn_Md_otherSteps_60 F w x1 false
set_option maxHeartbeats 1600000 in
set_option maxRecDepth 100000 in
theorem w_Md_otherSteps_59 {G : sm_G} {b : Nat} {M0 : sm_M} {bc bs : Nat} {R : Bool} {F : Nat} : ∀ (w : wd) (x1 : Int32), lo_in G md_L b M0 M0 w → fn_Md_otherSteps_59 F w x1 = some R → sm_W G mf_Md_otherSteps 59 [(0, .ref (b + 0)), (1, .int x1)] [] M0 bc bs (sm_pu M0 (.int (bi R))) := by
  intro w x1 hI  hf
  unfold fn_Md_otherSteps_59 at hf
  refine sm_iconst (v := 0) d_Md_otherSteps_59 (by decide) ?_
  exact sm_pick [0, 1] (w_Md_otherSteps_60 _ _ _ hI hf) rfl

def fn_Md_otherSteps (F : Nat) (w : wd) (x1 : Int32) : Option (Bool) := (if 0 ≤ (((8 : Int32) * x1) + (5 : Int32)).toInt ∧ (((8 : Int32) * x1) + (5 : Int32)).toInt < 128 then (if (w 6 ((((8 : Int32) * x1) + (5 : Int32)).toInt.toNat)) = (w 6 5) then (if 0 ≤ (((8 : Int32) * x1) + (6 : Int32)).toInt ∧ (((8 : Int32) * x1) + (6 : Int32)).toInt < 128 then (if (w 6 ((((8 : Int32) * x1) + (6 : Int32)).toInt.toNat)) = (w 6 6) then ((fn_Md_valuesOf w x1).bind fun r16 => ((fn_Md_valuesOf w (0 : Int32)).bind fun r18 => (if r16 = r18 then fn_Md_otherSteps_60 F w x1 true else fn_Md_otherSteps_59 F w x1))) else fn_Md_otherSteps_59 F w x1) else none) else fn_Md_otherSteps_59 F w x1) else none)
set_option maxHeartbeats 1600000 in
set_option maxRecDepth 100000 in
theorem c_Md_otherSteps {G : sm_G} {b : Nat} {M0 M : sm_M}  {w : wd} {F : Nat} (hI : lo_in G md_L b M0 M w)  (x1 : Int32)  {R : Bool} (hf : fn_Md_otherSteps F w x1 = some R) : sm_C G mf_Md_otherSteps [.ref (b + 0), .int x1] M 0 0 (sm_pu M (.int (bi R))) := by
  unfold fn_Md_otherSteps at hf
  have hI := hI.here
  refine sm_ofW rfl (Nat.le_of_ble_eq_true rfl) ?_
  refine sm_aload_n d_Md_otherSteps_0 rfl (j := 0) rfl ?_
  refine lo_get (v := .ref (b + 6)) d_Md_otherSteps_1 fg_Md_29 hI ml_0 rfl ?_
  refine sm_bipush (v := 8) d_Md_otherSteps_4 (by decide) ?_
  refine sm_iload_n d_Md_otherSteps_6 rfl (j := 1) rfl ?_
  refine sm_imul d_Md_otherSteps_7 ?_
  refine sm_iconst (v := 5) d_Md_otherSteps_8 (by decide) ?_
  refine sm_iadd d_Md_otherSteps_9 ?_
  obtain ⟨h1, hf⟩ := lo_chk hf
  refine lo_ald (j := (((8 : Int32) * x1) + (5 : Int32)).toInt.toNat) d_Md_otherSteps_10 hI ml_6 h1 rfl ?_
  refine sm_aload_n d_Md_otherSteps_11 rfl (j := 0) rfl ?_
  refine lo_get (v := .ref (b + 6)) d_Md_otherSteps_12 fg_Md_29 hI ml_0 rfl ?_
  refine sm_iconst (v := 5) d_Md_otherSteps_15 (by decide) ?_
  refine lo_ald (j := 5) d_Md_otherSteps_16 hI ml_6 (by decide) rfl ?_
  refine sm_icmp_ne (tgt := 59) d_Md_otherSteps_17 (by decide) (fun h2 => ?_) (fun h2 => ?_)
  · rw [if_neg h2] at hf
    exact sm_pick [0, 1] (w_Md_otherSteps_59 _ _ hI hf) rfl
  · rw [if_pos h2] at hf
    refine sm_aload_n d_Md_otherSteps_20 rfl (j := 0) rfl ?_
    refine lo_get (v := .ref (b + 6)) d_Md_otherSteps_21 fg_Md_29 hI ml_0 rfl ?_
    refine sm_bipush (v := 8) d_Md_otherSteps_24 (by decide) ?_
    refine sm_iload_n d_Md_otherSteps_26 rfl (j := 1) rfl ?_
    refine sm_imul d_Md_otherSteps_27 ?_
    refine sm_bipush (v := 6) d_Md_otherSteps_28 (by decide) ?_
    refine sm_iadd d_Md_otherSteps_30 ?_
    obtain ⟨h14, hf⟩ := lo_chk hf
    refine lo_ald (j := (((8 : Int32) * x1) + (6 : Int32)).toInt.toNat) d_Md_otherSteps_31 hI ml_6 h14 rfl ?_
    refine sm_aload_n d_Md_otherSteps_32 rfl (j := 0) rfl ?_
    refine lo_get (v := .ref (b + 6)) d_Md_otherSteps_33 fg_Md_29 hI ml_0 rfl ?_
    refine sm_bipush (v := 6) d_Md_otherSteps_36 (by decide) ?_
    refine lo_ald (j := 6) d_Md_otherSteps_38 hI ml_6 (by decide) rfl ?_
    refine sm_icmp_ne (tgt := 59) d_Md_otherSteps_39 (by decide) (fun h15 => ?_) (fun h15 => ?_)
    · rw [if_neg h15] at hf
      exact sm_pick [0, 1] (w_Md_otherSteps_59 _ _ hI hf) rfl
    · rw [if_pos h15] at hf
      refine sm_aload_n d_Md_otherSteps_42 rfl (j := 0) rfl ?_
      refine sm_iload_n d_Md_otherSteps_43 rfl (j := 1) rfl ?_
      obtain ⟨r16, e17, hf⟩ := lo_bnd hf
      refine lo_callV d_Md_otherSteps_44 cs_Md_otherSteps_190 rfl hI ml_0 (As := [.int x1]) rfl rfl (Nat.le_of_ble_eq_true rfl) (c_Md_valuesOf hI x1 e17) ?_
      refine sm_aload_n d_Md_otherSteps_47 rfl (j := 0) rfl ?_
      refine sm_iconst (v := 0) d_Md_otherSteps_48 (by decide) ?_
      obtain ⟨r18, e19, hf⟩ := lo_bnd hf
      refine lo_callV d_Md_otherSteps_49 cs_Md_otherSteps_190 rfl hI ml_0 (As := [.int (0 : Int32)]) rfl rfl (Nat.le_of_ble_eq_true rfl) (c_Md_valuesOf hI (0 : Int32) e19) ?_
      refine sm_icmp_ne (tgt := 59) d_Md_otherSteps_52 (by decide) (fun h20 => ?_) (fun h20 => ?_)
      · rw [if_neg h20] at hf
        exact sm_pick [0, 1] (w_Md_otherSteps_59 _ _ hI hf) rfl
      · rw [if_pos h20] at hf
        refine sm_iconst (v := 1) d_Md_otherSteps_55 (by decide) ?_
        refine sm_goto (tgt := 60) d_Md_otherSteps_56 (by decide) ?_
        exact sm_pick [0, 1] (w_Md_otherSteps_60 _ _ _ hI hf) rfl

def fn_Md_addSize_137 (F : Nat) : Nat → wd → Int32 → Option (wd)
 | 0, _, _ => none
 | n9 + 1, w, x1 => (if (w 0 3) ≤ x1 then some w else (if 0 ≤ x1.toInt ∧ x1.toInt < 16 then (if 0 ≤ x1.toInt ∧ x1.toInt < 16 then ((fn_Md_add F w (((w 2 x1.toInt.toNat) - (1 : Int32)) + ((128 : Int32) * (w 3 x1.toInt.toNat))) (1 : Int32)).bind fun r56 => (if 0 ≤ x1.toInt ∧ x1.toInt < 16 then ((fn_Md_add F r56 (r56 4 x1.toInt.toNat) (1 : Int32)).bind fun r61 => (if 0 ≤ x1.toInt ∧ x1.toInt < 16 then ((fn_Md_add F r61 (r61 5 x1.toInt.toNat) (1 : Int32)).bind fun r66 => fn_Md_addSize_137 F n9 r66 (x1 + 1)) else none)) else none)) else none) else none))
set_option maxHeartbeats 1600000 in
set_option maxRecDepth 100000 in
theorem w_Md_addSize_137 {G : sm_G} {b : Nat} {M0 : sm_M} {bc bs : Nat} {R : wd} {F : Nat} : ∀ (n9 : Nat), ∀ (M : sm_M) (w : wd) (x1 : Int32), lo_in G md_L b M0 M w → fn_Md_addSize_137 F n9 w x1 = some R → sm_W G mf_Md_addSize 137 [(0, .ref (b + 0)), (1, .int x1)] [] M bc bs (wd_Q G md_L b M0 none R) := by
  intro n9
  induction n9 with
  | zero => intro M w x1 hI  hf; cases hf
  | succ n9 ih =>
    intro M w x1 hI  hf
    rw [fn_Md_addSize_137] at hf
    refine sm_iload_n d_Md_addSize_137 rfl (j := 1) rfl ?_
    refine sm_aload_n d_Md_addSize_138 rfl (j := 0) rfl ?_
    refine lo_get (v := .int (w 0 3)) d_Md_addSize_139 fg_Md_88 hI ml_0 rfl ?_
    refine sm_icmp_ge (tgt := 197) d_Md_addSize_142 (by decide) (fun h53 => ?_) (fun h53 => ?_)
    · rw [if_pos h53] at hf
      cases hf
      refine sm_return d_Md_addSize_197 rfl ?_
      exact ⟨rfl, hI⟩
    · rw [if_neg h53] at hf
      refine sm_aload_n d_Md_addSize_145 rfl (j := 0) rfl ?_
      refine sm_aload_n d_Md_addSize_146 rfl (j := 0) rfl ?_
      refine lo_get (v := .ref (b + 2)) d_Md_addSize_147 fg_Md_13 hI ml_0 rfl ?_
      refine sm_iload_n d_Md_addSize_150 rfl (j := 1) rfl ?_
      obtain ⟨h54, hf⟩ := lo_chk hf
      refine lo_ald (j := x1.toInt.toNat) d_Md_addSize_151 hI ml_2 h54 rfl ?_
      refine sm_iconst (v := 1) d_Md_addSize_152 (by decide) ?_
      refine sm_isub d_Md_addSize_153 ?_
      refine sm_sipush (v := 128) d_Md_addSize_154 (by decide) ?_
      refine sm_aload_n d_Md_addSize_157 rfl (j := 0) rfl ?_
      refine lo_get (v := .ref (b + 3)) d_Md_addSize_158 fg_Md_16 hI ml_0 rfl ?_
      refine sm_iload_n d_Md_addSize_161 rfl (j := 1) rfl ?_
      obtain ⟨h55, hf⟩ := lo_chk hf
      refine lo_ald (j := x1.toInt.toNat) d_Md_addSize_162 hI ml_3 h55 rfl ?_
      refine sm_imul d_Md_addSize_163 ?_
      refine sm_iadd d_Md_addSize_164 ?_
      refine sm_iconst (v := 1) d_Md_addSize_165 (by decide) ?_
      obtain ⟨r56, e57, hf⟩ := lo_bnd hf
      refine lo_callVm d_Md_addSize_166 cs_Md_addSize_183 rfl hI ml_0 (As := [.int (((w 2 x1.toInt.toNat) - (1 : Int32)) + ((128 : Int32) * (w 3 x1.toInt.toNat))), .int (1 : Int32)]) rfl rfl (Nat.le_of_ble_eq_true rfl) (c_Md_add hI (((w 2 x1.toInt.toNat) - (1 : Int32)) + ((128 : Int32) * (w 3 x1.toInt.toNat))) (1 : Int32) e57) (fun M58 hI59 => ?_)
      refine sm_aload_n d_Md_addSize_169 rfl (j := 0) rfl ?_
      refine sm_aload_n d_Md_addSize_170 rfl (j := 0) rfl ?_
      refine lo_get (v := .ref (b + 4)) d_Md_addSize_171 fg_Md_19 hI59 ml_0 rfl ?_
      refine sm_iload_n d_Md_addSize_174 rfl (j := 1) rfl ?_
      obtain ⟨h60, hf⟩ := lo_chk hf
      refine lo_ald (j := x1.toInt.toNat) d_Md_addSize_175 hI59 ml_4 h60 rfl ?_
      refine sm_iconst (v := 1) d_Md_addSize_176 (by decide) ?_
      obtain ⟨r61, e62, hf⟩ := lo_bnd hf
      refine lo_callVm d_Md_addSize_177 cs_Md_addSize_183 rfl hI59 ml_0 (As := [.int (r56 4 x1.toInt.toNat), .int (1 : Int32)]) rfl rfl (Nat.le_of_ble_eq_true rfl) (c_Md_add hI59 (r56 4 x1.toInt.toNat) (1 : Int32) e62) (fun M63 hI64 => ?_)
      refine sm_aload_n d_Md_addSize_180 rfl (j := 0) rfl ?_
      refine sm_aload_n d_Md_addSize_181 rfl (j := 0) rfl ?_
      refine lo_get (v := .ref (b + 5)) d_Md_addSize_182 fg_Md_22 hI64 ml_0 rfl ?_
      refine sm_iload_n d_Md_addSize_185 rfl (j := 1) rfl ?_
      obtain ⟨h65, hf⟩ := lo_chk hf
      refine lo_ald (j := x1.toInt.toNat) d_Md_addSize_186 hI64 ml_5 h65 rfl ?_
      refine sm_iconst (v := 1) d_Md_addSize_187 (by decide) ?_
      obtain ⟨r66, e67, hf⟩ := lo_bnd hf
      refine lo_callVm d_Md_addSize_188 cs_Md_addSize_183 rfl hI64 ml_0 (As := [.int (r61 5 x1.toInt.toNat), .int (1 : Int32)]) rfl rfl (Nat.le_of_ble_eq_true rfl) (c_Md_add hI64 (r61 5 x1.toInt.toNat) (1 : Int32) e67) (fun M68 hI69 => ?_)
      refine sm_iinc (v := (x1 + 1)) d_Md_addSize_191 (j := 1) rfl rfl (by decide) rfl ?_
      refine sm_goto (tgt := 137) d_Md_addSize_194 (by decide) ?_
      exact sm_pick [1, 0] (ih _ _ _ hI69 hf) rfl

def fn_Md_addSize (F : Nat) (w : wd) : Option (wd) := ((fn_Md_add F w (255 : Int32) (1 : Int32)).bind fun r1 => ((fn_Md_add F r1 (79 : Int32) (1 : Int32)).bind fun r5 => ((fn_Md_beginSegment F r5 (81 : Int32) ((38 : Int32) + ((3 : Int32) * (r5 0 3)))).bind fun r9 => ((fn_Md_add F r9 (0 : Int32) (2 : Int32)).bind fun r13 => ((fn_Md_add F r13 (r13 1 2) (4 : Int32)).bind fun r17 => ((fn_Md_add F r17 (r17 1 3) (4 : Int32)).bind fun r21 => ((fn_Md_add F r21 (r21 1 0) (4 : Int32)).bind fun r25 => ((fn_Md_add F r25 (r25 1 1) (4 : Int32)).bind fun r29 => ((fn_Md_add F r29 (r29 1 6) (4 : Int32)).bind fun r33 => ((fn_Md_add F r33 (r33 1 7) (4 : Int32)).bind fun r37 => ((fn_Md_add F r37 (r37 1 4) (4 : Int32)).bind fun r41 => ((fn_Md_add F r41 (r41 1 5) (4 : Int32)).bind fun r45 => ((fn_Md_add F r45 (r45 0 3) (2 : Int32)).bind fun r49 => fn_Md_addSize_137 F F r49 (0 : Int32))))))))))))))
set_option maxHeartbeats 1600000 in
set_option maxRecDepth 100000 in
theorem c_Md_addSize {G : sm_G} {b : Nat} {M0 M : sm_M}  {w : wd} {F : Nat} (hI : lo_in G md_L b M0 M w)  {R : wd} (hf : fn_Md_addSize F w = some R) : sm_C G mf_Md_addSize [.ref (b + 0)] M 0 0 (wd_Q G md_L b M none R) := by
  unfold fn_Md_addSize at hf
  have hI := hI.here
  refine sm_ofW rfl (Nat.le_of_ble_eq_true rfl) ?_
  refine sm_aload_n d_Md_addSize_0 rfl (j := 0) rfl ?_
  refine sm_sipush (v := 255) d_Md_addSize_1 (by decide) ?_
  refine sm_iconst (v := 1) d_Md_addSize_4 (by decide) ?_
  obtain ⟨r1, e2, hf⟩ := lo_bnd hf
  refine lo_callVm d_Md_addSize_5 cs_Md_addSize_183 rfl hI ml_0 (As := [.int (255 : Int32), .int (1 : Int32)]) rfl rfl (Nat.le_of_ble_eq_true rfl) (c_Md_add hI (255 : Int32) (1 : Int32) e2) (fun M3 hI4 => ?_)
  refine sm_aload_n d_Md_addSize_8 rfl (j := 0) rfl ?_
  refine sm_bipush (v := 79) d_Md_addSize_9 (by decide) ?_
  refine sm_iconst (v := 1) d_Md_addSize_11 (by decide) ?_
  obtain ⟨r5, e6, hf⟩ := lo_bnd hf
  refine lo_callVm d_Md_addSize_12 cs_Md_addSize_183 rfl hI4 ml_0 (As := [.int (79 : Int32), .int (1 : Int32)]) rfl rfl (Nat.le_of_ble_eq_true rfl) (c_Md_add hI4 (79 : Int32) (1 : Int32) e6) (fun M7 hI8 => ?_)
  refine sm_aload_n d_Md_addSize_15 rfl (j := 0) rfl ?_
  refine sm_bipush (v := 81) d_Md_addSize_16 (by decide) ?_
  refine sm_bipush (v := 38) d_Md_addSize_18 (by decide) ?_
  refine sm_iconst (v := 3) d_Md_addSize_20 (by decide) ?_
  refine sm_aload_n d_Md_addSize_21 rfl (j := 0) rfl ?_
  refine lo_get (v := .int (r5 0 3)) d_Md_addSize_22 fg_Md_88 hI8 ml_0 rfl ?_
  refine sm_imul d_Md_addSize_25 ?_
  refine sm_iadd d_Md_addSize_26 ?_
  obtain ⟨r9, e10, hf⟩ := lo_bnd hf
  refine lo_callVm d_Md_addSize_27 cs_Md_addSize_198 rfl hI8 ml_0 (As := [.int (81 : Int32), .int ((38 : Int32) + ((3 : Int32) * (r5 0 3)))]) rfl rfl (Nat.le_of_ble_eq_true rfl) (c_Md_beginSegment hI8 (81 : Int32) ((38 : Int32) + ((3 : Int32) * (r5 0 3))) e10) (fun M11 hI12 => ?_)
  refine sm_aload_n d_Md_addSize_30 rfl (j := 0) rfl ?_
  refine sm_iconst (v := 0) d_Md_addSize_31 (by decide) ?_
  refine sm_iconst (v := 2) d_Md_addSize_32 (by decide) ?_
  obtain ⟨r13, e14, hf⟩ := lo_bnd hf
  refine lo_callVm d_Md_addSize_33 cs_Md_addSize_183 rfl hI12 ml_0 (As := [.int (0 : Int32), .int (2 : Int32)]) rfl rfl (Nat.le_of_ble_eq_true rfl) (c_Md_add hI12 (0 : Int32) (2 : Int32) e14) (fun M15 hI16 => ?_)
  refine sm_aload_n d_Md_addSize_36 rfl (j := 0) rfl ?_
  refine sm_aload_n d_Md_addSize_37 rfl (j := 0) rfl ?_
  refine lo_get (v := .ref (b + 1)) d_Md_addSize_38 fg_Md_7 hI16 ml_0 rfl ?_
  refine sm_iconst (v := 2) d_Md_addSize_41 (by decide) ?_
  refine lo_ald (j := 2) d_Md_addSize_42 hI16 ml_1 (by decide) rfl ?_
  refine sm_iconst (v := 4) d_Md_addSize_43 (by decide) ?_
  obtain ⟨r17, e18, hf⟩ := lo_bnd hf
  refine lo_callVm d_Md_addSize_44 cs_Md_addSize_183 rfl hI16 ml_0 (As := [.int (r13 1 2), .int (4 : Int32)]) rfl rfl (Nat.le_of_ble_eq_true rfl) (c_Md_add hI16 (r13 1 2) (4 : Int32) e18) (fun M19 hI20 => ?_)
  refine sm_aload_n d_Md_addSize_47 rfl (j := 0) rfl ?_
  refine sm_aload_n d_Md_addSize_48 rfl (j := 0) rfl ?_
  refine lo_get (v := .ref (b + 1)) d_Md_addSize_49 fg_Md_7 hI20 ml_0 rfl ?_
  refine sm_iconst (v := 3) d_Md_addSize_52 (by decide) ?_
  refine lo_ald (j := 3) d_Md_addSize_53 hI20 ml_1 (by decide) rfl ?_
  refine sm_iconst (v := 4) d_Md_addSize_54 (by decide) ?_
  obtain ⟨r21, e22, hf⟩ := lo_bnd hf
  refine lo_callVm d_Md_addSize_55 cs_Md_addSize_183 rfl hI20 ml_0 (As := [.int (r17 1 3), .int (4 : Int32)]) rfl rfl (Nat.le_of_ble_eq_true rfl) (c_Md_add hI20 (r17 1 3) (4 : Int32) e22) (fun M23 hI24 => ?_)
  refine sm_aload_n d_Md_addSize_58 rfl (j := 0) rfl ?_
  refine sm_aload_n d_Md_addSize_59 rfl (j := 0) rfl ?_
  refine lo_get (v := .ref (b + 1)) d_Md_addSize_60 fg_Md_7 hI24 ml_0 rfl ?_
  refine sm_iconst (v := 0) d_Md_addSize_63 (by decide) ?_
  refine lo_ald (j := 0) d_Md_addSize_64 hI24 ml_1 (by decide) rfl ?_
  refine sm_iconst (v := 4) d_Md_addSize_65 (by decide) ?_
  obtain ⟨r25, e26, hf⟩ := lo_bnd hf
  refine lo_callVm d_Md_addSize_66 cs_Md_addSize_183 rfl hI24 ml_0 (As := [.int (r21 1 0), .int (4 : Int32)]) rfl rfl (Nat.le_of_ble_eq_true rfl) (c_Md_add hI24 (r21 1 0) (4 : Int32) e26) (fun M27 hI28 => ?_)
  refine sm_aload_n d_Md_addSize_69 rfl (j := 0) rfl ?_
  refine sm_aload_n d_Md_addSize_70 rfl (j := 0) rfl ?_
  refine lo_get (v := .ref (b + 1)) d_Md_addSize_71 fg_Md_7 hI28 ml_0 rfl ?_
  refine sm_iconst (v := 1) d_Md_addSize_74 (by decide) ?_
  refine lo_ald (j := 1) d_Md_addSize_75 hI28 ml_1 (by decide) rfl ?_
  refine sm_iconst (v := 4) d_Md_addSize_76 (by decide) ?_
  obtain ⟨r29, e30, hf⟩ := lo_bnd hf
  refine lo_callVm d_Md_addSize_77 cs_Md_addSize_183 rfl hI28 ml_0 (As := [.int (r25 1 1), .int (4 : Int32)]) rfl rfl (Nat.le_of_ble_eq_true rfl) (c_Md_add hI28 (r25 1 1) (4 : Int32) e30) (fun M31 hI32 => ?_)
  refine sm_aload_n d_Md_addSize_80 rfl (j := 0) rfl ?_
  refine sm_aload_n d_Md_addSize_81 rfl (j := 0) rfl ?_
  refine lo_get (v := .ref (b + 1)) d_Md_addSize_82 fg_Md_7 hI32 ml_0 rfl ?_
  refine sm_bipush (v := 6) d_Md_addSize_85 (by decide) ?_
  refine lo_ald (j := 6) d_Md_addSize_87 hI32 ml_1 (by decide) rfl ?_
  refine sm_iconst (v := 4) d_Md_addSize_88 (by decide) ?_
  obtain ⟨r33, e34, hf⟩ := lo_bnd hf
  refine lo_callVm d_Md_addSize_89 cs_Md_addSize_183 rfl hI32 ml_0 (As := [.int (r29 1 6), .int (4 : Int32)]) rfl rfl (Nat.le_of_ble_eq_true rfl) (c_Md_add hI32 (r29 1 6) (4 : Int32) e34) (fun M35 hI36 => ?_)
  refine sm_aload_n d_Md_addSize_92 rfl (j := 0) rfl ?_
  refine sm_aload_n d_Md_addSize_93 rfl (j := 0) rfl ?_
  refine lo_get (v := .ref (b + 1)) d_Md_addSize_94 fg_Md_7 hI36 ml_0 rfl ?_
  refine sm_bipush (v := 7) d_Md_addSize_97 (by decide) ?_
  refine lo_ald (j := 7) d_Md_addSize_99 hI36 ml_1 (by decide) rfl ?_
  refine sm_iconst (v := 4) d_Md_addSize_100 (by decide) ?_
  obtain ⟨r37, e38, hf⟩ := lo_bnd hf
  refine lo_callVm d_Md_addSize_101 cs_Md_addSize_183 rfl hI36 ml_0 (As := [.int (r33 1 7), .int (4 : Int32)]) rfl rfl (Nat.le_of_ble_eq_true rfl) (c_Md_add hI36 (r33 1 7) (4 : Int32) e38) (fun M39 hI40 => ?_)
  refine sm_aload_n d_Md_addSize_104 rfl (j := 0) rfl ?_
  refine sm_aload_n d_Md_addSize_105 rfl (j := 0) rfl ?_
  refine lo_get (v := .ref (b + 1)) d_Md_addSize_106 fg_Md_7 hI40 ml_0 rfl ?_
  refine sm_iconst (v := 4) d_Md_addSize_109 (by decide) ?_
  refine lo_ald (j := 4) d_Md_addSize_110 hI40 ml_1 (by decide) rfl ?_
  refine sm_iconst (v := 4) d_Md_addSize_111 (by decide) ?_
  obtain ⟨r41, e42, hf⟩ := lo_bnd hf
  refine lo_callVm d_Md_addSize_112 cs_Md_addSize_183 rfl hI40 ml_0 (As := [.int (r37 1 4), .int (4 : Int32)]) rfl rfl (Nat.le_of_ble_eq_true rfl) (c_Md_add hI40 (r37 1 4) (4 : Int32) e42) (fun M43 hI44 => ?_)
  refine sm_aload_n d_Md_addSize_115 rfl (j := 0) rfl ?_
  refine sm_aload_n d_Md_addSize_116 rfl (j := 0) rfl ?_
  refine lo_get (v := .ref (b + 1)) d_Md_addSize_117 fg_Md_7 hI44 ml_0 rfl ?_
  refine sm_iconst (v := 5) d_Md_addSize_120 (by decide) ?_
  refine lo_ald (j := 5) d_Md_addSize_121 hI44 ml_1 (by decide) rfl ?_
  refine sm_iconst (v := 4) d_Md_addSize_122 (by decide) ?_
  obtain ⟨r45, e46, hf⟩ := lo_bnd hf
  refine lo_callVm d_Md_addSize_123 cs_Md_addSize_183 rfl hI44 ml_0 (As := [.int (r41 1 5), .int (4 : Int32)]) rfl rfl (Nat.le_of_ble_eq_true rfl) (c_Md_add hI44 (r41 1 5) (4 : Int32) e46) (fun M47 hI48 => ?_)
  refine sm_aload_n d_Md_addSize_126 rfl (j := 0) rfl ?_
  refine sm_aload_n d_Md_addSize_127 rfl (j := 0) rfl ?_
  refine lo_get (v := .int (r45 0 3)) d_Md_addSize_128 fg_Md_88 hI48 ml_0 rfl ?_
  refine sm_iconst (v := 2) d_Md_addSize_131 (by decide) ?_
  obtain ⟨r49, e50, hf⟩ := lo_bnd hf
  refine lo_callVm d_Md_addSize_132 cs_Md_addSize_183 rfl hI48 ml_0 (As := [.int (r45 0 3), .int (2 : Int32)]) rfl rfl (Nat.le_of_ble_eq_true rfl) (c_Md_add hI48 (r45 0 3) (2 : Int32) e50) (fun M51 hI52 => ?_)
  refine sm_iconst (v := 0) d_Md_addSize_135 (by decide) ?_
  refine sm_istore_n d_Md_addSize_136 rfl (by decide) rfl ?_
  exact sm_pick [1, 0] (w_Md_addSize_137 _ _ _ _ hI52 hf) rfl

