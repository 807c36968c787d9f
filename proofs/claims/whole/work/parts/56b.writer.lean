/-! writer, on; written by wip/tools/cls2.py -/
def fn_Wr_writeOtherSteps_55 (k2 : wd → Nat → Int32 → Option (List Nat)) (F : Nat) (w : wd) (c1 : Nat) (x3 : Int32) : Option (List Nat) := k2 w c1 (x3 + 1)
set_option maxHeartbeats 1600000 in
set_option maxRecDepth 100000 in
theorem w_Wr_writeOtherSteps_55 {G : sm_G} {b : Nat} {M0 : sm_M} {ZF : zd} {F : Nat} {k2 : wd → Nat → Int32 → Option (List Nat)} (hk2 : ∀ (M : sm_M) (Z : zd) (w : wd) (R : List Nat) (c1 : Nat) (x3 : Int32), os_in G b M0 M w Z → c1 < 16 → zs2 Z (rwp Z.2.1 R) = ZF → Z.2.1.1.length + R.length ≤ 65536 → k2 w c1 x3 = some R → sm_W G mf_Wr_writeOtherSteps 2 [(0, .ref (b + 1)), (1, .ref (b + (5 + 6 * c1))), (2, .ref (b + 103)), (3, .int x3)] [] M (2 * (zc ZF - zc Z) + 0) (2 * (zc ZF - zc Z) + 0) (os_Q G b M0 (.inl none) w ZF)) : ∀ (M : sm_M) (Z : zd) (w : wd) (R : List Nat) (c1 : Nat) (x3 : Int32), os_in G b M0 M w Z → c1 < 16 → zs2 Z (rwp Z.2.1 R) = ZF → Z.2.1.1.length + R.length ≤ 65536 → fn_Wr_writeOtherSteps_55 k2 F w c1 x3 = some R → sm_W G mf_Wr_writeOtherSteps 55 [(0, .ref (b + 1)), (1, .ref (b + (5 + 6 * c1))), (2, .ref (b + 103)), (3, .int x3)] [] M (2 * (zc ZF - zc Z) + 0) (2 * (zc ZF - zc Z) + 0) (os_Q G b M0 (.inl none) w ZF) := by
  intro M Z w R c1 x3 hS hc1 hE hl hf
  unfold fn_Wr_writeOtherSteps_55 at hf
  refine sm_iinc (v := (x3 + 1)) d_Wr_writeOtherSteps_55 (j := 3) rfl rfl (by decide) rfl ?_
  refine sm_goto (tgt := 2) d_Wr_writeOtherSteps_58 (by decide) ?_
  exact sm_pick [1, 2, 3, 0] (hk2 _ _ _ _ _ _ hS hc1 hE hl hf) rfl

def fn_Wr_writeOtherSteps_2 (F : Nat) : Nat → wd → Nat → Int32 → Option (List Nat)
 | 0, _, _, _ => none
 | n9 + 1, w, c1, x3 => (if (w 1 2) ≤ x3 then some [] else (if (0 ≤ x3.toInt ∧ x3.toInt < (w 1 2).toInt) ∧ x3.toInt < 16 then ((fn_Cp_writesStepsLike F w x3.toInt.toNat c1).bind fun r3 => (if r3 = true then fn_Wr_writeOtherSteps_55 (fn_Wr_writeOtherSteps_2 F n9) F w c1 x3 else ((((((fn_Wr_writeSteps F w x3.toInt.toNat).bind fun r16 => ((fn_Wr_writeOtherSteps_55 (fn_Wr_writeOtherSteps_2 F n9) F w c1 x3).map fun q9 => r16 ++ q9))).map fun q9 => [by8 x3] ++ q9)).map fun q9 => (rw_bs (93 : Int32) ((3 : Int32) + (fn_Wr_stepBytes w x3.toInt.toNat))) ++ q9))) else fn_Wr_writeOtherSteps_55 (fn_Wr_writeOtherSteps_2 F n9) F w c1 x3))
set_option maxHeartbeats 1600000 in
set_option maxRecDepth 100000 in
theorem w_Wr_writeOtherSteps_2 {G : sm_G} {b : Nat} {M0 : sm_M} {ZF : zd} {F : Nat} : ∀ (n9 : Nat), ∀ (M : sm_M) (Z : zd) (w : wd) (R : List Nat) (c1 : Nat) (x3 : Int32), os_in G b M0 M w Z → c1 < 16 → zs2 Z (rwp Z.2.1 R) = ZF → Z.2.1.1.length + R.length ≤ 65536 → fn_Wr_writeOtherSteps_2 F n9 w c1 x3 = some R → sm_W G mf_Wr_writeOtherSteps 2 [(0, .ref (b + 1)), (1, .ref (b + (5 + 6 * c1))), (2, .ref (b + 103)), (3, .int x3)] [] M (2 * (zc ZF - zc Z) + 0) (2 * (zc ZF - zc Z) + 0) (os_Q G b M0 (.inl none) w ZF) := by
  intro n9
  induction n9 with
  | zero => intro M Z w R c1 x3 hS hc1 hE hl hf; cases hf
  | succ n9 ih =>
    intro M Z w R c1 x3 hS hc1 hE hl hf
    rw [fn_Wr_writeOtherSteps_2] at hf
    refine sm_iload_n d_Wr_writeOtherSteps_2 rfl (j := 3) rfl ?_
    refine sm_aload_n d_Wr_writeOtherSteps_3 rfl (j := 0) rfl ?_
    refine lo_get (v := .int (w 1 2)) d_Wr_writeOtherSteps_4 fg_Wr_62 (os_I hS) cl_1 rfl ?_
    refine sm_icmp_ge (tgt := 61) d_Wr_writeOtherSteps_7 (by decide) (fun h1 => ?_) (fun h1 => ?_)
    · rw [if_pos h1] at hf
      cases hf
      refine sm_return d_Wr_writeOtherSteps_61 rfl ?_
      exact ⟨rfl, wr_fin hS hE⟩
    · rw [if_neg h1] at hf
      refine sm_aload_n d_Wr_writeOtherSteps_10 rfl (j := 0) rfl ?_
      refine sm_iload_n d_Wr_writeOtherSteps_11 rfl (j := 3) rfl ?_
      by_cases h2 : (0 ≤ x3.toInt ∧ x3.toInt < (w 1 2).toInt) ∧ x3.toInt < 16
      · rw [if_pos h2] at hf
        refine lo_callV d_Wr_writeOtherSteps_12 cs_Wr_writeOtherSteps_9 rfl (os_I hS) cl_1 (As := [.int x3]) rfl rfl (Nat.le_of_ble_eq_true rfl) (c_Pl_conT (os_I hS) (os_Z hS) x3 h2) ?_
        refine sm_astore d_Wr_writeOtherSteps_15 (by decide) rfl ?_
        refine sm_aload d_Wr_writeOtherSteps_17 (j := 0) rfl ?_
        refine sm_ifnull d_Wr_writeOtherSteps_19 ?_
        refine sm_aload d_Wr_writeOtherSteps_22 (j := 0) rfl ?_
        refine sm_aload_n d_Wr_writeOtherSteps_24 rfl (j := 2) rfl ?_
        replace hf := lo_bnd hf
        obtain ⟨r3, e4, hf⟩ := hf
        refine lo_callV d_Wr_writeOtherSteps_25 cs_Wr_writeOtherSteps_165 rfl (os_I hS) (cl_Cp (cm_c16 h2)) (As := [.ref (b + (5 + 6 * c1))]) rfl rfl (Nat.le_of_ble_eq_true rfl) (c_Cp_writesStepsLike (os_I hS) (os_Z hS) x3.toInt.toNat c1 (cm_c16 h2) hc1 e4) ?_
        refine sm_if_ne (tgt := 55) d_Wr_writeOtherSteps_28 (by decide) (fun h5 => ?_) (fun h5 => ?_)
        · rw [if_pos (bi1 h5)] at hf
          exact sm_pick [1, 2, 3, 4] (w_Wr_writeOtherSteps_55 ih _ _ _ _ _ _ hS hc1 hE hl hf) rfl
        · rw [if_neg (bi0 h5)] at hf
          refine sm_aload_n d_Wr_writeOtherSteps_31 rfl (j := 3) rfl ?_
          refine sm_bipush (v := 93) d_Wr_writeOtherSteps_32 (by decide) ?_
          refine sm_iconst (v := 3) d_Wr_writeOtherSteps_34 (by decide) ?_
          refine sm_aload d_Wr_writeOtherSteps_35 (j := 0) rfl ?_
          refine sm_callSp d_Wr_writeOtherSteps_37 cs_Wr_writeOtherSteps_37 rfl (As := [.ref (b + (5 + 6 * x3.toInt.toNat))]) rfl rfl (Nat.le_of_ble_eq_true rfl) (c_Wr_stepBytes (os_I hS) (os_Z hS) x3.toInt.toNat (cm_c16 h2)) ?_
          refine sm_iadd d_Wr_writeOtherSteps_40 ?_
          replace hf := Option.map_eq_some_iff.mp hf
          obtain ⟨R8, hf, q9⟩ := hf
          subst q9
          refine wr_app d_Wr_writeOtherSteps_41 cs_Wr_writeOtherSteps_41 rfl hS (As := [.int (93 : Int32), .int ((3 : Int32) + (fn_Wr_stepBytes w x3.toInt.toNat))]) rfl rfl (Nat.le_of_ble_eq_true rfl) (fun q9 hq9 => r_addSegment hq9 (93 : Int32) ((3 : Int32) + (fn_Wr_stepBytes w x3.toInt.toNat)) (wr_len hl)) hE hl (fun M6 Z10 hS7 hE hl => ?_)
          refine sm_aload_n d_Wr_writeOtherSteps_44 rfl (j := 3) rfl ?_
          refine sm_iload_n d_Wr_writeOtherSteps_45 rfl (j := 4) rfl ?_
          replace hf := Option.map_eq_some_iff.mp hf
          obtain ⟨R13, hf, q14⟩ := hf
          subst q14
          refine wr_app d_Wr_writeOtherSteps_46 cs_Wr_writeOtherSteps_83 rfl hS7 (As := [.int x3]) rfl rfl (Nat.le_of_ble_eq_true rfl) (fun q9 hq9 => r_addU1 hq9 x3 (wr_len hl)) hE hl (fun M11 Z15 hS12 hE hl => ?_)
          refine sm_aload d_Wr_writeOtherSteps_49 (j := 0) rfl ?_
          refine sm_aload_n d_Wr_writeOtherSteps_51 rfl (j := 3) rfl ?_
          replace hf := lo_bnd hf
          obtain ⟨r16, e17, hf⟩ := hf
          replace hf := Option.map_eq_some_iff.mp hf
          obtain ⟨R18, hf, q19⟩ := hf
          subst q19
          refine wr_call d_Wr_writeOtherSteps_52 cs_Wr_writeOtherSteps_45 rfl hS12 (As := [.ref (b + (5 + 6 * x3.toInt.toNat)), .ref (b + 103)]) rfl rfl (Nat.le_of_ble_eq_true rfl) (c_Wr_writeSteps hS12 x3.toInt.toNat (cm_c16 h2) e17 (wr_len hl)) hE hl (fun M20 Z21 hS22 hE hl => ?_)
          exact sm_pick [1, 2, 3, 4] (w_Wr_writeOtherSteps_55 ih _ _ _ _ _ _ hS22 hc1 hE hl hf) rfl
      · rw [if_neg h2] at hf
        refine lo_callV d_Wr_writeOtherSteps_12 cs_Wr_writeOtherSteps_9 rfl (os_I hS) cl_1 (As := [.int x3]) rfl rfl (Nat.le_of_ble_eq_true rfl) (c_Pl_conF (os_I hS) (os_Z hS) x3 h2) ?_
        refine sm_astoreN d_Wr_writeOtherSteps_15 (by decide) rfl ?_
        refine sm_aloadN d_Wr_writeOtherSteps_17 (j := 0) rfl ?_
        refine sm_ifnullN (tgt := 55) d_Wr_writeOtherSteps_19 (by decide) ?_
        exact sm_pick [1, 2, 3, 4] (w_Wr_writeOtherSteps_55 ih _ _ _ _ _ _ hS hc1 hE hl hf) rfl

def fn_Wr_writeOtherSteps (F : Nat) (w : wd) (c1 : Nat) : Option (List Nat) := fn_Wr_writeOtherSteps_2 F F w c1 (1 : Int32)
set_option maxHeartbeats 1600000 in
set_option maxRecDepth 100000 in
theorem c_Wr_writeOtherSteps {G : sm_G} {b : Nat} {M0 M : sm_M} {Z : zd} {w : wd} {F : Nat} (hS : os_in G b M0 M w Z) (c1 : Nat) (hc1 : c1 < 16) {R : List Nat} (hf : fn_Wr_writeOtherSteps F w c1 = some R) (hl : Z.2.1.1.length + R.length ≤ 65536) : sm_C G mf_Wr_writeOtherSteps [.ref (b + 1), .ref (b + (5 + 6 * c1)), .ref (b + 103)] M (2 * (zc (zs2 Z (rwp Z.2.1 R)) - zc Z) + 0) (2 * (zc (zs2 Z (rwp Z.2.1 R)) - zc Z) + 0) (os_Q G b M (.inl none) w (zs2 Z (rwp Z.2.1 R))) := by
  generalize hE : zs2 Z (rwp Z.2.1 R) = ZF
  unfold fn_Wr_writeOtherSteps at hf
  have hS := hS.here
  refine sm_ofW rfl (Nat.le_of_ble_eq_true rfl) ?_
  refine sm_iconst (v := 1) d_Wr_writeOtherSteps_0 (by decide) ?_
  refine sm_istore_n d_Wr_writeOtherSteps_1 rfl (by decide) rfl ?_
  exact sm_pick [1, 2, 3, 0] (w_Wr_writeOtherSteps_2 _ _ _ _ _ _ _ hS hc1 hE hl hf) rfl

def fn_Wr_writeShifts_52 (k2 : wd → Int32 → Option (List Nat)) (F : Nat) (w : wd) (x2 : Int32) : Option (List Nat) := k2 w (x2 + 1)
set_option maxHeartbeats 1600000 in
set_option maxRecDepth 100000 in
theorem w_Wr_writeShifts_52 {G : sm_G} {b : Nat} {M0 : sm_M} {ZF : zd} {F : Nat} {k2 : wd → Int32 → Option (List Nat)} (hk2 : ∀ (M : sm_M) (Z : zd) (w : wd) (R : List Nat) (x2 : Int32), os_in G b M0 M w Z → zs2 Z (rwp Z.2.1 R) = ZF → Z.2.1.1.length + R.length ≤ 65536 → k2 w x2 = some R → sm_W G mf_Wr_writeShifts 2 [(0, .ref (b + 1)), (1, .ref (b + 103)), (2, .int x2)] [] M (2 * (zc ZF - zc Z) + 0) (2 * (zc ZF - zc Z) + 0) (os_Q G b M0 (.inl none) w ZF)) : ∀ (M : sm_M) (Z : zd) (w : wd) (R : List Nat) (x2 : Int32), os_in G b M0 M w Z → zs2 Z (rwp Z.2.1 R) = ZF → Z.2.1.1.length + R.length ≤ 65536 → fn_Wr_writeShifts_52 k2 F w x2 = some R → sm_W G mf_Wr_writeShifts 52 [(0, .ref (b + 1)), (1, .ref (b + 103)), (2, .int x2)] [] M (2 * (zc ZF - zc Z) + 0) (2 * (zc ZF - zc Z) + 0) (os_Q G b M0 (.inl none) w ZF) := by
  intro M Z w R x2 hS  hE hl hf
  unfold fn_Wr_writeShifts_52 at hf
  refine sm_iinc (v := (x2 + 1)) d_Wr_writeShifts_52 (j := 2) rfl rfl (by decide) rfl ?_
  refine sm_goto (tgt := 2) d_Wr_writeShifts_55 (by decide) ?_
  exact sm_pick [1, 2, 0] (hk2 _ _ _ _ _ hS hE hl hf) rfl

def fn_Wr_writeShifts_2 (F : Nat) : Nat → wd → Int32 → Option (List Nat)
 | 0, _, _ => none
 | n9 + 1, w, x2 => (if (w 1 2) ≤ x2 then some [] else (if (0 ≤ x2.toInt ∧ x2.toInt < (w 1 2).toInt) ∧ x2.toInt < 16 then (if (w (5 + 6 * x2.toInt.toNat) 4) = 0 then fn_Wr_writeShifts_52 (fn_Wr_writeShifts_2 F n9) F w x2 else ((((((((fn_Wr_writeShifts_52 (fn_Wr_writeShifts_2 F n9) F w x2).map fun q9 => [by8 (w (5 + 6 * x2.toInt.toNat) 4)] ++ q9)).map fun q9 => [by8 (0 : Int32)] ++ q9)).map fun q9 => [by8 x2] ++ q9)).map fun q9 => (rw_bs (94 : Int32) (5 : Int32)) ++ q9)) else fn_Wr_writeShifts_52 (fn_Wr_writeShifts_2 F n9) F w x2))
set_option maxHeartbeats 1600000 in
set_option maxRecDepth 100000 in
theorem w_Wr_writeShifts_2 {G : sm_G} {b : Nat} {M0 : sm_M} {ZF : zd} {F : Nat} : ∀ (n9 : Nat), ∀ (M : sm_M) (Z : zd) (w : wd) (R : List Nat) (x2 : Int32), os_in G b M0 M w Z → zs2 Z (rwp Z.2.1 R) = ZF → Z.2.1.1.length + R.length ≤ 65536 → fn_Wr_writeShifts_2 F n9 w x2 = some R → sm_W G mf_Wr_writeShifts 2 [(0, .ref (b + 1)), (1, .ref (b + 103)), (2, .int x2)] [] M (2 * (zc ZF - zc Z) + 0) (2 * (zc ZF - zc Z) + 0) (os_Q G b M0 (.inl none) w ZF) := by
  intro n9
  induction n9 with
  | zero => intro M Z w R x2 hS  hE hl hf; cases hf
  | succ n9 ih =>
    intro M Z w R x2 hS  hE hl hf
    rw [fn_Wr_writeShifts_2] at hf
    refine sm_iload_n d_Wr_writeShifts_2 rfl (j := 2) rfl ?_
    refine sm_aload_n d_Wr_writeShifts_3 rfl (j := 0) rfl ?_
    refine lo_get (v := .int (w 1 2)) d_Wr_writeShifts_4 fg_Wr_62 (os_I hS) cl_1 rfl ?_
    refine sm_icmp_ge (tgt := 58) d_Wr_writeShifts_7 (by decide) (fun h1 => ?_) (fun h1 => ?_)
    · rw [if_pos h1] at hf
      cases hf
      refine sm_return d_Wr_writeShifts_58 rfl ?_
      exact ⟨rfl, wr_fin hS hE⟩
    · rw [if_neg h1] at hf
      refine sm_aload_n d_Wr_writeShifts_10 rfl (j := 0) rfl ?_
      refine sm_iload_n d_Wr_writeShifts_11 rfl (j := 2) rfl ?_
      by_cases h2 : (0 ≤ x2.toInt ∧ x2.toInt < (w 1 2).toInt) ∧ x2.toInt < 16
      · rw [if_pos h2] at hf
        refine lo_callV d_Wr_writeShifts_12 cs_Wr_writeShifts_9 rfl (os_I hS) cl_1 (As := [.int x2]) rfl rfl (Nat.le_of_ble_eq_true rfl) (c_Pl_conT (os_I hS) (os_Z hS) x2 h2) ?_
        refine sm_astore_n d_Wr_writeShifts_15 rfl (by decide) rfl ?_
        refine sm_aload_n d_Wr_writeShifts_16 rfl (j := 0) rfl ?_
        refine sm_ifnull d_Wr_writeShifts_17 ?_
        refine sm_aload_n d_Wr_writeShifts_20 rfl (j := 0) rfl ?_
        refine lo_get (v := .int (w (5 + 6 * x2.toInt.toNat) 4)) d_Wr_writeShifts_21 fg_Wr_169 (os_I hS) (cl_Cp (cm_c16 h2)) rfl ?_
        refine sm_if_eq (tgt := 52) d_Wr_writeShifts_24 (by decide) (fun h3 => ?_) (fun h3 => ?_)
        · rw [if_pos h3] at hf
          exact sm_pick [1, 2, 3] (w_Wr_writeShifts_52 ih _ _ _ _ _ hS hE hl hf) rfl
        · rw [if_neg h3] at hf
          refine sm_aload_n d_Wr_writeShifts_27 rfl (j := 2) rfl ?_
          refine sm_bipush (v := 94) d_Wr_writeShifts_28 (by decide) ?_
          refine sm_iconst (v := 5) d_Wr_writeShifts_30 (by decide) ?_
          replace hf := Option.map_eq_some_iff.mp hf
          obtain ⟨R6, hf, q7⟩ := hf
          subst q7
          refine wr_app d_Wr_writeShifts_31 cs_Wr_writeShifts_41 rfl hS (As := [.int (94 : Int32), .int (5 : Int32)]) rfl rfl (Nat.le_of_ble_eq_true rfl) (fun q9 hq9 => r_addSegment hq9 (94 : Int32) (5 : Int32) (wr_len hl)) hE hl (fun M4 Z8 hS5 hE hl => ?_)
          refine sm_aload_n d_Wr_writeShifts_34 rfl (j := 2) rfl ?_
          refine sm_iload_n d_Wr_writeShifts_35 rfl (j := 3) rfl ?_
          replace hf := Option.map_eq_some_iff.mp hf
          obtain ⟨R11, hf, q12⟩ := hf
          subst q12
          refine wr_app d_Wr_writeShifts_36 cs_Wr_writeShifts_83 rfl hS5 (As := [.int x2]) rfl rfl (Nat.le_of_ble_eq_true rfl) (fun q9 hq9 => r_addU1 hq9 x2 (wr_len hl)) hE hl (fun M9 Z13 hS10 hE hl => ?_)
          refine sm_aload_n d_Wr_writeShifts_39 rfl (j := 2) rfl ?_
          refine sm_iconst (v := 0) d_Wr_writeShifts_40 (by decide) ?_
          replace hf := Option.map_eq_some_iff.mp hf
          obtain ⟨R16, hf, q17⟩ := hf
          subst q17
          refine wr_app d_Wr_writeShifts_41 cs_Wr_writeShifts_83 rfl hS10 (As := [.int (0 : Int32)]) rfl rfl (Nat.le_of_ble_eq_true rfl) (fun q9 hq9 => r_addU1 hq9 (0 : Int32) (wr_len hl)) hE hl (fun M14 Z18 hS15 hE hl => ?_)
          refine sm_aload_n d_Wr_writeShifts_44 rfl (j := 2) rfl ?_
          refine sm_aload_n d_Wr_writeShifts_45 rfl (j := 0) rfl ?_
          refine lo_get (v := .int (w (5 + 6 * x2.toInt.toNat) 4)) d_Wr_writeShifts_46 fg_Wr_169 (os_I hS15) (cl_Cp (cm_c16 h2)) rfl ?_
          replace hf := Option.map_eq_some_iff.mp hf
          obtain ⟨R21, hf, q22⟩ := hf
          subst q22
          refine wr_app d_Wr_writeShifts_49 cs_Wr_writeShifts_83 rfl hS15 (As := [.int (w (5 + 6 * x2.toInt.toNat) 4)]) rfl rfl (Nat.le_of_ble_eq_true rfl) (fun q9 hq9 => r_addU1 hq9 (w (5 + 6 * x2.toInt.toNat) 4) (wr_len hl)) hE hl (fun M19 Z23 hS20 hE hl => ?_)
          exact sm_pick [1, 2, 3] (w_Wr_writeShifts_52 ih _ _ _ _ _ hS20 hE hl hf) rfl
      · rw [if_neg h2] at hf
        refine lo_callV d_Wr_writeShifts_12 cs_Wr_writeShifts_9 rfl (os_I hS) cl_1 (As := [.int x2]) rfl rfl (Nat.le_of_ble_eq_true rfl) (c_Pl_conF (os_I hS) (os_Z hS) x2 h2) ?_
        refine sm_astore_nN d_Wr_writeShifts_15 rfl (by decide) rfl ?_
        refine sm_aload_nN d_Wr_writeShifts_16 rfl (j := 0) rfl ?_
        refine sm_ifnullN (tgt := 52) d_Wr_writeShifts_17 (by decide) ?_
        exact sm_pick [1, 2, 3] (w_Wr_writeShifts_52 ih _ _ _ _ _ hS hE hl hf) rfl

def fn_Wr_writeShifts (F : Nat) (w : wd) : Option (List Nat) := fn_Wr_writeShifts_2 F F w (0 : Int32)
set_option maxHeartbeats 1600000 in
set_option maxRecDepth 100000 in
theorem c_Wr_writeShifts {G : sm_G} {b : Nat} {M0 M : sm_M} {Z : zd} {w : wd} {F : Nat} (hS : os_in G b M0 M w Z) {R : List Nat} (hf : fn_Wr_writeShifts F w = some R) (hl : Z.2.1.1.length + R.length ≤ 65536) : sm_C G mf_Wr_writeShifts [.ref (b + 1), .ref (b + 103)] M (2 * (zc (zs2 Z (rwp Z.2.1 R)) - zc Z) + 0) (2 * (zc (zs2 Z (rwp Z.2.1 R)) - zc Z) + 0) (os_Q G b M (.inl none) w (zs2 Z (rwp Z.2.1 R))) := by
  generalize hE : zs2 Z (rwp Z.2.1 R) = ZF
  unfold fn_Wr_writeShifts at hf
  have hS := hS.here
  refine sm_ofW rfl (Nat.le_of_ble_eq_true rfl) ?_
  refine sm_iconst (v := 0) d_Wr_writeShifts_0 (by decide) ?_
  refine sm_istore_n d_Wr_writeShifts_1 rfl (by decide) rfl ?_
  exact sm_pick [1, 2, 0] (w_Wr_writeShifts_2 _ _ _ _ _ _ hS hE hl hf) rfl

def fn_Wr_writeChanges_25 (F : Nat) : Nat → wd → Int32 → Option (List Nat)
 | 0, _, _ => none
 | n9 + 1, w, x2 => (if (w 1 9) ≤ x2 then some [] else ((((((((((((fn_Wr_writeChanges_25 F n9 w (x2 + 1)).map fun q9 => [by8 (fn_Pl_numberOfChange w x2 (5 : Int32))] ++ q9)).map fun q9 => [by8 (fn_Pl_numberOfChange w x2 (4 : Int32))] ++ q9)).map fun q9 => [by8 (fn_Pl_numberOfChange w x2 (3 : Int32))] ++ q9)).map fun q9 => (rw_b2 (fn_Pl_numberOfChange w x2 (2 : Int32))) ++ q9)).map fun q9 => [by8 (fn_Pl_numberOfChange w x2 (1 : Int32))] ++ q9)).map fun q9 => [by8 (fn_Pl_numberOfChange w x2 (0 : Int32))] ++ q9))
set_option maxHeartbeats 1600000 in
set_option maxRecDepth 100000 in
theorem w_Wr_writeChanges_25 {G : sm_G} {b : Nat} {M0 : sm_M} {ZF : zd} {F : Nat} : ∀ (n9 : Nat), ∀ (M : sm_M) (Z : zd) (w : wd) (R : List Nat) (x2 : Int32), os_in G b M0 M w Z → zs2 Z (rwp Z.2.1 R) = ZF → Z.2.1.1.length + R.length ≤ 65536 → fn_Wr_writeChanges_25 F n9 w x2 = some R → sm_W G mf_Wr_writeChanges 25 [(0, .ref (b + 1)), (1, .ref (b + 103)), (2, .int x2)] [] M (2 * (zc ZF - zc Z) + 0) (2 * (zc ZF - zc Z) + 0) (os_Q G b M0 (.inl none) w ZF) := by
  intro n9
  induction n9 with
  | zero => intro M Z w R x2 hS  hE hl hf; cases hf
  | succ n9 ih =>
    intro M Z w R x2 hS  hE hl hf
    rw [fn_Wr_writeChanges_25] at hf
    refine sm_iload_n d_Wr_writeChanges_25 rfl (j := 2) rfl ?_
    refine sm_aload_n d_Wr_writeChanges_26 rfl (j := 0) rfl ?_
    refine lo_get (v := .int (w 1 9)) d_Wr_writeChanges_27 fg_Wr_172 (os_I hS) cl_1 rfl ?_
    refine sm_icmp_ge (tgt := 99) d_Wr_writeChanges_30 (by decide) (fun h7 => ?_) (fun h7 => ?_)
    · rw [if_pos h7] at hf
      cases hf
      refine sm_return d_Wr_writeChanges_99 rfl ?_
      exact ⟨rfl, wr_fin hS hE⟩
    · rw [if_neg h7] at hf
      refine sm_aload_n d_Wr_writeChanges_33 rfl (j := 1) rfl ?_
      refine sm_aload_n d_Wr_writeChanges_34 rfl (j := 0) rfl ?_
      refine sm_iload_n d_Wr_writeChanges_35 rfl (j := 2) rfl ?_
      refine sm_iconst (v := 0) d_Wr_writeChanges_36 (by decide) ?_
      refine lo_callV d_Wr_writeChanges_37 cs_Wr_writeChanges_175 rfl (os_I hS) cl_1 (As := [.int x2, .int (0 : Int32)]) rfl rfl (Nat.le_of_ble_eq_true rfl) (c_Pl_numberOfChange (os_I hS) (os_Z hS) x2 (0 : Int32)) ?_
      replace hf := Option.map_eq_some_iff.mp hf
      obtain ⟨R10, hf, q11⟩ := hf
      subst q11
      refine wr_app d_Wr_writeChanges_40 cs_Wr_writeChanges_83 rfl hS (As := [.int (fn_Pl_numberOfChange w x2 (0 : Int32))]) rfl rfl (Nat.le_of_ble_eq_true rfl) (fun q9 hq9 => r_addU1 hq9 (fn_Pl_numberOfChange w x2 (0 : Int32)) (wr_len hl)) hE hl (fun M8 Z12 hS9 hE hl => ?_)
      refine sm_aload_n d_Wr_writeChanges_43 rfl (j := 1) rfl ?_
      refine sm_aload_n d_Wr_writeChanges_44 rfl (j := 0) rfl ?_
      refine sm_iload_n d_Wr_writeChanges_45 rfl (j := 2) rfl ?_
      refine sm_iconst (v := 1) d_Wr_writeChanges_46 (by decide) ?_
      refine lo_callV d_Wr_writeChanges_47 cs_Wr_writeChanges_175 rfl (os_I hS9) cl_1 (As := [.int x2, .int (1 : Int32)]) rfl rfl (Nat.le_of_ble_eq_true rfl) (c_Pl_numberOfChange (os_I hS9) (os_Z hS9) x2 (1 : Int32)) ?_
      replace hf := Option.map_eq_some_iff.mp hf
      obtain ⟨R15, hf, q16⟩ := hf
      subst q16
      refine wr_app d_Wr_writeChanges_50 cs_Wr_writeChanges_83 rfl hS9 (As := [.int (fn_Pl_numberOfChange w x2 (1 : Int32))]) rfl rfl (Nat.le_of_ble_eq_true rfl) (fun q9 hq9 => r_addU1 hq9 (fn_Pl_numberOfChange w x2 (1 : Int32)) (wr_len hl)) hE hl (fun M13 Z17 hS14 hE hl => ?_)
      refine sm_aload_n d_Wr_writeChanges_53 rfl (j := 1) rfl ?_
      refine sm_aload_n d_Wr_writeChanges_54 rfl (j := 0) rfl ?_
      refine sm_iload_n d_Wr_writeChanges_55 rfl (j := 2) rfl ?_
      refine sm_iconst (v := 2) d_Wr_writeChanges_56 (by decide) ?_
      refine lo_callV d_Wr_writeChanges_57 cs_Wr_writeChanges_175 rfl (os_I hS14) cl_1 (As := [.int x2, .int (2 : Int32)]) rfl rfl (Nat.le_of_ble_eq_true rfl) (c_Pl_numberOfChange (os_I hS14) (os_Z hS14) x2 (2 : Int32)) ?_
      replace hf := Option.map_eq_some_iff.mp hf
      obtain ⟨R20, hf, q21⟩ := hf
      subst q21
      refine wr_app d_Wr_writeChanges_60 cs_Wr_writeChanges_66 rfl hS14 (As := [.int (fn_Pl_numberOfChange w x2 (2 : Int32))]) rfl rfl (Nat.le_of_ble_eq_true rfl) (fun q9 hq9 => r_addU2 hq9 (fn_Pl_numberOfChange w x2 (2 : Int32)) (wr_len hl)) hE hl (fun M18 Z22 hS19 hE hl => ?_)
      refine sm_aload_n d_Wr_writeChanges_63 rfl (j := 1) rfl ?_
      refine sm_aload_n d_Wr_writeChanges_64 rfl (j := 0) rfl ?_
      refine sm_iload_n d_Wr_writeChanges_65 rfl (j := 2) rfl ?_
      refine sm_iconst (v := 3) d_Wr_writeChanges_66 (by decide) ?_
      refine lo_callV d_Wr_writeChanges_67 cs_Wr_writeChanges_175 rfl (os_I hS19) cl_1 (As := [.int x2, .int (3 : Int32)]) rfl rfl (Nat.le_of_ble_eq_true rfl) (c_Pl_numberOfChange (os_I hS19) (os_Z hS19) x2 (3 : Int32)) ?_
      replace hf := Option.map_eq_some_iff.mp hf
      obtain ⟨R25, hf, q26⟩ := hf
      subst q26
      refine wr_app d_Wr_writeChanges_70 cs_Wr_writeChanges_83 rfl hS19 (As := [.int (fn_Pl_numberOfChange w x2 (3 : Int32))]) rfl rfl (Nat.le_of_ble_eq_true rfl) (fun q9 hq9 => r_addU1 hq9 (fn_Pl_numberOfChange w x2 (3 : Int32)) (wr_len hl)) hE hl (fun M23 Z27 hS24 hE hl => ?_)
      refine sm_aload_n d_Wr_writeChanges_73 rfl (j := 1) rfl ?_
      refine sm_aload_n d_Wr_writeChanges_74 rfl (j := 0) rfl ?_
      refine sm_iload_n d_Wr_writeChanges_75 rfl (j := 2) rfl ?_
      refine sm_iconst (v := 4) d_Wr_writeChanges_76 (by decide) ?_
      refine lo_callV d_Wr_writeChanges_77 cs_Wr_writeChanges_175 rfl (os_I hS24) cl_1 (As := [.int x2, .int (4 : Int32)]) rfl rfl (Nat.le_of_ble_eq_true rfl) (c_Pl_numberOfChange (os_I hS24) (os_Z hS24) x2 (4 : Int32)) ?_
      replace hf := Option.map_eq_some_iff.mp hf
      obtain ⟨R30, hf, q31⟩ := hf
      subst q31
      refine wr_app d_Wr_writeChanges_80 cs_Wr_writeChanges_83 rfl hS24 (As := [.int (fn_Pl_numberOfChange w x2 (4 : Int32))]) rfl rfl (Nat.le_of_ble_eq_true rfl) (fun q9 hq9 => r_addU1 hq9 (fn_Pl_numberOfChange w x2 (4 : Int32)) (wr_len hl)) hE hl (fun M28 Z32 hS29 hE hl => ?_)
      refine sm_aload_n d_Wr_writeChanges_83 rfl (j := 1) rfl ?_
      refine sm_aload_n d_Wr_writeChanges_84 rfl (j := 0) rfl ?_
      refine sm_iload_n d_Wr_writeChanges_85 rfl (j := 2) rfl ?_
      refine sm_iconst (v := 5) d_Wr_writeChanges_86 (by decide) ?_
      refine lo_callV d_Wr_writeChanges_87 cs_Wr_writeChanges_175 rfl (os_I hS29) cl_1 (As := [.int x2, .int (5 : Int32)]) rfl rfl (Nat.le_of_ble_eq_true rfl) (c_Pl_numberOfChange (os_I hS29) (os_Z hS29) x2 (5 : Int32)) ?_
      replace hf := Option.map_eq_some_iff.mp hf
      obtain ⟨R35, hf, q36⟩ := hf
      subst q36
      refine wr_app d_Wr_writeChanges_90 cs_Wr_writeChanges_83 rfl hS29 (As := [.int (fn_Pl_numberOfChange w x2 (5 : Int32))]) rfl rfl (Nat.le_of_ble_eq_true rfl) (fun q9 hq9 => r_addU1 hq9 (fn_Pl_numberOfChange w x2 (5 : Int32)) (wr_len hl)) hE hl (fun M33 Z37 hS34 hE hl => ?_)
      refine sm_iinc (v := (x2 + 1)) d_Wr_writeChanges_93 (j := 2) rfl rfl (by decide) rfl ?_
      refine sm_goto (tgt := 25) d_Wr_writeChanges_96 (by decide) ?_
      exact sm_pick [1, 2, 0] (ih _ _ _ _ _ hS34 hE hl hf) rfl

def fn_Wr_writeChanges (F : Nat) (w : wd) : Option (List Nat) := (if (w 1 9) = 0 then some [] else ((fn_Wr_writeChanges_25 F F w (0 : Int32)).map fun q9 => (rw_bs (95 : Int32) ((2 : Int32) + ((7 : Int32) * (w 1 9)))) ++ q9))
set_option maxHeartbeats 1600000 in
set_option maxRecDepth 100000 in
theorem c_Wr_writeChanges {G : sm_G} {b : Nat} {M0 M : sm_M} {Z : zd} {w : wd} {F : Nat} (hS : os_in G b M0 M w Z) {R : List Nat} (hf : fn_Wr_writeChanges F w = some R) (hl : Z.2.1.1.length + R.length ≤ 65536) : sm_C G mf_Wr_writeChanges [.ref (b + 1), .ref (b + 103)] M (2 * (zc (zs2 Z (rwp Z.2.1 R)) - zc Z) + 0) (2 * (zc (zs2 Z (rwp Z.2.1 R)) - zc Z) + 0) (os_Q G b M (.inl none) w (zs2 Z (rwp Z.2.1 R))) := by
  generalize hE : zs2 Z (rwp Z.2.1 R) = ZF
  unfold fn_Wr_writeChanges at hf
  have hS := hS.here
  refine sm_ofW rfl (Nat.le_of_ble_eq_true rfl) ?_
  refine sm_aload_n d_Wr_writeChanges_0 rfl (j := 0) rfl ?_
  refine lo_get (v := .int (w 1 9)) d_Wr_writeChanges_1 fg_Wr_172 (os_I hS) cl_1 rfl ?_
  refine sm_if_ne (tgt := 8) d_Wr_writeChanges_4 (by decide) (fun h1 => ?_) (fun h1 => ?_)
  · rw [if_neg h1] at hf
    refine sm_aload_n d_Wr_writeChanges_8 rfl (j := 1) rfl ?_
    refine sm_bipush (v := 95) d_Wr_writeChanges_9 (by decide) ?_
    refine sm_iconst (v := 2) d_Wr_writeChanges_11 (by decide) ?_
    refine sm_bipush (v := 7) d_Wr_writeChanges_12 (by decide) ?_
    refine sm_aload_n d_Wr_writeChanges_14 rfl (j := 0) rfl ?_
    refine lo_get (v := .int (w 1 9)) d_Wr_writeChanges_15 fg_Wr_172 (os_I hS) cl_1 rfl ?_
    refine sm_imul d_Wr_writeChanges_18 ?_
    refine sm_iadd d_Wr_writeChanges_19 ?_
    replace hf := Option.map_eq_some_iff.mp hf
    obtain ⟨R4, hf, q5⟩ := hf
    subst q5
    refine wr_app d_Wr_writeChanges_20 cs_Wr_writeChanges_41 rfl hS (As := [.int (95 : Int32), .int ((2 : Int32) + ((7 : Int32) * (w 1 9)))]) rfl rfl (Nat.le_of_ble_eq_true rfl) (fun q9 hq9 => r_addSegment hq9 (95 : Int32) ((2 : Int32) + ((7 : Int32) * (w 1 9))) (wr_len hl)) hE hl (fun M2 Z6 hS3 hE hl => ?_)
    refine sm_iconst (v := 0) d_Wr_writeChanges_23 (by decide) ?_
    refine sm_istore_n d_Wr_writeChanges_24 rfl (by decide) rfl ?_
    exact sm_pick [1, 2, 0] (w_Wr_writeChanges_25 _ _ _ _ _ _ hS3 hE hl hf) rfl
  · rw [if_pos h1] at hf
    cases hf
    refine sm_return d_Wr_writeChanges_7 rfl ?_
    exact ⟨rfl, wr_fin hS hE⟩

def fn_Wr_writePlan (F : Nat) (w : wd) : Option (List Nat) := (if (0 ≤ (0 : Int32).toInt ∧ (0 : Int32).toInt < (w 1 2).toInt) ∧ (0 : Int32).toInt < 16 then ((((fn_Wr_writeSize F w).bind fun r7 => ((((fn_Wr_writeCodingOfAll F w ((0 : Int32).toInt.toNat)).bind fun r14 => ((((((fn_Wr_writeSteps F w ((0 : Int32).toInt.toNat)).bind fun r26 => ((((fn_Wr_writeOtherCodings F w ((0 : Int32).toInt.toNat)).bind fun r33 => ((((fn_Wr_writeOtherSteps F w ((0 : Int32).toInt.toNat)).bind fun r40 => ((((fn_Wr_writeShifts F w).bind fun r47 => ((((fn_Wr_writeChanges F w).bind fun r54 => ((some []).map fun q9 => r54 ++ q9))).map fun q9 => r47 ++ q9))).map fun q9 => r40 ++ q9))).map fun q9 => r33 ++ q9))).map fun q9 => r26 ++ q9))).map fun q9 => (rw_bs (92 : Int32) ((2 : Int32) + (fn_Wr_stepBytes w ((0 : Int32).toInt.toNat)))) ++ q9)).map fun q9 => r14 ++ q9))).map fun q9 => r7 ++ q9))).map fun q9 => (rw_bm (79 : Int32)) ++ q9) else some [])
set_option maxHeartbeats 1600000 in
set_option maxRecDepth 100000 in
theorem c_Wr_writePlan {G : sm_G} {b : Nat} {M0 M : sm_M} {Z : zd} {w : wd} {F : Nat} (hS : os_in G b M0 M w Z) {R : List Nat} (hf : fn_Wr_writePlan F w = some R) (hl : Z.2.1.1.length + R.length ≤ 65536) : sm_C G mf_Wr_writePlan [.ref (b + 1), .ref (b + 103)] M (2 * (zc (zs2 Z (rwp Z.2.1 R)) - zc Z) + 0) (2 * (zc (zs2 Z (rwp Z.2.1 R)) - zc Z) + 0) (os_Q G b M (.inl none) w (zs2 Z (rwp Z.2.1 R))) := by
  generalize hE : zs2 Z (rwp Z.2.1 R) = ZF
  unfold fn_Wr_writePlan at hf
  have hS := hS.here
  refine sm_ofW rfl (Nat.le_of_ble_eq_true rfl) ?_
  refine sm_aload_n d_Wr_writePlan_0 rfl (j := 0) rfl ?_
  refine sm_iconst (v := 0) d_Wr_writePlan_1 (by decide) ?_
  by_cases h1 : (0 ≤ (0 : Int32).toInt ∧ (0 : Int32).toInt < (w 1 2).toInt) ∧ (0 : Int32).toInt < 16
  · rw [if_pos h1] at hf
    refine lo_callV d_Wr_writePlan_2 cs_Wr_writePlan_9 rfl (os_I hS) cl_1 (As := [.int (0 : Int32)]) rfl rfl (Nat.le_of_ble_eq_true rfl) (c_Pl_conT (os_I hS) (os_Z hS) (0 : Int32) h1) ?_
    refine sm_astore_n d_Wr_writePlan_5 rfl (by decide) rfl ?_
    refine sm_aload_n d_Wr_writePlan_6 rfl (j := 0) rfl ?_
    refine sm_ifnonnull (tgt := 11) d_Wr_writePlan_7 (by decide) ?_
    refine sm_aload_n d_Wr_writePlan_11 rfl (j := 2) rfl ?_
    refine sm_bipush (v := 79) d_Wr_writePlan_12 (by decide) ?_
    replace hf := Option.map_eq_some_iff.mp hf
    obtain ⟨R4, hf, q5⟩ := hf
    subst q5
    refine wr_app d_Wr_writePlan_14 cs_Wr_writePlan_15 rfl hS (As := [.int (79 : Int32)]) rfl rfl (Nat.le_of_ble_eq_true rfl) (fun q9 hq9 => r_addMark hq9 (79 : Int32) (wr_len hl)) hE hl (fun M2 Z6 hS3 hE hl => ?_)
    refine sm_aload_n d_Wr_writePlan_17 rfl (j := 1) rfl ?_
    refine sm_aload_n d_Wr_writePlan_18 rfl (j := 2) rfl ?_
    replace hf := lo_bnd hf
    obtain ⟨r7, e8, hf⟩ := hf
    replace hf := Option.map_eq_some_iff.mp hf
    obtain ⟨R9, hf, q10⟩ := hf
    subst q10
    refine wr_call d_Wr_writePlan_19 cs_Wr_writePlan_21 rfl hS3 (As := [.ref (b + 1), .ref (b + 103)]) rfl rfl (Nat.le_of_ble_eq_true rfl) (c_Wr_writeSize hS3 e8 (wr_len hl)) hE hl (fun M11 Z12 hS13 hE hl => ?_)
    refine sm_aload_n d_Wr_writePlan_22 rfl (j := 1) rfl ?_
    refine sm_aload_n d_Wr_writePlan_23 rfl (j := 0) rfl ?_
    refine lo_get (v := .ref (b + (6 + 6 * (0 : Int32).toInt.toNat))) d_Wr_writePlan_24 fg_Wr_27 (os_I hS13) (cl_Cp (cm_c16 h1)) rfl ?_
    refine sm_aload_n d_Wr_writePlan_27 rfl (j := 2) rfl ?_
    replace hf := lo_bnd hf
    obtain ⟨r14, e15, hf⟩ := hf
    replace hf := Option.map_eq_some_iff.mp hf
    obtain ⟨R16, hf, q17⟩ := hf
    subst q17
    refine wr_call d_Wr_writePlan_28 cs_Wr_writePlan_33 rfl hS13 (As := [.ref (b + 1), .ref (b + (6 + 6 * (0 : Int32).toInt.toNat)), .ref (b + 103)]) rfl rfl (Nat.le_of_ble_eq_true rfl) (c_Wr_writeCodingOfAll hS13 ((0 : Int32).toInt.toNat) (cm_c16 h1) e15 (wr_len hl)) hE hl (fun M18 Z19 hS20 hE hl => ?_)
    refine sm_aload_n d_Wr_writePlan_31 rfl (j := 2) rfl ?_
    refine sm_bipush (v := 92) d_Wr_writePlan_32 (by decide) ?_
    refine sm_iconst (v := 2) d_Wr_writePlan_34 (by decide) ?_
    refine sm_aload_n d_Wr_writePlan_35 rfl (j := 0) rfl ?_
    refine sm_callSp d_Wr_writePlan_36 cs_Wr_writePlan_37 rfl (As := [.ref (b + (5 + 6 * (0 : Int32).toInt.toNat))]) rfl rfl (Nat.le_of_ble_eq_true rfl) (c_Wr_stepBytes (os_I hS20) (os_Z hS20) ((0 : Int32).toInt.toNat) (cm_c16 h1)) ?_
    refine sm_iadd d_Wr_writePlan_39 ?_
    replace hf := Option.map_eq_some_iff.mp hf
    obtain ⟨R23, hf, q24⟩ := hf
    subst q24
    refine wr_app d_Wr_writePlan_40 cs_Wr_writePlan_41 rfl hS20 (As := [.int (92 : Int32), .int ((2 : Int32) + (fn_Wr_stepBytes w ((0 : Int32).toInt.toNat)))]) rfl rfl (Nat.le_of_ble_eq_true rfl) (fun q9 hq9 => r_addSegment hq9 (92 : Int32) ((2 : Int32) + (fn_Wr_stepBytes w ((0 : Int32).toInt.toNat))) (wr_len hl)) hE hl (fun M21 Z25 hS22 hE hl => ?_)
    refine sm_aload_n d_Wr_writePlan_43 rfl (j := 0) rfl ?_
    refine sm_aload_n d_Wr_writePlan_44 rfl (j := 2) rfl ?_
    replace hf := lo_bnd hf
    obtain ⟨r26, e27, hf⟩ := hf
    replace hf := Option.map_eq_some_iff.mp hf
    obtain ⟨R28, hf, q29⟩ := hf
    subst q29
    refine wr_call d_Wr_writePlan_45 cs_Wr_writePlan_45 rfl hS22 (As := [.ref (b + (5 + 6 * (0 : Int32).toInt.toNat)), .ref (b + 103)]) rfl rfl (Nat.le_of_ble_eq_true rfl) (c_Wr_writeSteps hS22 ((0 : Int32).toInt.toNat) (cm_c16 h1) e27 (wr_len hl)) hE hl (fun M30 Z31 hS32 hE hl => ?_)
    refine sm_aload_n d_Wr_writePlan_48 rfl (j := 1) rfl ?_
    refine sm_aload_n d_Wr_writePlan_49 rfl (j := 0) rfl ?_
    refine sm_aload_n d_Wr_writePlan_50 rfl (j := 2) rfl ?_
    replace hf := lo_bnd hf
    obtain ⟨r33, e34, hf⟩ := hf
    replace hf := Option.map_eq_some_iff.mp hf
    obtain ⟨R35, hf, q36⟩ := hf
    subst q36
    refine wr_call d_Wr_writePlan_51 cs_Wr_writePlan_49 rfl hS32 (As := [.ref (b + 1), .ref (b + (5 + 6 * (0 : Int32).toInt.toNat)), .ref (b + 103)]) rfl rfl (Nat.le_of_ble_eq_true rfl) (c_Wr_writeOtherCodings hS32 ((0 : Int32).toInt.toNat) (cm_c16 h1) e34 (wr_len hl)) hE hl (fun M37 Z38 hS39 hE hl => ?_)
    refine sm_aload_n d_Wr_writePlan_54 rfl (j := 1) rfl ?_
    refine sm_aload_n d_Wr_writePlan_55 rfl (j := 0) rfl ?_
    refine sm_aload_n d_Wr_writePlan_56 rfl (j := 2) rfl ?_
    replace hf := lo_bnd hf
    obtain ⟨r40, e41, hf⟩ := hf
    replace hf := Option.map_eq_some_iff.mp hf
    obtain ⟨R42, hf, q43⟩ := hf
    subst q43
    refine wr_call d_Wr_writePlan_57 cs_Wr_writePlan_53 rfl hS39 (As := [.ref (b + 1), .ref (b + (5 + 6 * (0 : Int32).toInt.toNat)), .ref (b + 103)]) rfl rfl (Nat.le_of_ble_eq_true rfl) (c_Wr_writeOtherSteps hS39 ((0 : Int32).toInt.toNat) (cm_c16 h1) e41 (wr_len hl)) hE hl (fun M44 Z45 hS46 hE hl => ?_)
    refine sm_aload_n d_Wr_writePlan_60 rfl (j := 1) rfl ?_
    refine sm_aload_n d_Wr_writePlan_61 rfl (j := 2) rfl ?_
    replace hf := lo_bnd hf
    obtain ⟨r47, e48, hf⟩ := hf
    replace hf := Option.map_eq_some_iff.mp hf
    obtain ⟨R49, hf, q50⟩ := hf
    subst q50
    refine wr_call d_Wr_writePlan_62 cs_Wr_writePlan_56 rfl hS46 (As := [.ref (b + 1), .ref (b + 103)]) rfl rfl (Nat.le_of_ble_eq_true rfl) (c_Wr_writeShifts hS46 e48 (wr_len hl)) hE hl (fun M51 Z52 hS53 hE hl => ?_)
    refine sm_aload_n d_Wr_writePlan_65 rfl (j := 1) rfl ?_
    refine sm_aload_n d_Wr_writePlan_66 rfl (j := 2) rfl ?_
    replace hf := lo_bnd hf
    obtain ⟨r54, e55, hf⟩ := hf
    replace hf := Option.map_eq_some_iff.mp hf
    obtain ⟨R56, hf, q57⟩ := hf
    subst q57
    refine wr_call d_Wr_writePlan_67 cs_Wr_writePlan_59 rfl hS53 (As := [.ref (b + 1), .ref (b + 103)]) rfl rfl (Nat.le_of_ble_eq_true rfl) (c_Wr_writeChanges hS53 e55 (wr_len hl)) hE hl (fun M58 Z59 hS60 hE hl => ?_)
    cases hf
    refine sm_return d_Wr_writePlan_70 rfl ?_
    exact ⟨rfl, wr_fin hS60 hE⟩
  · rw [if_neg h1] at hf
    refine lo_callV d_Wr_writePlan_2 cs_Wr_writePlan_9 rfl (os_I hS) cl_1 (As := [.int (0 : Int32)]) rfl rfl (Nat.le_of_ble_eq_true rfl) (c_Pl_conF (os_I hS) (os_Z hS) (0 : Int32) h1) ?_
    refine sm_astore_nN d_Wr_writePlan_5 rfl (by decide) rfl ?_
    refine sm_aload_nN d_Wr_writePlan_6 rfl (j := 0) rfl ?_
    refine sm_ifnonnullN d_Wr_writePlan_7 ?_
    cases hf
    refine sm_return d_Wr_writePlan_10 rfl ?_
    exact ⟨rfl, wr_fin hS hE⟩

