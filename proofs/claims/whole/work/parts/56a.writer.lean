/-! Writer; written by wip/tools/cls2.py -/
def fn_Wr_writeBody_61 (F : Nat) : Nat → wd → Nat → Int32 → Option (List Nat)
 | 0, _, _, _ => none
 | n9 + 1, w, c0, x2 => (if (w (6 + 6 * c0) 0) < x2 then some [] else ((fn_Wr_writeBody_61 F n9 w c0 (x2 + 1)).map fun q9 => [by8 ((fn_Cd_pwOf w c0 x2) + ((16 : Int32) * (fn_Cd_phOf w c0 x2)))] ++ q9))
set_option maxHeartbeats 1600000 in
set_option maxRecDepth 100000 in
theorem w_Wr_writeBody_61 {G : sm_G} {b : Nat} {M0 : sm_M} {ZF : zd} {F : Nat} : ∀ (n9 : Nat), ∀ (M : sm_M) (Z : zd) (w : wd) (R : List Nat) (c0 : Nat) (x2 : Int32), os_in G b M0 M w Z → c0 < 16 → zs2 Z (rwp Z.2.1 R) = ZF → Z.2.1.1.length + R.length ≤ 65536 → fn_Wr_writeBody_61 F n9 w c0 x2 = some R → sm_W G mf_Wr_writeBody 61 [(0, .ref (b + (6 + 6 * c0))), (1, .ref (b + 103)), (2, .int x2)] [] M (2 * (zc ZF - zc Z) + 0) (2 * (zc ZF - zc Z) + 0) (os_Q G b M0 (.inl none) w ZF) := by
  intro n9
  induction n9 with
  | zero => intro M Z w R c0 x2 hS hc0 hE hl hf; cases hf
  | succ n9 ih =>
    intro M Z w R c0 x2 hS hc0 hE hl hf
    rw [fn_Wr_writeBody_61] at hf
    refine sm_iload_n d_Wr_writeBody_61 rfl (j := 2) rfl ?_
    refine sm_aload_n d_Wr_writeBody_62 rfl (j := 0) rfl ?_
    refine lo_get (v := .int (w (6 + 6 * c0) 0)) d_Wr_writeBody_63 fg_Wr_121 (os_I hS) (cl_Cd hc0) rfl ?_
    refine sm_icmp_gt (tgt := 93) d_Wr_writeBody_66 (by decide) (fun h30 => ?_) (fun h30 => ?_)
    · rw [if_pos h30] at hf
      cases hf
      refine sm_return d_Wr_writeBody_93 rfl ?_
      exact ⟨rfl, wr_fin hS hE⟩
    · rw [if_neg h30] at hf
      refine sm_aload_n d_Wr_writeBody_69 rfl (j := 1) rfl ?_
      refine sm_aload_n d_Wr_writeBody_70 rfl (j := 0) rfl ?_
      refine sm_iload_n d_Wr_writeBody_71 rfl (j := 2) rfl ?_
      refine lo_callV d_Wr_writeBody_72 cs_Wr_writeBody_136 rfl (os_I hS) (cl_Cd hc0) (As := [.int x2]) rfl rfl (Nat.le_of_ble_eq_true rfl) (c_Cd_pwOf (os_I hS) (os_Z hS) c0 x2 hc0) ?_
      refine sm_bipush (v := 16) d_Wr_writeBody_75 (by decide) ?_
      refine sm_aload_n d_Wr_writeBody_77 rfl (j := 0) rfl ?_
      refine sm_iload_n d_Wr_writeBody_78 rfl (j := 2) rfl ?_
      refine lo_callV d_Wr_writeBody_79 cs_Wr_writeBody_140 rfl (os_I hS) (cl_Cd hc0) (As := [.int x2]) rfl rfl (Nat.le_of_ble_eq_true rfl) (c_Cd_phOf (os_I hS) (os_Z hS) c0 x2 hc0) ?_
      refine sm_imul d_Wr_writeBody_82 ?_
      refine sm_iadd d_Wr_writeBody_83 ?_
      replace hf := Option.map_eq_some_iff.mp hf
      obtain ⟨R33, hf, q34⟩ := hf
      subst q34
      refine wr_app d_Wr_writeBody_84 cs_Wr_writeBody_83 rfl hS (As := [.int ((fn_Cd_pwOf w c0 x2) + ((16 : Int32) * (fn_Cd_phOf w c0 x2)))]) rfl rfl (Nat.le_of_ble_eq_true rfl) (fun q9 hq9 => r_addU1 hq9 ((fn_Cd_pwOf w c0 x2) + ((16 : Int32) * (fn_Cd_phOf w c0 x2))) (wr_len hl)) hE hl (fun M31 Z35 hS32 hE hl => ?_)
      refine sm_iinc (v := (x2 + 1)) d_Wr_writeBody_87 (j := 2) rfl rfl (by decide) rfl ?_
      refine sm_goto (tgt := 61) d_Wr_writeBody_90 (by decide) ?_
      exact sm_pick [1, 2, 0] (ih _ _ _ _ _ _ hS32 hc0 hE hl hf) rfl

def fn_Wr_writeBody_49 (F : Nat) (w : wd) (c0 : Nat) (s0 : Bool) : Option (List Nat) := ((((fn_Cd_tellsPrecincts F w c0).bind fun r27 => (if r27 = true then fn_Wr_writeBody_61 F F w c0 (0 : Int32) else some []))).map fun q9 => [by8 (bi s0)] ++ q9)
set_option maxHeartbeats 1600000 in
set_option maxRecDepth 100000 in
theorem w_Wr_writeBody_49 {G : sm_G} {b : Nat} {M0 : sm_M} {ZF : zd} {F : Nat} : ∀ (M : sm_M) (Z : zd) (w : wd) (R : List Nat) (c0 : Nat) (s0 : Bool), os_in G b M0 M w Z → c0 < 16 → zs2 Z (rwp Z.2.1 R) = ZF → Z.2.1.1.length + R.length ≤ 65536 → fn_Wr_writeBody_49 F w c0 s0 = some R → sm_W G mf_Wr_writeBody 49 [(0, .ref (b + (6 + 6 * c0))), (1, .ref (b + 103))] [.int (bi s0), .ref (b + 103)] M (2 * (zc ZF - zc Z) + 0) (2 * (zc ZF - zc Z) + 0) (os_Q G b M0 (.inl none) w ZF) := by
  intro M Z w R c0 s0 hS hc0 hE hl hf
  unfold fn_Wr_writeBody_49 at hf
  replace hf := Option.map_eq_some_iff.mp hf
  obtain ⟨R24, hf, q25⟩ := hf
  subst q25
  refine wr_app d_Wr_writeBody_49 cs_Wr_writeBody_83 rfl hS (As := [.int (bi s0)]) rfl rfl (Nat.le_of_ble_eq_true rfl) (fun q9 hq9 => r_addU1 hq9 (bi s0) (wr_len hl)) hE hl (fun M22 Z26 hS23 hE hl => ?_)
  refine sm_aload_n d_Wr_writeBody_52 rfl (j := 0) rfl ?_
  replace hf := lo_bnd hf
  obtain ⟨r27, e28, hf⟩ := hf
  refine lo_callV d_Wr_writeBody_53 cs_Wr_writeBody_92 rfl (os_I hS23) (cl_Cd hc0) (As := []) rfl rfl (Nat.le_of_ble_eq_true rfl) (c_Cd_tellsPrecincts (os_I hS23) (os_Z hS23) c0 hc0 e28) ?_
  refine sm_if_eq (tgt := 93) d_Wr_writeBody_56 (by decide) (fun h29 => ?_) (fun h29 => ?_)
  · rw [if_neg (bi0 h29)] at hf
    cases hf
    refine sm_return d_Wr_writeBody_93 rfl ?_
    exact ⟨rfl, wr_fin hS23 hE⟩
  · rw [if_pos (bi1 h29)] at hf
    refine sm_iconst (v := 0) d_Wr_writeBody_59 (by decide) ?_
    refine sm_istore_n d_Wr_writeBody_60 rfl (by decide) rfl ?_
    exact sm_pick [1, 2, 0] (w_Wr_writeBody_61 _ _ _ _ _ _ _ hS23 hc0 hE hl hf) rfl

def fn_Wr_writeBody (F : Nat) (w : wd) (c0 : Nat) : Option (List Nat) := (((((((((if (w (6 + 6 * c0) 4) = 0 then fn_Wr_writeBody_49 F w c0 false else fn_Wr_writeBody_49 F w c0 true)).map fun q9 => [by8 (w (6 + 6 * c0) 3)] ++ q9)).map fun q9 => [by8 ((w (6 + 6 * c0) 2) - (2 : Int32))] ++ q9)).map fun q9 => [by8 ((w (6 + 6 * c0) 1) - (2 : Int32))] ++ q9)).map fun q9 => [by8 (w (6 + 6 * c0) 0)] ++ q9)
set_option maxHeartbeats 1600000 in
set_option maxRecDepth 100000 in
theorem c_Wr_writeBody {G : sm_G} {b : Nat} {M0 M : sm_M} {Z : zd} {w : wd} {F : Nat} (hS : os_in G b M0 M w Z) (c0 : Nat) (hc0 : c0 < 16) {R : List Nat} (hf : fn_Wr_writeBody F w c0 = some R) (hl : Z.2.1.1.length + R.length ≤ 65536) : sm_C G mf_Wr_writeBody [.ref (b + (6 + 6 * c0)), .ref (b + 103)] M (2 * (zc (zs2 Z (rwp Z.2.1 R)) - zc Z) + 0) (2 * (zc (zs2 Z (rwp Z.2.1 R)) - zc Z) + 0) (os_Q G b M (.inl none) w (zs2 Z (rwp Z.2.1 R))) := by
  generalize hE : zs2 Z (rwp Z.2.1 R) = ZF
  unfold fn_Wr_writeBody at hf
  have hS := hS.here
  refine sm_ofW rfl (Nat.le_of_ble_eq_true rfl) ?_
  refine sm_aload_n d_Wr_writeBody_0 rfl (j := 1) rfl ?_
  refine sm_aload_n d_Wr_writeBody_1 rfl (j := 0) rfl ?_
  refine lo_get (v := .int (w (6 + 6 * c0) 0)) d_Wr_writeBody_2 fg_Wr_121 (os_I hS) (cl_Cd hc0) rfl ?_
  replace hf := Option.map_eq_some_iff.mp hf
  obtain ⟨R3, hf, q4⟩ := hf
  subst q4
  refine wr_app d_Wr_writeBody_5 cs_Wr_writeBody_83 rfl hS (As := [.int (w (6 + 6 * c0) 0)]) rfl rfl (Nat.le_of_ble_eq_true rfl) (fun q9 hq9 => r_addU1 hq9 (w (6 + 6 * c0) 0) (wr_len hl)) hE hl (fun M1 Z5 hS2 hE hl => ?_)
  refine sm_aload_n d_Wr_writeBody_8 rfl (j := 1) rfl ?_
  refine sm_aload_n d_Wr_writeBody_9 rfl (j := 0) rfl ?_
  refine lo_get (v := .int (w (6 + 6 * c0) 1)) d_Wr_writeBody_10 fg_Wr_124 (os_I hS2) (cl_Cd hc0) rfl ?_
  refine sm_iconst (v := 2) d_Wr_writeBody_13 (by decide) ?_
  refine sm_isub d_Wr_writeBody_14 ?_
  replace hf := Option.map_eq_some_iff.mp hf
  obtain ⟨R8, hf, q9⟩ := hf
  subst q9
  refine wr_app d_Wr_writeBody_15 cs_Wr_writeBody_83 rfl hS2 (As := [.int ((w (6 + 6 * c0) 1) - (2 : Int32))]) rfl rfl (Nat.le_of_ble_eq_true rfl) (fun q9 hq9 => r_addU1 hq9 ((w (6 + 6 * c0) 1) - (2 : Int32)) (wr_len hl)) hE hl (fun M6 Z10 hS7 hE hl => ?_)
  refine sm_aload_n d_Wr_writeBody_18 rfl (j := 1) rfl ?_
  refine sm_aload_n d_Wr_writeBody_19 rfl (j := 0) rfl ?_
  refine lo_get (v := .int (w (6 + 6 * c0) 2)) d_Wr_writeBody_20 fg_Wr_127 (os_I hS7) (cl_Cd hc0) rfl ?_
  refine sm_iconst (v := 2) d_Wr_writeBody_23 (by decide) ?_
  refine sm_isub d_Wr_writeBody_24 ?_
  replace hf := Option.map_eq_some_iff.mp hf
  obtain ⟨R13, hf, q14⟩ := hf
  subst q14
  refine wr_app d_Wr_writeBody_25 cs_Wr_writeBody_83 rfl hS7 (As := [.int ((w (6 + 6 * c0) 2) - (2 : Int32))]) rfl rfl (Nat.le_of_ble_eq_true rfl) (fun q9 hq9 => r_addU1 hq9 ((w (6 + 6 * c0) 2) - (2 : Int32)) (wr_len hl)) hE hl (fun M11 Z15 hS12 hE hl => ?_)
  refine sm_aload_n d_Wr_writeBody_28 rfl (j := 1) rfl ?_
  refine sm_aload_n d_Wr_writeBody_29 rfl (j := 0) rfl ?_
  refine lo_get (v := .int (w (6 + 6 * c0) 3)) d_Wr_writeBody_30 fg_Wr_130 (os_I hS12) (cl_Cd hc0) rfl ?_
  replace hf := Option.map_eq_some_iff.mp hf
  obtain ⟨R18, hf, q19⟩ := hf
  subst q19
  refine wr_app d_Wr_writeBody_33 cs_Wr_writeBody_83 rfl hS12 (As := [.int (w (6 + 6 * c0) 3)]) rfl rfl (Nat.le_of_ble_eq_true rfl) (fun q9 hq9 => r_addU1 hq9 (w (6 + 6 * c0) 3) (wr_len hl)) hE hl (fun M16 Z20 hS17 hE hl => ?_)
  refine sm_aload_n d_Wr_writeBody_36 rfl (j := 1) rfl ?_
  refine sm_aload_n d_Wr_writeBody_37 rfl (j := 0) rfl ?_
  refine lo_get (v := .int (w (6 + 6 * c0) 4)) d_Wr_writeBody_38 fg_Wr_133 (os_I hS17) (cl_Cd hc0) rfl ?_
  refine sm_if_eq (tgt := 48) d_Wr_writeBody_41 (by decide) (fun h21 => ?_) (fun h21 => ?_)
  · rw [if_pos h21] at hf
    refine sm_iconst (v := 0) d_Wr_writeBody_48 (by decide) ?_
    exact sm_pick [0, 1] (w_Wr_writeBody_49 _ _ _ _ _ _ hS17 hc0 hE hl hf) rfl
  · rw [if_neg h21] at hf
    refine sm_iconst (v := 1) d_Wr_writeBody_44 (by decide) ?_
    refine sm_goto (tgt := 49) d_Wr_writeBody_45 (by decide) ?_
    exact sm_pick [0, 1] (w_Wr_writeBody_49 _ _ _ _ _ _ hS17 hc0 hE hl hf) rfl

def fn_Wr_writeSteps_72 (k36 : wd → Nat → Int32 → Int32 → Option (List Nat)) (F : Nat) (w : wd) (c2 : Nat) (x3 : Int32) (x4 : Int32) : Option (List Nat) := k36 w c2 x3 (x4 + 1)
set_option maxHeartbeats 1600000 in
set_option maxRecDepth 100000 in
theorem w_Wr_writeSteps_72 {G : sm_G} {b : Nat} {M0 : sm_M} {ZF : zd} {F : Nat} {k36 : wd → Nat → Int32 → Int32 → Option (List Nat)} (hk36 : ∀ (M : sm_M) (Z : zd) (w : wd) (R : List Nat) (c2 : Nat) (x3 : Int32) (x4 : Int32), os_in G b M0 M w Z → c2 < 16 → zs2 Z (rwp Z.2.1 R) = ZF → Z.2.1.1.length + R.length ≤ 65536 → k36 w c2 x3 x4 = some R → sm_W G mf_Wr_writeSteps 36 [(1, .ref (b + 103)), (2, .ref (b + (9 + 6 * c2))), (3, .int x3), (4, .int x4)] [] M (2 * (zc ZF - zc Z) + 0) (2 * (zc ZF - zc Z) + 0) (os_Q G b M0 (.inl none) w ZF)) : ∀ (M : sm_M) (Z : zd) (w : wd) (R : List Nat) (c2 : Nat) (x3 : Int32) (x4 : Int32), os_in G b M0 M w Z → c2 < 16 → zs2 Z (rwp Z.2.1 R) = ZF → Z.2.1.1.length + R.length ≤ 65536 → fn_Wr_writeSteps_72 k36 F w c2 x3 x4 = some R → sm_W G mf_Wr_writeSteps 72 [(1, .ref (b + 103)), (2, .ref (b + (9 + 6 * c2))), (3, .int x3), (4, .int x4)] [] M (2 * (zc ZF - zc Z) + 0) (2 * (zc ZF - zc Z) + 0) (os_Q G b M0 (.inl none) w ZF) := by
  intro M Z w R c2 x3 x4 hS hc2 hE hl hf
  unfold fn_Wr_writeSteps_72 at hf
  refine sm_iinc (v := (x4 + 1)) d_Wr_writeSteps_72 (j := 3) rfl rfl (by decide) rfl ?_
  refine sm_goto (tgt := 36) d_Wr_writeSteps_75 (by decide) ?_
  exact sm_pick [1, 2, 3, 0] (hk36 _ _ _ _ _ _ _ hS hc2 hE hl hf) rfl

def fn_Wr_writeSteps_36 (F : Nat) : Nat → wd → Nat → Int32 → Int32 → Option (List Nat)
 | 0, _, _, _, _ => none
 | n9 + 1, w, c2, x3, x4 => (if x3 ≤ x4 then some [] else (if (w (9 + 6 * c2) 0) = 0 then ((fn_Wr_writeSteps_72 (fn_Wr_writeSteps_36 F n9) F w c2 x3 x4).map fun q9 => [by8 (fn_St_written w c2 x4)] ++ q9) else ((fn_Wr_writeSteps_72 (fn_Wr_writeSteps_36 F n9) F w c2 x3 x4).map fun q9 => (rw_b2 (fn_St_written w c2 x4)) ++ q9)))
set_option maxHeartbeats 1600000 in
set_option maxRecDepth 100000 in
theorem w_Wr_writeSteps_36 {G : sm_G} {b : Nat} {M0 : sm_M} {ZF : zd} {F : Nat} : ∀ (n9 : Nat), ∀ (M : sm_M) (Z : zd) (w : wd) (R : List Nat) (c2 : Nat) (x3 : Int32) (x4 : Int32), os_in G b M0 M w Z → c2 < 16 → zs2 Z (rwp Z.2.1 R) = ZF → Z.2.1.1.length + R.length ≤ 65536 → fn_Wr_writeSteps_36 F n9 w c2 x3 x4 = some R → sm_W G mf_Wr_writeSteps 36 [(1, .ref (b + 103)), (2, .ref (b + (9 + 6 * c2))), (3, .int x3), (4, .int x4)] [] M (2 * (zc ZF - zc Z) + 0) (2 * (zc ZF - zc Z) + 0) (os_Q G b M0 (.inl none) w ZF) := by
  intro n9
  induction n9 with
  | zero => intro M Z w R c2 x3 x4 hS hc2 hE hl hf; cases hf
  | succ n9 ih =>
    intro M Z w R c2 x3 x4 hS hc2 hE hl hf
    rw [fn_Wr_writeSteps_36] at hf
    refine sm_iload d_Wr_writeSteps_36 (j := 3) rfl ?_
    refine sm_iload_n d_Wr_writeSteps_38 rfl (j := 2) rfl ?_
    refine sm_icmp_ge (tgt := 78) d_Wr_writeSteps_39 (by decide) (fun h6 => ?_) (fun h6 => ?_)
    · rw [if_pos h6] at hf
      cases hf
      refine sm_return d_Wr_writeSteps_78 rfl ?_
      exact ⟨rfl, wr_fin hS hE⟩
    · rw [if_neg h6] at hf
      refine sm_aload_n d_Wr_writeSteps_42 rfl (j := 1) rfl ?_
      refine lo_get (v := .int (w (9 + 6 * c2) 0)) d_Wr_writeSteps_43 fg_Wr_152 (os_I hS) (cl_St hc2) rfl ?_
      refine sm_if_ne (tgt := 62) d_Wr_writeSteps_46 (by decide) (fun h7 => ?_) (fun h7 => ?_)
      · rw [if_neg h7] at hf
        refine sm_aload_n d_Wr_writeSteps_62 rfl (j := 0) rfl ?_
        refine sm_aload_n d_Wr_writeSteps_63 rfl (j := 1) rfl ?_
        refine sm_iload d_Wr_writeSteps_64 (j := 3) rfl ?_
        refine lo_callV d_Wr_writeSteps_66 cs_Wr_writeSteps_158 rfl (os_I hS) (cl_St hc2) (As := [.int x4]) rfl rfl (Nat.le_of_ble_eq_true rfl) (c_St_written (os_I hS) (os_Z hS) c2 x4 hc2) ?_
        replace hf := Option.map_eq_some_iff.mp hf
        obtain ⟨R10, hf, q11⟩ := hf
        subst q11
        refine wr_app d_Wr_writeSteps_69 cs_Wr_writeSteps_66 rfl hS (As := [.int (fn_St_written w c2 x4)]) rfl rfl (Nat.le_of_ble_eq_true rfl) (fun q9 hq9 => r_addU2 hq9 (fn_St_written w c2 x4) (wr_len hl)) hE hl (fun M8 Z12 hS9 hE hl => ?_)
        exact sm_pick [0, 1, 2, 3] (w_Wr_writeSteps_72 ih _ _ _ _ _ _ _ hS9 hc2 hE hl hf) rfl
      · rw [if_pos h7] at hf
        refine sm_aload_n d_Wr_writeSteps_49 rfl (j := 0) rfl ?_
        refine sm_aload_n d_Wr_writeSteps_50 rfl (j := 1) rfl ?_
        refine sm_iload d_Wr_writeSteps_51 (j := 3) rfl ?_
        refine lo_callV d_Wr_writeSteps_53 cs_Wr_writeSteps_158 rfl (os_I hS) (cl_St hc2) (As := [.int x4]) rfl rfl (Nat.le_of_ble_eq_true rfl) (c_St_written (os_I hS) (os_Z hS) c2 x4 hc2) ?_
        replace hf := Option.map_eq_some_iff.mp hf
        obtain ⟨R15, hf, q16⟩ := hf
        subst q16
        refine wr_app d_Wr_writeSteps_56 cs_Wr_writeSteps_83 rfl hS (As := [.int (fn_St_written w c2 x4)]) rfl rfl (Nat.le_of_ble_eq_true rfl) (fun q9 hq9 => r_addU1 hq9 (fn_St_written w c2 x4) (wr_len hl)) hE hl (fun M13 Z17 hS14 hE hl => ?_)
        refine sm_goto (tgt := 72) d_Wr_writeSteps_59 (by decide) ?_
        exact sm_pick [0, 1, 2, 3] (w_Wr_writeSteps_72 ih _ _ _ _ _ _ _ hS14 hc2 hE hl hf) rfl

def fn_Wr_writeSteps (F : Nat) (w : wd) (c0 : Nat) : Option (List Nat) := ((fn_Wr_writeSteps_36 F F w c0 (fn_St_countWritten w c0 (w (6 + 6 * c0) 0)) (0 : Int32)).map fun q9 => [by8 ((w (9 + 6 * c0) 0) + ((32 : Int32) * (w (9 + 6 * c0) 1)))] ++ q9)
set_option maxHeartbeats 1600000 in
set_option maxRecDepth 100000 in
theorem c_Wr_writeSteps {G : sm_G} {b : Nat} {M0 M : sm_M} {Z : zd} {w : wd} {F : Nat} (hS : os_in G b M0 M w Z) (c0 : Nat) (hc0 : c0 < 16) {R : List Nat} (hf : fn_Wr_writeSteps F w c0 = some R) (hl : Z.2.1.1.length + R.length ≤ 65536) : sm_C G mf_Wr_writeSteps [.ref (b + (5 + 6 * c0)), .ref (b + 103)] M (2 * (zc (zs2 Z (rwp Z.2.1 R)) - zc Z) + 0) (2 * (zc (zs2 Z (rwp Z.2.1 R)) - zc Z) + 0) (os_Q G b M (.inl none) w (zs2 Z (rwp Z.2.1 R))) := by
  generalize hE : zs2 Z (rwp Z.2.1 R) = ZF
  unfold fn_Wr_writeSteps at hf
  have hS := hS.here
  refine sm_ofW rfl (Nat.le_of_ble_eq_true rfl) ?_
  refine sm_aload_n d_Wr_writeSteps_0 rfl (j := 0) rfl ?_
  refine lo_get (v := .ref (b + (9 + 6 * c0))) d_Wr_writeSteps_1 fg_Wr_143 (os_I hS) (cl_Cp hc0) rfl ?_
  refine sm_astore_n d_Wr_writeSteps_4 rfl (by decide) rfl ?_
  refine sm_aload_n d_Wr_writeSteps_5 rfl (j := 0) rfl ?_
  refine sm_aload_n d_Wr_writeSteps_6 rfl (j := 1) rfl ?_
  refine lo_get (v := .ref (b + (6 + 6 * c0))) d_Wr_writeSteps_7 fg_Wr_27 (os_I hS) (cl_Cp hc0) rfl ?_
  refine lo_get (v := .int (w (6 + 6 * c0) 0)) d_Wr_writeSteps_10 fg_Wr_121 (os_I hS) (cl_Cd hc0) rfl ?_
  refine lo_callV d_Wr_writeSteps_13 cs_Wr_writeSteps_147 rfl (os_I hS) (cl_St hc0) (As := [.int (w (6 + 6 * c0) 0)]) rfl rfl (Nat.le_of_ble_eq_true rfl) (c_St_countWritten (os_I hS) (os_Z hS) c0 (w (6 + 6 * c0) 0) hc0) ?_
  refine sm_istore_n d_Wr_writeSteps_16 rfl (by decide) rfl ?_
  refine sm_aload_n d_Wr_writeSteps_17 rfl (j := 3) rfl ?_
  refine sm_aload_n d_Wr_writeSteps_18 rfl (j := 1) rfl ?_
  refine lo_get (v := .int (w (9 + 6 * c0) 0)) d_Wr_writeSteps_19 fg_Wr_152 (os_I hS) (cl_St hc0) rfl ?_
  refine sm_bipush (v := 32) d_Wr_writeSteps_22 (by decide) ?_
  refine sm_aload_n d_Wr_writeSteps_24 rfl (j := 1) rfl ?_
  refine lo_get (v := .int (w (9 + 6 * c0) 1)) d_Wr_writeSteps_25 fg_Wr_155 (os_I hS) (cl_St hc0) rfl ?_
  refine sm_imul d_Wr_writeSteps_28 ?_
  refine sm_iadd d_Wr_writeSteps_29 ?_
  replace hf := Option.map_eq_some_iff.mp hf
  obtain ⟨R3, hf, q4⟩ := hf
  subst q4
  refine wr_app d_Wr_writeSteps_30 cs_Wr_writeSteps_83 rfl hS (As := [.int ((w (9 + 6 * c0) 0) + ((32 : Int32) * (w (9 + 6 * c0) 1)))]) rfl rfl (Nat.le_of_ble_eq_true rfl) (fun q9 hq9 => r_addU1 hq9 ((w (9 + 6 * c0) 0) + ((32 : Int32) * (w (9 + 6 * c0) 1))) (wr_len hl)) hE hl (fun M1 Z5 hS2 hE hl => ?_)
  refine sm_iconst (v := 0) d_Wr_writeSteps_33 (by decide) ?_
  refine sm_istore d_Wr_writeSteps_34 (by decide) rfl ?_
  exact sm_pick [4, 2, 1, 0] (w_Wr_writeSteps_36 _ _ _ _ _ _ _ _ hS2 hc0 hE hl hf) rfl

def fn_Wr_writeSize_171 (k112 : wd → Int32 → Option (List Nat)) (F : Nat) (w : wd) (x2 : Int32) : Option (List Nat) := k112 w (x2 + 1)
set_option maxHeartbeats 1600000 in
set_option maxRecDepth 100000 in
theorem w_Wr_writeSize_171 {G : sm_G} {b : Nat} {M0 : sm_M} {ZF : zd} {F : Nat} {k112 : wd → Int32 → Option (List Nat)} (hk112 : ∀ (M : sm_M) (Z : zd) (w : wd) (R : List Nat) (x2 : Int32), os_in G b M0 M w Z → zs2 Z (rwp Z.2.1 R) = ZF → Z.2.1.1.length + R.length ≤ 65536 → k112 w x2 = some R → sm_W G mf_Wr_writeSize 112 [(0, .ref (b + 1)), (1, .ref (b + 103)), (2, .int x2)] [] M (2 * (zc ZF - zc Z) + 0) (2 * (zc ZF - zc Z) + 0) (os_Q G b M0 (.inl none) w ZF)) : ∀ (M : sm_M) (Z : zd) (w : wd) (R : List Nat) (x2 : Int32), os_in G b M0 M w Z → zs2 Z (rwp Z.2.1 R) = ZF → Z.2.1.1.length + R.length ≤ 65536 → fn_Wr_writeSize_171 k112 F w x2 = some R → sm_W G mf_Wr_writeSize 171 [(0, .ref (b + 1)), (1, .ref (b + 103)), (2, .int x2)] [] M (2 * (zc ZF - zc Z) + 0) (2 * (zc ZF - zc Z) + 0) (os_Q G b M0 (.inl none) w ZF) := by
  intro M Z w R x2 hS  hE hl hf
  unfold fn_Wr_writeSize_171 at hf
  refine sm_iinc (v := (x2 + 1)) d_Wr_writeSize_171 (j := 2) rfl rfl (by decide) rfl ?_
  refine sm_goto (tgt := 112) d_Wr_writeSize_174 (by decide) ?_
  exact sm_pick [1, 2, 0] (hk112 _ _ _ _ _ hS hE hl hf) rfl

def fn_Wr_writeSize_151 (k112 : wd → Int32 → Option (List Nat)) (F : Nat) (w : wd) (x2 : Int32) (c3 : Nat) (s0 : Int32) (s1 : Int32) : Option (List Nat) := ((((((fn_Wr_writeSize_171 k112 F w x2).map fun q9 => [by8 (w (5 + 6 * c3) 3)] ++ q9)).map fun q9 => [by8 (w (5 + 6 * c3) 2)] ++ q9)).map fun q9 => [by8 (s1 + s0)] ++ q9)
set_option maxHeartbeats 1600000 in
set_option maxRecDepth 100000 in
theorem w_Wr_writeSize_151 {G : sm_G} {b : Nat} {M0 : sm_M} {ZF : zd} {F : Nat} {k112 : wd → Int32 → Option (List Nat)} (hk112 : ∀ (M : sm_M) (Z : zd) (w : wd) (R : List Nat) (x2 : Int32), os_in G b M0 M w Z → zs2 Z (rwp Z.2.1 R) = ZF → Z.2.1.1.length + R.length ≤ 65536 → k112 w x2 = some R → sm_W G mf_Wr_writeSize 112 [(0, .ref (b + 1)), (1, .ref (b + 103)), (2, .int x2)] [] M (2 * (zc ZF - zc Z) + 0) (2 * (zc ZF - zc Z) + 0) (os_Q G b M0 (.inl none) w ZF)) : ∀ (M : sm_M) (Z : zd) (w : wd) (R : List Nat) (x2 : Int32) (c3 : Nat) (s0 : Int32) (s1 : Int32), os_in G b M0 M w Z → c3 < 16 → zs2 Z (rwp Z.2.1 R) = ZF → Z.2.1.1.length + R.length ≤ 65536 → fn_Wr_writeSize_151 k112 F w x2 c3 s0 s1 = some R → sm_W G mf_Wr_writeSize 151 [(0, .ref (b + 1)), (1, .ref (b + 103)), (2, .int x2), (3, .ref (b + (5 + 6 * c3)))] [.int s0, .int s1, .ref (b + 103)] M (2 * (zc ZF - zc Z) + 0) (2 * (zc ZF - zc Z) + 0) (os_Q G b M0 (.inl none) w ZF) := by
  intro M Z w R x2 c3 s0 s1 hS hc3 hE hl hf
  unfold fn_Wr_writeSize_151 at hf
  refine sm_iadd d_Wr_writeSize_151 ?_
  replace hf := Option.map_eq_some_iff.mp hf
  obtain ⟨R61, hf, q62⟩ := hf
  subst q62
  refine wr_app d_Wr_writeSize_152 cs_Wr_writeSize_83 rfl hS (As := [.int (s1 + s0)]) rfl rfl (Nat.le_of_ble_eq_true rfl) (fun q9 hq9 => r_addU1 hq9 (s1 + s0) (wr_len hl)) hE hl (fun M59 Z63 hS60 hE hl => ?_)
  refine sm_aload_n d_Wr_writeSize_155 rfl (j := 1) rfl ?_
  refine sm_aload_n d_Wr_writeSize_156 rfl (j := 3) rfl ?_
  refine lo_get (v := .int (w (5 + 6 * c3) 2)) d_Wr_writeSize_157 fg_Wr_86 (os_I hS60) (cl_Cp hc3) rfl ?_
  replace hf := Option.map_eq_some_iff.mp hf
  obtain ⟨R66, hf, q67⟩ := hf
  subst q67
  refine wr_app d_Wr_writeSize_160 cs_Wr_writeSize_83 rfl hS60 (As := [.int (w (5 + 6 * c3) 2)]) rfl rfl (Nat.le_of_ble_eq_true rfl) (fun q9 hq9 => r_addU1 hq9 (w (5 + 6 * c3) 2) (wr_len hl)) hE hl (fun M64 Z68 hS65 hE hl => ?_)
  refine sm_aload_n d_Wr_writeSize_163 rfl (j := 1) rfl ?_
  refine sm_aload_n d_Wr_writeSize_164 rfl (j := 3) rfl ?_
  refine lo_get (v := .int (w (5 + 6 * c3) 3)) d_Wr_writeSize_165 fg_Wr_89 (os_I hS65) (cl_Cp hc3) rfl ?_
  replace hf := Option.map_eq_some_iff.mp hf
  obtain ⟨R71, hf, q72⟩ := hf
  subst q72
  refine wr_app d_Wr_writeSize_168 cs_Wr_writeSize_83 rfl hS65 (As := [.int (w (5 + 6 * c3) 3)]) rfl rfl (Nat.le_of_ble_eq_true rfl) (fun q9 hq9 => r_addU1 hq9 (w (5 + 6 * c3) 3) (wr_len hl)) hE hl (fun M69 Z73 hS70 hE hl => ?_)
  exact sm_pick [0, 1, 2] (w_Wr_writeSize_171 hk112 _ _ _ _ _ hS70 hE hl hf) rfl

def fn_Wr_writeSize_112 (F : Nat) : Nat → wd → Int32 → Option (List Nat)
 | 0, _, _ => none
 | n9 + 1, w, x2 => (if (w 1 2) ≤ x2 then some [] else (if (0 ≤ x2.toInt ∧ x2.toInt < (w 1 2).toInt) ∧ x2.toInt < 16 then (if (w (5 + 6 * x2.toInt.toNat) 1) = 0 then fn_Wr_writeSize_151 (fn_Wr_writeSize_112 F n9) F w x2 x2.toInt.toNat (0 : Int32) ((w (5 + 6 * x2.toInt.toNat) 0) - (1 : Int32)) else fn_Wr_writeSize_151 (fn_Wr_writeSize_112 F n9) F w x2 x2.toInt.toNat (128 : Int32) ((w (5 + 6 * x2.toInt.toNat) 0) - (1 : Int32))) else fn_Wr_writeSize_171 (fn_Wr_writeSize_112 F n9) F w x2))
set_option maxHeartbeats 1600000 in
set_option maxRecDepth 100000 in
theorem w_Wr_writeSize_112 {G : sm_G} {b : Nat} {M0 : sm_M} {ZF : zd} {F : Nat} : ∀ (n9 : Nat), ∀ (M : sm_M) (Z : zd) (w : wd) (R : List Nat) (x2 : Int32), os_in G b M0 M w Z → zs2 Z (rwp Z.2.1 R) = ZF → Z.2.1.1.length + R.length ≤ 65536 → fn_Wr_writeSize_112 F n9 w x2 = some R → sm_W G mf_Wr_writeSize 112 [(0, .ref (b + 1)), (1, .ref (b + 103)), (2, .int x2)] [] M (2 * (zc ZF - zc Z) + 0) (2 * (zc ZF - zc Z) + 0) (os_Q G b M0 (.inl none) w ZF) := by
  intro n9
  induction n9 with
  | zero => intro M Z w R x2 hS  hE hl hf; cases hf
  | succ n9 ih =>
    intro M Z w R x2 hS  hE hl hf
    rw [fn_Wr_writeSize_112] at hf
    refine sm_iload_n d_Wr_writeSize_112 rfl (j := 2) rfl ?_
    refine sm_aload_n d_Wr_writeSize_113 rfl (j := 0) rfl ?_
    refine lo_get (v := .int (w 1 2)) d_Wr_writeSize_114 fg_Wr_62 (os_I hS) cl_1 rfl ?_
    refine sm_icmp_ge (tgt := 177) d_Wr_writeSize_117 (by decide) (fun h56 => ?_) (fun h56 => ?_)
    · rw [if_pos h56] at hf
      cases hf
      refine sm_return d_Wr_writeSize_177 rfl ?_
      exact ⟨rfl, wr_fin hS hE⟩
    · rw [if_neg h56] at hf
      refine sm_aload_n d_Wr_writeSize_120 rfl (j := 0) rfl ?_
      refine sm_iload_n d_Wr_writeSize_121 rfl (j := 2) rfl ?_
      by_cases h57 : (0 ≤ x2.toInt ∧ x2.toInt < (w 1 2).toInt) ∧ x2.toInt < 16
      · rw [if_pos h57] at hf
        refine lo_callV d_Wr_writeSize_122 cs_Wr_writeSize_9 rfl (os_I hS) cl_1 (As := [.int x2]) rfl rfl (Nat.le_of_ble_eq_true rfl) (c_Pl_conT (os_I hS) (os_Z hS) x2 h57) ?_
        refine sm_astore_n d_Wr_writeSize_125 rfl (by decide) rfl ?_
        refine sm_aload_n d_Wr_writeSize_126 rfl (j := 0) rfl ?_
        refine sm_ifnull d_Wr_writeSize_127 ?_
        refine sm_aload_n d_Wr_writeSize_130 rfl (j := 2) rfl ?_
        refine sm_aload_n d_Wr_writeSize_131 rfl (j := 0) rfl ?_
        refine lo_get (v := .int (w (5 + 6 * x2.toInt.toNat) 0)) d_Wr_writeSize_132 fg_Wr_76 (os_I hS) (cl_Cp (cm_c16 h57)) rfl ?_
        refine sm_iconst (v := 1) d_Wr_writeSize_135 (by decide) ?_
        refine sm_isub d_Wr_writeSize_136 ?_
        refine sm_aload_n d_Wr_writeSize_137 rfl (j := 0) rfl ?_
        refine lo_get (v := .int (w (5 + 6 * x2.toInt.toNat) 1)) d_Wr_writeSize_138 fg_Wr_79 (os_I hS) (cl_Cp (cm_c16 h57)) rfl ?_
        refine sm_if_eq (tgt := 150) d_Wr_writeSize_141 (by decide) (fun h58 => ?_) (fun h58 => ?_)
        · rw [if_pos h58] at hf
          refine sm_iconst (v := 0) d_Wr_writeSize_150 (by decide) ?_
          exact sm_pick [1, 2, 3, 0] (w_Wr_writeSize_151 ih _ _ _ _ _ _ _ _ hS (cm_c16 h57) hE hl hf) rfl
        · rw [if_neg h58] at hf
          refine sm_sipush (v := 128) d_Wr_writeSize_144 (by decide) ?_
          refine sm_goto (tgt := 151) d_Wr_writeSize_147 (by decide) ?_
          exact sm_pick [1, 2, 3, 0] (w_Wr_writeSize_151 ih _ _ _ _ _ _ _ _ hS (cm_c16 h57) hE hl hf) rfl
      · rw [if_neg h57] at hf
        refine lo_callV d_Wr_writeSize_122 cs_Wr_writeSize_9 rfl (os_I hS) cl_1 (As := [.int x2]) rfl rfl (Nat.le_of_ble_eq_true rfl) (c_Pl_conF (os_I hS) (os_Z hS) x2 h57) ?_
        refine sm_astore_nN d_Wr_writeSize_125 rfl (by decide) rfl ?_
        refine sm_aload_nN d_Wr_writeSize_126 rfl (j := 0) rfl ?_
        refine sm_ifnullN (tgt := 171) d_Wr_writeSize_127 (by decide) ?_
        exact sm_pick [1, 2, 3] (w_Wr_writeSize_171 ih _ _ _ _ _ hS hE hl hf) rfl

def fn_Wr_writeSize (F : Nat) (w : wd) : Option (List Nat) := ((((((((((((((((((((((fn_Wr_writeSize_112 F F w (0 : Int32)).map fun q9 => (rw_b2 (w 1 2)) ++ q9)).map fun q9 => (rw_b4 (w 2 5)) ++ q9)).map fun q9 => (rw_b4 (w 2 4)) ++ q9)).map fun q9 => (rw_b4 (w 2 7)) ++ q9)).map fun q9 => (rw_b4 (w 2 6)) ++ q9)).map fun q9 => (rw_b4 (w 2 1)) ++ q9)).map fun q9 => (rw_b4 (w 2 0)) ++ q9)).map fun q9 => (rw_b4 (w 2 3)) ++ q9)).map fun q9 => (rw_b4 (w 2 2)) ++ q9)).map fun q9 => (rw_b2 (0 : Int32)) ++ q9)).map fun q9 => (rw_bs (81 : Int32) ((38 : Int32) + ((3 : Int32) * (w 1 2)))) ++ q9)
set_option maxHeartbeats 1600000 in
set_option maxRecDepth 100000 in
theorem c_Wr_writeSize {G : sm_G} {b : Nat} {M0 M : sm_M} {Z : zd} {w : wd} {F : Nat} (hS : os_in G b M0 M w Z) {R : List Nat} (hf : fn_Wr_writeSize F w = some R) (hl : Z.2.1.1.length + R.length ≤ 65536) : sm_C G mf_Wr_writeSize [.ref (b + 1), .ref (b + 103)] M (2 * (zc (zs2 Z (rwp Z.2.1 R)) - zc Z) + 0) (2 * (zc (zs2 Z (rwp Z.2.1 R)) - zc Z) + 0) (os_Q G b M (.inl none) w (zs2 Z (rwp Z.2.1 R))) := by
  generalize hE : zs2 Z (rwp Z.2.1 R) = ZF
  unfold fn_Wr_writeSize at hf
  have hS := hS.here
  refine sm_ofW rfl (Nat.le_of_ble_eq_true rfl) ?_
  refine sm_aload_n d_Wr_writeSize_0 rfl (j := 1) rfl ?_
  refine sm_bipush (v := 81) d_Wr_writeSize_1 (by decide) ?_
  refine sm_bipush (v := 38) d_Wr_writeSize_3 (by decide) ?_
  refine sm_iconst (v := 3) d_Wr_writeSize_5 (by decide) ?_
  refine sm_aload_n d_Wr_writeSize_6 rfl (j := 0) rfl ?_
  refine lo_get (v := .int (w 1 2)) d_Wr_writeSize_7 fg_Wr_62 (os_I hS) cl_1 rfl ?_
  refine sm_imul d_Wr_writeSize_10 ?_
  refine sm_iadd d_Wr_writeSize_11 ?_
  replace hf := Option.map_eq_some_iff.mp hf
  obtain ⟨R3, hf, q4⟩ := hf
  subst q4
  refine wr_app d_Wr_writeSize_12 cs_Wr_writeSize_41 rfl hS (As := [.int (81 : Int32), .int ((38 : Int32) + ((3 : Int32) * (w 1 2)))]) rfl rfl (Nat.le_of_ble_eq_true rfl) (fun q9 hq9 => r_addSegment hq9 (81 : Int32) ((38 : Int32) + ((3 : Int32) * (w 1 2))) (wr_len hl)) hE hl (fun M1 Z5 hS2 hE hl => ?_)
  refine sm_aload_n d_Wr_writeSize_15 rfl (j := 1) rfl ?_
  refine sm_iconst (v := 0) d_Wr_writeSize_16 (by decide) ?_
  replace hf := Option.map_eq_some_iff.mp hf
  obtain ⟨R8, hf, q9⟩ := hf
  subst q9
  refine wr_app d_Wr_writeSize_17 cs_Wr_writeSize_66 rfl hS2 (As := [.int (0 : Int32)]) rfl rfl (Nat.le_of_ble_eq_true rfl) (fun q9 hq9 => r_addU2 hq9 (0 : Int32) (wr_len hl)) hE hl (fun M6 Z10 hS7 hE hl => ?_)
  refine sm_aload_n d_Wr_writeSize_20 rfl (j := 1) rfl ?_
  refine sm_aload_n d_Wr_writeSize_21 rfl (j := 0) rfl ?_
  refine lo_get (v := .ref (b + 2)) d_Wr_writeSize_22 fg_Wr_69 (os_I hS7) cl_1 rfl ?_
  refine sm_iconst (v := 2) d_Wr_writeSize_25 (by decide) ?_
  refine lo_ald (j := 2) d_Wr_writeSize_26 (os_I hS7) cl_2 (by decide) rfl ?_
  replace hf := Option.map_eq_some_iff.mp hf
  obtain ⟨R13, hf, q14⟩ := hf
  subst q14
  refine wr_app d_Wr_writeSize_27 cs_Wr_writeSize_73 rfl hS7 (As := [.int (w 2 2)]) rfl rfl (Nat.le_of_ble_eq_true rfl) (fun q9 hq9 => r_addU4 hq9 (w 2 2) (wr_len hl)) hE hl (fun M11 Z15 hS12 hE hl => ?_)
  refine sm_aload_n d_Wr_writeSize_30 rfl (j := 1) rfl ?_
  refine sm_aload_n d_Wr_writeSize_31 rfl (j := 0) rfl ?_
  refine lo_get (v := .ref (b + 2)) d_Wr_writeSize_32 fg_Wr_69 (os_I hS12) cl_1 rfl ?_
  refine sm_iconst (v := 3) d_Wr_writeSize_35 (by decide) ?_
  refine lo_ald (j := 3) d_Wr_writeSize_36 (os_I hS12) cl_2 (by decide) rfl ?_
  replace hf := Option.map_eq_some_iff.mp hf
  obtain ⟨R18, hf, q19⟩ := hf
  subst q19
  refine wr_app d_Wr_writeSize_37 cs_Wr_writeSize_73 rfl hS12 (As := [.int (w 2 3)]) rfl rfl (Nat.le_of_ble_eq_true rfl) (fun q9 hq9 => r_addU4 hq9 (w 2 3) (wr_len hl)) hE hl (fun M16 Z20 hS17 hE hl => ?_)
  refine sm_aload_n d_Wr_writeSize_40 rfl (j := 1) rfl ?_
  refine sm_aload_n d_Wr_writeSize_41 rfl (j := 0) rfl ?_
  refine lo_get (v := .ref (b + 2)) d_Wr_writeSize_42 fg_Wr_69 (os_I hS17) cl_1 rfl ?_
  refine sm_iconst (v := 0) d_Wr_writeSize_45 (by decide) ?_
  refine lo_ald (j := 0) d_Wr_writeSize_46 (os_I hS17) cl_2 (by decide) rfl ?_
  replace hf := Option.map_eq_some_iff.mp hf
  obtain ⟨R23, hf, q24⟩ := hf
  subst q24
  refine wr_app d_Wr_writeSize_47 cs_Wr_writeSize_73 rfl hS17 (As := [.int (w 2 0)]) rfl rfl (Nat.le_of_ble_eq_true rfl) (fun q9 hq9 => r_addU4 hq9 (w 2 0) (wr_len hl)) hE hl (fun M21 Z25 hS22 hE hl => ?_)
  refine sm_aload_n d_Wr_writeSize_50 rfl (j := 1) rfl ?_
  refine sm_aload_n d_Wr_writeSize_51 rfl (j := 0) rfl ?_
  refine lo_get (v := .ref (b + 2)) d_Wr_writeSize_52 fg_Wr_69 (os_I hS22) cl_1 rfl ?_
  refine sm_iconst (v := 1) d_Wr_writeSize_55 (by decide) ?_
  refine lo_ald (j := 1) d_Wr_writeSize_56 (os_I hS22) cl_2 (by decide) rfl ?_
  replace hf := Option.map_eq_some_iff.mp hf
  obtain ⟨R28, hf, q29⟩ := hf
  subst q29
  refine wr_app d_Wr_writeSize_57 cs_Wr_writeSize_73 rfl hS22 (As := [.int (w 2 1)]) rfl rfl (Nat.le_of_ble_eq_true rfl) (fun q9 hq9 => r_addU4 hq9 (w 2 1) (wr_len hl)) hE hl (fun M26 Z30 hS27 hE hl => ?_)
  refine sm_aload_n d_Wr_writeSize_60 rfl (j := 1) rfl ?_
  refine sm_aload_n d_Wr_writeSize_61 rfl (j := 0) rfl ?_
  refine lo_get (v := .ref (b + 2)) d_Wr_writeSize_62 fg_Wr_69 (os_I hS27) cl_1 rfl ?_
  refine sm_bipush (v := 6) d_Wr_writeSize_65 (by decide) ?_
  refine lo_ald (j := 6) d_Wr_writeSize_67 (os_I hS27) cl_2 (by decide) rfl ?_
  replace hf := Option.map_eq_some_iff.mp hf
  obtain ⟨R33, hf, q34⟩ := hf
  subst q34
  refine wr_app d_Wr_writeSize_68 cs_Wr_writeSize_73 rfl hS27 (As := [.int (w 2 6)]) rfl rfl (Nat.le_of_ble_eq_true rfl) (fun q9 hq9 => r_addU4 hq9 (w 2 6) (wr_len hl)) hE hl (fun M31 Z35 hS32 hE hl => ?_)
  refine sm_aload_n d_Wr_writeSize_71 rfl (j := 1) rfl ?_
  refine sm_aload_n d_Wr_writeSize_72 rfl (j := 0) rfl ?_
  refine lo_get (v := .ref (b + 2)) d_Wr_writeSize_73 fg_Wr_69 (os_I hS32) cl_1 rfl ?_
  refine sm_bipush (v := 7) d_Wr_writeSize_76 (by decide) ?_
  refine lo_ald (j := 7) d_Wr_writeSize_78 (os_I hS32) cl_2 (by decide) rfl ?_
  replace hf := Option.map_eq_some_iff.mp hf
  obtain ⟨R38, hf, q39⟩ := hf
  subst q39
  refine wr_app d_Wr_writeSize_79 cs_Wr_writeSize_73 rfl hS32 (As := [.int (w 2 7)]) rfl rfl (Nat.le_of_ble_eq_true rfl) (fun q9 hq9 => r_addU4 hq9 (w 2 7) (wr_len hl)) hE hl (fun M36 Z40 hS37 hE hl => ?_)
  refine sm_aload_n d_Wr_writeSize_82 rfl (j := 1) rfl ?_
  refine sm_aload_n d_Wr_writeSize_83 rfl (j := 0) rfl ?_
  refine lo_get (v := .ref (b + 2)) d_Wr_writeSize_84 fg_Wr_69 (os_I hS37) cl_1 rfl ?_
  refine sm_iconst (v := 4) d_Wr_writeSize_87 (by decide) ?_
  refine lo_ald (j := 4) d_Wr_writeSize_88 (os_I hS37) cl_2 (by decide) rfl ?_
  replace hf := Option.map_eq_some_iff.mp hf
  obtain ⟨R43, hf, q44⟩ := hf
  subst q44
  refine wr_app d_Wr_writeSize_89 cs_Wr_writeSize_73 rfl hS37 (As := [.int (w 2 4)]) rfl rfl (Nat.le_of_ble_eq_true rfl) (fun q9 hq9 => r_addU4 hq9 (w 2 4) (wr_len hl)) hE hl (fun M41 Z45 hS42 hE hl => ?_)
  refine sm_aload_n d_Wr_writeSize_92 rfl (j := 1) rfl ?_
  refine sm_aload_n d_Wr_writeSize_93 rfl (j := 0) rfl ?_
  refine lo_get (v := .ref (b + 2)) d_Wr_writeSize_94 fg_Wr_69 (os_I hS42) cl_1 rfl ?_
  refine sm_iconst (v := 5) d_Wr_writeSize_97 (by decide) ?_
  refine lo_ald (j := 5) d_Wr_writeSize_98 (os_I hS42) cl_2 (by decide) rfl ?_
  replace hf := Option.map_eq_some_iff.mp hf
  obtain ⟨R48, hf, q49⟩ := hf
  subst q49
  refine wr_app d_Wr_writeSize_99 cs_Wr_writeSize_73 rfl hS42 (As := [.int (w 2 5)]) rfl rfl (Nat.le_of_ble_eq_true rfl) (fun q9 hq9 => r_addU4 hq9 (w 2 5) (wr_len hl)) hE hl (fun M46 Z50 hS47 hE hl => ?_)
  refine sm_aload_n d_Wr_writeSize_102 rfl (j := 1) rfl ?_
  refine sm_aload_n d_Wr_writeSize_103 rfl (j := 0) rfl ?_
  refine lo_get (v := .int (w 1 2)) d_Wr_writeSize_104 fg_Wr_62 (os_I hS47) cl_1 rfl ?_
  replace hf := Option.map_eq_some_iff.mp hf
  obtain ⟨R53, hf, q54⟩ := hf
  subst q54
  refine wr_app d_Wr_writeSize_107 cs_Wr_writeSize_66 rfl hS47 (As := [.int (w 1 2)]) rfl rfl (Nat.le_of_ble_eq_true rfl) (fun q9 hq9 => r_addU2 hq9 (w 1 2) (wr_len hl)) hE hl (fun M51 Z55 hS52 hE hl => ?_)
  refine sm_iconst (v := 0) d_Wr_writeSize_110 (by decide) ?_
  refine sm_istore_n d_Wr_writeSize_111 rfl (by decide) rfl ?_
  exact sm_pick [1, 2, 0] (w_Wr_writeSize_112 _ _ _ _ _ _ hS52 hE hl hf) rfl

def fn_Wr_writeCodingOfAll_37 (F : Nat) (w : wd) (c1 : Nat) (s0 : Int32) (s1 : Int32) : Option (List Nat) := ((fn_Wr_bodyBytes F w c1).bind fun r6 => (((((((((if (w 1 5) = 0 then ((((fn_Wr_writeBody F w c1).bind fun r34 => ((some []).map fun q9 => r34 ++ q9))).map fun q9 => [by8 (0 : Int32)] ++ q9) else ((((fn_Wr_writeBody F w c1).bind fun r46 => ((some []).map fun q9 => r46 ++ q9))).map fun q9 => [by8 (1 : Int32)] ++ q9))).map fun q9 => (rw_b2 (w 1 4)) ++ q9)).map fun q9 => [by8 (w 1 3)] ++ q9)).map fun q9 => [by8 (s1 + s0)] ++ q9)).map fun q9 => (rw_bs (82 : Int32) ((7 : Int32) + r6)) ++ q9))
set_option maxHeartbeats 1600000 in
set_option maxRecDepth 100000 in
theorem w_Wr_writeCodingOfAll_37 {G : sm_G} {b : Nat} {M0 : sm_M} {ZF : zd} {F : Nat} : ∀ (M : sm_M) (Z : zd) (w : wd) (R : List Nat) (c1 : Nat) (s0 : Int32) (s1 : Int32), os_in G b M0 M w Z → c1 < 16 → zs2 Z (rwp Z.2.1 R) = ZF → Z.2.1.1.length + R.length ≤ 65536 → fn_Wr_writeCodingOfAll_37 F w c1 s0 s1 = some R → sm_W G mf_Wr_writeCodingOfAll 37 [(0, .ref (b + 1)), (1, .ref (b + (6 + 6 * c1))), (2, .ref (b + 103))] [.int s0, .int s1] M (2 * (zc ZF - zc Z) + 0) (2 * (zc ZF - zc Z) + 0) (os_Q G b M0 (.inl none) w ZF) := by
  intro M Z w R c1 s0 s1 hS hc1 hE hl hf
  unfold fn_Wr_writeCodingOfAll_37 at hf
  refine sm_iadd d_Wr_writeCodingOfAll_37 ?_
  refine sm_istore_n d_Wr_writeCodingOfAll_38 rfl (by decide) rfl ?_
  refine sm_aload_n d_Wr_writeCodingOfAll_39 rfl (j := 3) rfl ?_
  refine sm_bipush (v := 82) d_Wr_writeCodingOfAll_40 (by decide) ?_
  refine sm_bipush (v := 7) d_Wr_writeCodingOfAll_42 (by decide) ?_
  refine sm_aload_n d_Wr_writeCodingOfAll_44 rfl (j := 2) rfl ?_
  replace hf := lo_bnd hf
  obtain ⟨r6, e7, hf⟩ := hf
  refine sm_callSp d_Wr_writeCodingOfAll_45 cs_Wr_writeCodingOfAll_104 rfl (As := [.ref (b + (6 + 6 * c1))]) rfl rfl (Nat.le_of_ble_eq_true rfl) (c_Wr_bodyBytes (os_I hS) (os_Z hS) c1 hc1 e7) ?_
  refine sm_iadd d_Wr_writeCodingOfAll_48 ?_
  replace hf := Option.map_eq_some_iff.mp hf
  obtain ⟨R10, hf, q11⟩ := hf
  subst q11
  refine wr_app d_Wr_writeCodingOfAll_49 cs_Wr_writeCodingOfAll_41 rfl hS (As := [.int (82 : Int32), .int ((7 : Int32) + r6)]) rfl rfl (Nat.le_of_ble_eq_true rfl) (fun q9 hq9 => r_addSegment hq9 (82 : Int32) ((7 : Int32) + r6) (wr_len hl)) hE hl (fun M8 Z12 hS9 hE hl => ?_)
  refine sm_aload_n d_Wr_writeCodingOfAll_52 rfl (j := 3) rfl ?_
  refine sm_iload_n d_Wr_writeCodingOfAll_53 rfl (j := 0) rfl ?_
  replace hf := Option.map_eq_some_iff.mp hf
  obtain ⟨R15, hf, q16⟩ := hf
  subst q16
  refine wr_app d_Wr_writeCodingOfAll_54 cs_Wr_writeCodingOfAll_83 rfl hS9 (As := [.int (s1 + s0)]) rfl rfl (Nat.le_of_ble_eq_true rfl) (fun q9 hq9 => r_addU1 hq9 (s1 + s0) (wr_len hl)) hE hl (fun M13 Z17 hS14 hE hl => ?_)
  refine sm_aload_n d_Wr_writeCodingOfAll_57 rfl (j := 3) rfl ?_
  refine sm_aload_n d_Wr_writeCodingOfAll_58 rfl (j := 1) rfl ?_
  refine lo_get (v := .int (w 1 3)) d_Wr_writeCodingOfAll_59 fg_Wr_108 (os_I hS14) cl_1 rfl ?_
  replace hf := Option.map_eq_some_iff.mp hf
  obtain ⟨R20, hf, q21⟩ := hf
  subst q21
  refine wr_app d_Wr_writeCodingOfAll_62 cs_Wr_writeCodingOfAll_83 rfl hS14 (As := [.int (w 1 3)]) rfl rfl (Nat.le_of_ble_eq_true rfl) (fun q9 hq9 => r_addU1 hq9 (w 1 3) (wr_len hl)) hE hl (fun M18 Z22 hS19 hE hl => ?_)
  refine sm_aload_n d_Wr_writeCodingOfAll_65 rfl (j := 3) rfl ?_
  refine sm_aload_n d_Wr_writeCodingOfAll_66 rfl (j := 1) rfl ?_
  refine lo_get (v := .int (w 1 4)) d_Wr_writeCodingOfAll_67 fg_Wr_111 (os_I hS19) cl_1 rfl ?_
  replace hf := Option.map_eq_some_iff.mp hf
  obtain ⟨R25, hf, q26⟩ := hf
  subst q26
  refine wr_app d_Wr_writeCodingOfAll_70 cs_Wr_writeCodingOfAll_66 rfl hS19 (As := [.int (w 1 4)]) rfl rfl (Nat.le_of_ble_eq_true rfl) (fun q9 hq9 => r_addU2 hq9 (w 1 4) (wr_len hl)) hE hl (fun M23 Z27 hS24 hE hl => ?_)
  refine sm_aload_n d_Wr_writeCodingOfAll_73 rfl (j := 3) rfl ?_
  refine sm_aload_n d_Wr_writeCodingOfAll_74 rfl (j := 1) rfl ?_
  refine lo_get (v := .int (w 1 5)) d_Wr_writeCodingOfAll_75 fg_Wr_114 (os_I hS24) cl_1 rfl ?_
  refine sm_if_eq (tgt := 85) d_Wr_writeCodingOfAll_78 (by decide) (fun h28 => ?_) (fun h28 => ?_)
  · rw [if_pos h28] at hf
    refine sm_iconst (v := 0) d_Wr_writeCodingOfAll_85 (by decide) ?_
    replace hf := Option.map_eq_some_iff.mp hf
    obtain ⟨R31, hf, q32⟩ := hf
    subst q32
    refine wr_app d_Wr_writeCodingOfAll_86 cs_Wr_writeCodingOfAll_83 rfl hS24 (As := [.int (0 : Int32)]) rfl rfl (Nat.le_of_ble_eq_true rfl) (fun q9 hq9 => r_addU1 hq9 (0 : Int32) (wr_len hl)) hE hl (fun M29 Z33 hS30 hE hl => ?_)
    refine sm_aload_n d_Wr_writeCodingOfAll_89 rfl (j := 2) rfl ?_
    refine sm_aload_n d_Wr_writeCodingOfAll_90 rfl (j := 3) rfl ?_
    replace hf := lo_bnd hf
    obtain ⟨r34, e35, hf⟩ := hf
    replace hf := Option.map_eq_some_iff.mp hf
    obtain ⟨R36, hf, q37⟩ := hf
    subst q37
    refine wr_call d_Wr_writeCodingOfAll_91 cs_Wr_writeCodingOfAll_117 rfl hS30 (As := [.ref (b + (6 + 6 * c1)), .ref (b + 103)]) rfl rfl (Nat.le_of_ble_eq_true rfl) (c_Wr_writeBody hS30 c1 hc1 e35 (wr_len hl)) hE hl (fun M38 Z39 hS40 hE hl => ?_)
    cases hf
    refine sm_return d_Wr_writeCodingOfAll_94 rfl ?_
    exact ⟨rfl, wr_fin hS40 hE⟩
  · rw [if_neg h28] at hf
    refine sm_iconst (v := 1) d_Wr_writeCodingOfAll_81 (by decide) ?_
    refine sm_goto (tgt := 86) d_Wr_writeCodingOfAll_82 (by decide) ?_
    replace hf := Option.map_eq_some_iff.mp hf
    obtain ⟨R43, hf, q44⟩ := hf
    subst q44
    refine wr_app d_Wr_writeCodingOfAll_86 cs_Wr_writeCodingOfAll_83 rfl hS24 (As := [.int (1 : Int32)]) rfl rfl (Nat.le_of_ble_eq_true rfl) (fun q9 hq9 => r_addU1 hq9 (1 : Int32) (wr_len hl)) hE hl (fun M41 Z45 hS42 hE hl => ?_)
    refine sm_aload_n d_Wr_writeCodingOfAll_89 rfl (j := 2) rfl ?_
    refine sm_aload_n d_Wr_writeCodingOfAll_90 rfl (j := 3) rfl ?_
    replace hf := lo_bnd hf
    obtain ⟨r46, e47, hf⟩ := hf
    replace hf := Option.map_eq_some_iff.mp hf
    obtain ⟨R48, hf, q49⟩ := hf
    subst q49
    refine wr_call d_Wr_writeCodingOfAll_91 cs_Wr_writeCodingOfAll_117 rfl hS42 (As := [.ref (b + (6 + 6 * c1)), .ref (b + 103)]) rfl rfl (Nat.le_of_ble_eq_true rfl) (c_Wr_writeBody hS42 c1 hc1 e47 (wr_len hl)) hE hl (fun M50 Z51 hS52 hE hl => ?_)
    cases hf
    refine sm_return d_Wr_writeCodingOfAll_94 rfl ?_
    exact ⟨rfl, wr_fin hS52 hE⟩

def fn_Wr_writeCodingOfAll_24 (F : Nat) (w : wd) (c1 : Nat) (s0 : Int32) (s1 : Bool) : Option (List Nat) := (if (w 1 7) = 0 then fn_Wr_writeCodingOfAll_37 F w c1 (0 : Int32) ((bi s1) + s0) else fn_Wr_writeCodingOfAll_37 F w c1 (4 : Int32) ((bi s1) + s0))
set_option maxHeartbeats 1600000 in
set_option maxRecDepth 100000 in
theorem w_Wr_writeCodingOfAll_24 {G : sm_G} {b : Nat} {M0 : sm_M} {ZF : zd} {F : Nat} : ∀ (M : sm_M) (Z : zd) (w : wd) (R : List Nat) (c1 : Nat) (s0 : Int32) (s1 : Bool), os_in G b M0 M w Z → c1 < 16 → zs2 Z (rwp Z.2.1 R) = ZF → Z.2.1.1.length + R.length ≤ 65536 → fn_Wr_writeCodingOfAll_24 F w c1 s0 s1 = some R → sm_W G mf_Wr_writeCodingOfAll 24 [(0, .ref (b + 1)), (1, .ref (b + (6 + 6 * c1))), (2, .ref (b + 103))] [.int s0, .int (bi s1)] M (2 * (zc ZF - zc Z) + 0) (2 * (zc ZF - zc Z) + 0) (os_Q G b M0 (.inl none) w ZF) := by
  intro M Z w R c1 s0 s1 hS hc1 hE hl hf
  unfold fn_Wr_writeCodingOfAll_24 at hf
  refine sm_iadd d_Wr_writeCodingOfAll_24 ?_
  refine sm_aload_n d_Wr_writeCodingOfAll_25 rfl (j := 0) rfl ?_
  refine lo_get (v := .int (w 1 7)) d_Wr_writeCodingOfAll_26 fg_Wr_101 (os_I hS) cl_1 rfl ?_
  refine sm_if_eq (tgt := 36) d_Wr_writeCodingOfAll_29 (by decide) (fun h5 => ?_) (fun h5 => ?_)
  · rw [if_pos h5] at hf
    refine sm_iconst (v := 0) d_Wr_writeCodingOfAll_36 (by decide) ?_
    exact sm_pick [0, 1, 2] (w_Wr_writeCodingOfAll_37 _ _ _ _ _ _ _ hS hc1 hE hl hf) rfl
  · rw [if_neg h5] at hf
    refine sm_iconst (v := 4) d_Wr_writeCodingOfAll_32 (by decide) ?_
    refine sm_goto (tgt := 37) d_Wr_writeCodingOfAll_33 (by decide) ?_
    exact sm_pick [0, 1, 2] (w_Wr_writeCodingOfAll_37 _ _ _ _ _ _ _ hS hc1 hE hl hf) rfl

def fn_Wr_writeCodingOfAll_12 (F : Nat) (w : wd) (c1 : Nat) (s0 : Bool) : Option (List Nat) := (if (w 1 6) = 0 then fn_Wr_writeCodingOfAll_24 F w c1 (0 : Int32) s0 else fn_Wr_writeCodingOfAll_24 F w c1 (2 : Int32) s0)
set_option maxHeartbeats 1600000 in
set_option maxRecDepth 100000 in
theorem w_Wr_writeCodingOfAll_12 {G : sm_G} {b : Nat} {M0 : sm_M} {ZF : zd} {F : Nat} : ∀ (M : sm_M) (Z : zd) (w : wd) (R : List Nat) (c1 : Nat) (s0 : Bool), os_in G b M0 M w Z → c1 < 16 → zs2 Z (rwp Z.2.1 R) = ZF → Z.2.1.1.length + R.length ≤ 65536 → fn_Wr_writeCodingOfAll_12 F w c1 s0 = some R → sm_W G mf_Wr_writeCodingOfAll 12 [(0, .ref (b + 1)), (1, .ref (b + (6 + 6 * c1))), (2, .ref (b + 103))] [.int (bi s0)] M (2 * (zc ZF - zc Z) + 0) (2 * (zc ZF - zc Z) + 0) (os_Q G b M0 (.inl none) w ZF) := by
  intro M Z w R c1 s0 hS hc1 hE hl hf
  unfold fn_Wr_writeCodingOfAll_12 at hf
  refine sm_aload_n d_Wr_writeCodingOfAll_12 rfl (j := 0) rfl ?_
  refine lo_get (v := .int (w 1 6)) d_Wr_writeCodingOfAll_13 fg_Wr_98 (os_I hS) cl_1 rfl ?_
  refine sm_if_eq (tgt := 23) d_Wr_writeCodingOfAll_16 (by decide) (fun h4 => ?_) (fun h4 => ?_)
  · rw [if_pos h4] at hf
    refine sm_iconst (v := 0) d_Wr_writeCodingOfAll_23 (by decide) ?_
    exact sm_pick [0, 1, 2] (w_Wr_writeCodingOfAll_24 _ _ _ _ _ _ _ hS hc1 hE hl hf) rfl
  · rw [if_neg h4] at hf
    refine sm_iconst (v := 2) d_Wr_writeCodingOfAll_19 (by decide) ?_
    refine sm_goto (tgt := 24) d_Wr_writeCodingOfAll_20 (by decide) ?_
    exact sm_pick [0, 1, 2] (w_Wr_writeCodingOfAll_24 _ _ _ _ _ _ _ hS hc1 hE hl hf) rfl

def fn_Wr_writeCodingOfAll (F : Nat) (w : wd) (c1 : Nat) : Option (List Nat) := ((fn_Cd_tellsPrecincts F w c1).bind fun r1 => (if r1 = true then fn_Wr_writeCodingOfAll_12 F w c1 true else fn_Wr_writeCodingOfAll_12 F w c1 false))
set_option maxHeartbeats 1600000 in
set_option maxRecDepth 100000 in
theorem c_Wr_writeCodingOfAll {G : sm_G} {b : Nat} {M0 M : sm_M} {Z : zd} {w : wd} {F : Nat} (hS : os_in G b M0 M w Z) (c1 : Nat) (hc1 : c1 < 16) {R : List Nat} (hf : fn_Wr_writeCodingOfAll F w c1 = some R) (hl : Z.2.1.1.length + R.length ≤ 65536) : sm_C G mf_Wr_writeCodingOfAll [.ref (b + 1), .ref (b + (6 + 6 * c1)), .ref (b + 103)] M (2 * (zc (zs2 Z (rwp Z.2.1 R)) - zc Z) + 0) (2 * (zc (zs2 Z (rwp Z.2.1 R)) - zc Z) + 0) (os_Q G b M (.inl none) w (zs2 Z (rwp Z.2.1 R))) := by
  generalize hE : zs2 Z (rwp Z.2.1 R) = ZF
  unfold fn_Wr_writeCodingOfAll at hf
  have hS := hS.here
  refine sm_ofW rfl (Nat.le_of_ble_eq_true rfl) ?_
  refine sm_aload_n d_Wr_writeCodingOfAll_0 rfl (j := 1) rfl ?_
  replace hf := lo_bnd hf
  obtain ⟨r1, e2, hf⟩ := hf
  refine lo_callV d_Wr_writeCodingOfAll_1 cs_Wr_writeCodingOfAll_92 rfl (os_I hS) (cl_Cd hc1) (As := []) rfl rfl (Nat.le_of_ble_eq_true rfl) (c_Cd_tellsPrecincts (os_I hS) (os_Z hS) c1 hc1 e2) ?_
  refine sm_if_eq (tgt := 11) d_Wr_writeCodingOfAll_4 (by decide) (fun h3 => ?_) (fun h3 => ?_)
  · rw [if_neg (bi0 h3)] at hf
    refine sm_iconst (v := 0) d_Wr_writeCodingOfAll_11 (by decide) ?_
    exact sm_pick [0, 1, 2] (w_Wr_writeCodingOfAll_12 _ _ _ _ _ _ hS hc1 hE hl hf) rfl
  · rw [if_pos (bi1 h3)] at hf
    refine sm_iconst (v := 1) d_Wr_writeCodingOfAll_7 (by decide) ?_
    refine sm_goto (tgt := 12) d_Wr_writeCodingOfAll_8 (by decide) ?_
    exact sm_pick [0, 1, 2] (w_Wr_writeCodingOfAll_12 _ _ _ _ _ _ hS hc1 hE hl hf) rfl

def fn_Wr_writeOtherCodings_87 (k2 : wd → Nat → Int32 → Option (List Nat)) (F : Nat) (w : wd) (c1 : Nat) (x3 : Int32) : Option (List Nat) := k2 w c1 (x3 + 1)
set_option maxHeartbeats 1600000 in
set_option maxRecDepth 100000 in
theorem w_Wr_writeOtherCodings_87 {G : sm_G} {b : Nat} {M0 : sm_M} {ZF : zd} {F : Nat} {k2 : wd → Nat → Int32 → Option (List Nat)} (hk2 : ∀ (M : sm_M) (Z : zd) (w : wd) (R : List Nat) (c1 : Nat) (x3 : Int32), os_in G b M0 M w Z → c1 < 16 → zs2 Z (rwp Z.2.1 R) = ZF → Z.2.1.1.length + R.length ≤ 65536 → k2 w c1 x3 = some R → sm_W G mf_Wr_writeOtherCodings 2 [(0, .ref (b + 1)), (1, .ref (b + (5 + 6 * c1))), (2, .ref (b + 103)), (3, .int x3)] [] M (2 * (zc ZF - zc Z) + 0) (2 * (zc ZF - zc Z) + 0) (os_Q G b M0 (.inl none) w ZF)) : ∀ (M : sm_M) (Z : zd) (w : wd) (R : List Nat) (c1 : Nat) (x3 : Int32), os_in G b M0 M w Z → c1 < 16 → zs2 Z (rwp Z.2.1 R) = ZF → Z.2.1.1.length + R.length ≤ 65536 → fn_Wr_writeOtherCodings_87 k2 F w c1 x3 = some R → sm_W G mf_Wr_writeOtherCodings 87 [(0, .ref (b + 1)), (1, .ref (b + (5 + 6 * c1))), (2, .ref (b + 103)), (3, .int x3)] [] M (2 * (zc ZF - zc Z) + 0) (2 * (zc ZF - zc Z) + 0) (os_Q G b M0 (.inl none) w ZF) := by
  intro M Z w R c1 x3 hS hc1 hE hl hf
  unfold fn_Wr_writeOtherCodings_87 at hf
  refine sm_iinc (v := (x3 + 1)) d_Wr_writeOtherCodings_87 (j := 3) rfl rfl (by decide) rfl ?_
  refine sm_goto (tgt := 2) d_Wr_writeOtherCodings_90 (by decide) ?_
  exact sm_pick [1, 2, 3, 0] (hk2 _ _ _ _ _ _ hS hc1 hE hl hf) rfl

def fn_Wr_writeOtherCodings_75 (k2 : wd → Nat → Int32 → Option (List Nat)) (F : Nat) (w : wd) (c1 : Nat) (x3 : Int32) (c4 : Nat) (s0 : Bool) : Option (List Nat) := ((((fn_Wr_writeBody F w c4).bind fun r26 => ((fn_Wr_writeOtherCodings_87 k2 F w c1 x3).map fun q9 => r26 ++ q9))).map fun q9 => [by8 (bi s0)] ++ q9)
set_option maxHeartbeats 1600000 in
set_option maxRecDepth 100000 in
theorem w_Wr_writeOtherCodings_75 {G : sm_G} {b : Nat} {M0 : sm_M} {ZF : zd} {F : Nat} {k2 : wd → Nat → Int32 → Option (List Nat)} (hk2 : ∀ (M : sm_M) (Z : zd) (w : wd) (R : List Nat) (c1 : Nat) (x3 : Int32), os_in G b M0 M w Z → c1 < 16 → zs2 Z (rwp Z.2.1 R) = ZF → Z.2.1.1.length + R.length ≤ 65536 → k2 w c1 x3 = some R → sm_W G mf_Wr_writeOtherCodings 2 [(0, .ref (b + 1)), (1, .ref (b + (5 + 6 * c1))), (2, .ref (b + 103)), (3, .int x3)] [] M (2 * (zc ZF - zc Z) + 0) (2 * (zc ZF - zc Z) + 0) (os_Q G b M0 (.inl none) w ZF)) : ∀ (M : sm_M) (Z : zd) (w : wd) (R : List Nat) (c1 : Nat) (x3 : Int32) (c4 : Nat) (s0 : Bool), os_in G b M0 M w Z → c1 < 16 → c4 < 16 → zs2 Z (rwp Z.2.1 R) = ZF → Z.2.1.1.length + R.length ≤ 65536 → fn_Wr_writeOtherCodings_75 k2 F w c1 x3 c4 s0 = some R → sm_W G mf_Wr_writeOtherCodings 75 [(0, .ref (b + 1)), (1, .ref (b + (5 + 6 * c1))), (2, .ref (b + 103)), (3, .int x3), (4, .ref (b + (5 + 6 * c4)))] [.int (bi s0), .ref (b + 103)] M (2 * (zc ZF - zc Z) + 0) (2 * (zc ZF - zc Z) + 0) (os_Q G b M0 (.inl none) w ZF) := by
  intro M Z w R c1 x3 c4 s0 hS hc1 hc4 hE hl hf
  unfold fn_Wr_writeOtherCodings_75 at hf
  replace hf := Option.map_eq_some_iff.mp hf
  obtain ⟨R23, hf, q24⟩ := hf
  subst q24
  refine wr_app d_Wr_writeOtherCodings_75 cs_Wr_writeOtherCodings_83 rfl hS (As := [.int (bi s0)]) rfl rfl (Nat.le_of_ble_eq_true rfl) (fun q9 hq9 => r_addU1 hq9 (bi s0) (wr_len hl)) hE hl (fun M21 Z25 hS22 hE hl => ?_)
  refine sm_aload d_Wr_writeOtherCodings_78 (j := 4) rfl ?_
  refine lo_get (v := .ref (b + (6 + 6 * c4))) d_Wr_writeOtherCodings_80 fg_Wr_27 (os_I hS22) (cl_Cp hc4) rfl ?_
  refine sm_aload_n d_Wr_writeOtherCodings_83 rfl (j := 2) rfl ?_
  replace hf := lo_bnd hf
  obtain ⟨r26, e27, hf⟩ := hf
  replace hf := Option.map_eq_some_iff.mp hf
  obtain ⟨R28, hf, q29⟩ := hf
  subst q29
  refine wr_call d_Wr_writeOtherCodings_84 cs_Wr_writeOtherCodings_117 rfl hS22 (As := [.ref (b + (6 + 6 * c4)), .ref (b + 103)]) rfl rfl (Nat.le_of_ble_eq_true rfl) (c_Wr_writeBody hS22 c4 hc4 e27 (wr_len hl)) hE hl (fun M30 Z31 hS32 hE hl => ?_)
  exact sm_pick [0, 1, 2, 3] (w_Wr_writeOtherCodings_87 hk2 _ _ _ _ _ _ hS32 hc1 hE hl hf) rfl

def fn_Wr_writeOtherCodings_2 (F : Nat) : Nat → wd → Nat → Int32 → Option (List Nat)
 | 0, _, _, _ => none
 | n9 + 1, w, c1, x3 => (if (w 1 2) ≤ x3 then some [] else (if (0 ≤ x3.toInt ∧ x3.toInt < (w 1 2).toInt) ∧ x3.toInt < 16 then ((fn_Cd_isLike F w x3.toInt.toNat c1).bind fun r3 => (if r3 = true then fn_Wr_writeOtherCodings_87 (fn_Wr_writeOtherCodings_2 F n9) F w c1 x3 else ((fn_Wr_bodyBytes F w x3.toInt.toNat).bind fun r6 => ((((((fn_Cd_tellsPrecincts F w x3.toInt.toNat).bind fun r18 => (if r18 = true then fn_Wr_writeOtherCodings_75 (fn_Wr_writeOtherCodings_2 F n9) F w c1 x3 x3.toInt.toNat true else fn_Wr_writeOtherCodings_75 (fn_Wr_writeOtherCodings_2 F n9) F w c1 x3 x3.toInt.toNat false))).map fun q9 => [by8 x3] ++ q9)).map fun q9 => (rw_bs (83 : Int32) ((4 : Int32) + r6)) ++ q9)))) else fn_Wr_writeOtherCodings_87 (fn_Wr_writeOtherCodings_2 F n9) F w c1 x3))
set_option maxHeartbeats 1600000 in
set_option maxRecDepth 100000 in
theorem w_Wr_writeOtherCodings_2 {G : sm_G} {b : Nat} {M0 : sm_M} {ZF : zd} {F : Nat} : ∀ (n9 : Nat), ∀ (M : sm_M) (Z : zd) (w : wd) (R : List Nat) (c1 : Nat) (x3 : Int32), os_in G b M0 M w Z → c1 < 16 → zs2 Z (rwp Z.2.1 R) = ZF → Z.2.1.1.length + R.length ≤ 65536 → fn_Wr_writeOtherCodings_2 F n9 w c1 x3 = some R → sm_W G mf_Wr_writeOtherCodings 2 [(0, .ref (b + 1)), (1, .ref (b + (5 + 6 * c1))), (2, .ref (b + 103)), (3, .int x3)] [] M (2 * (zc ZF - zc Z) + 0) (2 * (zc ZF - zc Z) + 0) (os_Q G b M0 (.inl none) w ZF) := by
  intro n9
  induction n9 with
  | zero => intro M Z w R c1 x3 hS hc1 hE hl hf; cases hf
  | succ n9 ih =>
    intro M Z w R c1 x3 hS hc1 hE hl hf
    rw [fn_Wr_writeOtherCodings_2] at hf
    refine sm_iload_n d_Wr_writeOtherCodings_2 rfl (j := 3) rfl ?_
    refine sm_aload_n d_Wr_writeOtherCodings_3 rfl (j := 0) rfl ?_
    refine lo_get (v := .int (w 1 2)) d_Wr_writeOtherCodings_4 fg_Wr_62 (os_I hS) cl_1 rfl ?_
    refine sm_icmp_ge (tgt := 93) d_Wr_writeOtherCodings_7 (by decide) (fun h1 => ?_) (fun h1 => ?_)
    · rw [if_pos h1] at hf
      cases hf
      refine sm_return d_Wr_writeOtherCodings_93 rfl ?_
      exact ⟨rfl, wr_fin hS hE⟩
    · rw [if_neg h1] at hf
      refine sm_aload_n d_Wr_writeOtherCodings_10 rfl (j := 0) rfl ?_
      refine sm_iload_n d_Wr_writeOtherCodings_11 rfl (j := 3) rfl ?_
      by_cases h2 : (0 ≤ x3.toInt ∧ x3.toInt < (w 1 2).toInt) ∧ x3.toInt < 16
      · rw [if_pos h2] at hf
        refine lo_callV d_Wr_writeOtherCodings_12 cs_Wr_writeOtherCodings_9 rfl (os_I hS) cl_1 (As := [.int x3]) rfl rfl (Nat.le_of_ble_eq_true rfl) (c_Pl_conT (os_I hS) (os_Z hS) x3 h2) ?_
        refine sm_astore d_Wr_writeOtherCodings_15 (by decide) rfl ?_
        refine sm_aload d_Wr_writeOtherCodings_17 (j := 0) rfl ?_
        refine sm_ifnull d_Wr_writeOtherCodings_19 ?_
        refine sm_aload d_Wr_writeOtherCodings_22 (j := 0) rfl ?_
        refine lo_get (v := .ref (b + (6 + 6 * x3.toInt.toNat))) d_Wr_writeOtherCodings_24 fg_Wr_27 (os_I hS) (cl_Cp (cm_c16 h2)) rfl ?_
        refine sm_aload_n d_Wr_writeOtherCodings_27 rfl (j := 2) rfl ?_
        refine lo_get (v := .ref (b + (6 + 6 * c1))) d_Wr_writeOtherCodings_28 fg_Wr_27 (os_I hS) (cl_Cp hc1) rfl ?_
        replace hf := lo_bnd hf
        obtain ⟨r3, e4, hf⟩ := hf
        refine lo_callV d_Wr_writeOtherCodings_31 cs_Wr_writeOtherCodings_161 rfl (os_I hS) (cl_Cd (cm_c16 h2)) (As := [.ref (b + (6 + 6 * c1))]) rfl rfl (Nat.le_of_ble_eq_true rfl) (c_Cd_isLike (os_I hS) (os_Z hS) x3.toInt.toNat c1 (cm_c16 h2) hc1 e4) ?_
        refine sm_if_ne (tgt := 87) d_Wr_writeOtherCodings_34 (by decide) (fun h5 => ?_) (fun h5 => ?_)
        · rw [if_pos (bi1 h5)] at hf
          exact sm_pick [1, 2, 3, 4] (w_Wr_writeOtherCodings_87 ih _ _ _ _ _ _ hS hc1 hE hl hf) rfl
        · rw [if_neg (bi0 h5)] at hf
          refine sm_aload_n d_Wr_writeOtherCodings_37 rfl (j := 3) rfl ?_
          refine sm_bipush (v := 83) d_Wr_writeOtherCodings_38 (by decide) ?_
          refine sm_iconst (v := 4) d_Wr_writeOtherCodings_40 (by decide) ?_
          refine sm_aload d_Wr_writeOtherCodings_41 (j := 0) rfl ?_
          refine lo_get (v := .ref (b + (6 + 6 * x3.toInt.toNat))) d_Wr_writeOtherCodings_43 fg_Wr_27 (os_I hS) (cl_Cp (cm_c16 h2)) rfl ?_
          replace hf := lo_bnd hf
          obtain ⟨r6, e7, hf⟩ := hf
          refine sm_callSp d_Wr_writeOtherCodings_46 cs_Wr_writeOtherCodings_104 rfl (As := [.ref (b + (6 + 6 * x3.toInt.toNat))]) rfl rfl (Nat.le_of_ble_eq_true rfl) (c_Wr_bodyBytes (os_I hS) (os_Z hS) x3.toInt.toNat (cm_c16 h2) e7) ?_
          refine sm_iadd d_Wr_writeOtherCodings_49 ?_
          replace hf := Option.map_eq_some_iff.mp hf
          obtain ⟨R10, hf, q11⟩ := hf
          subst q11
          refine wr_app d_Wr_writeOtherCodings_50 cs_Wr_writeOtherCodings_41 rfl hS (As := [.int (83 : Int32), .int ((4 : Int32) + r6)]) rfl rfl (Nat.le_of_ble_eq_true rfl) (fun q9 hq9 => r_addSegment hq9 (83 : Int32) ((4 : Int32) + r6) (wr_len hl)) hE hl (fun M8 Z12 hS9 hE hl => ?_)
          refine sm_aload_n d_Wr_writeOtherCodings_53 rfl (j := 3) rfl ?_
          refine sm_iload_n d_Wr_writeOtherCodings_54 rfl (j := 4) rfl ?_
          replace hf := Option.map_eq_some_iff.mp hf
          obtain ⟨R15, hf, q16⟩ := hf
          subst q16
          refine wr_app d_Wr_writeOtherCodings_55 cs_Wr_writeOtherCodings_83 rfl hS9 (As := [.int x3]) rfl rfl (Nat.le_of_ble_eq_true rfl) (fun q9 hq9 => r_addU1 hq9 x3 (wr_len hl)) hE hl (fun M13 Z17 hS14 hE hl => ?_)
          refine sm_aload_n d_Wr_writeOtherCodings_58 rfl (j := 3) rfl ?_
          refine sm_aload d_Wr_writeOtherCodings_59 (j := 0) rfl ?_
          refine lo_get (v := .ref (b + (6 + 6 * x3.toInt.toNat))) d_Wr_writeOtherCodings_61 fg_Wr_27 (os_I hS14) (cl_Cp (cm_c16 h2)) rfl ?_
          replace hf := lo_bnd hf
          obtain ⟨r18, e19, hf⟩ := hf
          refine lo_callV d_Wr_writeOtherCodings_64 cs_Wr_writeOtherCodings_92 rfl (os_I hS14) (cl_Cd (cm_c16 h2)) (As := []) rfl rfl (Nat.le_of_ble_eq_true rfl) (c_Cd_tellsPrecincts (os_I hS14) (os_Z hS14) x3.toInt.toNat (cm_c16 h2) e19) ?_
          refine sm_if_eq (tgt := 74) d_Wr_writeOtherCodings_67 (by decide) (fun h20 => ?_) (fun h20 => ?_)
          · rw [if_neg (bi0 h20)] at hf
            refine sm_iconst (v := 0) d_Wr_writeOtherCodings_74 (by decide) ?_
            exact sm_pick [1, 2, 3, 4, 0] (w_Wr_writeOtherCodings_75 ih _ _ _ _ _ _ _ _ hS14 hc1 (cm_c16 h2) hE hl hf) rfl
          · rw [if_pos (bi1 h20)] at hf
            refine sm_iconst (v := 1) d_Wr_writeOtherCodings_70 (by decide) ?_
            refine sm_goto (tgt := 75) d_Wr_writeOtherCodings_71 (by decide) ?_
            exact sm_pick [1, 2, 3, 4, 0] (w_Wr_writeOtherCodings_75 ih _ _ _ _ _ _ _ _ hS14 hc1 (cm_c16 h2) hE hl hf) rfl
      · rw [if_neg h2] at hf
        refine lo_callV d_Wr_writeOtherCodings_12 cs_Wr_writeOtherCodings_9 rfl (os_I hS) cl_1 (As := [.int x3]) rfl rfl (Nat.le_of_ble_eq_true rfl) (c_Pl_conF (os_I hS) (os_Z hS) x3 h2) ?_
        refine sm_astoreN d_Wr_writeOtherCodings_15 (by decide) rfl ?_
        refine sm_aloadN d_Wr_writeOtherCodings_17 (j := 0) rfl ?_
        refine sm_ifnullN (tgt := 87) d_Wr_writeOtherCodings_19 (by decide) ?_
        exact sm_pick [1, 2, 3, 4] (w_Wr_writeOtherCodings_87 ih _ _ _ _ _ _ hS hc1 hE hl hf) rfl

def fn_Wr_writeOtherCodings (F : Nat) (w : wd) (c1 : Nat) : Option (List Nat) := fn_Wr_writeOtherCodings_2 F F w c1 (1 : Int32)
set_option maxHeartbeats 1600000 in
set_option maxRecDepth 100000 in
theorem c_Wr_writeOtherCodings {G : sm_G} {b : Nat} {M0 M : sm_M} {Z : zd} {w : wd} {F : Nat} (hS : os_in G b M0 M w Z) (c1 : Nat) (hc1 : c1 < 16) {R : List Nat} (hf : fn_Wr_writeOtherCodings F w c1 = some R) (hl : Z.2.1.1.length + R.length ≤ 65536) : sm_C G mf_Wr_writeOtherCodings [.ref (b + 1), .ref (b + (5 + 6 * c1)), .ref (b + 103)] M (2 * (zc (zs2 Z (rwp Z.2.1 R)) - zc Z) + 0) (2 * (zc (zs2 Z (rwp Z.2.1 R)) - zc Z) + 0) (os_Q G b M (.inl none) w (zs2 Z (rwp Z.2.1 R))) := by
  generalize hE : zs2 Z (rwp Z.2.1 R) = ZF
  unfold fn_Wr_writeOtherCodings at hf
  have hS := hS.here
  refine sm_ofW rfl (Nat.le_of_ble_eq_true rfl) ?_
  refine sm_iconst (v := 1) d_Wr_writeOtherCodings_0 (by decide) ?_
  refine sm_istore_n d_Wr_writeOtherCodings_1 rfl (by decide) rfl ?_
  exact sm_pick [1, 2, 3, 0] (w_Wr_writeOtherCodings_2 _ _ _ _ _ _ _ hS hc1 hE hl hf) rfl

