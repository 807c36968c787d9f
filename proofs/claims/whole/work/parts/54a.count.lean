/-! Writer: its counts; written by wip/tools/cls2.py -/
def fn_Wr_bodyBytes (F : Nat) (w : wd) (c0 : Nat) : Option (Int32) := ((fn_Cd_tellsPrecincts F w c0).bind fun r1 => (if r1 = true then some ((5 : Int32) + ((w (6 + 6 * c0) 0) + (1 : Int32))) else some ((5 : Int32) + (0 : Int32))))
set_option maxHeartbeats 1600000 in
set_option maxRecDepth 100000 in
theorem c_Wr_bodyBytes {G : sm_G} {b : Nat} {M0 M : sm_M} {Z : zd} {w : wd} {F : Nat} (hI : lo_in G cm_L b M0 M w) (hZ : cz_at G b M0 Z) (c0 : Nat) (hc0 : c0 < 16) {R : Int32} (hf : fn_Wr_bodyBytes F w c0 = some R) : sm_C G mf_Wr_bodyBytes [.ref (b + (6 + 6 * c0))] M 0 0 (sm_pu M (.int R)) := by
  unfold fn_Wr_bodyBytes at hf
  have hZ := hZ.go hI.2
  have hI := hI.here
  refine sm_ofW rfl (Nat.le_of_ble_eq_true rfl) ?_
  refine sm_iconst (v := 5) d_Wr_bodyBytes_0 (by decide) ?_
  refine sm_aload_n d_Wr_bodyBytes_1 rfl (j := 0) rfl ?_
  obtain ⟨r1, e2, hf⟩ := lo_bnd hf
  refine lo_callV d_Wr_bodyBytes_2 cs_Wr_bodyBytes_92 rfl hI (cl_Cd hc0) (As := []) rfl rfl (Nat.le_of_ble_eq_true rfl) (c_Cd_tellsPrecincts hI hZ c0 hc0 e2) ?_
  refine sm_if_eq (tgt := 17) d_Wr_bodyBytes_5 (by decide) (fun h3 => ?_) (fun h3 => ?_)
  · rw [if_neg (bi0 h3)] at hf
    refine sm_iconst (v := 0) d_Wr_bodyBytes_17 (by decide) ?_
    refine sm_iadd d_Wr_bodyBytes_18 ?_
    cases hf
    refine sm_ireturn d_Wr_bodyBytes_19 rfl (by rfl) ?_
    exact ⟨rfl, rfl⟩
  · rw [if_pos (bi1 h3)] at hf
    refine sm_aload_n d_Wr_bodyBytes_8 rfl (j := 0) rfl ?_
    refine lo_get (v := .int (w (6 + 6 * c0) 0)) d_Wr_bodyBytes_9 fg_Wr_121 hI (cl_Cd hc0) rfl ?_
    refine sm_iconst (v := 1) d_Wr_bodyBytes_12 (by decide) ?_
    refine sm_iadd d_Wr_bodyBytes_13 ?_
    refine sm_goto (tgt := 18) d_Wr_bodyBytes_14 (by decide) ?_
    refine sm_iadd d_Wr_bodyBytes_18 ?_
    cases hf
    refine sm_ireturn d_Wr_bodyBytes_19 rfl (by rfl) ?_
    exact ⟨rfl, rfl⟩

def fn_Wr_stepBytes (w : wd) (c0 : Nat) : Int32 := (if (w (9 + 6 * c0) 0) = 0 then ((1 : Int32) + (fn_St_countWritten w c0 (w (6 + 6 * c0) 0))) else ((1 : Int32) + ((2 : Int32) * (fn_St_countWritten w c0 (w (6 + 6 * c0) 0)))))
set_option maxHeartbeats 1600000 in
set_option maxRecDepth 100000 in
theorem c_Wr_stepBytes {G : sm_G} {b : Nat} {M0 M : sm_M} {Z : zd} {w : wd}  (hI : lo_in G cm_L b M0 M w) (hZ : cz_at G b M0 Z) (c0 : Nat) (hc0 : c0 < 16) : sm_C G mf_Wr_stepBytes [.ref (b + (5 + 6 * c0))] M 0 0 (sm_pu M (.int (fn_Wr_stepBytes w c0))) := by
  obtain ⟨R, hf⟩ : ∃ R, fn_Wr_stepBytes w c0 = R := ⟨_, rfl⟩
  rw [hf]
  unfold fn_Wr_stepBytes at hf
  have hZ := hZ.go hI.2
  have hI := hI.here
  refine sm_ofW rfl (Nat.le_of_ble_eq_true rfl) ?_
  refine sm_aload_n d_Wr_stepBytes_0 rfl (j := 0) rfl ?_
  refine lo_get (v := .ref (b + (9 + 6 * c0))) d_Wr_stepBytes_1 fg_Wr_143 hI (cl_Cp hc0) rfl ?_
  refine sm_aload_n d_Wr_stepBytes_4 rfl (j := 0) rfl ?_
  refine lo_get (v := .ref (b + (6 + 6 * c0))) d_Wr_stepBytes_5 fg_Wr_27 hI (cl_Cp hc0) rfl ?_
  refine lo_get (v := .int (w (6 + 6 * c0) 0)) d_Wr_stepBytes_8 fg_Wr_121 hI (cl_Cd hc0) rfl ?_
  refine lo_callV d_Wr_stepBytes_11 cs_Wr_stepBytes_147 rfl hI (cl_St hc0) (As := [.int (w (6 + 6 * c0) 0)]) rfl rfl (Nat.le_of_ble_eq_true rfl) (c_St_countWritten hI hZ c0 (w (6 + 6 * c0) 0) hc0) ?_
  refine sm_istore_n d_Wr_stepBytes_14 rfl (by decide) rfl ?_
  refine sm_iconst (v := 1) d_Wr_stepBytes_15 (by decide) ?_
  refine sm_aload_n d_Wr_stepBytes_16 rfl (j := 1) rfl ?_
  refine lo_get (v := .ref (b + (9 + 6 * c0))) d_Wr_stepBytes_17 fg_Wr_143 hI (cl_Cp hc0) rfl ?_
  refine lo_get (v := .int (w (9 + 6 * c0) 0)) d_Wr_stepBytes_20 fg_Wr_152 hI (cl_St hc0) rfl ?_
  refine sm_if_ne (tgt := 30) d_Wr_stepBytes_23 (by decide) (fun h1 => ?_) (fun h1 => ?_)
  · rw [if_neg h1] at hf
    refine sm_iconst (v := 2) d_Wr_stepBytes_30 (by decide) ?_
    refine sm_iload_n d_Wr_stepBytes_31 rfl (j := 0) rfl ?_
    refine sm_imul d_Wr_stepBytes_32 ?_
    refine sm_iadd d_Wr_stepBytes_33 ?_
    subst hf
    refine sm_ireturn d_Wr_stepBytes_34 rfl (by rfl) ?_
    exact ⟨rfl, rfl⟩
  · rw [if_pos h1] at hf
    refine sm_iload_n d_Wr_stepBytes_26 rfl (j := 0) rfl ?_
    refine sm_goto (tgt := 33) d_Wr_stepBytes_27 (by decide) ?_
    refine sm_iadd d_Wr_stepBytes_33 ?_
    subst hf
    refine sm_ireturn d_Wr_stepBytes_34 rfl (by rfl) ?_
    exact ⟨rfl, rfl⟩

/-! StreamMarks.existing -/
section EXI
variable {G : sm_G} {b : Nat} {M0 M : sm_M} {Z : zd} {w : wd}
set_option maxHeartbeats 800000 in
theorem c_SM_exT (hS : os_in G b M0 M w Z) (x1 : Int32) (h : (0 ≤ x1.toInt ∧ x1.toInt < (w 1 2).toInt) ∧ x1.toInt < 16) : sm_C G mf_SM_existing [.ref (b + 0), .int x1] M 0 0 (os_Q G b M (.inl (some (.ref (b + (5 + 6 * x1.toInt.toNat))))) w Z) := by
  have hS := hS.here
  refine sm_ofW rfl (Nat.le_of_ble_eq_true rfl) ?_
  refine sm_aload_n d_SM_existing_0 rfl (j := 0) rfl ?_
  refine lo_get (v := .ref (b + 1)) d_SM_existing_1 fg_SM_10 (os_I hS) cl_0 rfl ?_
  refine sm_iload_n d_SM_existing_4 rfl (j := 1) rfl ?_
  refine lo_callV d_SM_existing_5 cs_SM_existing_320 rfl (os_I hS) cl_1 (As := [.int x1]) rfl rfl (Nat.le_of_ble_eq_true rfl) (c_Pl_conT (os_I hS) (os_Z hS) x1 h) ?_
  refine sm_astore_n d_SM_existing_8 rfl (by decide) rfl ?_
  refine sm_aload_n d_SM_existing_9 rfl (j := 0) rfl ?_
  refine sm_ifnonnull (tgt := 24) d_SM_existing_10 (by decide) ?_
  refine sm_aload_n d_SM_existing_24 rfl (j := 0) rfl ?_
  refine sm_areturn d_SM_existing_25 rfl (Or.inl ⟨_, rfl⟩) (Or.inr ⟨_, rfl⟩) ?_
  exact ⟨rfl, hS⟩
set_option maxHeartbeats 800000 in
theorem c_SM_exF (hS : os_in G b M0 M w Z) (x1 : Int32) (h : ¬ ((0 ≤ x1.toInt ∧ x1.toInt < (w 1 2).toInt) ∧ x1.toInt < 16)) : sm_C G mf_SM_existing [.ref (b + 0), .int x1] M 1 6 (os_Q G b M (.inr "java/util/NoSuchElementException") w Z) := by
  have hS := hS.here
  refine sm_ofW rfl (Nat.le_of_ble_eq_true rfl) ?_
  refine sm_aload_n d_SM_existing_0 rfl (j := 0) rfl ?_
  refine lo_get (v := .ref (b + 1)) d_SM_existing_1 fg_SM_10 (os_I hS) cl_0 rfl ?_
  refine sm_iload_n d_SM_existing_4 rfl (j := 1) rfl ?_
  refine lo_callV d_SM_existing_5 cs_SM_existing_320 rfl (os_I hS) cl_1 (As := [.int x1]) rfl rfl (Nat.le_of_ble_eq_true rfl) (c_Pl_conF (os_I hS) (os_Z hS) x1 h) ?_
  refine sm_astore_nN d_SM_existing_8 rfl (by decide) rfl ?_
  refine sm_aload_nN d_SM_existing_9 rfl (j := 0) rfl ?_
  refine sm_ifnonnullN d_SM_existing_10 ?_
  exact sm_throwNW d_SM_existing_13 d_SM_existing_16 d_SM_existing_17 d_SM_existing_20 d_SM_existing_23 th_SM_220_323 rfl (by decide) (by decide) (Nat.le_refl _) (Nat.le_refl _) (fun n9 hn9 => ⟨rfl, os_bump hS hn9⟩)
end EXI
