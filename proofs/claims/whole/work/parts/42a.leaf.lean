/-! Coding, Steps, Component, Places, Parts; written by wip/tools/cls.py -/
def fn_Cd_setBlocks (w : wd) (c0 : Nat) (x1 : Int32) (x2 : Int32) (x3 : Int32) (x4 : Int32) (x5 : Bool) : wd := (up2 (up2 (up2 (up2 (up2 w (6 + 6 * c0) 0 x1) (6 + 6 * c0) 1 x2) (6 + 6 * c0) 2 x3) (6 + 6 * c0) 3 x4) (6 + 6 * c0) 4 (bi x5))
set_option maxHeartbeats 1600000 in
set_option maxRecDepth 100000 in
theorem c_Cd_setBlocks {G : sm_G} {b : Nat} {M0 M : sm_M} {Z : zd} {w : wd}  (hI : lo_in G cm_L b M0 M w) (hZ : cz_at G b M0 Z) (c0 : Nat) (x1 : Int32) (x2 : Int32) (x3 : Int32) (x4 : Int32) (x5 : Bool) (hc0 : c0 < 16) : sm_C G mf_Cd_setBlocks [.ref (b + (6 + 6 * c0)), .int x1, .int x2, .int x3, .int x4, .int (bi x5)] M 0 0 (wd_Q G cm_L b M none (fn_Cd_setBlocks w c0 x1 x2 x3 x4 x5)) := by
  obtain ⟨R, hf⟩ : ∃ R, fn_Cd_setBlocks w c0 x1 x2 x3 x4 x5 = R := ⟨_, rfl⟩
  rw [hf]
  unfold fn_Cd_setBlocks at hf
  have hZ := hZ.go hI.2
  have hI := hI.here
  refine sm_ofW rfl (Nat.le_of_ble_eq_true rfl) ?_
  refine sm_aload_n d_Cd_setBlocks_0 rfl (j := 0) rfl ?_
  refine sm_iload_n d_Cd_setBlocks_1 rfl (j := 1) rfl ?_
  refine lo_put d_Cd_setBlocks_2 fp_Cd_31 (by decide) hI (cl_Cd hc0) rfl (by rfl) (by rfl) (fun M1 hI2 => ?_)
  refine sm_aload_n d_Cd_setBlocks_5 rfl (j := 0) rfl ?_
  refine sm_iload_n d_Cd_setBlocks_6 rfl (j := 2) rfl ?_
  refine lo_put d_Cd_setBlocks_7 fp_Cd_35 (by decide) hI2 (cl_Cd hc0) rfl (by rfl) (by rfl) (fun M3 hI4 => ?_)
  refine sm_aload_n d_Cd_setBlocks_10 rfl (j := 0) rfl ?_
  refine sm_iload_n d_Cd_setBlocks_11 rfl (j := 3) rfl ?_
  refine lo_put d_Cd_setBlocks_12 fp_Cd_38 (by decide) hI4 (cl_Cd hc0) rfl (by rfl) (by rfl) (fun M5 hI6 => ?_)
  refine sm_aload_n d_Cd_setBlocks_15 rfl (j := 0) rfl ?_
  refine sm_iload d_Cd_setBlocks_16 (j := 4) rfl ?_
  refine lo_put d_Cd_setBlocks_18 fp_Cd_41 (by decide) hI6 (cl_Cd hc0) rfl (by rfl) (by rfl) (fun M7 hI8 => ?_)
  refine sm_aload_n d_Cd_setBlocks_21 rfl (j := 0) rfl ?_
  refine sm_iload d_Cd_setBlocks_22 (j := 5) rfl ?_
  refine lo_put d_Cd_setBlocks_24 fp_Cd_44 (by decide) hI8 (cl_Cd hc0) rfl (bi_n _) (bi_f _) (fun M9 hI10 => ?_)
  subst hf
  refine sm_return d_Cd_setBlocks_27 rfl ?_
  exact ⟨rfl, hI10⟩

def fn_Cd_resetPrecincts (w : wd) (c0 : Nat) : wd := (fil2 (fil2 w (7 + 6 * c0) 33 (15 : Int32)) (8 + 6 * c0) 33 (15 : Int32))
set_option maxHeartbeats 1600000 in
set_option maxRecDepth 100000 in
theorem c_Cd_resetPrecincts {G : sm_G} {b : Nat} {M0 M : sm_M} {Z : zd} {w : wd}  (hI : lo_in G cm_L b M0 M w) (hZ : cz_at G b M0 Z) (c0 : Nat) (hc0 : c0 < 16) : sm_C G mf_Cd_resetPrecincts [.ref (b + (6 + 6 * c0))] M 0 0 (wd_Q G cm_L b M none (fn_Cd_resetPrecincts w c0)) := by
  obtain ⟨R, hf⟩ : ∃ R, fn_Cd_resetPrecincts w c0 = R := ⟨_, rfl⟩
  rw [hf]
  unfold fn_Cd_resetPrecincts at hf
  have hZ := hZ.go hI.2
  have hI := hI.here
  refine sm_ofW rfl (Nat.le_of_ble_eq_true rfl) ?_
  refine sm_aload_n d_Cd_resetPrecincts_0 rfl (j := 0) rfl ?_
  refine lo_get (v := .ref (b + (7 + 6 * c0))) d_Cd_resetPrecincts_1 fg_Cd_9 hI (cl_Cd hc0) rfl ?_
  refine sm_bipush (v := 15) d_Cd_resetPrecincts_4 (by decide) ?_
  refine lo_callSm d_Cd_resetPrecincts_6 cs_Cd_resetPrecincts_25 rfl hI (As := [.ref (b + (7 + 6 * c0)), .int (15 : Int32)]) rfl rfl (Nat.le_of_ble_eq_true rfl) (c_Ar_fill hI (cl_Pw hc0) (by decide) _) (fun M1 hI2 => ?_)
  refine sm_aload_n d_Cd_resetPrecincts_9 rfl (j := 0) rfl ?_
  refine lo_get (v := .ref (b + (8 + 6 * c0))) d_Cd_resetPrecincts_10 fg_Cd_15 hI2 (cl_Cd hc0) rfl ?_
  refine sm_bipush (v := 15) d_Cd_resetPrecincts_13 (by decide) ?_
  refine lo_callSm d_Cd_resetPrecincts_15 cs_Cd_resetPrecincts_25 rfl hI2 (As := [.ref (b + (8 + 6 * c0)), .int (15 : Int32)]) rfl rfl (Nat.le_of_ble_eq_true rfl) (c_Ar_fill hI2 (cl_Ph hc0) (by decide) _) (fun M3 hI4 => ?_)
  subst hf
  refine sm_return d_Cd_resetPrecincts_18 rfl ?_
  exact ⟨rfl, hI4⟩

def fn_Cd_reset (w : wd) (c0 : Nat) : wd := (fn_Cd_resetPrecincts (fn_Cd_setBlocks w c0 (0 : Int32) (6 : Int32) (6 : Int32) (0 : Int32) true) c0)
set_option maxHeartbeats 1600000 in
set_option maxRecDepth 100000 in
theorem c_Cd_reset {G : sm_G} {b : Nat} {M0 M : sm_M} {Z : zd} {w : wd}  (hI : lo_in G cm_L b M0 M w) (hZ : cz_at G b M0 Z) (c0 : Nat) (hc0 : c0 < 16) : sm_C G mf_Cd_reset [.ref (b + (6 + 6 * c0))] M 0 0 (wd_Q G cm_L b M none (fn_Cd_reset w c0)) := by
  obtain ⟨R, hf⟩ : ∃ R, fn_Cd_reset w c0 = R := ⟨_, rfl⟩
  rw [hf]
  unfold fn_Cd_reset at hf
  have hZ := hZ.go hI.2
  have hI := hI.here
  refine sm_ofW rfl (Nat.le_of_ble_eq_true rfl) ?_
  refine sm_aload_n d_Cd_reset_0 rfl (j := 0) rfl ?_
  refine sm_iconst (v := 0) d_Cd_reset_1 (by decide) ?_
  refine sm_bipush (v := 6) d_Cd_reset_2 (by decide) ?_
  refine sm_bipush (v := 6) d_Cd_reset_4 (by decide) ?_
  refine sm_iconst (v := 0) d_Cd_reset_6 (by decide) ?_
  refine sm_iconst (v := 1) d_Cd_reset_7 (by decide) ?_
  refine lo_callVm d_Cd_reset_8 cs_Cd_reset_18 rfl hI (cl_Cd hc0) (As := [.int (0 : Int32), .int (6 : Int32), .int (6 : Int32), .int (0 : Int32), .int (1 : Int32)]) rfl rfl (Nat.le_of_ble_eq_true rfl) (c_Cd_setBlocks hI hZ c0 (0 : Int32) (6 : Int32) (6 : Int32) (0 : Int32) true hc0) (fun M1 hI2 => ?_)
  refine sm_aload_n d_Cd_reset_11 rfl (j := 0) rfl ?_
  refine lo_callVm d_Cd_reset_12 cs_Cd_reset_22 rfl hI2 (cl_Cd hc0) (As := []) rfl rfl (Nat.le_of_ble_eq_true rfl) (c_Cd_resetPrecincts hI2 hZ c0 hc0) (fun M3 hI4 => ?_)
  subst hf
  refine sm_return d_Cd_reset_15 rfl ?_
  exact ⟨rfl, hI4⟩

def fn_St_resetValues (w : wd) (c0 : Nat) : wd := (fil2 w (10 + 6 * c0) 97 (0 : Int32))
set_option maxHeartbeats 1600000 in
set_option maxRecDepth 100000 in
theorem c_St_resetValues {G : sm_G} {b : Nat} {M0 M : sm_M} {Z : zd} {w : wd}  (hI : lo_in G cm_L b M0 M w) (hZ : cz_at G b M0 Z) (c0 : Nat) (hc0 : c0 < 16) : sm_C G mf_St_resetValues [.ref (b + (9 + 6 * c0))] M 0 0 (wd_Q G cm_L b M none (fn_St_resetValues w c0)) := by
  obtain ⟨R, hf⟩ : ∃ R, fn_St_resetValues w c0 = R := ⟨_, rfl⟩
  rw [hf]
  unfold fn_St_resetValues at hf
  have hZ := hZ.go hI.2
  have hI := hI.here
  refine sm_ofW rfl (Nat.le_of_ble_eq_true rfl) ?_
  refine sm_aload_n d_St_resetValues_0 rfl (j := 0) rfl ?_
  refine lo_get (v := .ref (b + (10 + 6 * c0))) d_St_resetValues_1 fg_St_9 hI (cl_St hc0) rfl ?_
  refine sm_iconst (v := 0) d_St_resetValues_4 (by decide) ?_
  refine lo_callSm d_St_resetValues_5 cs_St_resetValues_25 rfl hI (As := [.ref (b + (10 + 6 * c0)), .int (0 : Int32)]) rfl rfl (Nat.le_of_ble_eq_true rfl) (c_Ar_fill hI (cl_Va hc0) (by decide) _) (fun M1 hI2 => ?_)
  subst hf
  refine sm_return d_St_resetValues_8 rfl ?_
  exact ⟨rfl, hI2⟩

def fn_St_reset (w : wd) (c0 : Nat) : wd := (fn_St_resetValues (up2 (up2 w (9 + 6 * c0) 0 (0 : Int32)) (9 + 6 * c0) 1 (2 : Int32)) c0)
set_option maxHeartbeats 1600000 in
set_option maxRecDepth 100000 in
theorem c_St_reset {G : sm_G} {b : Nat} {M0 M : sm_M} {Z : zd} {w : wd}  (hI : lo_in G cm_L b M0 M w) (hZ : cz_at G b M0 Z) (c0 : Nat) (hc0 : c0 < 16) : sm_C G mf_St_reset [.ref (b + (9 + 6 * c0))] M 0 0 (wd_Q G cm_L b M none (fn_St_reset w c0)) := by
  obtain ⟨R, hf⟩ : ∃ R, fn_St_reset w c0 = R := ⟨_, rfl⟩
  rw [hf]
  unfold fn_St_reset at hf
  have hZ := hZ.go hI.2
  have hI := hI.here
  refine sm_ofW rfl (Nat.le_of_ble_eq_true rfl) ?_
  refine sm_aload_n d_St_reset_0 rfl (j := 0) rfl ?_
  refine sm_iconst (v := 0) d_St_reset_1 (by decide) ?_
  refine lo_put d_St_reset_2 fp_St_15 (by decide) hI (cl_St hc0) rfl (by rfl) (by rfl) (fun M1 hI2 => ?_)
  refine sm_aload_n d_St_reset_5 rfl (j := 0) rfl ?_
  refine sm_iconst (v := 2) d_St_reset_6 (by decide) ?_
  refine lo_put d_St_reset_7 fp_St_19 (by decide) hI2 (cl_St hc0) rfl (by rfl) (by rfl) (fun M3 hI4 => ?_)
  refine sm_aload_n d_St_reset_10 rfl (j := 0) rfl ?_
  refine lo_callVm d_St_reset_11 cs_St_reset_22 rfl hI4 (cl_St hc0) (As := []) rfl rfl (Nat.le_of_ble_eq_true rfl) (c_St_resetValues hI4 hZ c0 hc0) (fun M5 hI6 => ?_)
  subst hf
  refine sm_return d_St_reset_14 rfl ?_
  exact ⟨rfl, hI6⟩

def fn_Cp_reset (w : wd) (c0 : Nat) (x1 : Int32) (x2 : Bool) (x3 : Int32) (x4 : Int32) : wd := (fn_St_reset (fn_Cd_reset (up2 (up2 (up2 (up2 (up2 w (5 + 6 * c0) 0 x1) (5 + 6 * c0) 1 (bi x2)) (5 + 6 * c0) 2 x3) (5 + 6 * c0) 3 x4) (5 + 6 * c0) 4 (0 : Int32)) c0) c0)
set_option maxHeartbeats 1600000 in
set_option maxRecDepth 100000 in
theorem c_Cp_reset {G : sm_G} {b : Nat} {M0 M : sm_M} {Z : zd} {w : wd}  (hI : lo_in G cm_L b M0 M w) (hZ : cz_at G b M0 Z) (c0 : Nat) (x1 : Int32) (x2 : Bool) (x3 : Int32) (x4 : Int32) (hc0 : c0 < 16) : sm_C G mf_Cp_reset [.ref (b + (5 + 6 * c0)), .int x1, .int (bi x2), .int x3, .int x4] M 0 0 (wd_Q G cm_L b M none (fn_Cp_reset w c0 x1 x2 x3 x4)) := by
  obtain ⟨R, hf⟩ : ∃ R, fn_Cp_reset w c0 x1 x2 x3 x4 = R := ⟨_, rfl⟩
  rw [hf]
  unfold fn_Cp_reset at hf
  have hZ := hZ.go hI.2
  have hI := hI.here
  refine sm_ofW rfl (Nat.le_of_ble_eq_true rfl) ?_
  refine sm_aload_n d_Cp_reset_0 rfl (j := 0) rfl ?_
  refine sm_iload_n d_Cp_reset_1 rfl (j := 1) rfl ?_
  refine lo_put d_Cp_reset_2 fp_Cp_23 (by decide) hI (cl_Cp hc0) rfl (by rfl) (by rfl) (fun M1 hI2 => ?_)
  refine sm_aload_n d_Cp_reset_5 rfl (j := 0) rfl ?_
  refine sm_iload_n d_Cp_reset_6 rfl (j := 2) rfl ?_
  refine lo_put d_Cp_reset_7 fp_Cp_27 (by decide) hI2 (cl_Cp hc0) rfl (bi_n _) (bi_f _) (fun M3 hI4 => ?_)
  refine sm_aload_n d_Cp_reset_10 rfl (j := 0) rfl ?_
  refine sm_iload_n d_Cp_reset_11 rfl (j := 3) rfl ?_
  refine lo_put d_Cp_reset_12 fp_Cp_31 (by decide) hI4 (cl_Cp hc0) rfl (by rfl) (by rfl) (fun M5 hI6 => ?_)
  refine sm_aload_n d_Cp_reset_15 rfl (j := 0) rfl ?_
  refine sm_iload d_Cp_reset_16 (j := 4) rfl ?_
  refine lo_put d_Cp_reset_18 fp_Cp_34 (by decide) hI6 (cl_Cp hc0) rfl (by rfl) (by rfl) (fun M7 hI8 => ?_)
  refine sm_aload_n d_Cp_reset_21 rfl (j := 0) rfl ?_
  refine sm_iconst (v := 0) d_Cp_reset_22 (by decide) ?_
  refine lo_put d_Cp_reset_23 fp_Cp_37 (by decide) hI8 (cl_Cp hc0) rfl (by rfl) (by rfl) (fun M9 hI10 => ?_)
  refine sm_aload_n d_Cp_reset_26 rfl (j := 0) rfl ?_
  refine lo_get (v := .ref (b + (6 + 6 * c0))) d_Cp_reset_27 fg_Cp_10 hI10 (cl_Cp hc0) rfl ?_
  refine lo_callVm d_Cp_reset_30 cs_Cp_reset_40 rfl hI10 (cl_Cd hc0) (As := []) rfl rfl (Nat.le_of_ble_eq_true rfl) (c_Cd_reset hI10 hZ c0 hc0) (fun M11 hI12 => ?_)
  refine sm_aload_n d_Cp_reset_33 rfl (j := 0) rfl ?_
  refine lo_get (v := .ref (b + (9 + 6 * c0))) d_Cp_reset_34 fg_Cp_19 hI12 (cl_Cp hc0) rfl ?_
  refine lo_callVm d_Cp_reset_37 cs_Cp_reset_43 rfl hI12 (cl_St hc0) (As := []) rfl rfl (Nat.le_of_ble_eq_true rfl) (c_St_reset hI12 hZ c0 hc0) (fun M13 hI14 => ?_)
  subst hf
  refine sm_return d_Cp_reset_40 rfl ?_
  exact ⟨rfl, hI14⟩

def fn_Cd_pwOf (w : wd) (c0 : Nat) (x1 : Int32) : Int32 := (if x1 < 0 then (15 : Int32) else (if (33 : Int32) ≤ x1 then (15 : Int32) else (w (7 + 6 * c0) x1.toInt.toNat)))
set_option maxHeartbeats 1600000 in
set_option maxRecDepth 100000 in
theorem c_Cd_pwOf {G : sm_G} {b : Nat} {M0 M : sm_M} {Z : zd} {w : wd}  (hI : lo_in G cm_L b M0 M w) (hZ : cz_at G b M0 Z) (c0 : Nat) (x1 : Int32) (hc0 : c0 < 16) : sm_C G mf_Cd_pwOf [.ref (b + (6 + 6 * c0)), .int x1] M 0 0 (sm_pu M (.int (fn_Cd_pwOf w c0 x1))) := by
  obtain ⟨R, hf⟩ : ∃ R, fn_Cd_pwOf w c0 x1 = R := ⟨_, rfl⟩
  rw [hf]
  unfold fn_Cd_pwOf at hf
  have hZ := hZ.go hI.2
  have hI := hI.here
  refine sm_ofW rfl (Nat.le_of_ble_eq_true rfl) ?_
  refine sm_iload_n d_Cd_pwOf_0 rfl (j := 1) rfl ?_
  refine sm_if_lt (tgt := 22) d_Cd_pwOf_1 (by decide) (fun h1 => ?_) (fun h1 => ?_)
  · rw [if_pos h1] at hf
    refine sm_bipush (v := 15) d_Cd_pwOf_22 (by decide) ?_
    subst hf
    refine sm_ireturn d_Cd_pwOf_24 rfl (by rfl) ?_
    exact ⟨rfl, rfl⟩
  · rw [if_neg h1] at hf
    refine sm_iload_n d_Cd_pwOf_4 rfl (j := 1) rfl ?_
    refine sm_aload_n d_Cd_pwOf_5 rfl (j := 0) rfl ?_
    refine lo_get (v := .ref (b + (7 + 6 * c0))) d_Cd_pwOf_6 fg_Cd_9 hI (cl_Cd hc0) rfl ?_
    refine lo_aln (v := 33) d_Cd_pwOf_9 hI (cl_Pw hc0) (by decide) ?_
    refine sm_icmp_ge (tgt := 22) d_Cd_pwOf_10 (by decide) (fun h2 => ?_) (fun h2 => ?_)
    · rw [if_pos h2] at hf
      refine sm_bipush (v := 15) d_Cd_pwOf_22 (by decide) ?_
      subst hf
      refine sm_ireturn d_Cd_pwOf_24 rfl (by rfl) ?_
      exact ⟨rfl, rfl⟩
    · rw [if_neg h2] at hf
      refine sm_aload_n d_Cd_pwOf_13 rfl (j := 0) rfl ?_
      refine lo_get (v := .ref (b + (7 + 6 * c0))) d_Cd_pwOf_14 fg_Cd_9 hI (cl_Cd hc0) rfl ?_
      refine sm_iload_n d_Cd_pwOf_17 rfl (j := 1) rfl ?_
      refine lo_ald (j := x1.toInt.toNat) d_Cd_pwOf_18 hI (cl_Pw hc0) (lo_ix h1 h2 (by decide)) rfl ?_
      refine sm_goto (tgt := 24) d_Cd_pwOf_19 (by decide) ?_
      subst hf
      refine sm_ireturn d_Cd_pwOf_24 rfl (by rfl) ?_
      exact ⟨rfl, rfl⟩

def fn_Cd_phOf (w : wd) (c0 : Nat) (x1 : Int32) : Int32 := (if x1 < 0 then (15 : Int32) else (if (33 : Int32) ≤ x1 then (15 : Int32) else (w (8 + 6 * c0) x1.toInt.toNat)))
set_option maxHeartbeats 1600000 in
set_option maxRecDepth 100000 in
theorem c_Cd_phOf {G : sm_G} {b : Nat} {M0 M : sm_M} {Z : zd} {w : wd}  (hI : lo_in G cm_L b M0 M w) (hZ : cz_at G b M0 Z) (c0 : Nat) (x1 : Int32) (hc0 : c0 < 16) : sm_C G mf_Cd_phOf [.ref (b + (6 + 6 * c0)), .int x1] M 0 0 (sm_pu M (.int (fn_Cd_phOf w c0 x1))) := by
  obtain ⟨R, hf⟩ : ∃ R, fn_Cd_phOf w c0 x1 = R := ⟨_, rfl⟩
  rw [hf]
  unfold fn_Cd_phOf at hf
  have hZ := hZ.go hI.2
  have hI := hI.here
  refine sm_ofW rfl (Nat.le_of_ble_eq_true rfl) ?_
  refine sm_iload_n d_Cd_phOf_0 rfl (j := 1) rfl ?_
  refine sm_if_lt (tgt := 22) d_Cd_phOf_1 (by decide) (fun h1 => ?_) (fun h1 => ?_)
  · rw [if_pos h1] at hf
    refine sm_bipush (v := 15) d_Cd_phOf_22 (by decide) ?_
    subst hf
    refine sm_ireturn d_Cd_phOf_24 rfl (by rfl) ?_
    exact ⟨rfl, rfl⟩
  · rw [if_neg h1] at hf
    refine sm_iload_n d_Cd_phOf_4 rfl (j := 1) rfl ?_
    refine sm_aload_n d_Cd_phOf_5 rfl (j := 0) rfl ?_
    refine lo_get (v := .ref (b + (8 + 6 * c0))) d_Cd_phOf_6 fg_Cd_15 hI (cl_Cd hc0) rfl ?_
    refine lo_aln (v := 33) d_Cd_phOf_9 hI (cl_Ph hc0) (by decide) ?_
    refine sm_icmp_ge (tgt := 22) d_Cd_phOf_10 (by decide) (fun h2 => ?_) (fun h2 => ?_)
    · rw [if_pos h2] at hf
      refine sm_bipush (v := 15) d_Cd_phOf_22 (by decide) ?_
      subst hf
      refine sm_ireturn d_Cd_phOf_24 rfl (by rfl) ?_
      exact ⟨rfl, rfl⟩
    · rw [if_neg h2] at hf
      refine sm_aload_n d_Cd_phOf_13 rfl (j := 0) rfl ?_
      refine lo_get (v := .ref (b + (8 + 6 * c0))) d_Cd_phOf_14 fg_Cd_15 hI (cl_Cd hc0) rfl ?_
      refine sm_iload_n d_Cd_phOf_17 rfl (j := 1) rfl ?_
      refine lo_ald (j := x1.toInt.toNat) d_Cd_phOf_18 hI (cl_Ph hc0) (lo_ix h1 h2 (by decide)) rfl ?_
      refine sm_goto (tgt := 24) d_Cd_phOf_19 (by decide) ?_
      subst hf
      refine sm_ireturn d_Cd_phOf_24 rfl (by rfl) ?_
      exact ⟨rfl, rfl⟩

def fn_St_valueOf (w : wd) (c0 : Nat) (x1 : Int32) : Int32 := (if x1 < 0 then (0 : Int32) else (if (97 : Int32) ≤ x1 then (0 : Int32) else (w (10 + 6 * c0) x1.toInt.toNat)))
set_option maxHeartbeats 1600000 in
set_option maxRecDepth 100000 in
theorem c_St_valueOf {G : sm_G} {b : Nat} {M0 M : sm_M} {Z : zd} {w : wd}  (hI : lo_in G cm_L b M0 M w) (hZ : cz_at G b M0 Z) (c0 : Nat) (x1 : Int32) (hc0 : c0 < 16) : sm_C G mf_St_valueOf [.ref (b + (9 + 6 * c0)), .int x1] M 0 0 (sm_pu M (.int (fn_St_valueOf w c0 x1))) := by
  obtain ⟨R, hf⟩ : ∃ R, fn_St_valueOf w c0 x1 = R := ⟨_, rfl⟩
  rw [hf]
  unfold fn_St_valueOf at hf
  have hZ := hZ.go hI.2
  have hI := hI.here
  refine sm_ofW rfl (Nat.le_of_ble_eq_true rfl) ?_
  refine sm_iload_n d_St_valueOf_0 rfl (j := 1) rfl ?_
  refine sm_if_lt (tgt := 22) d_St_valueOf_1 (by decide) (fun h1 => ?_) (fun h1 => ?_)
  · rw [if_pos h1] at hf
    refine sm_iconst (v := 0) d_St_valueOf_22 (by decide) ?_
    subst hf
    refine sm_ireturn d_St_valueOf_23 rfl (by rfl) ?_
    exact ⟨rfl, rfl⟩
  · rw [if_neg h1] at hf
    refine sm_iload_n d_St_valueOf_4 rfl (j := 1) rfl ?_
    refine sm_aload_n d_St_valueOf_5 rfl (j := 0) rfl ?_
    refine lo_get (v := .ref (b + (10 + 6 * c0))) d_St_valueOf_6 fg_St_9 hI (cl_St hc0) rfl ?_
    refine lo_aln (v := 97) d_St_valueOf_9 hI (cl_Va hc0) (by decide) ?_
    refine sm_icmp_ge (tgt := 22) d_St_valueOf_10 (by decide) (fun h2 => ?_) (fun h2 => ?_)
    · rw [if_pos h2] at hf
      refine sm_iconst (v := 0) d_St_valueOf_22 (by decide) ?_
      subst hf
      refine sm_ireturn d_St_valueOf_23 rfl (by rfl) ?_
      exact ⟨rfl, rfl⟩
    · rw [if_neg h2] at hf
      refine sm_aload_n d_St_valueOf_13 rfl (j := 0) rfl ?_
      refine lo_get (v := .ref (b + (10 + 6 * c0))) d_St_valueOf_14 fg_St_9 hI (cl_St hc0) rfl ?_
      refine sm_iload_n d_St_valueOf_17 rfl (j := 1) rfl ?_
      refine lo_ald (j := x1.toInt.toNat) d_St_valueOf_18 hI (cl_Va hc0) (lo_ix h1 h2 (by decide)) rfl ?_
      refine sm_goto (tgt := 23) d_St_valueOf_19 (by decide) ?_
      subst hf
      refine sm_ireturn d_St_valueOf_23 rfl (by rfl) ?_
      exact ⟨rfl, rfl⟩

def fn_Cp_number (w : wd) (c0 : Nat) (x1 : Int32) (x2 : Int32) : Int32 := (if x1 = 20 then (w (5 + 6 * c0) 0) else (if x1 = 21 then (if (w (5 + 6 * c0) 1) = 0 then (0 : Int32) else (1 : Int32)) else (if x1 = 22 then (w (5 + 6 * c0) 2) else (if x1 = 23 then (w (5 + 6 * c0) 3) else (if x1 = 24 then (w (6 + 6 * c0) 0) else (if x1 = 25 then (w (6 + 6 * c0) 1) else (if x1 = 26 then (w (6 + 6 * c0) 2) else (if x1 = 27 then (w (6 + 6 * c0) 3) else (if x1 = 28 then (if (w (6 + 6 * c0) 4) = 0 then (0 : Int32) else (1 : Int32)) else (if x1 = 29 then (w (9 + 6 * c0) 0) else (if x1 = 30 then (w (9 + 6 * c0) 1) else (if x1 = 31 then (w (5 + 6 * c0) 4) else (if x1 = 32 then (fn_Cd_pwOf w c0 x2) else (if x1 = 33 then (fn_Cd_phOf w c0 x2) else (fn_St_valueOf w c0 x2)))))))))))))))
set_option maxHeartbeats 1600000 in
set_option maxRecDepth 100000 in
theorem c_Cp_number {G : sm_G} {b : Nat} {M0 M : sm_M} {Z : zd} {w : wd}  (hI : lo_in G cm_L b M0 M w) (hZ : cz_at G b M0 Z) (c0 : Nat) (x1 : Int32) (x2 : Int32) (hc0 : c0 < 16) : sm_C G mf_Cp_number [.ref (b + (5 + 6 * c0)), .int x1, .int x2] M 0 0 (sm_pu M (.int (fn_Cp_number w c0 x1 x2))) := by
  obtain ⟨R, hf⟩ : ∃ R, fn_Cp_number w c0 x1 x2 = R := ⟨_, rfl⟩
  rw [hf]
  unfold fn_Cp_number at hf
  have hZ := hZ.go hI.2
  have hI := hI.here
  refine sm_ofW rfl (Nat.le_of_ble_eq_true rfl) ?_
  refine sm_iload_n d_Cp_number_0 rfl (j := 1) rfl ?_
  by_cases h1 : x1 = 20
  · rw [if_pos h1] at hf
    refine sm_tableIn (tgt := 72) d_Cp_number_1 (by rw [h1] <;> decide) (by rw [h1] <;> decide) (by rw [h1] <;> rfl) (by decide) ?_
    refine sm_aload_n d_Cp_number_72 rfl (j := 0) rfl ?_
    refine lo_get (v := .int (w (5 + 6 * c0) 0)) d_Cp_number_73 fg_Cp_23 hI (cl_Cp hc0) rfl ?_
    subst hf
    refine sm_ireturn d_Cp_number_76 rfl (by rfl) ?_
    exact ⟨rfl, rfl⟩
  · rw [if_neg h1] at hf
    by_cases h2 : x1 = 21
    · rw [if_pos h2] at hf
      refine sm_tableIn (tgt := 77) d_Cp_number_1 (by rw [h2] <;> decide) (by rw [h2] <;> decide) (by rw [h2] <;> rfl) (by decide) ?_
      refine sm_aload_n d_Cp_number_77 rfl (j := 0) rfl ?_
      refine lo_get (v := .int (w (5 + 6 * c0) 1)) d_Cp_number_78 fg_Cp_27 hI (cl_Cp hc0) rfl ?_
      refine sm_if_eq (tgt := 88) d_Cp_number_81 (by decide) (fun h3 => ?_) (fun h3 => ?_)
      · rw [if_pos h3] at hf
        refine sm_iconst (v := 0) d_Cp_number_88 (by decide) ?_
        subst hf
        refine sm_ireturn d_Cp_number_89 rfl (by rfl) ?_
        exact ⟨rfl, rfl⟩
      · rw [if_neg h3] at hf
        refine sm_iconst (v := 1) d_Cp_number_84 (by decide) ?_
        refine sm_goto (tgt := 89) d_Cp_number_85 (by decide) ?_
        subst hf
        refine sm_ireturn d_Cp_number_89 rfl (by rfl) ?_
        exact ⟨rfl, rfl⟩
    · rw [if_neg h2] at hf
      by_cases h4 : x1 = 22
      · rw [if_pos h4] at hf
        refine sm_tableIn (tgt := 90) d_Cp_number_1 (by rw [h4] <;> decide) (by rw [h4] <;> decide) (by rw [h4] <;> rfl) (by decide) ?_
        refine sm_aload_n d_Cp_number_90 rfl (j := 0) rfl ?_
        refine lo_get (v := .int (w (5 + 6 * c0) 2)) d_Cp_number_91 fg_Cp_31 hI (cl_Cp hc0) rfl ?_
        subst hf
        refine sm_ireturn d_Cp_number_94 rfl (by rfl) ?_
        exact ⟨rfl, rfl⟩
      · rw [if_neg h4] at hf
        by_cases h5 : x1 = 23
        · rw [if_pos h5] at hf
          refine sm_tableIn (tgt := 95) d_Cp_number_1 (by rw [h5] <;> decide) (by rw [h5] <;> decide) (by rw [h5] <;> rfl) (by decide) ?_
          refine sm_aload_n d_Cp_number_95 rfl (j := 0) rfl ?_
          refine lo_get (v := .int (w (5 + 6 * c0) 3)) d_Cp_number_96 fg_Cp_34 hI (cl_Cp hc0) rfl ?_
          subst hf
          refine sm_ireturn d_Cp_number_99 rfl (by rfl) ?_
          exact ⟨rfl, rfl⟩
        · rw [if_neg h5] at hf
          by_cases h6 : x1 = 24
          · rw [if_pos h6] at hf
            refine sm_tableIn (tgt := 100) d_Cp_number_1 (by rw [h6] <;> decide) (by rw [h6] <;> decide) (by rw [h6] <;> rfl) (by decide) ?_
            refine sm_aload_n d_Cp_number_100 rfl (j := 0) rfl ?_
            refine lo_get (v := .ref (b + (6 + 6 * c0))) d_Cp_number_101 fg_Cp_10 hI (cl_Cp hc0) rfl ?_
            refine lo_get (v := .int (w (6 + 6 * c0) 0)) d_Cp_number_104 fg_Cp_44 hI (cl_Cd hc0) rfl ?_
            subst hf
            refine sm_ireturn d_Cp_number_107 rfl (by rfl) ?_
            exact ⟨rfl, rfl⟩
          · rw [if_neg h6] at hf
            by_cases h7 : x1 = 25
            · rw [if_pos h7] at hf
              refine sm_tableIn (tgt := 108) d_Cp_number_1 (by rw [h7] <;> decide) (by rw [h7] <;> decide) (by rw [h7] <;> rfl) (by decide) ?_
              refine sm_aload_n d_Cp_number_108 rfl (j := 0) rfl ?_
              refine lo_get (v := .ref (b + (6 + 6 * c0))) d_Cp_number_109 fg_Cp_10 hI (cl_Cp hc0) rfl ?_
              refine lo_get (v := .int (w (6 + 6 * c0) 1)) d_Cp_number_112 fg_Cp_47 hI (cl_Cd hc0) rfl ?_
              subst hf
              refine sm_ireturn d_Cp_number_115 rfl (by rfl) ?_
              exact ⟨rfl, rfl⟩
            · rw [if_neg h7] at hf
              by_cases h8 : x1 = 26
              · rw [if_pos h8] at hf
                refine sm_tableIn (tgt := 116) d_Cp_number_1 (by rw [h8] <;> decide) (by rw [h8] <;> decide) (by rw [h8] <;> rfl) (by decide) ?_
                refine sm_aload_n d_Cp_number_116 rfl (j := 0) rfl ?_
                refine lo_get (v := .ref (b + (6 + 6 * c0))) d_Cp_number_117 fg_Cp_10 hI (cl_Cp hc0) rfl ?_
                refine lo_get (v := .int (w (6 + 6 * c0) 2)) d_Cp_number_120 fg_Cp_50 hI (cl_Cd hc0) rfl ?_
                subst hf
                refine sm_ireturn d_Cp_number_123 rfl (by rfl) ?_
                exact ⟨rfl, rfl⟩
              · rw [if_neg h8] at hf
                by_cases h9 : x1 = 27
                · rw [if_pos h9] at hf
                  refine sm_tableIn (tgt := 124) d_Cp_number_1 (by rw [h9] <;> decide) (by rw [h9] <;> decide) (by rw [h9] <;> rfl) (by decide) ?_
                  refine sm_aload_n d_Cp_number_124 rfl (j := 0) rfl ?_
                  refine lo_get (v := .ref (b + (6 + 6 * c0))) d_Cp_number_125 fg_Cp_10 hI (cl_Cp hc0) rfl ?_
                  refine lo_get (v := .int (w (6 + 6 * c0) 3)) d_Cp_number_128 fg_Cp_53 hI (cl_Cd hc0) rfl ?_
                  subst hf
                  refine sm_ireturn d_Cp_number_131 rfl (by rfl) ?_
                  exact ⟨rfl, rfl⟩
                · rw [if_neg h9] at hf
                  by_cases h10 : x1 = 28
                  · rw [if_pos h10] at hf
                    refine sm_tableIn (tgt := 132) d_Cp_number_1 (by rw [h10] <;> decide) (by rw [h10] <;> decide) (by rw [h10] <;> rfl) (by decide) ?_
                    refine sm_aload_n d_Cp_number_132 rfl (j := 0) rfl ?_
                    refine lo_get (v := .ref (b + (6 + 6 * c0))) d_Cp_number_133 fg_Cp_10 hI (cl_Cp hc0) rfl ?_
                    refine lo_get (v := .int (w (6 + 6 * c0) 4)) d_Cp_number_136 fg_Cp_56 hI (cl_Cd hc0) rfl ?_
                    refine sm_if_eq (tgt := 146) d_Cp_number_139 (by decide) (fun h11 => ?_) (fun h11 => ?_)
                    · rw [if_pos h11] at hf
                      refine sm_iconst (v := 0) d_Cp_number_146 (by decide) ?_
                      subst hf
                      refine sm_ireturn d_Cp_number_147 rfl (by rfl) ?_
                      exact ⟨rfl, rfl⟩
                    · rw [if_neg h11] at hf
                      refine sm_iconst (v := 1) d_Cp_number_142 (by decide) ?_
                      refine sm_goto (tgt := 147) d_Cp_number_143 (by decide) ?_
                      subst hf
                      refine sm_ireturn d_Cp_number_147 rfl (by rfl) ?_
                      exact ⟨rfl, rfl⟩
                  · rw [if_neg h10] at hf
                    by_cases h12 : x1 = 29
                    · rw [if_pos h12] at hf
                      refine sm_tableIn (tgt := 148) d_Cp_number_1 (by rw [h12] <;> decide) (by rw [h12] <;> decide) (by rw [h12] <;> rfl) (by decide) ?_
                      refine sm_aload_n d_Cp_number_148 rfl (j := 0) rfl ?_
                      refine lo_get (v := .ref (b + (9 + 6 * c0))) d_Cp_number_149 fg_Cp_19 hI (cl_Cp hc0) rfl ?_
                      refine lo_get (v := .int (w (9 + 6 * c0) 0)) d_Cp_number_152 fg_Cp_59 hI (cl_St hc0) rfl ?_
                      subst hf
                      refine sm_ireturn d_Cp_number_155 rfl (by rfl) ?_
                      exact ⟨rfl, rfl⟩
                    · rw [if_neg h12] at hf
                      by_cases h13 : x1 = 30
                      · rw [if_pos h13] at hf
                        refine sm_tableIn (tgt := 156) d_Cp_number_1 (by rw [h13] <;> decide) (by rw [h13] <;> decide) (by rw [h13] <;> rfl) (by decide) ?_
                        refine sm_aload_n d_Cp_number_156 rfl (j := 0) rfl ?_
                        refine lo_get (v := .ref (b + (9 + 6 * c0))) d_Cp_number_157 fg_Cp_19 hI (cl_Cp hc0) rfl ?_
                        refine lo_get (v := .int (w (9 + 6 * c0) 1)) d_Cp_number_160 fg_Cp_62 hI (cl_St hc0) rfl ?_
                        subst hf
                        refine sm_ireturn d_Cp_number_163 rfl (by rfl) ?_
                        exact ⟨rfl, rfl⟩
                      · rw [if_neg h13] at hf
                        by_cases h14 : x1 = 31
                        · rw [if_pos h14] at hf
                          refine sm_tableIn (tgt := 164) d_Cp_number_1 (by rw [h14] <;> decide) (by rw [h14] <;> decide) (by rw [h14] <;> rfl) (by decide) ?_
                          refine sm_aload_n d_Cp_number_164 rfl (j := 0) rfl ?_
                          refine lo_get (v := .int (w (5 + 6 * c0) 4)) d_Cp_number_165 fg_Cp_37 hI (cl_Cp hc0) rfl ?_
                          subst hf
                          refine sm_ireturn d_Cp_number_168 rfl (by rfl) ?_
                          exact ⟨rfl, rfl⟩
                        · rw [if_neg h14] at hf
                          by_cases h15 : x1 = 32
                          · rw [if_pos h15] at hf
                            refine sm_tableIn (tgt := 169) d_Cp_number_1 (by rw [h15] <;> decide) (by rw [h15] <;> decide) (by rw [h15] <;> rfl) (by decide) ?_
                            refine sm_aload_n d_Cp_number_169 rfl (j := 0) rfl ?_
                            refine lo_get (v := .ref (b + (6 + 6 * c0))) d_Cp_number_170 fg_Cp_10 hI (cl_Cp hc0) rfl ?_
                            refine sm_iload_n d_Cp_number_173 rfl (j := 2) rfl ?_
                            refine lo_callV d_Cp_number_174 cs_Cp_number_65 rfl hI (cl_Cd hc0) (As := [.int x2]) rfl rfl (Nat.le_of_ble_eq_true rfl) (c_Cd_pwOf hI hZ c0 x2 hc0) ?_
                            subst hf
                            refine sm_ireturn d_Cp_number_177 rfl (by rfl) ?_
                            exact ⟨rfl, rfl⟩
                          · rw [if_neg h15] at hf
                            by_cases h16 : x1 = 33
                            · rw [if_pos h16] at hf
                              refine sm_tableIn (tgt := 178) d_Cp_number_1 (by rw [h16] <;> decide) (by rw [h16] <;> decide) (by rw [h16] <;> rfl) (by decide) ?_
                              refine sm_aload_n d_Cp_number_178 rfl (j := 0) rfl ?_
                              refine lo_get (v := .ref (b + (6 + 6 * c0))) d_Cp_number_179 fg_Cp_10 hI (cl_Cp hc0) rfl ?_
                              refine sm_iload_n d_Cp_number_182 rfl (j := 2) rfl ?_
                              refine lo_callV d_Cp_number_183 cs_Cp_number_69 rfl hI (cl_Cd hc0) (As := [.int x2]) rfl rfl (Nat.le_of_ble_eq_true rfl) (c_Cd_phOf hI hZ c0 x2 hc0) ?_
                              subst hf
                              refine sm_ireturn d_Cp_number_186 rfl (by rfl) ?_
                              exact ⟨rfl, rfl⟩
                            · rw [if_neg h16] at hf
                              refine sm_tableOut (tgt := 187) d_Cp_number_1 (by have := (mt sm_eqI.mpr h1); rw [show ((20 : Int32)).toInt = 20 by decide] at this; have := (mt sm_eqI.mpr h2); rw [show ((21 : Int32)).toInt = 21 by decide] at this; have := (mt sm_eqI.mpr h4); rw [show ((22 : Int32)).toInt = 22 by decide] at this; have := (mt sm_eqI.mpr h5); rw [show ((23 : Int32)).toInt = 23 by decide] at this; have := (mt sm_eqI.mpr h6); rw [show ((24 : Int32)).toInt = 24 by decide] at this; have := (mt sm_eqI.mpr h7); rw [show ((25 : Int32)).toInt = 25 by decide] at this; have := (mt sm_eqI.mpr h8); rw [show ((26 : Int32)).toInt = 26 by decide] at this; have := (mt sm_eqI.mpr h9); rw [show ((27 : Int32)).toInt = 27 by decide] at this; have := (mt sm_eqI.mpr h10); rw [show ((28 : Int32)).toInt = 28 by decide] at this; have := (mt sm_eqI.mpr h12); rw [show ((29 : Int32)).toInt = 29 by decide] at this; have := (mt sm_eqI.mpr h13); rw [show ((30 : Int32)).toInt = 30 by decide] at this; have := (mt sm_eqI.mpr h14); rw [show ((31 : Int32)).toInt = 31 by decide] at this; have := (mt sm_eqI.mpr h15); rw [show ((32 : Int32)).toInt = 32 by decide] at this; have := (mt sm_eqI.mpr h16); rw [show ((33 : Int32)).toInt = 33 by decide] at this; omega) (by decide) ?_
                              refine sm_aload_n d_Cp_number_187 rfl (j := 0) rfl ?_
                              refine lo_get (v := .ref (b + (9 + 6 * c0))) d_Cp_number_188 fg_Cp_19 hI (cl_Cp hc0) rfl ?_
                              refine sm_iload_n d_Cp_number_191 rfl (j := 2) rfl ?_
                              refine lo_callV d_Cp_number_192 cs_Cp_number_72 rfl hI (cl_St hc0) (As := [.int x2]) rfl rfl (Nat.le_of_ble_eq_true rfl) (c_St_valueOf hI hZ c0 x2 hc0) ?_
                              subst hf
                              refine sm_ireturn d_Cp_number_195 rfl (by rfl) ?_
                              exact ⟨rfl, rfl⟩

def fn_St_countWritten (w : wd) (c0 : Nat) (x1 : Int32) : Int32 := (if (w (9 + 6 * c0) 0) = (1 : Int32) then (1 : Int32) else (((3 : Int32) * x1) + (1 : Int32)))
set_option maxHeartbeats 1600000 in
set_option maxRecDepth 100000 in
theorem c_St_countWritten {G : sm_G} {b : Nat} {M0 M : sm_M} {Z : zd} {w : wd}  (hI : lo_in G cm_L b M0 M w) (hZ : cz_at G b M0 Z) (c0 : Nat) (x1 : Int32) (hc0 : c0 < 16) : sm_C G mf_St_countWritten [.ref (b + (9 + 6 * c0)), .int x1] M 0 0 (sm_pu M (.int (fn_St_countWritten w c0 x1))) := by
  obtain ⟨R, hf⟩ : ∃ R, fn_St_countWritten w c0 x1 = R := ⟨_, rfl⟩
  rw [hf]
  unfold fn_St_countWritten at hf
  have hZ := hZ.go hI.2
  have hI := hI.here
  refine sm_ofW rfl (Nat.le_of_ble_eq_true rfl) ?_
  refine sm_aload_n d_St_countWritten_0 rfl (j := 0) rfl ?_
  refine lo_get (v := .int (w (9 + 6 * c0) 0)) d_St_countWritten_1 fg_St_15 hI (cl_St hc0) rfl ?_
  refine sm_iconst (v := 1) d_St_countWritten_4 (by decide) ?_
  refine sm_icmp_ne (tgt := 12) d_St_countWritten_5 (by decide) (fun h1 => ?_) (fun h1 => ?_)
  · rw [if_neg h1] at hf
    refine sm_iconst (v := 3) d_St_countWritten_12 (by decide) ?_
    refine sm_iload_n d_St_countWritten_13 rfl (j := 1) rfl ?_
    refine sm_imul d_St_countWritten_14 ?_
    refine sm_iconst (v := 1) d_St_countWritten_15 (by decide) ?_
    refine sm_iadd d_St_countWritten_16 ?_
    subst hf
    refine sm_ireturn d_St_countWritten_17 rfl (by rfl) ?_
    exact ⟨rfl, rfl⟩
  · rw [if_pos h1] at hf
    refine sm_iconst (v := 1) d_St_countWritten_8 (by decide) ?_
    refine sm_goto (tgt := 17) d_St_countWritten_9 (by decide) ?_
    subst hf
    refine sm_ireturn d_St_countWritten_17 rfl (by rfl) ?_
    exact ⟨rfl, rfl⟩

def fn_St_written (w : wd) (c0 : Nat) (x1 : Int32) : Int32 := (if (w (9 + 6 * c0) 0) = 0 then ((fn_St_valueOf w c0 x1) >>> ((8 : Int32) &&& 31)) else (fn_St_valueOf w c0 x1))
set_option maxHeartbeats 1600000 in
set_option maxRecDepth 100000 in
theorem c_St_written {G : sm_G} {b : Nat} {M0 M : sm_M} {Z : zd} {w : wd}  (hI : lo_in G cm_L b M0 M w) (hZ : cz_at G b M0 Z) (c0 : Nat) (x1 : Int32) (hc0 : c0 < 16) : sm_C G mf_St_written [.ref (b + (9 + 6 * c0)), .int x1] M 0 0 (sm_pu M (.int (fn_St_written w c0 x1))) := by
  obtain ⟨R, hf⟩ : ∃ R, fn_St_written w c0 x1 = R := ⟨_, rfl⟩
  rw [hf]
  unfold fn_St_written at hf
  have hZ := hZ.go hI.2
  have hI := hI.here
  refine sm_ofW rfl (Nat.le_of_ble_eq_true rfl) ?_
  refine sm_aload_n d_St_written_0 rfl (j := 0) rfl ?_
  refine lo_get (v := .int (w (9 + 6 * c0) 0)) d_St_written_1 fg_St_15 hI (cl_St hc0) rfl ?_
  refine sm_if_ne (tgt := 18) d_St_written_4 (by decide) (fun h1 => ?_) (fun h1 => ?_)
  · rw [if_neg h1] at hf
    refine sm_aload_n d_St_written_18 rfl (j := 0) rfl ?_
    refine sm_iload_n d_St_written_19 rfl (j := 1) rfl ?_
    refine lo_callV d_St_written_20 cs_St_written_31 rfl hI (cl_St hc0) (As := [.int x1]) rfl rfl (Nat.le_of_ble_eq_true rfl) (c_St_valueOf hI hZ c0 x1 hc0) ?_
    subst hf
    refine sm_ireturn d_St_written_23 rfl (by rfl) ?_
    exact ⟨rfl, rfl⟩
  · rw [if_pos h1] at hf
    refine sm_aload_n d_St_written_7 rfl (j := 0) rfl ?_
    refine sm_iload_n d_St_written_8 rfl (j := 1) rfl ?_
    refine lo_callV d_St_written_9 cs_St_written_31 rfl hI (cl_St hc0) (As := [.int x1]) rfl rfl (Nat.le_of_ble_eq_true rfl) (c_St_valueOf hI hZ c0 x1 hc0) ?_
    refine sm_bipush (v := 8) d_St_written_12 (by decide) ?_
    refine sm_ishr d_St_written_14 ?_
    refine sm_goto (tgt := 23) d_St_written_15 (by decide) ?_
    subst hf
    refine sm_ireturn d_St_written_23 rfl (by rfl) ?_
    exact ⟨rfl, rfl⟩

def fn_Cp_writesStepsLike_71 (F : Nat) : Nat → wd → Nat → Nat → Int32 → Int32 → Option (Bool)
 | 0, _, _, _, _, _ => none
 | n9 + 1, w, c0, c1, x2, x3 => (if x2 ≤ x3 then some true else (if (fn_St_written w c0 x3) = (fn_St_written w c1 x3) then fn_Cp_writesStepsLike_71 F n9 w c0 c1 x2 (x3 + 1) else some false))
set_option maxHeartbeats 1600000 in
set_option maxRecDepth 100000 in
theorem w_Cp_writesStepsLike_71 {G : sm_G} {b : Nat} {M0 : sm_M} {bc bs : Nat} {Z : zd} {R : Bool} {F : Nat} (hZ : cz_at G b M0 Z) : ∀ (n9 : Nat), ∀ (w : wd) (c0 : Nat) (c1 : Nat) (x2 : Int32) (x3 : Int32), lo_in G cm_L b M0 M0 w → c0 < 16 → c1 < 16 → fn_Cp_writesStepsLike_71 F n9 w c0 c1 x2 x3 = some R → sm_W G mf_Cp_writesStepsLike 71 [(0, .ref (b + (5 + 6 * c0))), (1, .ref (b + (5 + 6 * c1))), (2, .int x2), (3, .int x3)] [] M0 bc bs (sm_pu M0 (.int (bi R))) := by
  intro n9
  induction n9 with
  | zero => intro w c0 c1 x2 x3 hI hc0 hc1 hf; cases hf
  | succ n9 ih =>
    intro w c0 c1 x2 x3 hI hc0 hc1 hf
    rw [fn_Cp_writesStepsLike_71] at hf
    refine sm_iload_n d_Cp_writesStepsLike_71 rfl (j := 3) rfl ?_
    refine sm_iload_n d_Cp_writesStepsLike_72 rfl (j := 2) rfl ?_
    refine sm_icmp_ge (tgt := 103) d_Cp_writesStepsLike_73 (by decide) (fun h4 => ?_) (fun h4 => ?_)
    · rw [if_pos h4] at hf
      refine sm_iconst (v := 1) d_Cp_writesStepsLike_103 (by decide) ?_
      cases hf
      refine sm_ireturn d_Cp_writesStepsLike_104 rfl (by rfl) ?_
      exact ⟨rfl, rfl⟩
    · rw [if_neg h4] at hf
      refine sm_aload_n d_Cp_writesStepsLike_76 rfl (j := 0) rfl ?_
      refine lo_get (v := .ref (b + (9 + 6 * c0))) d_Cp_writesStepsLike_77 fg_Cp_19 hI (cl_Cp hc0) rfl ?_
      refine sm_iload_n d_Cp_writesStepsLike_80 rfl (j := 3) rfl ?_
      refine lo_callV d_Cp_writesStepsLike_81 cs_Cp_writesStepsLike_78 rfl hI (cl_St hc0) (As := [.int x3]) rfl rfl (Nat.le_of_ble_eq_true rfl) (c_St_written hI hZ c0 x3 hc0) ?_
      refine sm_aload_n d_Cp_writesStepsLike_84 rfl (j := 1) rfl ?_
      refine lo_get (v := .ref (b + (9 + 6 * c1))) d_Cp_writesStepsLike_85 fg_Cp_19 hI (cl_Cp hc1) rfl ?_
      refine sm_iload_n d_Cp_writesStepsLike_88 rfl (j := 3) rfl ?_
      refine lo_callV d_Cp_writesStepsLike_89 cs_Cp_writesStepsLike_78 rfl hI (cl_St hc1) (As := [.int x3]) rfl rfl (Nat.le_of_ble_eq_true rfl) (c_St_written hI hZ c1 x3 hc1) ?_
      refine sm_icmp_eq (tgt := 97) d_Cp_writesStepsLike_92 (by decide) (fun h5 => ?_) (fun h5 => ?_)
      · rw [if_pos h5] at hf
        refine sm_iinc (v := (x3 + 1)) d_Cp_writesStepsLike_97 (j := 3) rfl rfl (by decide) rfl ?_
        refine sm_goto (tgt := 71) d_Cp_writesStepsLike_100 (by decide) ?_
        exact sm_pick [1, 2, 3, 0] (ih _ _ _ _ _ hI hc0 hc1 hf) rfl
      · rw [if_neg h5] at hf
        refine sm_iconst (v := 0) d_Cp_writesStepsLike_95 (by decide) ?_
        cases hf
        refine sm_ireturn d_Cp_writesStepsLike_96 rfl (by rfl) ?_
        exact ⟨rfl, rfl⟩

def fn_Cp_writesStepsLike (F : Nat) (w : wd) (c0 : Nat) (c1 : Nat) : Option (Bool) := (if (w (9 + 6 * c0) 0) = (w (9 + 6 * c1) 0) then (if (w (9 + 6 * c0) 1) = (w (9 + 6 * c1) 1) then (if (fn_St_countWritten w c0 (w (6 + 6 * c0) 0)) = (fn_St_countWritten w c1 (w (6 + 6 * c1) 0)) then fn_Cp_writesStepsLike_71 F F w c0 c1 (fn_St_countWritten w c0 (w (6 + 6 * c0) 0)) (0 : Int32) else some false) else some false) else some false)
set_option maxHeartbeats 1600000 in
set_option maxRecDepth 100000 in
theorem c_Cp_writesStepsLike {G : sm_G} {b : Nat} {M0 M : sm_M} {Z : zd} {w : wd} {F : Nat} (hI : lo_in G cm_L b M0 M w) (hZ : cz_at G b M0 Z) (c0 : Nat) (c1 : Nat) (hc0 : c0 < 16) (hc1 : c1 < 16) {R : Bool} (hf : fn_Cp_writesStepsLike F w c0 c1 = some R) : sm_C G mf_Cp_writesStepsLike [.ref (b + (5 + 6 * c0)), .ref (b + (5 + 6 * c1))] M 0 0 (sm_pu M (.int (bi R))) := by
  unfold fn_Cp_writesStepsLike at hf
  have hZ := hZ.go hI.2
  have hI := hI.here
  refine sm_ofW rfl (Nat.le_of_ble_eq_true rfl) ?_
  refine sm_aload_n d_Cp_writesStepsLike_0 rfl (j := 0) rfl ?_
  refine lo_get (v := .ref (b + (9 + 6 * c0))) d_Cp_writesStepsLike_1 fg_Cp_19 hI (cl_Cp hc0) rfl ?_
  refine sm_aload_n d_Cp_writesStepsLike_4 rfl (j := 0) rfl ?_
  refine lo_get (v := .ref (b + (6 + 6 * c0))) d_Cp_writesStepsLike_5 fg_Cp_10 hI (cl_Cp hc0) rfl ?_
  refine lo_get (v := .int (w (6 + 6 * c0) 0)) d_Cp_writesStepsLike_8 fg_Cp_44 hI (cl_Cd hc0) rfl ?_
  refine lo_callV d_Cp_writesStepsLike_11 cs_Cp_writesStepsLike_75 rfl hI (cl_St hc0) (As := [.int (w (6 + 6 * c0) 0)]) rfl rfl (Nat.le_of_ble_eq_true rfl) (c_St_countWritten hI hZ c0 (w (6 + 6 * c0) 0) hc0) ?_
  refine sm_istore_n d_Cp_writesStepsLike_14 rfl (by decide) rfl ?_
  refine sm_aload_n d_Cp_writesStepsLike_15 rfl (j := 1) rfl ?_
  refine lo_get (v := .ref (b + (9 + 6 * c0))) d_Cp_writesStepsLike_16 fg_Cp_19 hI (cl_Cp hc0) rfl ?_
  refine lo_get (v := .int (w (9 + 6 * c0) 0)) d_Cp_writesStepsLike_19 fg_Cp_59 hI (cl_St hc0) rfl ?_
  refine sm_aload_n d_Cp_writesStepsLike_22 rfl (j := 2) rfl ?_
  refine lo_get (v := .ref (b + (9 + 6 * c1))) d_Cp_writesStepsLike_23 fg_Cp_19 hI (cl_Cp hc1) rfl ?_
  refine lo_get (v := .int (w (9 + 6 * c1) 0)) d_Cp_writesStepsLike_26 fg_Cp_59 hI (cl_St hc1) rfl ?_
  refine sm_icmp_ne (tgt := 67) d_Cp_writesStepsLike_29 (by decide) (fun h1 => ?_) (fun h1 => ?_)
  · rw [if_neg h1] at hf
    refine sm_iconst (v := 0) d_Cp_writesStepsLike_67 (by decide) ?_
    cases hf
    refine sm_ireturn d_Cp_writesStepsLike_68 rfl (by rfl) ?_
    exact ⟨rfl, rfl⟩
  · rw [if_pos h1] at hf
    refine sm_aload_n d_Cp_writesStepsLike_32 rfl (j := 1) rfl ?_
    refine lo_get (v := .ref (b + (9 + 6 * c0))) d_Cp_writesStepsLike_33 fg_Cp_19 hI (cl_Cp hc0) rfl ?_
    refine lo_get (v := .int (w (9 + 6 * c0) 1)) d_Cp_writesStepsLike_36 fg_Cp_62 hI (cl_St hc0) rfl ?_
    refine sm_aload_n d_Cp_writesStepsLike_39 rfl (j := 2) rfl ?_
    refine lo_get (v := .ref (b + (9 + 6 * c1))) d_Cp_writesStepsLike_40 fg_Cp_19 hI (cl_Cp hc1) rfl ?_
    refine lo_get (v := .int (w (9 + 6 * c1) 1)) d_Cp_writesStepsLike_43 fg_Cp_62 hI (cl_St hc1) rfl ?_
    refine sm_icmp_ne (tgt := 67) d_Cp_writesStepsLike_46 (by decide) (fun h2 => ?_) (fun h2 => ?_)
    · rw [if_neg h2] at hf
      refine sm_iconst (v := 0) d_Cp_writesStepsLike_67 (by decide) ?_
      cases hf
      refine sm_ireturn d_Cp_writesStepsLike_68 rfl (by rfl) ?_
      exact ⟨rfl, rfl⟩
    · rw [if_pos h2] at hf
      refine sm_iload_n d_Cp_writesStepsLike_49 rfl (j := 0) rfl ?_
      refine sm_aload_n d_Cp_writesStepsLike_50 rfl (j := 2) rfl ?_
      refine lo_get (v := .ref (b + (9 + 6 * c1))) d_Cp_writesStepsLike_51 fg_Cp_19 hI (cl_Cp hc1) rfl ?_
      refine sm_aload_n d_Cp_writesStepsLike_54 rfl (j := 2) rfl ?_
      refine lo_get (v := .ref (b + (6 + 6 * c1))) d_Cp_writesStepsLike_55 fg_Cp_10 hI (cl_Cp hc1) rfl ?_
      refine lo_get (v := .int (w (6 + 6 * c1) 0)) d_Cp_writesStepsLike_58 fg_Cp_44 hI (cl_Cd hc1) rfl ?_
      refine lo_callV d_Cp_writesStepsLike_61 cs_Cp_writesStepsLike_75 rfl hI (cl_St hc1) (As := [.int (w (6 + 6 * c1) 0)]) rfl rfl (Nat.le_of_ble_eq_true rfl) (c_St_countWritten hI hZ c1 (w (6 + 6 * c1) 0) hc1) ?_
      refine sm_icmp_eq (tgt := 69) d_Cp_writesStepsLike_64 (by decide) (fun h3 => ?_) (fun h3 => ?_)
      · rw [if_pos h3] at hf
        refine sm_iconst (v := 0) d_Cp_writesStepsLike_69 (by decide) ?_
        refine sm_istore_n d_Cp_writesStepsLike_70 rfl (by decide) rfl ?_
        exact sm_pick [2, 3, 1, 0] (w_Cp_writesStepsLike_71 hZ _ _ _ _ _ _ hI hc0 hc1 hf) rfl
      · rw [if_neg h3] at hf
        refine sm_iconst (v := 0) d_Cp_writesStepsLike_67 (by decide) ?_
        cases hf
        refine sm_ireturn d_Cp_writesStepsLike_68 rfl (by rfl) ?_
        exact ⟨rfl, rfl⟩

def fn_Cd_setPrecinct (w : wd) (c0 : Nat) (x1 : Int32) (x2 : Int32) (x3 : Int32) : wd := (if x1 < 0 then w else (if (33 : Int32) ≤ x1 then w else (if (33 : Int32) ≤ x1 then w else (up2 (up2 w (7 + 6 * c0) x1.toInt.toNat x2) (8 + 6 * c0) x1.toInt.toNat x3))))
set_option maxHeartbeats 1600000 in
set_option maxRecDepth 100000 in
theorem c_Cd_setPrecinct {G : sm_G} {b : Nat} {M0 M : sm_M} {Z : zd} {w : wd}  (hI : lo_in G cm_L b M0 M w) (hZ : cz_at G b M0 Z) (c0 : Nat) (x1 : Int32) (x2 : Int32) (x3 : Int32) (hc0 : c0 < 16) : sm_C G mf_Cd_setPrecinct [.ref (b + (6 + 6 * c0)), .int x1, .int x2, .int x3] M 0 0 (wd_Q G cm_L b M none (fn_Cd_setPrecinct w c0 x1 x2 x3)) := by
  obtain ⟨R, hf⟩ : ∃ R, fn_Cd_setPrecinct w c0 x1 x2 x3 = R := ⟨_, rfl⟩
  rw [hf]
  unfold fn_Cd_setPrecinct at hf
  have hZ := hZ.go hI.2
  have hI := hI.here
  refine sm_ofW rfl (Nat.le_of_ble_eq_true rfl) ?_
  refine sm_iload_n d_Cd_setPrecinct_0 rfl (j := 1) rfl ?_
  refine sm_if_lt (tgt := 36) d_Cd_setPrecinct_1 (by decide) (fun h1 => ?_) (fun h1 => ?_)
  · rw [if_pos h1] at hf
    subst hf
    refine sm_return d_Cd_setPrecinct_36 rfl ?_
    exact ⟨rfl, hI⟩
  · rw [if_neg h1] at hf
    refine sm_iload_n d_Cd_setPrecinct_4 rfl (j := 1) rfl ?_
    refine sm_aload_n d_Cd_setPrecinct_5 rfl (j := 0) rfl ?_
    refine lo_get (v := .ref (b + (7 + 6 * c0))) d_Cd_setPrecinct_6 fg_Cd_9 hI (cl_Cd hc0) rfl ?_
    refine lo_aln (v := 33) d_Cd_setPrecinct_9 hI (cl_Pw hc0) (by decide) ?_
    refine sm_icmp_ge (tgt := 36) d_Cd_setPrecinct_10 (by decide) (fun h2 => ?_) (fun h2 => ?_)
    · rw [if_pos h2] at hf
      subst hf
      refine sm_return d_Cd_setPrecinct_36 rfl ?_
      exact ⟨rfl, hI⟩
    · rw [if_neg h2] at hf
      refine sm_iload_n d_Cd_setPrecinct_13 rfl (j := 1) rfl ?_
      refine sm_aload_n d_Cd_setPrecinct_14 rfl (j := 0) rfl ?_
      refine lo_get (v := .ref (b + (8 + 6 * c0))) d_Cd_setPrecinct_15 fg_Cd_15 hI (cl_Cd hc0) rfl ?_
      refine lo_aln (v := 33) d_Cd_setPrecinct_18 hI (cl_Ph hc0) (by decide) ?_
      refine sm_icmp_ge (tgt := 36) d_Cd_setPrecinct_19 (by decide) (fun h3 => ?_) (fun h3 => ?_)
      · rw [if_pos h3] at hf
        subst hf
        refine sm_return d_Cd_setPrecinct_36 rfl ?_
        exact ⟨rfl, hI⟩
      · rw [if_neg h3] at hf
        refine sm_aload_n d_Cd_setPrecinct_22 rfl (j := 0) rfl ?_
        refine lo_get (v := .ref (b + (7 + 6 * c0))) d_Cd_setPrecinct_23 fg_Cd_9 hI (cl_Cd hc0) rfl ?_
        refine sm_iload_n d_Cd_setPrecinct_26 rfl (j := 1) rfl ?_
        refine sm_iload_n d_Cd_setPrecinct_27 rfl (j := 2) rfl ?_
        refine lo_ast (j := x1.toInt.toNat) d_Cd_setPrecinct_28 hI (cl_Pw hc0) (lo_ix h1 h3 (by decide)) rfl (fun M4 hI5 => ?_)
        refine sm_aload_n d_Cd_setPrecinct_29 rfl (j := 0) rfl ?_
        refine lo_get (v := .ref (b + (8 + 6 * c0))) d_Cd_setPrecinct_30 fg_Cd_15 hI5 (cl_Cd hc0) rfl ?_
        refine sm_iload_n d_Cd_setPrecinct_33 rfl (j := 1) rfl ?_
        refine sm_iload_n d_Cd_setPrecinct_34 rfl (j := 3) rfl ?_
        refine lo_ast (j := x1.toInt.toNat) d_Cd_setPrecinct_35 hI5 (cl_Ph hc0) (lo_ix h1 h3 (by decide)) rfl (fun M6 hI7 => ?_)
        subst hf
        refine sm_return d_Cd_setPrecinct_36 rfl ?_
        exact ⟨rfl, hI7⟩

def fn_Cd_tellsPrecincts_2 (F : Nat) : Nat → wd → Nat → Int32 → Option (Bool)
 | 0, _, _, _ => none
 | n9 + 1, w, c0, x1 => (if (w (6 + 6 * c0) 0) < x1 then some false else (if (fn_Cd_pwOf w c0 x1) = (15 : Int32) then (if (fn_Cd_phOf w c0 x1) = (15 : Int32) then fn_Cd_tellsPrecincts_2 F n9 w c0 (x1 + 1) else some true) else some true))
set_option maxHeartbeats 1600000 in
set_option maxRecDepth 100000 in
theorem w_Cd_tellsPrecincts_2 {G : sm_G} {b : Nat} {M0 : sm_M} {bc bs : Nat} {Z : zd} {R : Bool} {F : Nat} (hZ : cz_at G b M0 Z) : ∀ (n9 : Nat), ∀ (w : wd) (c0 : Nat) (x1 : Int32), lo_in G cm_L b M0 M0 w → c0 < 16 → fn_Cd_tellsPrecincts_2 F n9 w c0 x1 = some R → sm_W G mf_Cd_tellsPrecincts 2 [(0, .ref (b + (6 + 6 * c0))), (1, .int x1)] [] M0 bc bs (sm_pu M0 (.int (bi R))) := by
  intro n9
  induction n9 with
  | zero => intro w c0 x1 hI hc0 hf; cases hf
  | succ n9 ih =>
    intro w c0 x1 hI hc0 hf
    rw [fn_Cd_tellsPrecincts_2] at hf
    refine sm_iload_n d_Cd_tellsPrecincts_2 rfl (j := 1) rfl ?_
    refine sm_aload_n d_Cd_tellsPrecincts_3 rfl (j := 0) rfl ?_
    refine lo_get (v := .int (w (6 + 6 * c0) 0)) d_Cd_tellsPrecincts_4 fg_Cd_31 hI (cl_Cd hc0) rfl ?_
    refine sm_icmp_gt (tgt := 38) d_Cd_tellsPrecincts_7 (by decide) (fun h1 => ?_) (fun h1 => ?_)
    · rw [if_pos h1] at hf
      refine sm_iconst (v := 0) d_Cd_tellsPrecincts_38 (by decide) ?_
      cases hf
      refine sm_ireturn d_Cd_tellsPrecincts_39 rfl (by rfl) ?_
      exact ⟨rfl, rfl⟩
    · rw [if_neg h1] at hf
      refine sm_aload_n d_Cd_tellsPrecincts_10 rfl (j := 0) rfl ?_
      refine sm_iload_n d_Cd_tellsPrecincts_11 rfl (j := 1) rfl ?_
      refine lo_callV d_Cd_tellsPrecincts_12 cs_Cd_tellsPrecincts_48 rfl hI (cl_Cd hc0) (As := [.int x1]) rfl rfl (Nat.le_of_ble_eq_true rfl) (c_Cd_pwOf hI hZ c0 x1 hc0) ?_
      refine sm_bipush (v := 15) d_Cd_tellsPrecincts_15 (by decide) ?_
      refine sm_icmp_ne (tgt := 30) d_Cd_tellsPrecincts_17 (by decide) (fun h2 => ?_) (fun h2 => ?_)
      · rw [if_neg h2] at hf
        refine sm_iconst (v := 1) d_Cd_tellsPrecincts_30 (by decide) ?_
        cases hf
        refine sm_ireturn d_Cd_tellsPrecincts_31 rfl (by rfl) ?_
        exact ⟨rfl, rfl⟩
      · rw [if_pos h2] at hf
        refine sm_aload_n d_Cd_tellsPrecincts_20 rfl (j := 0) rfl ?_
        refine sm_iload_n d_Cd_tellsPrecincts_21 rfl (j := 1) rfl ?_
        refine lo_callV d_Cd_tellsPrecincts_22 cs_Cd_tellsPrecincts_52 rfl hI (cl_Cd hc0) (As := [.int x1]) rfl rfl (Nat.le_of_ble_eq_true rfl) (c_Cd_phOf hI hZ c0 x1 hc0) ?_
        refine sm_bipush (v := 15) d_Cd_tellsPrecincts_25 (by decide) ?_
        refine sm_icmp_eq (tgt := 32) d_Cd_tellsPrecincts_27 (by decide) (fun h3 => ?_) (fun h3 => ?_)
        · rw [if_pos h3] at hf
          refine sm_iinc (v := (x1 + 1)) d_Cd_tellsPrecincts_32 (j := 1) rfl rfl (by decide) rfl ?_
          refine sm_goto (tgt := 2) d_Cd_tellsPrecincts_35 (by decide) ?_
          exact sm_pick [1, 0] (ih _ _ _ hI hc0 hf) rfl
        · rw [if_neg h3] at hf
          refine sm_iconst (v := 1) d_Cd_tellsPrecincts_30 (by decide) ?_
          cases hf
          refine sm_ireturn d_Cd_tellsPrecincts_31 rfl (by rfl) ?_
          exact ⟨rfl, rfl⟩

def fn_Cd_tellsPrecincts (F : Nat) (w : wd) (c0 : Nat) : Option (Bool) := fn_Cd_tellsPrecincts_2 F F w c0 (0 : Int32)
set_option maxHeartbeats 1600000 in
set_option maxRecDepth 100000 in
theorem c_Cd_tellsPrecincts {G : sm_G} {b : Nat} {M0 M : sm_M} {Z : zd} {w : wd} {F : Nat} (hI : lo_in G cm_L b M0 M w) (hZ : cz_at G b M0 Z) (c0 : Nat) (hc0 : c0 < 16) {R : Bool} (hf : fn_Cd_tellsPrecincts F w c0 = some R) : sm_C G mf_Cd_tellsPrecincts [.ref (b + (6 + 6 * c0))] M 0 0 (sm_pu M (.int (bi R))) := by
  unfold fn_Cd_tellsPrecincts at hf
  have hZ := hZ.go hI.2
  have hI := hI.here
  refine sm_ofW rfl (Nat.le_of_ble_eq_true rfl) ?_
  refine sm_iconst (v := 0) d_Cd_tellsPrecincts_0 (by decide) ?_
  refine sm_istore_n d_Cd_tellsPrecincts_1 rfl (by decide) rfl ?_
  exact sm_pick [1, 0] (w_Cd_tellsPrecincts_2 hZ _ _ _ _ hI hc0 hf) rfl

def fn_Cd_isLike_59 (F : Nat) : Nat → wd → Nat → Nat → Int32 → Option (Bool)
 | 0, _, _, _, _ => none
 | n9 + 1, w, c0, c1, x2 => (if (w (6 + 6 * c0) 0) < x2 then some true else (if (fn_Cd_pwOf w c0 x2) = (fn_Cd_pwOf w c1 x2) then (if (fn_Cd_phOf w c0 x2) = (fn_Cd_phOf w c1 x2) then fn_Cd_isLike_59 F n9 w c0 c1 (x2 + 1) else some false) else some false))
set_option maxHeartbeats 1600000 in
set_option maxRecDepth 100000 in
theorem w_Cd_isLike_59 {G : sm_G} {b : Nat} {M0 : sm_M} {bc bs : Nat} {Z : zd} {R : Bool} {F : Nat} (hZ : cz_at G b M0 Z) : ∀ (n9 : Nat), ∀ (w : wd) (c0 : Nat) (c1 : Nat) (x2 : Int32), lo_in G cm_L b M0 M0 w → c0 < 16 → c1 < 16 → fn_Cd_isLike_59 F n9 w c0 c1 x2 = some R → sm_W G mf_Cd_isLike 59 [(0, .ref (b + (6 + 6 * c0))), (1, .ref (b + (6 + 6 * c1))), (2, .int x2)] [] M0 bc bs (sm_pu M0 (.int (bi R))) := by
  intro n9
  induction n9 with
  | zero => intro w c0 c1 x2 hI hc0 hc1 hf; cases hf
  | succ n9 ih =>
    intro w c0 c1 x2 hI hc0 hc1 hf
    rw [fn_Cd_isLike_59] at hf
    refine sm_iload_n d_Cd_isLike_59 rfl (j := 2) rfl ?_
    refine sm_aload_n d_Cd_isLike_60 rfl (j := 0) rfl ?_
    refine lo_get (v := .int (w (6 + 6 * c0) 0)) d_Cd_isLike_61 fg_Cd_31 hI (cl_Cd hc0) rfl ?_
    refine sm_icmp_gt (tgt := 101) d_Cd_isLike_64 (by decide) (fun h6 => ?_) (fun h6 => ?_)
    · rw [if_pos h6] at hf
      refine sm_iconst (v := 1) d_Cd_isLike_101 (by decide) ?_
      cases hf
      refine sm_ireturn d_Cd_isLike_102 rfl (by rfl) ?_
      exact ⟨rfl, rfl⟩
    · rw [if_neg h6] at hf
      refine sm_aload_n d_Cd_isLike_67 rfl (j := 0) rfl ?_
      refine sm_iload_n d_Cd_isLike_68 rfl (j := 2) rfl ?_
      refine lo_callV d_Cd_isLike_69 cs_Cd_isLike_48 rfl hI (cl_Cd hc0) (As := [.int x2]) rfl rfl (Nat.le_of_ble_eq_true rfl) (c_Cd_pwOf hI hZ c0 x2 hc0) ?_
      refine sm_aload_n d_Cd_isLike_72 rfl (j := 1) rfl ?_
      refine sm_iload_n d_Cd_isLike_73 rfl (j := 2) rfl ?_
      refine lo_callV d_Cd_isLike_74 cs_Cd_isLike_48 rfl hI (cl_Cd hc1) (As := [.int x2]) rfl rfl (Nat.le_of_ble_eq_true rfl) (c_Cd_pwOf hI hZ c1 x2 hc1) ?_
      refine sm_icmp_ne (tgt := 93) d_Cd_isLike_77 (by decide) (fun h7 => ?_) (fun h7 => ?_)
      · rw [if_neg h7] at hf
        refine sm_iconst (v := 0) d_Cd_isLike_93 (by decide) ?_
        cases hf
        refine sm_ireturn d_Cd_isLike_94 rfl (by rfl) ?_
        exact ⟨rfl, rfl⟩
      · rw [if_pos h7] at hf
        refine sm_aload_n d_Cd_isLike_80 rfl (j := 0) rfl ?_
        refine sm_iload_n d_Cd_isLike_81 rfl (j := 2) rfl ?_
        refine lo_callV d_Cd_isLike_82 cs_Cd_isLike_52 rfl hI (cl_Cd hc0) (As := [.int x2]) rfl rfl (Nat.le_of_ble_eq_true rfl) (c_Cd_phOf hI hZ c0 x2 hc0) ?_
        refine sm_aload_n d_Cd_isLike_85 rfl (j := 1) rfl ?_
        refine sm_iload_n d_Cd_isLike_86 rfl (j := 2) rfl ?_
        refine lo_callV d_Cd_isLike_87 cs_Cd_isLike_52 rfl hI (cl_Cd hc1) (As := [.int x2]) rfl rfl (Nat.le_of_ble_eq_true rfl) (c_Cd_phOf hI hZ c1 x2 hc1) ?_
        refine sm_icmp_eq (tgt := 95) d_Cd_isLike_90 (by decide) (fun h8 => ?_) (fun h8 => ?_)
        · rw [if_pos h8] at hf
          refine sm_iinc (v := (x2 + 1)) d_Cd_isLike_95 (j := 2) rfl rfl (by decide) rfl ?_
          refine sm_goto (tgt := 59) d_Cd_isLike_98 (by decide) ?_
          exact sm_pick [1, 2, 0] (ih _ _ _ _ hI hc0 hc1 hf) rfl
        · rw [if_neg h8] at hf
          refine sm_iconst (v := 0) d_Cd_isLike_93 (by decide) ?_
          cases hf
          refine sm_ireturn d_Cd_isLike_94 rfl (by rfl) ?_
          exact ⟨rfl, rfl⟩

def fn_Cd_isLike (F : Nat) (w : wd) (c0 : Nat) (c1 : Nat) : Option (Bool) := (if (w (6 + 6 * c0) 0) = (w (6 + 6 * c1) 0) then (if (w (6 + 6 * c0) 1) = (w (6 + 6 * c1) 1) then (if (w (6 + 6 * c0) 2) = (w (6 + 6 * c1) 2) then (if (w (6 + 6 * c0) 3) = (w (6 + 6 * c1) 3) then (if (w (6 + 6 * c0) 4) = (w (6 + 6 * c1) 4) then fn_Cd_isLike_59 F F w c0 c1 (0 : Int32) else some false) else some false) else some false) else some false) else some false)
set_option maxHeartbeats 1600000 in
set_option maxRecDepth 100000 in
theorem c_Cd_isLike {G : sm_G} {b : Nat} {M0 M : sm_M} {Z : zd} {w : wd} {F : Nat} (hI : lo_in G cm_L b M0 M w) (hZ : cz_at G b M0 Z) (c0 : Nat) (c1 : Nat) (hc0 : c0 < 16) (hc1 : c1 < 16) {R : Bool} (hf : fn_Cd_isLike F w c0 c1 = some R) : sm_C G mf_Cd_isLike [.ref (b + (6 + 6 * c0)), .ref (b + (6 + 6 * c1))] M 0 0 (sm_pu M (.int (bi R))) := by
  unfold fn_Cd_isLike at hf
  have hZ := hZ.go hI.2
  have hI := hI.here
  refine sm_ofW rfl (Nat.le_of_ble_eq_true rfl) ?_
  refine sm_aload_n d_Cd_isLike_0 rfl (j := 0) rfl ?_
  refine lo_get (v := .int (w (6 + 6 * c0) 0)) d_Cd_isLike_1 fg_Cd_31 hI (cl_Cd hc0) rfl ?_
  refine sm_aload_n d_Cd_isLike_4 rfl (j := 1) rfl ?_
  refine lo_get (v := .int (w (6 + 6 * c1) 0)) d_Cd_isLike_5 fg_Cd_31 hI (cl_Cd hc1) rfl ?_
  refine sm_icmp_ne (tgt := 55) d_Cd_isLike_8 (by decide) (fun h1 => ?_) (fun h1 => ?_)
  · rw [if_neg h1] at hf
    refine sm_iconst (v := 0) d_Cd_isLike_55 (by decide) ?_
    cases hf
    refine sm_ireturn d_Cd_isLike_56 rfl (by rfl) ?_
    exact ⟨rfl, rfl⟩
  · rw [if_pos h1] at hf
    refine sm_aload_n d_Cd_isLike_11 rfl (j := 0) rfl ?_
    refine lo_get (v := .int (w (6 + 6 * c0) 1)) d_Cd_isLike_12 fg_Cd_35 hI (cl_Cd hc0) rfl ?_
    refine sm_aload_n d_Cd_isLike_15 rfl (j := 1) rfl ?_
    refine lo_get (v := .int (w (6 + 6 * c1) 1)) d_Cd_isLike_16 fg_Cd_35 hI (cl_Cd hc1) rfl ?_
    refine sm_icmp_ne (tgt := 55) d_Cd_isLike_19 (by decide) (fun h2 => ?_) (fun h2 => ?_)
    · rw [if_neg h2] at hf
      refine sm_iconst (v := 0) d_Cd_isLike_55 (by decide) ?_
      cases hf
      refine sm_ireturn d_Cd_isLike_56 rfl (by rfl) ?_
      exact ⟨rfl, rfl⟩
    · rw [if_pos h2] at hf
      refine sm_aload_n d_Cd_isLike_22 rfl (j := 0) rfl ?_
      refine lo_get (v := .int (w (6 + 6 * c0) 2)) d_Cd_isLike_23 fg_Cd_38 hI (cl_Cd hc0) rfl ?_
      refine sm_aload_n d_Cd_isLike_26 rfl (j := 1) rfl ?_
      refine lo_get (v := .int (w (6 + 6 * c1) 2)) d_Cd_isLike_27 fg_Cd_38 hI (cl_Cd hc1) rfl ?_
      refine sm_icmp_ne (tgt := 55) d_Cd_isLike_30 (by decide) (fun h3 => ?_) (fun h3 => ?_)
      · rw [if_neg h3] at hf
        refine sm_iconst (v := 0) d_Cd_isLike_55 (by decide) ?_
        cases hf
        refine sm_ireturn d_Cd_isLike_56 rfl (by rfl) ?_
        exact ⟨rfl, rfl⟩
      · rw [if_pos h3] at hf
        refine sm_aload_n d_Cd_isLike_33 rfl (j := 0) rfl ?_
        refine lo_get (v := .int (w (6 + 6 * c0) 3)) d_Cd_isLike_34 fg_Cd_41 hI (cl_Cd hc0) rfl ?_
        refine sm_aload_n d_Cd_isLike_37 rfl (j := 1) rfl ?_
        refine lo_get (v := .int (w (6 + 6 * c1) 3)) d_Cd_isLike_38 fg_Cd_41 hI (cl_Cd hc1) rfl ?_
        refine sm_icmp_ne (tgt := 55) d_Cd_isLike_41 (by decide) (fun h4 => ?_) (fun h4 => ?_)
        · rw [if_neg h4] at hf
          refine sm_iconst (v := 0) d_Cd_isLike_55 (by decide) ?_
          cases hf
          refine sm_ireturn d_Cd_isLike_56 rfl (by rfl) ?_
          exact ⟨rfl, rfl⟩
        · rw [if_pos h4] at hf
          refine sm_aload_n d_Cd_isLike_44 rfl (j := 0) rfl ?_
          refine lo_get (v := .int (w (6 + 6 * c0) 4)) d_Cd_isLike_45 fg_Cd_44 hI (cl_Cd hc0) rfl ?_
          refine sm_aload_n d_Cd_isLike_48 rfl (j := 1) rfl ?_
          refine lo_get (v := .int (w (6 + 6 * c1) 4)) d_Cd_isLike_49 fg_Cd_44 hI (cl_Cd hc1) rfl ?_
          refine sm_icmp_eq (tgt := 57) d_Cd_isLike_52 (by decide) (fun h5 => ?_) (fun h5 => ?_)
          · rw [if_pos h5] at hf
            refine sm_iconst (v := 0) d_Cd_isLike_57 (by decide) ?_
            refine sm_istore_n d_Cd_isLike_58 rfl (by decide) rfl ?_
            exact sm_pick [1, 2, 0] (w_Cd_isLike_59 hZ _ _ _ _ _ hI hc0 hc1 hf) rfl
          · rw [if_neg h5] at hf
            refine sm_iconst (v := 0) d_Cd_isLike_55 (by decide) ?_
            cases hf
            refine sm_ireturn d_Cd_isLike_56 rfl (by rfl) ?_
            exact ⟨rfl, rfl⟩

def fn_St_setValue (w : wd) (c0 : Nat) (x1 : Int32) (x2 : Int32) : wd := (if x1 < 0 then w else (if (97 : Int32) ≤ x1 then w else (up2 w (10 + 6 * c0) x1.toInt.toNat x2)))
set_option maxHeartbeats 1600000 in
set_option maxRecDepth 100000 in
theorem c_St_setValue {G : sm_G} {b : Nat} {M0 M : sm_M} {Z : zd} {w : wd}  (hI : lo_in G cm_L b M0 M w) (hZ : cz_at G b M0 Z) (c0 : Nat) (x1 : Int32) (x2 : Int32) (hc0 : c0 < 16) : sm_C G mf_St_setValue [.ref (b + (9 + 6 * c0)), .int x1, .int x2] M 0 0 (wd_Q G cm_L b M none (fn_St_setValue w c0 x1 x2)) := by
  obtain ⟨R, hf⟩ : ∃ R, fn_St_setValue w c0 x1 x2 = R := ⟨_, rfl⟩
  rw [hf]
  unfold fn_St_setValue at hf
  have hZ := hZ.go hI.2
  have hI := hI.here
  refine sm_ofW rfl (Nat.le_of_ble_eq_true rfl) ?_
  refine sm_iload_n d_St_setValue_0 rfl (j := 1) rfl ?_
  refine sm_if_lt (tgt := 20) d_St_setValue_1 (by decide) (fun h1 => ?_) (fun h1 => ?_)
  · rw [if_pos h1] at hf
    subst hf
    refine sm_return d_St_setValue_20 rfl ?_
    exact ⟨rfl, hI⟩
  · rw [if_neg h1] at hf
    refine sm_iload_n d_St_setValue_4 rfl (j := 1) rfl ?_
    refine sm_aload_n d_St_setValue_5 rfl (j := 0) rfl ?_
    refine lo_get (v := .ref (b + (10 + 6 * c0))) d_St_setValue_6 fg_St_9 hI (cl_St hc0) rfl ?_
    refine lo_aln (v := 97) d_St_setValue_9 hI (cl_Va hc0) (by decide) ?_
    refine sm_icmp_ge (tgt := 20) d_St_setValue_10 (by decide) (fun h2 => ?_) (fun h2 => ?_)
    · rw [if_pos h2] at hf
      subst hf
      refine sm_return d_St_setValue_20 rfl ?_
      exact ⟨rfl, hI⟩
    · rw [if_neg h2] at hf
      refine sm_aload_n d_St_setValue_13 rfl (j := 0) rfl ?_
      refine lo_get (v := .ref (b + (10 + 6 * c0))) d_St_setValue_14 fg_St_9 hI (cl_St hc0) rfl ?_
      refine sm_iload_n d_St_setValue_17 rfl (j := 1) rfl ?_
      refine sm_iload_n d_St_setValue_18 rfl (j := 2) rfl ?_
      refine lo_ast (j := x1.toInt.toNat) d_St_setValue_19 hI (cl_Va hc0) (lo_ix h1 h2 (by decide)) rfl (fun M3 hI4 => ?_)
      subst hf
      refine sm_return d_St_setValue_20 rfl ?_
      exact ⟨rfl, hI4⟩

def fn_Ps_ownerOf (x0 : Int32) : Int32 := ((1 : Int32) + x0)
set_option maxHeartbeats 1600000 in
set_option maxRecDepth 100000 in
theorem c_Ps_ownerOf {G : sm_G} {M : sm_M}   (x0 : Int32)  : sm_C G mf_Ps_ownerOf [.int x0] M 0 0 (sm_pu M (.int (fn_Ps_ownerOf x0))) := by
  obtain ⟨R, hf⟩ : ∃ R, fn_Ps_ownerOf x0 = R := ⟨_, rfl⟩
  rw [hf]
  unfold fn_Ps_ownerOf at hf
  refine sm_ofW rfl (Nat.le_of_ble_eq_true rfl) ?_
  refine sm_iconst (v := 1) d_Ps_ownerOf_0 (by decide) ?_
  refine sm_iload_n d_Ps_ownerOf_1 rfl (j := 0) rfl ?_
  refine sm_iadd d_Ps_ownerOf_2 ?_
  subst hf
  refine sm_ireturn d_Ps_ownerOf_3 rfl (by rfl) ?_
  exact ⟨rfl, rfl⟩

