/-! Plan; written by wip/tools/cls.py -/
def fn_Pl_setGeneral (w : wd) (x1 : Int32) (x2 : Int32) (x3 : Bool) (x4 : Bool) (x5 : Bool) : wd := (up2 (up2 (up2 (up2 (up2 w 1 3 x1) 1 4 x2) 1 5 (bi x3)) 1 6 (bi x4)) 1 7 (bi x5))
set_option maxHeartbeats 1600000 in
set_option maxRecDepth 100000 in
theorem c_Pl_setGeneral {G : sm_G} {b : Nat} {M0 M : sm_M} {Z : zd} {w : wd}  (hI : lo_in G cm_L b M0 M w) (hZ : cz_at G b M0 Z) (x1 : Int32) (x2 : Int32) (x3 : Bool) (x4 : Bool) (x5 : Bool)  : sm_C G mf_Pl_setGeneral [.ref (b + 1), .int x1, .int x2, .int (bi x3), .int (bi x4), .int (bi x5)] M 0 0 (wd_Q G cm_L b M none (fn_Pl_setGeneral w x1 x2 x3 x4 x5)) := by
  obtain ⟨R, hf⟩ : ∃ R, fn_Pl_setGeneral w x1 x2 x3 x4 x5 = R := ⟨_, rfl⟩
  rw [hf]
  unfold fn_Pl_setGeneral at hf
  have hZ := hZ.go hI.2
  have hI := hI.here
  refine sm_ofW rfl (Nat.le_of_ble_eq_true rfl) ?_
  refine sm_aload_n d_Pl_setGeneral_0 rfl (j := 0) rfl ?_
  refine sm_iload_n d_Pl_setGeneral_1 rfl (j := 1) rfl ?_
  refine lo_put d_Pl_setGeneral_2 fp_Pl_45 (by decide) hI cl_1 rfl (by rfl) (by rfl) (fun M1 hI2 => ?_)
  refine sm_aload_n d_Pl_setGeneral_5 rfl (j := 0) rfl ?_
  refine sm_iload_n d_Pl_setGeneral_6 rfl (j := 2) rfl ?_
  refine lo_put d_Pl_setGeneral_7 fp_Pl_48 (by decide) hI2 cl_1 rfl (by rfl) (by rfl) (fun M3 hI4 => ?_)
  refine sm_aload_n d_Pl_setGeneral_10 rfl (j := 0) rfl ?_
  refine sm_iload_n d_Pl_setGeneral_11 rfl (j := 3) rfl ?_
  refine lo_put d_Pl_setGeneral_12 fp_Pl_51 (by decide) hI4 cl_1 rfl (bi_n _) (bi_f _) (fun M5 hI6 => ?_)
  refine sm_aload_n d_Pl_setGeneral_15 rfl (j := 0) rfl ?_
  refine sm_iload d_Pl_setGeneral_16 (j := 4) rfl ?_
  refine lo_put d_Pl_setGeneral_18 fp_Pl_55 (by decide) hI6 cl_1 rfl (bi_n _) (bi_f _) (fun M7 hI8 => ?_)
  refine sm_aload_n d_Pl_setGeneral_21 rfl (j := 0) rfl ?_
  refine sm_iload d_Pl_setGeneral_22 (j := 5) rfl ?_
  refine lo_put d_Pl_setGeneral_24 fp_Pl_58 (by decide) hI8 cl_1 rfl (bi_n _) (bi_f _) (fun M9 hI10 => ?_)
  subst hf
  refine sm_return d_Pl_setGeneral_27 rfl ?_
  exact ⟨rfl, hI10⟩

def fn_Pl_reset (w : wd) : wd := (fn_Pl_setGeneral (up2 (up2 (fil2 w 2 8 (0 : Int32)) 1 2 (0 : Int32)) 1 9 (0 : Int32)) (0 : Int32) (1 : Int32) false false false)
set_option maxHeartbeats 1600000 in
set_option maxRecDepth 100000 in
theorem c_Pl_reset {G : sm_G} {b : Nat} {M0 M : sm_M} {Z : zd} {w : wd}  (hI : lo_in G cm_L b M0 M w) (hZ : cz_at G b M0 Z) : sm_C G mf_Pl_reset [.ref (b + 1)] M 0 0 (wd_Q G cm_L b M none (fn_Pl_reset w)) := by
  obtain ⟨R, hf⟩ : ∃ R, fn_Pl_reset w = R := ⟨_, rfl⟩
  rw [hf]
  unfold fn_Pl_reset at hf
  have hZ := hZ.go hI.2
  have hI := hI.here
  refine sm_ofW rfl (Nat.le_of_ble_eq_true rfl) ?_
  refine sm_aload_n d_Pl_reset_0 rfl (j := 0) rfl ?_
  refine lo_get (v := .ref (b + 2)) d_Pl_reset_1 fg_Pl_9 hI cl_1 rfl ?_
  refine sm_iconst (v := 0) d_Pl_reset_4 (by decide) ?_
  refine lo_callSm d_Pl_reset_5 cs_Pl_reset_28 rfl hI (As := [.ref (b + 2), .int (0 : Int32)]) rfl rfl (Nat.le_of_ble_eq_true rfl) (c_Ar_fill hI cl_2 (by decide) _) (fun M1 hI2 => ?_)
  refine sm_aload_n d_Pl_reset_8 rfl (j := 0) rfl ?_
  refine sm_iconst (v := 0) d_Pl_reset_9 (by decide) ?_
  refine lo_put d_Pl_reset_10 fp_Pl_34 (by decide) hI2 cl_1 rfl (by rfl) (by rfl) (fun M3 hI4 => ?_)
  refine sm_aload_n d_Pl_reset_13 rfl (j := 0) rfl ?_
  refine sm_iconst (v := 0) d_Pl_reset_14 (by decide) ?_
  refine lo_put d_Pl_reset_15 fp_Pl_38 (by decide) hI4 cl_1 rfl (by rfl) (by rfl) (fun M5 hI6 => ?_)
  refine sm_aload_n d_Pl_reset_18 rfl (j := 0) rfl ?_
  refine sm_iconst (v := 0) d_Pl_reset_19 (by decide) ?_
  refine sm_iconst (v := 1) d_Pl_reset_20 (by decide) ?_
  refine sm_iconst (v := 0) d_Pl_reset_21 (by decide) ?_
  refine sm_iconst (v := 0) d_Pl_reset_22 (by decide) ?_
  refine sm_iconst (v := 0) d_Pl_reset_23 (by decide) ?_
  refine lo_callVm d_Pl_reset_24 cs_Pl_reset_41 rfl hI6 cl_1 (As := [.int (0 : Int32), .int (1 : Int32), .int (0 : Int32), .int (0 : Int32), .int (0 : Int32)]) rfl rfl (Nat.le_of_ble_eq_true rfl) (c_Pl_setGeneral hI6 hZ (0 : Int32) (1 : Int32) false false false) (fun M7 hI8 => ?_)
  subst hf
  refine sm_return d_Pl_reset_27 rfl ?_
  exact ⟨rfl, hI8⟩

def fn_Pl_hasPicture (w : wd) : Bool := (if (w 2 2) ≤ 0 then false else true)
set_option maxHeartbeats 1600000 in
set_option maxRecDepth 100000 in
theorem c_Pl_hasPicture {G : sm_G} {b : Nat} {M0 M : sm_M} {Z : zd} {w : wd}  (hI : lo_in G cm_L b M0 M w) (hZ : cz_at G b M0 Z) : sm_C G mf_Pl_hasPicture [.ref (b + 1)] M 0 0 (sm_pu M (.int (bi (fn_Pl_hasPicture w)))) := by
  obtain ⟨R, hf⟩ : ∃ R, fn_Pl_hasPicture w = R := ⟨_, rfl⟩
  rw [hf]
  unfold fn_Pl_hasPicture at hf
  have hZ := hZ.go hI.2
  have hI := hI.here
  refine sm_ofW rfl (Nat.le_of_ble_eq_true rfl) ?_
  refine sm_aload_n d_Pl_hasPicture_0 rfl (j := 0) rfl ?_
  refine lo_get (v := .ref (b + 2)) d_Pl_hasPicture_1 fg_Pl_9 hI cl_1 rfl ?_
  refine sm_iconst (v := 2) d_Pl_hasPicture_4 (by decide) ?_
  refine lo_ald (j := 2) d_Pl_hasPicture_5 hI cl_2 (by decide) rfl ?_
  refine sm_if_le (tgt := 13) d_Pl_hasPicture_6 (by decide) (fun h1 => ?_) (fun h1 => ?_)
  · rw [if_pos h1] at hf
    refine sm_iconst (v := 0) d_Pl_hasPicture_13 (by decide) ?_
    subst hf
    refine sm_ireturn d_Pl_hasPicture_14 rfl (by rfl) ?_
    exact ⟨rfl, rfl⟩
  · rw [if_neg h1] at hf
    refine sm_iconst (v := 1) d_Pl_hasPicture_9 (by decide) ?_
    refine sm_goto (tgt := 14) d_Pl_hasPicture_10 (by decide) ?_
    subst hf
    refine sm_ireturn d_Pl_hasPicture_14 rfl (by rfl) ?_
    exact ⟨rfl, rfl⟩

def fn_Pl_setPicture (w : wd) (x1 : Int32) (x2 : Int32) (x3 : Int32) (x4 : Int32) : wd := (up2 (up2 (up2 (up2 w 2 0 x1) 2 1 x2) 2 2 x3) 2 3 x4)
set_option maxHeartbeats 1600000 in
set_option maxRecDepth 100000 in
theorem c_Pl_setPicture {G : sm_G} {b : Nat} {M0 M : sm_M} {Z : zd} {w : wd}  (hI : lo_in G cm_L b M0 M w) (hZ : cz_at G b M0 Z) (x1 : Int32) (x2 : Int32) (x3 : Int32) (x4 : Int32)  : sm_C G mf_Pl_setPicture [.ref (b + 1), .int x1, .int x2, .int x3, .int x4] M 0 0 (wd_Q G cm_L b M none (fn_Pl_setPicture w x1 x2 x3 x4)) := by
  obtain ⟨R, hf⟩ : ∃ R, fn_Pl_setPicture w x1 x2 x3 x4 = R := ⟨_, rfl⟩
  rw [hf]
  unfold fn_Pl_setPicture at hf
  have hZ := hZ.go hI.2
  have hI := hI.here
  refine sm_ofW rfl (Nat.le_of_ble_eq_true rfl) ?_
  refine sm_aload_n d_Pl_setPicture_0 rfl (j := 0) rfl ?_
  refine lo_get (v := .ref (b + 2)) d_Pl_setPicture_1 fg_Pl_9 hI cl_1 rfl ?_
  refine sm_iconst (v := 0) d_Pl_setPicture_4 (by decide) ?_
  refine sm_iload_n d_Pl_setPicture_5 rfl (j := 1) rfl ?_
  refine lo_ast (j := 0) d_Pl_setPicture_6 hI cl_2 (by decide) rfl (fun M1 hI2 => ?_)
  refine sm_aload_n d_Pl_setPicture_7 rfl (j := 0) rfl ?_
  refine lo_get (v := .ref (b + 2)) d_Pl_setPicture_8 fg_Pl_9 hI2 cl_1 rfl ?_
  refine sm_iconst (v := 1) d_Pl_setPicture_11 (by decide) ?_
  refine sm_iload_n d_Pl_setPicture_12 rfl (j := 2) rfl ?_
  refine lo_ast (j := 1) d_Pl_setPicture_13 hI2 cl_2 (by decide) rfl (fun M3 hI4 => ?_)
  refine sm_aload_n d_Pl_setPicture_14 rfl (j := 0) rfl ?_
  refine lo_get (v := .ref (b + 2)) d_Pl_setPicture_15 fg_Pl_9 hI4 cl_1 rfl ?_
  refine sm_iconst (v := 2) d_Pl_setPicture_18 (by decide) ?_
  refine sm_iload_n d_Pl_setPicture_19 rfl (j := 3) rfl ?_
  refine lo_ast (j := 2) d_Pl_setPicture_20 hI4 cl_2 (by decide) rfl (fun M5 hI6 => ?_)
  refine sm_aload_n d_Pl_setPicture_21 rfl (j := 0) rfl ?_
  refine lo_get (v := .ref (b + 2)) d_Pl_setPicture_22 fg_Pl_9 hI6 cl_1 rfl ?_
  refine sm_iconst (v := 3) d_Pl_setPicture_25 (by decide) ?_
  refine sm_iload d_Pl_setPicture_26 (j := 4) rfl ?_
  refine lo_ast (j := 3) d_Pl_setPicture_28 hI6 cl_2 (by decide) rfl (fun M7 hI8 => ?_)
  subst hf
  refine sm_return d_Pl_setPicture_29 rfl ?_
  exact ⟨rfl, hI8⟩

def fn_Pl_setTiles (w : wd) (x1 : Int32) (x2 : Int32) (x3 : Int32) (x4 : Int32) : wd := (up2 (up2 (up2 (up2 w 2 4 x1) 2 5 x2) 2 6 x3) 2 7 x4)
set_option maxHeartbeats 1600000 in
set_option maxRecDepth 100000 in
theorem c_Pl_setTiles {G : sm_G} {b : Nat} {M0 M : sm_M} {Z : zd} {w : wd}  (hI : lo_in G cm_L b M0 M w) (hZ : cz_at G b M0 Z) (x1 : Int32) (x2 : Int32) (x3 : Int32) (x4 : Int32)  : sm_C G mf_Pl_setTiles [.ref (b + 1), .int x1, .int x2, .int x3, .int x4] M 0 0 (wd_Q G cm_L b M none (fn_Pl_setTiles w x1 x2 x3 x4)) := by
  obtain ⟨R, hf⟩ : ∃ R, fn_Pl_setTiles w x1 x2 x3 x4 = R := ⟨_, rfl⟩
  rw [hf]
  unfold fn_Pl_setTiles at hf
  have hZ := hZ.go hI.2
  have hI := hI.here
  refine sm_ofW rfl (Nat.le_of_ble_eq_true rfl) ?_
  refine sm_aload_n d_Pl_setTiles_0 rfl (j := 0) rfl ?_
  refine lo_get (v := .ref (b + 2)) d_Pl_setTiles_1 fg_Pl_9 hI cl_1 rfl ?_
  refine sm_iconst (v := 4) d_Pl_setTiles_4 (by decide) ?_
  refine sm_iload_n d_Pl_setTiles_5 rfl (j := 1) rfl ?_
  refine lo_ast (j := 4) d_Pl_setTiles_6 hI cl_2 (by decide) rfl (fun M1 hI2 => ?_)
  refine sm_aload_n d_Pl_setTiles_7 rfl (j := 0) rfl ?_
  refine lo_get (v := .ref (b + 2)) d_Pl_setTiles_8 fg_Pl_9 hI2 cl_1 rfl ?_
  refine sm_iconst (v := 5) d_Pl_setTiles_11 (by decide) ?_
  refine sm_iload_n d_Pl_setTiles_12 rfl (j := 2) rfl ?_
  refine lo_ast (j := 5) d_Pl_setTiles_13 hI2 cl_2 (by decide) rfl (fun M3 hI4 => ?_)
  refine sm_aload_n d_Pl_setTiles_14 rfl (j := 0) rfl ?_
  refine lo_get (v := .ref (b + 2)) d_Pl_setTiles_15 fg_Pl_9 hI4 cl_1 rfl ?_
  refine sm_bipush (v := 6) d_Pl_setTiles_18 (by decide) ?_
  refine sm_iload_n d_Pl_setTiles_20 rfl (j := 3) rfl ?_
  refine lo_ast (j := 6) d_Pl_setTiles_21 hI4 cl_2 (by decide) rfl (fun M5 hI6 => ?_)
  refine sm_aload_n d_Pl_setTiles_22 rfl (j := 0) rfl ?_
  refine lo_get (v := .ref (b + 2)) d_Pl_setTiles_23 fg_Pl_9 hI6 cl_1 rfl ?_
  refine sm_bipush (v := 7) d_Pl_setTiles_26 (by decide) ?_
  refine sm_iload d_Pl_setTiles_28 (j := 4) rfl ?_
  refine lo_ast (j := 7) d_Pl_setTiles_30 hI6 cl_2 (by decide) rfl (fun M7 hI8 => ?_)
  subst hf
  refine sm_return d_Pl_setTiles_31 rfl ?_
  exact ⟨rfl, hI8⟩

def fn_Pl_addComponent (w : wd) (x1 : Int32) (x2 : Bool) (x3 : Int32) (x4 : Int32) : Int32 × wd := (if (w 1 2) < 0 then ((w 1 2), w) else (if (16 : Int32) ≤ (w 1 2) then ((w 1 2), w) else ((w 1 2), (up2 (fn_Cp_reset w ((w 1 2).toInt.toNat) x1 x2 x3 x4) 1 2 ((w 1 2) + (1 : Int32))))))
set_option maxHeartbeats 1600000 in
set_option maxRecDepth 100000 in
theorem c_Pl_addComponent {G : sm_G} {b : Nat} {M0 M : sm_M} {Z : zd} {w : wd}  (hI : lo_in G cm_L b M0 M w) (hZ : cz_at G b M0 Z) (x1 : Int32) (x2 : Bool) (x3 : Int32) (x4 : Int32)  : sm_C G mf_Pl_addComponent [.ref (b + 1), .int x1, .int (bi x2), .int x3, .int x4] M 0 0 (wd_Q G cm_L b M (some (.int (fn_Pl_addComponent w x1 x2 x3 x4).1)) (fn_Pl_addComponent w x1 x2 x3 x4).2) := by
  obtain ⟨R, hf⟩ : ∃ R, fn_Pl_addComponent w x1 x2 x3 x4 = R := ⟨_, rfl⟩
  rw [hf]
  unfold fn_Pl_addComponent at hf
  have hZ := hZ.go hI.2
  have hI := hI.here
  refine sm_ofW rfl (Nat.le_of_ble_eq_true rfl) ?_
  refine sm_aload_n d_Pl_addComponent_0 rfl (j := 0) rfl ?_
  refine lo_get (v := .int (w 1 2)) d_Pl_addComponent_1 fg_Pl_34 hI cl_1 rfl ?_
  refine sm_istore d_Pl_addComponent_4 (by decide) rfl ?_
  refine sm_iload d_Pl_addComponent_6 (j := 0) rfl ?_
  refine sm_if_lt (tgt := 54) d_Pl_addComponent_8 (by decide) (fun h1 => ?_) (fun h1 => ?_)
  · rw [if_pos h1] at hf
    refine sm_iload d_Pl_addComponent_54 (j := 0) rfl ?_
    subst hf
    refine sm_ireturn d_Pl_addComponent_56 rfl (by rfl) ?_
    exact ⟨rfl, hI⟩
  · rw [if_neg h1] at hf
    refine sm_iload d_Pl_addComponent_11 (j := 0) rfl ?_
    refine sm_aload_n d_Pl_addComponent_13 rfl (j := 1) rfl ?_
    refine lo_get (v := .ref (b + 3)) d_Pl_addComponent_14 fg_Pl_17 hI cl_1 rfl ?_
    refine cm_clen (v := 16) d_Pl_addComponent_17 hI hZ (by decide) ?_
    refine sm_icmp_ge (tgt := 54) d_Pl_addComponent_18 (by decide) (fun h2 => ?_) (fun h2 => ?_)
    · rw [if_pos h2] at hf
      refine sm_iload d_Pl_addComponent_54 (j := 0) rfl ?_
      subst hf
      refine sm_ireturn d_Pl_addComponent_56 rfl (by rfl) ?_
      exact ⟨rfl, hI⟩
    · rw [if_neg h2] at hf
      refine sm_aload_n d_Pl_addComponent_21 rfl (j := 1) rfl ?_
      refine lo_get (v := .ref (b + 3)) d_Pl_addComponent_22 fg_Pl_17 hI cl_1 rfl ?_
      refine sm_iload d_Pl_addComponent_25 (j := 0) rfl ?_
      refine cm_aald d_Pl_addComponent_27 hI hZ (lo_ix h1 h2 (by decide)) ?_
      refine sm_ifnull d_Pl_addComponent_28 ?_
      refine sm_aload_n d_Pl_addComponent_31 rfl (j := 1) rfl ?_
      refine lo_get (v := .ref (b + 3)) d_Pl_addComponent_32 fg_Pl_17 hI cl_1 rfl ?_
      refine sm_iload d_Pl_addComponent_35 (j := 0) rfl ?_
      refine cm_aald d_Pl_addComponent_37 hI hZ (lo_ix h1 h2 (by decide)) ?_
      refine sm_iload_n d_Pl_addComponent_38 rfl (j := 2) rfl ?_
      refine sm_iload_n d_Pl_addComponent_39 rfl (j := 3) rfl ?_
      refine sm_iload_n d_Pl_addComponent_40 rfl (j := 4) rfl ?_
      refine sm_iload d_Pl_addComponent_41 (j := 5) rfl ?_
      refine lo_callVm d_Pl_addComponent_43 cs_Pl_addComponent_61 rfl hI (cl_Cp (cm_ix16 (lo_ix h1 h2 (by decide)))) (As := [.int x1, .int (bi x2), .int x3, .int x4]) rfl rfl (Nat.le_of_ble_eq_true rfl) (c_Cp_reset hI hZ ((w 1 2).toInt.toNat) x1 x2 x3 x4 (cm_ix16 (lo_ix h1 h2 (by decide)))) (fun M3 hI4 => ?_)
      refine sm_aload_n d_Pl_addComponent_46 rfl (j := 1) rfl ?_
      refine sm_iload d_Pl_addComponent_47 (j := 0) rfl ?_
      refine sm_iconst (v := 1) d_Pl_addComponent_49 (by decide) ?_
      refine sm_iadd d_Pl_addComponent_50 ?_
      refine lo_put d_Pl_addComponent_51 fp_Pl_34 (by decide) hI4 cl_1 rfl (by rfl) (by rfl) (fun M5 hI6 => ?_)
      refine sm_iload d_Pl_addComponent_54 (j := 0) rfl ?_
      subst hf
      refine sm_ireturn d_Pl_addComponent_56 rfl (by rfl) ?_
      exact ⟨rfl, hI6⟩

def fn_Pl_addChange (w : wd) (x1 : Int32) (x2 : Int32) (x3 : Int32) (x4 : Int32) (x5 : Int32) (x6 : Int32) : Option (wd) := (if ((w 1 9) * (6 : Int32)) < 0 then some w else (if ((192 : Int32) - (6 : Int32)) < ((w 1 9) * (6 : Int32)) then some w else (if 0 ≤ ((w 1 9) * (6 : Int32)).toInt ∧ ((w 1 9) * (6 : Int32)).toInt < 192 then (if 0 ≤ (((w 1 9) * (6 : Int32)) + (1 : Int32)).toInt ∧ (((w 1 9) * (6 : Int32)) + (1 : Int32)).toInt < 192 then (if 0 ≤ (((w 1 9) * (6 : Int32)) + (2 : Int32)).toInt ∧ (((w 1 9) * (6 : Int32)) + (2 : Int32)).toInt < 192 then (if 0 ≤ (((w 1 9) * (6 : Int32)) + (3 : Int32)).toInt ∧ (((w 1 9) * (6 : Int32)) + (3 : Int32)).toInt < 192 then (if 0 ≤ (((w 1 9) * (6 : Int32)) + (4 : Int32)).toInt ∧ (((w 1 9) * (6 : Int32)) + (4 : Int32)).toInt < 192 then (if 0 ≤ (((w 1 9) * (6 : Int32)) + (5 : Int32)).toInt ∧ (((w 1 9) * (6 : Int32)) + (5 : Int32)).toInt < 192 then some (up2 (up2 (up2 (up2 (up2 (up2 (up2 w 4 (((w 1 9) * (6 : Int32)).toInt.toNat) x1) 4 ((((w 1 9) * (6 : Int32)) + (1 : Int32)).toInt.toNat) x2) 4 ((((w 1 9) * (6 : Int32)) + (2 : Int32)).toInt.toNat) x3) 4 ((((w 1 9) * (6 : Int32)) + (3 : Int32)).toInt.toNat) x4) 4 ((((w 1 9) * (6 : Int32)) + (4 : Int32)).toInt.toNat) x5) 4 ((((w 1 9) * (6 : Int32)) + (5 : Int32)).toInt.toNat) x6) 1 9 (((up2 (up2 (up2 (up2 (up2 (up2 w 4 (((w 1 9) * (6 : Int32)).toInt.toNat) x1) 4 ((((w 1 9) * (6 : Int32)) + (1 : Int32)).toInt.toNat) x2) 4 ((((w 1 9) * (6 : Int32)) + (2 : Int32)).toInt.toNat) x3) 4 ((((w 1 9) * (6 : Int32)) + (3 : Int32)).toInt.toNat) x4) 4 ((((w 1 9) * (6 : Int32)) + (4 : Int32)).toInt.toNat) x5) 4 ((((w 1 9) * (6 : Int32)) + (5 : Int32)).toInt.toNat) x6) 1 9) + (1 : Int32))) else none) else none) else none) else none) else none) else none)))
set_option maxHeartbeats 1600000 in
set_option maxRecDepth 100000 in
theorem c_Pl_addChange {G : sm_G} {b : Nat} {M0 M : sm_M} {Z : zd} {w : wd}  (hI : lo_in G cm_L b M0 M w) (hZ : cz_at G b M0 Z) (x1 : Int32) (x2 : Int32) (x3 : Int32) (x4 : Int32) (x5 : Int32) (x6 : Int32)  {R : wd} (hf : fn_Pl_addChange w x1 x2 x3 x4 x5 x6 = some R) : sm_C G mf_Pl_addChange [.ref (b + 1), .int x1, .int x2, .int x3, .int x4, .int x5, .int x6] M 0 0 (wd_Q G cm_L b M none R) := by
  unfold fn_Pl_addChange at hf
  have hZ := hZ.go hI.2
  have hI := hI.here
  refine sm_ofW rfl (Nat.le_of_ble_eq_true rfl) ?_
  refine sm_aload_n d_Pl_addChange_0 rfl (j := 0) rfl ?_
  refine lo_get (v := .int (w 1 9)) d_Pl_addChange_1 fg_Pl_38 hI cl_1 rfl ?_
  refine sm_bipush (v := 6) d_Pl_addChange_4 (by decide) ?_
  refine sm_imul d_Pl_addChange_6 ?_
  refine sm_istore d_Pl_addChange_7 (by decide) rfl ?_
  refine sm_iload d_Pl_addChange_9 (j := 0) rfl ?_
  refine sm_if_lt (tgt := 98) d_Pl_addChange_11 (by decide) (fun h1 => ?_) (fun h1 => ?_)
  · rw [if_pos h1] at hf
    cases hf
    refine sm_return d_Pl_addChange_98 rfl ?_
    exact ⟨rfl, hI⟩
  · rw [if_neg h1] at hf
    refine sm_iload d_Pl_addChange_14 (j := 0) rfl ?_
    refine sm_aload_n d_Pl_addChange_16 rfl (j := 1) rfl ?_
    refine lo_get (v := .ref (b + 4)) d_Pl_addChange_17 fg_Pl_21 hI cl_1 rfl ?_
    refine lo_aln (v := 192) d_Pl_addChange_20 hI cl_4 (by decide) ?_
    refine sm_bipush (v := 6) d_Pl_addChange_21 (by decide) ?_
    refine sm_isub d_Pl_addChange_23 ?_
    refine sm_icmp_gt (tgt := 98) d_Pl_addChange_24 (by decide) (fun h2 => ?_) (fun h2 => ?_)
    · rw [if_pos h2] at hf
      cases hf
      refine sm_return d_Pl_addChange_98 rfl ?_
      exact ⟨rfl, hI⟩
    · rw [if_neg h2] at hf
      refine sm_aload_n d_Pl_addChange_27 rfl (j := 1) rfl ?_
      refine lo_get (v := .ref (b + 4)) d_Pl_addChange_28 fg_Pl_21 hI cl_1 rfl ?_
      refine sm_iload d_Pl_addChange_31 (j := 0) rfl ?_
      refine sm_iload_n d_Pl_addChange_33 rfl (j := 2) rfl ?_
      obtain ⟨h3, hf⟩ := lo_chk hf
      refine lo_ast (j := ((w 1 9) * (6 : Int32)).toInt.toNat) d_Pl_addChange_34 hI cl_4 h3 rfl (fun M4 hI5 => ?_)
      refine sm_aload_n d_Pl_addChange_35 rfl (j := 1) rfl ?_
      refine lo_get (v := .ref (b + 4)) d_Pl_addChange_36 fg_Pl_21 hI5 cl_1 rfl ?_
      refine sm_iload d_Pl_addChange_39 (j := 0) rfl ?_
      refine sm_iconst (v := 1) d_Pl_addChange_41 (by decide) ?_
      refine sm_iadd d_Pl_addChange_42 ?_
      refine sm_iload_n d_Pl_addChange_43 rfl (j := 3) rfl ?_
      obtain ⟨h6, hf⟩ := lo_chk hf
      refine lo_ast (j := (((w 1 9) * (6 : Int32)) + (1 : Int32)).toInt.toNat) d_Pl_addChange_44 hI5 cl_4 h6 rfl (fun M7 hI8 => ?_)
      refine sm_aload_n d_Pl_addChange_45 rfl (j := 1) rfl ?_
      refine lo_get (v := .ref (b + 4)) d_Pl_addChange_46 fg_Pl_21 hI8 cl_1 rfl ?_
      refine sm_iload d_Pl_addChange_49 (j := 0) rfl ?_
      refine sm_iconst (v := 2) d_Pl_addChange_51 (by decide) ?_
      refine sm_iadd d_Pl_addChange_52 ?_
      refine sm_iload_n d_Pl_addChange_53 rfl (j := 4) rfl ?_
      obtain ⟨h9, hf⟩ := lo_chk hf
      refine lo_ast (j := (((w 1 9) * (6 : Int32)) + (2 : Int32)).toInt.toNat) d_Pl_addChange_54 hI8 cl_4 h9 rfl (fun M10 hI11 => ?_)
      refine sm_aload_n d_Pl_addChange_55 rfl (j := 1) rfl ?_
      refine lo_get (v := .ref (b + 4)) d_Pl_addChange_56 fg_Pl_21 hI11 cl_1 rfl ?_
      refine sm_iload d_Pl_addChange_59 (j := 0) rfl ?_
      refine sm_iconst (v := 3) d_Pl_addChange_61 (by decide) ?_
      refine sm_iadd d_Pl_addChange_62 ?_
      refine sm_iload d_Pl_addChange_63 (j := 5) rfl ?_
      obtain ⟨h12, hf⟩ := lo_chk hf
      refine lo_ast (j := (((w 1 9) * (6 : Int32)) + (3 : Int32)).toInt.toNat) d_Pl_addChange_65 hI11 cl_4 h12 rfl (fun M13 hI14 => ?_)
      refine sm_aload_n d_Pl_addChange_66 rfl (j := 1) rfl ?_
      refine lo_get (v := .ref (b + 4)) d_Pl_addChange_67 fg_Pl_21 hI14 cl_1 rfl ?_
      refine sm_iload d_Pl_addChange_70 (j := 0) rfl ?_
      refine sm_iconst (v := 4) d_Pl_addChange_72 (by decide) ?_
      refine sm_iadd d_Pl_addChange_73 ?_
      refine sm_iload d_Pl_addChange_74 (j := 6) rfl ?_
      obtain ⟨h15, hf⟩ := lo_chk hf
      refine lo_ast (j := (((w 1 9) * (6 : Int32)) + (4 : Int32)).toInt.toNat) d_Pl_addChange_76 hI14 cl_4 h15 rfl (fun M16 hI17 => ?_)
      refine sm_aload_n d_Pl_addChange_77 rfl (j := 1) rfl ?_
      refine lo_get (v := .ref (b + 4)) d_Pl_addChange_78 fg_Pl_21 hI17 cl_1 rfl ?_
      refine sm_iload d_Pl_addChange_81 (j := 0) rfl ?_
      refine sm_iconst (v := 5) d_Pl_addChange_83 (by decide) ?_
      refine sm_iadd d_Pl_addChange_84 ?_
      refine sm_iload d_Pl_addChange_85 (j := 7) rfl ?_
      obtain ⟨h18, hf⟩ := lo_chk hf
      refine lo_ast (j := (((w 1 9) * (6 : Int32)) + (5 : Int32)).toInt.toNat) d_Pl_addChange_87 hI17 cl_4 h18 rfl (fun M19 hI20 => ?_)
      refine sm_aload_n d_Pl_addChange_88 rfl (j := 1) rfl ?_
      refine sm_dup d_Pl_addChange_89 rfl ?_
      refine lo_get (v := .int ((up2 (up2 (up2 (up2 (up2 (up2 w 4 (((w 1 9) * (6 : Int32)).toInt.toNat) x1) 4 ((((w 1 9) * (6 : Int32)) + (1 : Int32)).toInt.toNat) x2) 4 ((((w 1 9) * (6 : Int32)) + (2 : Int32)).toInt.toNat) x3) 4 ((((w 1 9) * (6 : Int32)) + (3 : Int32)).toInt.toNat) x4) 4 ((((w 1 9) * (6 : Int32)) + (4 : Int32)).toInt.toNat) x5) 4 ((((w 1 9) * (6 : Int32)) + (5 : Int32)).toInt.toNat) x6) 1 9)) d_Pl_addChange_90 fg_Pl_38 hI20 cl_1 rfl ?_
      refine sm_iconst (v := 1) d_Pl_addChange_93 (by decide) ?_
      refine sm_iadd d_Pl_addChange_94 ?_
      refine lo_put d_Pl_addChange_95 fp_Pl_38 (by decide) hI20 cl_1 rfl (by rfl) (by rfl) (fun M21 hI22 => ?_)
      cases hf
      refine sm_return d_Pl_addChange_98 rfl ?_
      exact ⟨rfl, hI22⟩

def fn_Pl_numberOfChange (w : wd) (x1 : Int32) (x2 : Int32) : Int32 := (if ((x1 * (6 : Int32)) + x2) < 0 then (0 : Int32) else (if (192 : Int32) ≤ ((x1 * (6 : Int32)) + x2) then (0 : Int32) else (w 4 (((x1 * (6 : Int32)) + x2).toInt.toNat))))
set_option maxHeartbeats 1600000 in
set_option maxRecDepth 100000 in
theorem c_Pl_numberOfChange {G : sm_G} {b : Nat} {M0 M : sm_M} {Z : zd} {w : wd}  (hI : lo_in G cm_L b M0 M w) (hZ : cz_at G b M0 Z) (x1 : Int32) (x2 : Int32)  : sm_C G mf_Pl_numberOfChange [.ref (b + 1), .int x1, .int x2] M 0 0 (sm_pu M (.int (fn_Pl_numberOfChange w x1 x2))) := by
  obtain ⟨R, hf⟩ : ∃ R, fn_Pl_numberOfChange w x1 x2 = R := ⟨_, rfl⟩
  rw [hf]
  unfold fn_Pl_numberOfChange at hf
  have hZ := hZ.go hI.2
  have hI := hI.here
  refine sm_ofW rfl (Nat.le_of_ble_eq_true rfl) ?_
  refine sm_iload_n d_Pl_numberOfChange_0 rfl (j := 1) rfl ?_
  refine sm_bipush (v := 6) d_Pl_numberOfChange_1 (by decide) ?_
  refine sm_imul d_Pl_numberOfChange_3 ?_
  refine sm_iload_n d_Pl_numberOfChange_4 rfl (j := 2) rfl ?_
  refine sm_iadd d_Pl_numberOfChange_5 ?_
  refine sm_istore_n d_Pl_numberOfChange_6 rfl (by decide) rfl ?_
  refine sm_iload_n d_Pl_numberOfChange_7 rfl (j := 0) rfl ?_
  refine sm_if_lt (tgt := 29) d_Pl_numberOfChange_8 (by decide) (fun h1 => ?_) (fun h1 => ?_)
  · rw [if_pos h1] at hf
    refine sm_iconst (v := 0) d_Pl_numberOfChange_29 (by decide) ?_
    subst hf
    refine sm_ireturn d_Pl_numberOfChange_30 rfl (by rfl) ?_
    exact ⟨rfl, rfl⟩
  · rw [if_neg h1] at hf
    refine sm_iload_n d_Pl_numberOfChange_11 rfl (j := 0) rfl ?_
    refine sm_aload_n d_Pl_numberOfChange_12 rfl (j := 1) rfl ?_
    refine lo_get (v := .ref (b + 4)) d_Pl_numberOfChange_13 fg_Pl_21 hI cl_1 rfl ?_
    refine lo_aln (v := 192) d_Pl_numberOfChange_16 hI cl_4 (by decide) ?_
    refine sm_icmp_ge (tgt := 29) d_Pl_numberOfChange_17 (by decide) (fun h2 => ?_) (fun h2 => ?_)
    · rw [if_pos h2] at hf
      refine sm_iconst (v := 0) d_Pl_numberOfChange_29 (by decide) ?_
      subst hf
      refine sm_ireturn d_Pl_numberOfChange_30 rfl (by rfl) ?_
      exact ⟨rfl, rfl⟩
    · rw [if_neg h2] at hf
      refine sm_aload_n d_Pl_numberOfChange_20 rfl (j := 1) rfl ?_
      refine lo_get (v := .ref (b + 4)) d_Pl_numberOfChange_21 fg_Pl_21 hI cl_1 rfl ?_
      refine sm_iload_n d_Pl_numberOfChange_24 rfl (j := 0) rfl ?_
      refine lo_ald (j := ((x1 * (6 : Int32)) + x2).toInt.toNat) d_Pl_numberOfChange_25 hI cl_4 (lo_ix h1 h2 (by decide)) rfl ?_
      refine sm_goto (tgt := 30) d_Pl_numberOfChange_26 (by decide) ?_
      subst hf
      refine sm_ireturn d_Pl_numberOfChange_30 rfl (by rfl) ?_
      exact ⟨rfl, rfl⟩

def fn_Pl_number_20 (w : wd) (x1 : Int32) : Int32 := (if x1 = 8 then (w 1 2) else (if x1 = 9 then (w 1 3) else (if x1 = 10 then (w 1 4) else (if x1 = 11 then (if (w 1 5) = 0 then (0 : Int32) else (1 : Int32)) else (if x1 = 12 then (if (w 1 6) = 0 then (0 : Int32) else (1 : Int32)) else (if x1 = 13 then (if (w 1 7) = 0 then (0 : Int32) else (1 : Int32)) else (w 1 9)))))))
set_option maxHeartbeats 1600000 in
set_option maxRecDepth 100000 in
theorem w_Pl_number_20 {G : sm_G} {b : Nat} {M0 : sm_M} {bc bs : Nat} {Z : zd} {R : Int32} (hZ : cz_at G b M0 Z) : ∀ (w : wd) (x1 : Int32), lo_in G cm_L b M0 M0 w → fn_Pl_number_20 w x1 = R → sm_W G mf_Pl_number 20 [(0, .ref (b + 1)), (1, .int x1)] [] M0 bc bs (sm_pu M0 (.int R)) := by
  intro w x1 hI  hf
  unfold fn_Pl_number_20 at hf
  refine sm_iload_n d_Pl_number_20 rfl (j := 1) rfl ?_
  by_cases h2 : x1 = 8
  · rw [if_pos h2] at hf
    refine sm_tableIn (tgt := 60) d_Pl_number_21 (by rw [h2] <;> decide) (by rw [h2] <;> decide) (by rw [h2] <;> rfl) (by decide) ?_
    refine sm_aload_n d_Pl_number_60 rfl (j := 0) rfl ?_
    refine lo_get (v := .int (w 1 2)) d_Pl_number_61 fg_Pl_34 hI cl_1 rfl ?_
    subst hf
    refine sm_ireturn d_Pl_number_64 rfl (by rfl) ?_
    exact ⟨rfl, rfl⟩
  · rw [if_neg h2] at hf
    by_cases h3 : x1 = 9
    · rw [if_pos h3] at hf
      refine sm_tableIn (tgt := 65) d_Pl_number_21 (by rw [h3] <;> decide) (by rw [h3] <;> decide) (by rw [h3] <;> rfl) (by decide) ?_
      refine sm_aload_n d_Pl_number_65 rfl (j := 0) rfl ?_
      refine lo_get (v := .int (w 1 3)) d_Pl_number_66 fg_Pl_45 hI cl_1 rfl ?_
      subst hf
      refine sm_ireturn d_Pl_number_69 rfl (by rfl) ?_
      exact ⟨rfl, rfl⟩
    · rw [if_neg h3] at hf
      by_cases h4 : x1 = 10
      · rw [if_pos h4] at hf
        refine sm_tableIn (tgt := 70) d_Pl_number_21 (by rw [h4] <;> decide) (by rw [h4] <;> decide) (by rw [h4] <;> rfl) (by decide) ?_
        refine sm_aload_n d_Pl_number_70 rfl (j := 0) rfl ?_
        refine lo_get (v := .int (w 1 4)) d_Pl_number_71 fg_Pl_48 hI cl_1 rfl ?_
        subst hf
        refine sm_ireturn d_Pl_number_74 rfl (by rfl) ?_
        exact ⟨rfl, rfl⟩
      · rw [if_neg h4] at hf
        by_cases h5 : x1 = 11
        · rw [if_pos h5] at hf
          refine sm_tableIn (tgt := 75) d_Pl_number_21 (by rw [h5] <;> decide) (by rw [h5] <;> decide) (by rw [h5] <;> rfl) (by decide) ?_
          refine sm_aload_n d_Pl_number_75 rfl (j := 0) rfl ?_
          refine lo_get (v := .int (w 1 5)) d_Pl_number_76 fg_Pl_51 hI cl_1 rfl ?_
          refine sm_if_eq (tgt := 86) d_Pl_number_79 (by decide) (fun h6 => ?_) (fun h6 => ?_)
          · rw [if_pos h6] at hf
            refine sm_iconst (v := 0) d_Pl_number_86 (by decide) ?_
            subst hf
            refine sm_ireturn d_Pl_number_87 rfl (by rfl) ?_
            exact ⟨rfl, rfl⟩
          · rw [if_neg h6] at hf
            refine sm_iconst (v := 1) d_Pl_number_82 (by decide) ?_
            refine sm_goto (tgt := 87) d_Pl_number_83 (by decide) ?_
            subst hf
            refine sm_ireturn d_Pl_number_87 rfl (by rfl) ?_
            exact ⟨rfl, rfl⟩
        · rw [if_neg h5] at hf
          by_cases h7 : x1 = 12
          · rw [if_pos h7] at hf
            refine sm_tableIn (tgt := 88) d_Pl_number_21 (by rw [h7] <;> decide) (by rw [h7] <;> decide) (by rw [h7] <;> rfl) (by decide) ?_
            refine sm_aload_n d_Pl_number_88 rfl (j := 0) rfl ?_
            refine lo_get (v := .int (w 1 6)) d_Pl_number_89 fg_Pl_55 hI cl_1 rfl ?_
            refine sm_if_eq (tgt := 99) d_Pl_number_92 (by decide) (fun h8 => ?_) (fun h8 => ?_)
            · rw [if_pos h8] at hf
              refine sm_iconst (v := 0) d_Pl_number_99 (by decide) ?_
              subst hf
              refine sm_ireturn d_Pl_number_100 rfl (by rfl) ?_
              exact ⟨rfl, rfl⟩
            · rw [if_neg h8] at hf
              refine sm_iconst (v := 1) d_Pl_number_95 (by decide) ?_
              refine sm_goto (tgt := 100) d_Pl_number_96 (by decide) ?_
              subst hf
              refine sm_ireturn d_Pl_number_100 rfl (by rfl) ?_
              exact ⟨rfl, rfl⟩
          · rw [if_neg h7] at hf
            by_cases h9 : x1 = 13
            · rw [if_pos h9] at hf
              refine sm_tableIn (tgt := 101) d_Pl_number_21 (by rw [h9] <;> decide) (by rw [h9] <;> decide) (by rw [h9] <;> rfl) (by decide) ?_
              refine sm_aload_n d_Pl_number_101 rfl (j := 0) rfl ?_
              refine lo_get (v := .int (w 1 7)) d_Pl_number_102 fg_Pl_58 hI cl_1 rfl ?_
              refine sm_if_eq (tgt := 112) d_Pl_number_105 (by decide) (fun h10 => ?_) (fun h10 => ?_)
              · rw [if_pos h10] at hf
                refine sm_iconst (v := 0) d_Pl_number_112 (by decide) ?_
                subst hf
                refine sm_ireturn d_Pl_number_113 rfl (by rfl) ?_
                exact ⟨rfl, rfl⟩
              · rw [if_neg h10] at hf
                refine sm_iconst (v := 1) d_Pl_number_108 (by decide) ?_
                refine sm_goto (tgt := 113) d_Pl_number_109 (by decide) ?_
                subst hf
                refine sm_ireturn d_Pl_number_113 rfl (by rfl) ?_
                exact ⟨rfl, rfl⟩
            · rw [if_neg h9] at hf
              refine sm_tableOut (tgt := 114) d_Pl_number_21 (by have := (mt sm_eqI.mpr h2); rw [show ((8 : Int32)).toInt = 8 by decide] at this; have := (mt sm_eqI.mpr h3); rw [show ((9 : Int32)).toInt = 9 by decide] at this; have := (mt sm_eqI.mpr h4); rw [show ((10 : Int32)).toInt = 10 by decide] at this; have := (mt sm_eqI.mpr h5); rw [show ((11 : Int32)).toInt = 11 by decide] at this; have := (mt sm_eqI.mpr h7); rw [show ((12 : Int32)).toInt = 12 by decide] at this; have := (mt sm_eqI.mpr h9); rw [show ((13 : Int32)).toInt = 13 by decide] at this; omega) (by decide) ?_
              refine sm_aload_n d_Pl_number_114 rfl (j := 0) rfl ?_
              refine lo_get (v := .int (w 1 9)) d_Pl_number_115 fg_Pl_38 hI cl_1 rfl ?_
              subst hf
              refine sm_ireturn d_Pl_number_118 rfl (by rfl) ?_
              exact ⟨rfl, rfl⟩

def fn_Pl_number (w : wd) (x1 : Int32) : Int32 := (if x1 < 0 then fn_Pl_number_20 w x1 else (if (8 : Int32) ≤ x1 then fn_Pl_number_20 w x1 else (w 2 x1.toInt.toNat)))
set_option maxHeartbeats 1600000 in
set_option maxRecDepth 100000 in
theorem c_Pl_number {G : sm_G} {b : Nat} {M0 M : sm_M} {Z : zd} {w : wd}  (hI : lo_in G cm_L b M0 M w) (hZ : cz_at G b M0 Z) (x1 : Int32)  : sm_C G mf_Pl_number [.ref (b + 1), .int x1] M 0 0 (sm_pu M (.int (fn_Pl_number w x1))) := by
  obtain ⟨R, hf⟩ : ∃ R, fn_Pl_number w x1 = R := ⟨_, rfl⟩
  rw [hf]
  unfold fn_Pl_number at hf
  have hZ := hZ.go hI.2
  have hI := hI.here
  refine sm_ofW rfl (Nat.le_of_ble_eq_true rfl) ?_
  refine sm_iload_n d_Pl_number_0 rfl (j := 1) rfl ?_
  refine sm_if_lt (tgt := 20) d_Pl_number_1 (by decide) (fun h1 => ?_) (fun h1 => ?_)
  · rw [if_pos h1] at hf
    exact sm_pick [0, 1] (w_Pl_number_20 hZ _ _ hI hf) rfl
  · rw [if_neg h1] at hf
    refine sm_iload_n d_Pl_number_4 rfl (j := 1) rfl ?_
    refine sm_aload_n d_Pl_number_5 rfl (j := 0) rfl ?_
    refine lo_get (v := .ref (b + 2)) d_Pl_number_6 fg_Pl_9 hI cl_1 rfl ?_
    refine lo_aln (v := 8) d_Pl_number_9 hI cl_2 (by decide) ?_
    refine sm_icmp_ge (tgt := 20) d_Pl_number_10 (by decide) (fun h11 => ?_) (fun h11 => ?_)
    · rw [if_pos h11] at hf
      exact sm_pick [0, 1] (w_Pl_number_20 hZ _ _ hI hf) rfl
    · rw [if_neg h11] at hf
      refine sm_aload_n d_Pl_number_13 rfl (j := 0) rfl ?_
      refine lo_get (v := .ref (b + 2)) d_Pl_number_14 fg_Pl_9 hI cl_1 rfl ?_
      refine sm_iload_n d_Pl_number_17 rfl (j := 1) rfl ?_
      refine lo_ald (j := x1.toInt.toNat) d_Pl_number_18 hI cl_2 (lo_ix h1 h11 (by decide)) rfl ?_
      subst hf
      refine sm_ireturn d_Pl_number_19 rfl (by rfl) ?_
      exact ⟨rfl, rfl⟩

