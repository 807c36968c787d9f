/-! Scanner; written by wip/tools/cls.py -/
def fn_Sc_hasSegment (Z : zd) (w : wd) : Bool := (if (w 105 7) = 79 ∨ (w 105 7) = 146 ∨ (w 105 7) = 147 ∨ (w 105 7) = 217 then false else (if (w 105 7) < (48 : Int32) then true else (if (w 105 7) ≤ (63 : Int32) then false else true)))
set_option maxHeartbeats 1600000 in
set_option maxRecDepth 100000 in
theorem c_Sc_hasSegment {G : sm_G} {b : Nat} {M0 M : sm_M} {Z : zd} {w : wd}  (hI : lo_in G cm_L b M0 M w) (hZ : cz_at G b M0 Z) : sm_C G mf_Sc_hasSegment [.ref (b + 105)] M 0 0 (sm_pu M (.int (bi (fn_Sc_hasSegment Z w)))) := by
  obtain ⟨R, hf⟩ : ∃ R, fn_Sc_hasSegment Z w = R := ⟨_, rfl⟩
  rw [hf]
  unfold fn_Sc_hasSegment at hf
  have hZ := hZ.go hI.2
  have hI := hI.here
  refine sm_ofW rfl (Nat.le_of_ble_eq_true rfl) ?_
  refine sm_aload_n d_Sc_hasSegment_0 rfl (j := 0) rfl ?_
  refine lo_get (v := .int (w 105 7)) d_Sc_hasSegment_1 fg_Sc_97 hI cl_105 rfl ?_
  by_cases h1 : (w 105 7) = 79 ∨ (w 105 7) = 146 ∨ (w 105 7) = 147 ∨ (w 105 7) = 217
  · rw [if_pos h1] at hf
    rcases h1 with h1 | h1 | h1 | h1
    · refine sm_lookup (tgt := 48) d_Sc_hasSegment_4 (by decide) (by rw [h1] <;> rfl) (by decide) ?_
      refine sm_iconst (v := 0) d_Sc_hasSegment_48 (by decide) ?_
      subst hf
      refine sm_ireturn d_Sc_hasSegment_49 rfl (by rfl) ?_
      exact ⟨rfl, rfl⟩
    · refine sm_lookup (tgt := 48) d_Sc_hasSegment_4 (by decide) (by rw [h1] <;> rfl) (by decide) ?_
      refine sm_iconst (v := 0) d_Sc_hasSegment_48 (by decide) ?_
      subst hf
      refine sm_ireturn d_Sc_hasSegment_49 rfl (by rfl) ?_
      exact ⟨rfl, rfl⟩
    · refine sm_lookup (tgt := 48) d_Sc_hasSegment_4 (by decide) (by rw [h1] <;> rfl) (by decide) ?_
      refine sm_iconst (v := 0) d_Sc_hasSegment_48 (by decide) ?_
      subst hf
      refine sm_ireturn d_Sc_hasSegment_49 rfl (by rfl) ?_
      exact ⟨rfl, rfl⟩
    · refine sm_lookup (tgt := 48) d_Sc_hasSegment_4 (by decide) (by rw [h1] <;> rfl) (by decide) ?_
      refine sm_iconst (v := 0) d_Sc_hasSegment_48 (by decide) ?_
      subst hf
      refine sm_ireturn d_Sc_hasSegment_49 rfl (by rfl) ?_
      exact ⟨rfl, rfl⟩
  · rw [if_neg h1] at hf
    refine sm_lookup (tgt := 50) d_Sc_hasSegment_4 (by decide) (lo_offD (List.forall_mem_cons.mpr ⟨(fun e9 => (fun e8 => h1 (Or.inl e8)) (sm_eqI.mpr (e9.symm.trans (by decide)))), List.forall_mem_cons.mpr ⟨(fun e9 => (fun e8 => h1 (Or.inr (Or.inl e8))) (sm_eqI.mpr (e9.symm.trans (by decide)))), List.forall_mem_cons.mpr ⟨(fun e9 => (fun e8 => h1 (Or.inr (Or.inr (Or.inl e8)))) (sm_eqI.mpr (e9.symm.trans (by decide)))), List.forall_mem_cons.mpr ⟨(fun e9 => (fun e8 => h1 (Or.inr (Or.inr (Or.inr e8)))) (sm_eqI.mpr (e9.symm.trans (by decide)))), List.forall_mem_nil _⟩⟩⟩⟩)) (by decide) ?_
    refine sm_aload_n d_Sc_hasSegment_50 rfl (j := 0) rfl ?_
    refine lo_get (v := .int (w 105 7)) d_Sc_hasSegment_51 fg_Sc_97 hI cl_105 rfl ?_
    refine sm_bipush (v := 48) d_Sc_hasSegment_54 (by decide) ?_
    refine sm_icmp_lt (tgt := 68) d_Sc_hasSegment_56 (by decide) (fun h2 => ?_) (fun h2 => ?_)
    · rw [if_pos h2] at hf
      refine sm_iconst (v := 1) d_Sc_hasSegment_68 (by decide) ?_
      refine sm_goto (tgt := 73) d_Sc_hasSegment_69 (by decide) ?_
      subst hf
      refine sm_ireturn d_Sc_hasSegment_73 rfl (by rfl) ?_
      exact ⟨rfl, rfl⟩
    · rw [if_neg h2] at hf
      refine sm_aload_n d_Sc_hasSegment_59 rfl (j := 0) rfl ?_
      refine lo_get (v := .int (w 105 7)) d_Sc_hasSegment_60 fg_Sc_97 hI cl_105 rfl ?_
      refine sm_bipush (v := 63) d_Sc_hasSegment_63 (by decide) ?_
      refine sm_icmp_le (tgt := 72) d_Sc_hasSegment_65 (by decide) (fun h3 => ?_) (fun h3 => ?_)
      · rw [if_pos h3] at hf
        refine sm_iconst (v := 0) d_Sc_hasSegment_72 (by decide) ?_
        subst hf
        refine sm_ireturn d_Sc_hasSegment_73 rfl (by rfl) ?_
        exact ⟨rfl, rfl⟩
      · rw [if_neg h3] at hf
        refine sm_iconst (v := 1) d_Sc_hasSegment_68 (by decide) ?_
        refine sm_goto (tgt := 73) d_Sc_hasSegment_69 (by decide) ?_
        subst hf
        refine sm_ireturn d_Sc_hasSegment_73 rfl (by rfl) ?_
        exact ⟨rfl, rfl⟩

def fn_Sc_readsCutMark (Z : zd) (w : wd) : Bool × wd := (if (2 : Int32) ≤ (((up2 (up2 w 105 7 (-1 : Int32)) 105 8 (0 : Int32)) 105 6) - ((up2 (up2 w 105 7 (-1 : Int32)) 105 8 (0 : Int32)) 105 5)) then (if (nI (rw_u1 Z.1.1 ((up2 (up2 w 105 7 (-1 : Int32)) 105 8 (0 : Int32)) 105 5).toInt)) = (255 : Int32) then (if (fn_Sc_hasSegment Z (up2 (up2 (up2 w 105 7 (-1 : Int32)) 105 8 (0 : Int32)) 105 7 (nI (rw_u1 Z.1.1 (((up2 (up2 w 105 7 (-1 : Int32)) 105 8 (0 : Int32)) 105 5) + (1 : Int32)).toInt)))) = true then (if (4 : Int32) ≤ (((up2 (up2 (up2 w 105 7 (-1 : Int32)) 105 8 (0 : Int32)) 105 7 (nI (rw_u1 Z.1.1 (((up2 (up2 w 105 7 (-1 : Int32)) 105 8 (0 : Int32)) 105 5) + (1 : Int32)).toInt))) 105 6) - ((up2 (up2 (up2 w 105 7 (-1 : Int32)) 105 8 (0 : Int32)) 105 7 (nI (rw_u1 Z.1.1 (((up2 (up2 w 105 7 (-1 : Int32)) 105 8 (0 : Int32)) 105 5) + (1 : Int32)).toInt))) 105 5)) then (if ((up2 (up2 (up2 (up2 w 105 7 (-1 : Int32)) 105 8 (0 : Int32)) 105 7 (nI (rw_u1 Z.1.1 (((up2 (up2 w 105 7 (-1 : Int32)) 105 8 (0 : Int32)) 105 5) + (1 : Int32)).toInt))) 105 8 (nI (rw_u2 Z.1.1 (((up2 (up2 (up2 w 105 7 (-1 : Int32)) 105 8 (0 : Int32)) 105 7 (nI (rw_u1 Z.1.1 (((up2 (up2 w 105 7 (-1 : Int32)) 105 8 (0 : Int32)) 105 5) + (1 : Int32)).toInt))) 105 5) + (2 : Int32)).toInt))) 105 8) ≤ ((((up2 (up2 (up2 (up2 w 105 7 (-1 : Int32)) 105 8 (0 : Int32)) 105 7 (nI (rw_u1 Z.1.1 (((up2 (up2 w 105 7 (-1 : Int32)) 105 8 (0 : Int32)) 105 5) + (1 : Int32)).toInt))) 105 8 (nI (rw_u2 Z.1.1 (((up2 (up2 (up2 w 105 7 (-1 : Int32)) 105 8 (0 : Int32)) 105 7 (nI (rw_u1 Z.1.1 (((up2 (up2 w 105 7 (-1 : Int32)) 105 8 (0 : Int32)) 105 5) + (1 : Int32)).toInt))) 105 5) + (2 : Int32)).toInt))) 105 6) - ((up2 (up2 (up2 (up2 w 105 7 (-1 : Int32)) 105 8 (0 : Int32)) 105 7 (nI (rw_u1 Z.1.1 (((up2 (up2 w 105 7 (-1 : Int32)) 105 8 (0 : Int32)) 105 5) + (1 : Int32)).toInt))) 105 8 (nI (rw_u2 Z.1.1 (((up2 (up2 (up2 w 105 7 (-1 : Int32)) 105 8 (0 : Int32)) 105 7 (nI (rw_u1 Z.1.1 (((up2 (up2 w 105 7 (-1 : Int32)) 105 8 (0 : Int32)) 105 5) + (1 : Int32)).toInt))) 105 5) + (2 : Int32)).toInt))) 105 5)) - (2 : Int32)) then (false, (up2 (up2 (up2 (up2 w 105 7 (-1 : Int32)) 105 8 (0 : Int32)) 105 7 (nI (rw_u1 Z.1.1 (((up2 (up2 w 105 7 (-1 : Int32)) 105 8 (0 : Int32)) 105 5) + (1 : Int32)).toInt))) 105 8 (nI (rw_u2 Z.1.1 (((up2 (up2 (up2 w 105 7 (-1 : Int32)) 105 8 (0 : Int32)) 105 7 (nI (rw_u1 Z.1.1 (((up2 (up2 w 105 7 (-1 : Int32)) 105 8 (0 : Int32)) 105 5) + (1 : Int32)).toInt))) 105 5) + (2 : Int32)).toInt)))) else (true, (up2 (up2 (up2 (up2 w 105 7 (-1 : Int32)) 105 8 (0 : Int32)) 105 7 (nI (rw_u1 Z.1.1 (((up2 (up2 w 105 7 (-1 : Int32)) 105 8 (0 : Int32)) 105 5) + (1 : Int32)).toInt))) 105 8 (nI (rw_u2 Z.1.1 (((up2 (up2 (up2 w 105 7 (-1 : Int32)) 105 8 (0 : Int32)) 105 7 (nI (rw_u1 Z.1.1 (((up2 (up2 w 105 7 (-1 : Int32)) 105 8 (0 : Int32)) 105 5) + (1 : Int32)).toInt))) 105 5) + (2 : Int32)).toInt))))) else (true, (up2 (up2 (up2 w 105 7 (-1 : Int32)) 105 8 (0 : Int32)) 105 7 (nI (rw_u1 Z.1.1 (((up2 (up2 w 105 7 (-1 : Int32)) 105 8 (0 : Int32)) 105 5) + (1 : Int32)).toInt))))) else (false, (up2 (up2 (up2 w 105 7 (-1 : Int32)) 105 8 (0 : Int32)) 105 7 (nI (rw_u1 Z.1.1 (((up2 (up2 w 105 7 (-1 : Int32)) 105 8 (0 : Int32)) 105 5) + (1 : Int32)).toInt))))) else (false, (up2 (up2 w 105 7 (-1 : Int32)) 105 8 (0 : Int32)))) else (true, (up2 (up2 w 105 7 (-1 : Int32)) 105 8 (0 : Int32))))
set_option maxHeartbeats 1600000 in
set_option maxRecDepth 100000 in
theorem c_Sc_readsCutMark {G : sm_G} {b : Nat} {M0 M : sm_M} {Z : zd} {w : wd}  (hI : lo_in G cm_L b M0 M w) (hZ : cz_at G b M0 Z) : sm_C G mf_Sc_readsCutMark [.ref (b + 105)] M 0 0 (wd_Q G cm_L b M (some (.int (bi (fn_Sc_readsCutMark Z w).1))) (fn_Sc_readsCutMark Z w).2) := by
  obtain ⟨R, hf⟩ : ∃ R, fn_Sc_readsCutMark Z w = R := ⟨_, rfl⟩
  rw [hf]
  unfold fn_Sc_readsCutMark at hf
  have hZ := hZ.go hI.2
  have hI := hI.here
  refine sm_ofW rfl (Nat.le_of_ble_eq_true rfl) ?_
  refine sm_aload_n d_Sc_readsCutMark_0 rfl (j := 0) rfl ?_
  refine sm_iconst (v := -1) d_Sc_readsCutMark_1 (by decide) ?_
  refine lo_put d_Sc_readsCutMark_2 fp_Sc_97 (by decide) hI cl_105 rfl (by rfl) (by rfl) (fun M1 hI2 => ?_)
  refine sm_aload_n d_Sc_readsCutMark_5 rfl (j := 0) rfl ?_
  refine sm_iconst (v := 0) d_Sc_readsCutMark_6 (by decide) ?_
  refine lo_put d_Sc_readsCutMark_7 fp_Sc_113 (by decide) hI2 cl_105 rfl (by rfl) (by rfl) (fun M3 hI4 => ?_)
  refine sm_aload_n d_Sc_readsCutMark_10 rfl (j := 0) rfl ?_
  refine lo_get (v := .int ((up2 (up2 w 105 7 (-1 : Int32)) 105 8 (0 : Int32)) 105 6)) d_Sc_readsCutMark_11 fg_Sc_56 hI4 cl_105 rfl ?_
  refine sm_aload_n d_Sc_readsCutMark_14 rfl (j := 0) rfl ?_
  refine lo_get (v := .int ((up2 (up2 w 105 7 (-1 : Int32)) 105 8 (0 : Int32)) 105 5)) d_Sc_readsCutMark_15 fg_Sc_50 hI4 cl_105 rfl ?_
  refine sm_isub d_Sc_readsCutMark_18 ?_
  refine sm_iconst (v := 2) d_Sc_readsCutMark_19 (by decide) ?_
  refine sm_icmp_ge (tgt := 25) d_Sc_readsCutMark_20 (by decide) (fun h5 => ?_) (fun h5 => ?_)
  · rw [if_pos h5] at hf
    refine sm_aload_n d_Sc_readsCutMark_25 rfl (j := 0) rfl ?_
    refine lo_get (v := .ref (b + 101)) d_Sc_readsCutMark_26 fg_Sc_32 hI4 cl_105 rfl ?_
    refine sm_aload_n d_Sc_readsCutMark_29 rfl (j := 0) rfl ?_
    refine lo_get (v := .int ((up2 (up2 w 105 7 (-1 : Int32)) 105 8 (0 : Int32)) 105 5)) d_Sc_readsCutMark_30 fg_Sc_50 hI4 cl_105 rfl ?_
    refine cm_callR d_Sc_readsCutMark_33 cs_Sc_readsCutMark_116 rfl (cz_c1 hI4 hZ) (As := [.int ((up2 (up2 w 105 7 (-1 : Int32)) 105 8 (0 : Int32)) 105 5)]) rfl rfl (Nat.le_of_ble_eq_true rfl) (cz_u11 hI4 hZ ((up2 (up2 w 105 7 (-1 : Int32)) 105 8 (0 : Int32)) 105 5)) ?_
    refine sm_sipush (v := 255) d_Sc_readsCutMark_36 (by decide) ?_
    refine sm_icmp_eq (tgt := 44) d_Sc_readsCutMark_39 (by decide) (fun h6 => ?_) (fun h6 => ?_)
    · rw [if_pos h6] at hf
      refine sm_aload_n d_Sc_readsCutMark_44 rfl (j := 0) rfl ?_
      refine sm_aload_n d_Sc_readsCutMark_45 rfl (j := 0) rfl ?_
      refine lo_get (v := .ref (b + 101)) d_Sc_readsCutMark_46 fg_Sc_32 hI4 cl_105 rfl ?_
      refine sm_aload_n d_Sc_readsCutMark_49 rfl (j := 0) rfl ?_
      refine lo_get (v := .int ((up2 (up2 w 105 7 (-1 : Int32)) 105 8 (0 : Int32)) 105 5)) d_Sc_readsCutMark_50 fg_Sc_50 hI4 cl_105 rfl ?_
      refine sm_iconst (v := 1) d_Sc_readsCutMark_53 (by decide) ?_
      refine sm_iadd d_Sc_readsCutMark_54 ?_
      refine cm_callR d_Sc_readsCutMark_55 cs_Sc_readsCutMark_116 rfl (cz_c1 hI4 hZ) (As := [.int (((up2 (up2 w 105 7 (-1 : Int32)) 105 8 (0 : Int32)) 105 5) + (1 : Int32))]) rfl rfl (Nat.le_of_ble_eq_true rfl) (cz_u11 hI4 hZ (((up2 (up2 w 105 7 (-1 : Int32)) 105 8 (0 : Int32)) 105 5) + (1 : Int32))) ?_
      refine lo_put d_Sc_readsCutMark_58 fp_Sc_97 (by decide) hI4 cl_105 rfl (by rfl) (by rfl) (fun M7 hI8 => ?_)
      refine sm_aload_n d_Sc_readsCutMark_61 rfl (j := 0) rfl ?_
      refine lo_callV d_Sc_readsCutMark_62 cs_Sc_readsCutMark_120 rfl hI8 cl_105 (As := []) rfl rfl (Nat.le_of_ble_eq_true rfl) (c_Sc_hasSegment hI8 hZ) ?_
      refine sm_if_ne (tgt := 70) d_Sc_readsCutMark_65 (by decide) (fun h9 => ?_) (fun h9 => ?_)
      · rw [if_pos (bi1 h9)] at hf
        refine sm_aload_n d_Sc_readsCutMark_70 rfl (j := 0) rfl ?_
        refine lo_get (v := .int ((up2 (up2 (up2 w 105 7 (-1 : Int32)) 105 8 (0 : Int32)) 105 7 (nI (rw_u1 Z.1.1 (((up2 (up2 w 105 7 (-1 : Int32)) 105 8 (0 : Int32)) 105 5) + (1 : Int32)).toInt))) 105 6)) d_Sc_readsCutMark_71 fg_Sc_56 hI8 cl_105 rfl ?_
        refine sm_aload_n d_Sc_readsCutMark_74 rfl (j := 0) rfl ?_
        refine lo_get (v := .int ((up2 (up2 (up2 w 105 7 (-1 : Int32)) 105 8 (0 : Int32)) 105 7 (nI (rw_u1 Z.1.1 (((up2 (up2 w 105 7 (-1 : Int32)) 105 8 (0 : Int32)) 105 5) + (1 : Int32)).toInt))) 105 5)) d_Sc_readsCutMark_75 fg_Sc_50 hI8 cl_105 rfl ?_
        refine sm_isub d_Sc_readsCutMark_78 ?_
        refine sm_iconst (v := 4) d_Sc_readsCutMark_79 (by decide) ?_
        refine sm_icmp_ge (tgt := 85) d_Sc_readsCutMark_80 (by decide) (fun h10 => ?_) (fun h10 => ?_)
        · rw [if_pos h10] at hf
          refine sm_aload_n d_Sc_readsCutMark_85 rfl (j := 0) rfl ?_
          refine sm_aload_n d_Sc_readsCutMark_86 rfl (j := 0) rfl ?_
          refine lo_get (v := .ref (b + 101)) d_Sc_readsCutMark_87 fg_Sc_32 hI8 cl_105 rfl ?_
          refine sm_aload_n d_Sc_readsCutMark_90 rfl (j := 0) rfl ?_
          refine lo_get (v := .int ((up2 (up2 (up2 w 105 7 (-1 : Int32)) 105 8 (0 : Int32)) 105 7 (nI (rw_u1 Z.1.1 (((up2 (up2 w 105 7 (-1 : Int32)) 105 8 (0 : Int32)) 105 5) + (1 : Int32)).toInt))) 105 5)) d_Sc_readsCutMark_91 fg_Sc_50 hI8 cl_105 rfl ?_
          refine sm_iconst (v := 2) d_Sc_readsCutMark_94 (by decide) ?_
          refine sm_iadd d_Sc_readsCutMark_95 ?_
          refine cm_callR d_Sc_readsCutMark_96 cs_Sc_readsCutMark_123 rfl (cz_c1 hI8 hZ) (As := [.int (((up2 (up2 (up2 w 105 7 (-1 : Int32)) 105 8 (0 : Int32)) 105 7 (nI (rw_u1 Z.1.1 (((up2 (up2 w 105 7 (-1 : Int32)) 105 8 (0 : Int32)) 105 5) + (1 : Int32)).toInt))) 105 5) + (2 : Int32))]) rfl rfl (Nat.le_of_ble_eq_true rfl) (cz_u21 hI8 hZ (((up2 (up2 (up2 w 105 7 (-1 : Int32)) 105 8 (0 : Int32)) 105 7 (nI (rw_u1 Z.1.1 (((up2 (up2 w 105 7 (-1 : Int32)) 105 8 (0 : Int32)) 105 5) + (1 : Int32)).toInt))) 105 5) + (2 : Int32))) ?_
          refine lo_put d_Sc_readsCutMark_99 fp_Sc_113 (by decide) hI8 cl_105 rfl (by rfl) (by rfl) (fun M11 hI12 => ?_)
          refine sm_aload_n d_Sc_readsCutMark_102 rfl (j := 0) rfl ?_
          refine lo_get (v := .int ((up2 (up2 (up2 (up2 w 105 7 (-1 : Int32)) 105 8 (0 : Int32)) 105 7 (nI (rw_u1 Z.1.1 (((up2 (up2 w 105 7 (-1 : Int32)) 105 8 (0 : Int32)) 105 5) + (1 : Int32)).toInt))) 105 8 (nI (rw_u2 Z.1.1 (((up2 (up2 (up2 w 105 7 (-1 : Int32)) 105 8 (0 : Int32)) 105 7 (nI (rw_u1 Z.1.1 (((up2 (up2 w 105 7 (-1 : Int32)) 105 8 (0 : Int32)) 105 5) + (1 : Int32)).toInt))) 105 5) + (2 : Int32)).toInt))) 105 6)) d_Sc_readsCutMark_103 fg_Sc_56 hI12 cl_105 rfl ?_
          refine sm_aload_n d_Sc_readsCutMark_106 rfl (j := 0) rfl ?_
          refine lo_get (v := .int ((up2 (up2 (up2 (up2 w 105 7 (-1 : Int32)) 105 8 (0 : Int32)) 105 7 (nI (rw_u1 Z.1.1 (((up2 (up2 w 105 7 (-1 : Int32)) 105 8 (0 : Int32)) 105 5) + (1 : Int32)).toInt))) 105 8 (nI (rw_u2 Z.1.1 (((up2 (up2 (up2 w 105 7 (-1 : Int32)) 105 8 (0 : Int32)) 105 7 (nI (rw_u1 Z.1.1 (((up2 (up2 w 105 7 (-1 : Int32)) 105 8 (0 : Int32)) 105 5) + (1 : Int32)).toInt))) 105 5) + (2 : Int32)).toInt))) 105 5)) d_Sc_readsCutMark_107 fg_Sc_50 hI12 cl_105 rfl ?_
          refine sm_isub d_Sc_readsCutMark_110 ?_
          refine sm_iconst (v := 2) d_Sc_readsCutMark_111 (by decide) ?_
          refine sm_isub d_Sc_readsCutMark_112 ?_
          refine sm_aload_n d_Sc_readsCutMark_113 rfl (j := 0) rfl ?_
          refine lo_get (v := .int ((up2 (up2 (up2 (up2 w 105 7 (-1 : Int32)) 105 8 (0 : Int32)) 105 7 (nI (rw_u1 Z.1.1 (((up2 (up2 w 105 7 (-1 : Int32)) 105 8 (0 : Int32)) 105 5) + (1 : Int32)).toInt))) 105 8 (nI (rw_u2 Z.1.1 (((up2 (up2 (up2 w 105 7 (-1 : Int32)) 105 8 (0 : Int32)) 105 7 (nI (rw_u1 Z.1.1 (((up2 (up2 w 105 7 (-1 : Int32)) 105 8 (0 : Int32)) 105 5) + (1 : Int32)).toInt))) 105 5) + (2 : Int32)).toInt))) 105 8)) d_Sc_readsCutMark_114 fg_Sc_113 hI12 cl_105 rfl ?_
          refine sm_icmp_ge (tgt := 124) d_Sc_readsCutMark_117 (by decide) (fun h13 => ?_) (fun h13 => ?_)
          · rw [if_pos h13] at hf
            refine sm_iconst (v := 0) d_Sc_readsCutMark_124 (by decide) ?_
            subst hf
            refine sm_ireturn d_Sc_readsCutMark_125 rfl (by rfl) ?_
            exact ⟨rfl, hI12⟩
          · rw [if_neg h13] at hf
            refine sm_iconst (v := 1) d_Sc_readsCutMark_120 (by decide) ?_
            refine sm_goto (tgt := 125) d_Sc_readsCutMark_121 (by decide) ?_
            subst hf
            refine sm_ireturn d_Sc_readsCutMark_125 rfl (by rfl) ?_
            exact ⟨rfl, hI12⟩
        · rw [if_neg h10] at hf
          refine sm_iconst (v := 1) d_Sc_readsCutMark_83 (by decide) ?_
          subst hf
          refine sm_ireturn d_Sc_readsCutMark_84 rfl (by rfl) ?_
          exact ⟨rfl, hI8⟩
      · rw [if_neg (bi0 h9)] at hf
        refine sm_iconst (v := 0) d_Sc_readsCutMark_68 (by decide) ?_
        subst hf
        refine sm_ireturn d_Sc_readsCutMark_69 rfl (by rfl) ?_
        exact ⟨rfl, hI8⟩
    · rw [if_neg h6] at hf
      refine sm_iconst (v := 0) d_Sc_readsCutMark_42 (by decide) ?_
      subst hf
      refine sm_ireturn d_Sc_readsCutMark_43 rfl (by rfl) ?_
      exact ⟨rfl, hI4⟩
  · rw [if_neg h5] at hf
    refine sm_iconst (v := 1) d_Sc_readsCutMark_23 (by decide) ?_
    subst hf
    refine sm_ireturn d_Sc_readsCutMark_24 rfl (by rfl) ?_
    exact ⟨rfl, hI4⟩

def fn_Sc_isWrongAmongMain (Z : zd) (w : wd) : Bool := (if (w 105 7) = -1 ∨ (w 105 7) = 79 ∨ (w 105 7) = 81 ∨ (w 105 7) = 88 ∨ (w 105 7) = 97 ∨ (w 105 7) = 146 ∨ (w 105 7) = 147 then true else false)
set_option maxHeartbeats 1600000 in
set_option maxRecDepth 100000 in
theorem c_Sc_isWrongAmongMain {G : sm_G} {b : Nat} {M0 M : sm_M} {Z : zd} {w : wd}  (hI : lo_in G cm_L b M0 M w) (hZ : cz_at G b M0 Z) : sm_C G mf_Sc_isWrongAmongMain [.ref (b + 105)] M 0 0 (sm_pu M (.int (bi (fn_Sc_isWrongAmongMain Z w)))) := by
  obtain ⟨R, hf⟩ : ∃ R, fn_Sc_isWrongAmongMain Z w = R := ⟨_, rfl⟩
  rw [hf]
  unfold fn_Sc_isWrongAmongMain at hf
  have hZ := hZ.go hI.2
  have hI := hI.here
  refine sm_ofW rfl (Nat.le_of_ble_eq_true rfl) ?_
  refine sm_aload_n d_Sc_isWrongAmongMain_0 rfl (j := 0) rfl ?_
  refine lo_get (v := .int (w 105 7)) d_Sc_isWrongAmongMain_1 fg_Sc_97 hI cl_105 rfl ?_
  by_cases h1 : (w 105 7) = -1 ∨ (w 105 7) = 79 ∨ (w 105 7) = 81 ∨ (w 105 7) = 88 ∨ (w 105 7) = 97 ∨ (w 105 7) = 146 ∨ (w 105 7) = 147
  · rw [if_pos h1] at hf
    rcases h1 with h1 | h1 | h1 | h1 | h1 | h1 | h1
    · refine sm_lookup (tgt := 72) d_Sc_isWrongAmongMain_4 (by decide) (by rw [h1] <;> rfl) (by decide) ?_
      refine sm_iconst (v := 1) d_Sc_isWrongAmongMain_72 (by decide) ?_
      subst hf
      refine sm_ireturn d_Sc_isWrongAmongMain_73 rfl (by rfl) ?_
      exact ⟨rfl, rfl⟩
    · refine sm_lookup (tgt := 72) d_Sc_isWrongAmongMain_4 (by decide) (by rw [h1] <;> rfl) (by decide) ?_
      refine sm_iconst (v := 1) d_Sc_isWrongAmongMain_72 (by decide) ?_
      subst hf
      refine sm_ireturn d_Sc_isWrongAmongMain_73 rfl (by rfl) ?_
      exact ⟨rfl, rfl⟩
    · refine sm_lookup (tgt := 72) d_Sc_isWrongAmongMain_4 (by decide) (by rw [h1] <;> rfl) (by decide) ?_
      refine sm_iconst (v := 1) d_Sc_isWrongAmongMain_72 (by decide) ?_
      subst hf
      refine sm_ireturn d_Sc_isWrongAmongMain_73 rfl (by rfl) ?_
      exact ⟨rfl, rfl⟩
    · refine sm_lookup (tgt := 72) d_Sc_isWrongAmongMain_4 (by decide) (by rw [h1] <;> rfl) (by decide) ?_
      refine sm_iconst (v := 1) d_Sc_isWrongAmongMain_72 (by decide) ?_
      subst hf
      refine sm_ireturn d_Sc_isWrongAmongMain_73 rfl (by rfl) ?_
      exact ⟨rfl, rfl⟩
    · refine sm_lookup (tgt := 72) d_Sc_isWrongAmongMain_4 (by decide) (by rw [h1] <;> rfl) (by decide) ?_
      refine sm_iconst (v := 1) d_Sc_isWrongAmongMain_72 (by decide) ?_
      subst hf
      refine sm_ireturn d_Sc_isWrongAmongMain_73 rfl (by rfl) ?_
      exact ⟨rfl, rfl⟩
    · refine sm_lookup (tgt := 72) d_Sc_isWrongAmongMain_4 (by decide) (by rw [h1] <;> rfl) (by decide) ?_
      refine sm_iconst (v := 1) d_Sc_isWrongAmongMain_72 (by decide) ?_
      subst hf
      refine sm_ireturn d_Sc_isWrongAmongMain_73 rfl (by rfl) ?_
      exact ⟨rfl, rfl⟩
    · refine sm_lookup (tgt := 72) d_Sc_isWrongAmongMain_4 (by decide) (by rw [h1] <;> rfl) (by decide) ?_
      refine sm_iconst (v := 1) d_Sc_isWrongAmongMain_72 (by decide) ?_
      subst hf
      refine sm_ireturn d_Sc_isWrongAmongMain_73 rfl (by rfl) ?_
      exact ⟨rfl, rfl⟩
  · rw [if_neg h1] at hf
    refine sm_lookup (tgt := 74) d_Sc_isWrongAmongMain_4 (by decide) (lo_offD (List.forall_mem_cons.mpr ⟨(fun e9 => (fun e8 => h1 (Or.inl e8)) (sm_eqI.mpr (e9.symm.trans (by decide)))), List.forall_mem_cons.mpr ⟨(fun e9 => (fun e8 => h1 (Or.inr (Or.inl e8))) (sm_eqI.mpr (e9.symm.trans (by decide)))), List.forall_mem_cons.mpr ⟨(fun e9 => (fun e8 => h1 (Or.inr (Or.inr (Or.inl e8)))) (sm_eqI.mpr (e9.symm.trans (by decide)))), List.forall_mem_cons.mpr ⟨(fun e9 => (fun e8 => h1 (Or.inr (Or.inr (Or.inr (Or.inl e8))))) (sm_eqI.mpr (e9.symm.trans (by decide)))), List.forall_mem_cons.mpr ⟨(fun e9 => (fun e8 => h1 (Or.inr (Or.inr (Or.inr (Or.inr (Or.inl e8)))))) (sm_eqI.mpr (e9.symm.trans (by decide)))), List.forall_mem_cons.mpr ⟨(fun e9 => (fun e8 => h1 (Or.inr (Or.inr (Or.inr (Or.inr (Or.inr (Or.inl e8))))))) (sm_eqI.mpr (e9.symm.trans (by decide)))), List.forall_mem_cons.mpr ⟨(fun e9 => (fun e8 => h1 (Or.inr (Or.inr (Or.inr (Or.inr (Or.inr (Or.inr e8))))))) (sm_eqI.mpr (e9.symm.trans (by decide)))), List.forall_mem_nil _⟩⟩⟩⟩⟩⟩⟩)) (by decide) ?_
    refine sm_iconst (v := 0) d_Sc_isWrongAmongMain_74 (by decide) ?_
    subst hf
    refine sm_ireturn d_Sc_isWrongAmongMain_75 rfl (by rfl) ?_
    exact ⟨rfl, rfl⟩

def fn_Sc_isWrongInPart (Z : zd) (w : wd) : Bool := (if (w 105 7) = -1 ∨ (w 105 7) = 79 ∨ (w 105 7) = 81 ∨ (w 105 7) = 85 ∨ (w 105 7) = 87 ∨ (w 105 7) = 96 ∨ (w 105 7) = 99 ∨ (w 105 7) = 144 ∨ (w 105 7) = 146 ∨ (w 105 7) = 217 then true else (if (w 105 7) = 82 ∨ (w 105 7) = 83 ∨ (w 105 7) = 92 ∨ (w 105 7) = 93 ∨ (w 105 7) = 94 ∨ (w 105 7) = 95 then (if (w 105 13) = 0 then true else false) else (if (w 105 7) = 97 then (if (w 105 11) ≤ 0 then false else true) else false)))
set_option maxHeartbeats 1600000 in
set_option maxRecDepth 100000 in
theorem c_Sc_isWrongInPart {G : sm_G} {b : Nat} {M0 M : sm_M} {Z : zd} {w : wd}  (hI : lo_in G cm_L b M0 M w) (hZ : cz_at G b M0 Z) : sm_C G mf_Sc_isWrongInPart [.ref (b + 105)] M 0 0 (sm_pu M (.int (bi (fn_Sc_isWrongInPart Z w)))) := by
  obtain ⟨R, hf⟩ : ∃ R, fn_Sc_isWrongInPart Z w = R := ⟨_, rfl⟩
  rw [hf]
  unfold fn_Sc_isWrongInPart at hf
  have hZ := hZ.go hI.2
  have hI := hI.here
  refine sm_ofW rfl (Nat.le_of_ble_eq_true rfl) ?_
  refine sm_aload_n d_Sc_isWrongInPart_0 rfl (j := 0) rfl ?_
  refine lo_get (v := .int (w 105 7)) d_Sc_isWrongInPart_1 fg_Sc_97 hI cl_105 rfl ?_
  by_cases h1 : (w 105 7) = -1 ∨ (w 105 7) = 79 ∨ (w 105 7) = 81 ∨ (w 105 7) = 85 ∨ (w 105 7) = 87 ∨ (w 105 7) = 96 ∨ (w 105 7) = 99 ∨ (w 105 7) = 144 ∨ (w 105 7) = 146 ∨ (w 105 7) = 217
  · rw [if_pos h1] at hf
    rcases h1 with h1 | h1 | h1 | h1 | h1 | h1 | h1 | h1 | h1 | h1
    · refine sm_lookup (tgt := 152) d_Sc_isWrongInPart_4 (by decide) (by rw [h1] <;> rfl) (by decide) ?_
      refine sm_iconst (v := 1) d_Sc_isWrongInPart_152 (by decide) ?_
      subst hf
      refine sm_ireturn d_Sc_isWrongInPart_153 rfl (by rfl) ?_
      exact ⟨rfl, rfl⟩
    · refine sm_lookup (tgt := 152) d_Sc_isWrongInPart_4 (by decide) (by rw [h1] <;> rfl) (by decide) ?_
      refine sm_iconst (v := 1) d_Sc_isWrongInPart_152 (by decide) ?_
      subst hf
      refine sm_ireturn d_Sc_isWrongInPart_153 rfl (by rfl) ?_
      exact ⟨rfl, rfl⟩
    · refine sm_lookup (tgt := 152) d_Sc_isWrongInPart_4 (by decide) (by rw [h1] <;> rfl) (by decide) ?_
      refine sm_iconst (v := 1) d_Sc_isWrongInPart_152 (by decide) ?_
      subst hf
      refine sm_ireturn d_Sc_isWrongInPart_153 rfl (by rfl) ?_
      exact ⟨rfl, rfl⟩
    · refine sm_lookup (tgt := 152) d_Sc_isWrongInPart_4 (by decide) (by rw [h1] <;> rfl) (by decide) ?_
      refine sm_iconst (v := 1) d_Sc_isWrongInPart_152 (by decide) ?_
      subst hf
      refine sm_ireturn d_Sc_isWrongInPart_153 rfl (by rfl) ?_
      exact ⟨rfl, rfl⟩
    · refine sm_lookup (tgt := 152) d_Sc_isWrongInPart_4 (by decide) (by rw [h1] <;> rfl) (by decide) ?_
      refine sm_iconst (v := 1) d_Sc_isWrongInPart_152 (by decide) ?_
      subst hf
      refine sm_ireturn d_Sc_isWrongInPart_153 rfl (by rfl) ?_
      exact ⟨rfl, rfl⟩
    · refine sm_lookup (tgt := 152) d_Sc_isWrongInPart_4 (by decide) (by rw [h1] <;> rfl) (by decide) ?_
      refine sm_iconst (v := 1) d_Sc_isWrongInPart_152 (by decide) ?_
      subst hf
      refine sm_ireturn d_Sc_isWrongInPart_153 rfl (by rfl) ?_
      exact ⟨rfl, rfl⟩
    · refine sm_lookup (tgt := 152) d_Sc_isWrongInPart_4 (by decide) (by rw [h1] <;> rfl) (by decide) ?_
      refine sm_iconst (v := 1) d_Sc_isWrongInPart_152 (by decide) ?_
      subst hf
      refine sm_ireturn d_Sc_isWrongInPart_153 rfl (by rfl) ?_
      exact ⟨rfl, rfl⟩
    · refine sm_lookup (tgt := 152) d_Sc_isWrongInPart_4 (by decide) (by rw [h1] <;> rfl) (by decide) ?_
      refine sm_iconst (v := 1) d_Sc_isWrongInPart_152 (by decide) ?_
      subst hf
      refine sm_ireturn d_Sc_isWrongInPart_153 rfl (by rfl) ?_
      exact ⟨rfl, rfl⟩
    · refine sm_lookup (tgt := 152) d_Sc_isWrongInPart_4 (by decide) (by rw [h1] <;> rfl) (by decide) ?_
      refine sm_iconst (v := 1) d_Sc_isWrongInPart_152 (by decide) ?_
      subst hf
      refine sm_ireturn d_Sc_isWrongInPart_153 rfl (by rfl) ?_
      exact ⟨rfl, rfl⟩
    · refine sm_lookup (tgt := 152) d_Sc_isWrongInPart_4 (by decide) (by rw [h1] <;> rfl) (by decide) ?_
      refine sm_iconst (v := 1) d_Sc_isWrongInPart_152 (by decide) ?_
      subst hf
      refine sm_ireturn d_Sc_isWrongInPart_153 rfl (by rfl) ?_
      exact ⟨rfl, rfl⟩
  · rw [if_neg h1] at hf
    by_cases h2 : (w 105 7) = 82 ∨ (w 105 7) = 83 ∨ (w 105 7) = 92 ∨ (w 105 7) = 93 ∨ (w 105 7) = 94 ∨ (w 105 7) = 95
    · rw [if_pos h2] at hf
      rcases h2 with h2 | h2 | h2 | h2 | h2 | h2
      · refine sm_lookup (tgt := 154) d_Sc_isWrongInPart_4 (by decide) (by rw [h2] <;> rfl) (by decide) ?_
        refine sm_aload_n d_Sc_isWrongInPart_154 rfl (j := 0) rfl ?_
        refine lo_get (v := .int (w 105 13)) d_Sc_isWrongInPart_155 fg_Sc_132 hI cl_105 rfl ?_
        refine sm_if_ne (tgt := 165) d_Sc_isWrongInPart_158 (by decide) (fun h3 => ?_) (fun h3 => ?_)
        · rw [if_neg h3] at hf
          refine sm_iconst (v := 0) d_Sc_isWrongInPart_165 (by decide) ?_
          subst hf
          refine sm_ireturn d_Sc_isWrongInPart_166 rfl (by rfl) ?_
          exact ⟨rfl, rfl⟩
        · rw [if_pos h3] at hf
          refine sm_iconst (v := 1) d_Sc_isWrongInPart_161 (by decide) ?_
          refine sm_goto (tgt := 166) d_Sc_isWrongInPart_162 (by decide) ?_
          subst hf
          refine sm_ireturn d_Sc_isWrongInPart_166 rfl (by rfl) ?_
          exact ⟨rfl, rfl⟩
      · refine sm_lookup (tgt := 154) d_Sc_isWrongInPart_4 (by decide) (by rw [h2] <;> rfl) (by decide) ?_
        refine sm_aload_n d_Sc_isWrongInPart_154 rfl (j := 0) rfl ?_
        refine lo_get (v := .int (w 105 13)) d_Sc_isWrongInPart_155 fg_Sc_132 hI cl_105 rfl ?_
        refine sm_if_ne (tgt := 165) d_Sc_isWrongInPart_158 (by decide) (fun h3 => ?_) (fun h3 => ?_)
        · rw [if_neg h3] at hf
          refine sm_iconst (v := 0) d_Sc_isWrongInPart_165 (by decide) ?_
          subst hf
          refine sm_ireturn d_Sc_isWrongInPart_166 rfl (by rfl) ?_
          exact ⟨rfl, rfl⟩
        · rw [if_pos h3] at hf
          refine sm_iconst (v := 1) d_Sc_isWrongInPart_161 (by decide) ?_
          refine sm_goto (tgt := 166) d_Sc_isWrongInPart_162 (by decide) ?_
          subst hf
          refine sm_ireturn d_Sc_isWrongInPart_166 rfl (by rfl) ?_
          exact ⟨rfl, rfl⟩
      · refine sm_lookup (tgt := 154) d_Sc_isWrongInPart_4 (by decide) (by rw [h2] <;> rfl) (by decide) ?_
        refine sm_aload_n d_Sc_isWrongInPart_154 rfl (j := 0) rfl ?_
        refine lo_get (v := .int (w 105 13)) d_Sc_isWrongInPart_155 fg_Sc_132 hI cl_105 rfl ?_
        refine sm_if_ne (tgt := 165) d_Sc_isWrongInPart_158 (by decide) (fun h3 => ?_) (fun h3 => ?_)
        · rw [if_neg h3] at hf
          refine sm_iconst (v := 0) d_Sc_isWrongInPart_165 (by decide) ?_
          subst hf
          refine sm_ireturn d_Sc_isWrongInPart_166 rfl (by rfl) ?_
          exact ⟨rfl, rfl⟩
        · rw [if_pos h3] at hf
          refine sm_iconst (v := 1) d_Sc_isWrongInPart_161 (by decide) ?_
          refine sm_goto (tgt := 166) d_Sc_isWrongInPart_162 (by decide) ?_
          subst hf
          refine sm_ireturn d_Sc_isWrongInPart_166 rfl (by rfl) ?_
          exact ⟨rfl, rfl⟩
      · refine sm_lookup (tgt := 154) d_Sc_isWrongInPart_4 (by decide) (by rw [h2] <;> rfl) (by decide) ?_
        refine sm_aload_n d_Sc_isWrongInPart_154 rfl (j := 0) rfl ?_
        refine lo_get (v := .int (w 105 13)) d_Sc_isWrongInPart_155 fg_Sc_132 hI cl_105 rfl ?_
        refine sm_if_ne (tgt := 165) d_Sc_isWrongInPart_158 (by decide) (fun h3 => ?_) (fun h3 => ?_)
        · rw [if_neg h3] at hf
          refine sm_iconst (v := 0) d_Sc_isWrongInPart_165 (by decide) ?_
          subst hf
          refine sm_ireturn d_Sc_isWrongInPart_166 rfl (by rfl) ?_
          exact ⟨rfl, rfl⟩
        · rw [if_pos h3] at hf
          refine sm_iconst (v := 1) d_Sc_isWrongInPart_161 (by decide) ?_
          refine sm_goto (tgt := 166) d_Sc_isWrongInPart_162 (by decide) ?_
          subst hf
          refine sm_ireturn d_Sc_isWrongInPart_166 rfl (by rfl) ?_
          exact ⟨rfl, rfl⟩
      · refine sm_lookup (tgt := 154) d_Sc_isWrongInPart_4 (by decide) (by rw [h2] <;> rfl) (by decide) ?_
        refine sm_aload_n d_Sc_isWrongInPart_154 rfl (j := 0) rfl ?_
        refine lo_get (v := .int (w 105 13)) d_Sc_isWrongInPart_155 fg_Sc_132 hI cl_105 rfl ?_
        refine sm_if_ne (tgt := 165) d_Sc_isWrongInPart_158 (by decide) (fun h3 => ?_) (fun h3 => ?_)
        · rw [if_neg h3] at hf
          refine sm_iconst (v := 0) d_Sc_isWrongInPart_165 (by decide) ?_
          subst hf
          refine sm_ireturn d_Sc_isWrongInPart_166 rfl (by rfl) ?_
          exact ⟨rfl, rfl⟩
        · rw [if_pos h3] at hf
          refine sm_iconst (v := 1) d_Sc_isWrongInPart_161 (by decide) ?_
          refine sm_goto (tgt := 166) d_Sc_isWrongInPart_162 (by decide) ?_
          subst hf
          refine sm_ireturn d_Sc_isWrongInPart_166 rfl (by rfl) ?_
          exact ⟨rfl, rfl⟩
      · refine sm_lookup (tgt := 154) d_Sc_isWrongInPart_4 (by decide) (by rw [h2] <;> rfl) (by decide) ?_
        refine sm_aload_n d_Sc_isWrongInPart_154 rfl (j := 0) rfl ?_
        refine lo_get (v := .int (w 105 13)) d_Sc_isWrongInPart_155 fg_Sc_132 hI cl_105 rfl ?_
        refine sm_if_ne (tgt := 165) d_Sc_isWrongInPart_158 (by decide) (fun h3 => ?_) (fun h3 => ?_)
        · rw [if_neg h3] at hf
          refine sm_iconst (v := 0) d_Sc_isWrongInPart_165 (by decide) ?_
          subst hf
          refine sm_ireturn d_Sc_isWrongInPart_166 rfl (by rfl) ?_
          exact ⟨rfl, rfl⟩
        · rw [if_pos h3] at hf
          refine sm_iconst (v := 1) d_Sc_isWrongInPart_161 (by decide) ?_
          refine sm_goto (tgt := 166) d_Sc_isWrongInPart_162 (by decide) ?_
          subst hf
          refine sm_ireturn d_Sc_isWrongInPart_166 rfl (by rfl) ?_
          exact ⟨rfl, rfl⟩
    · rw [if_neg h2] at hf
      by_cases h4 : (w 105 7) = 97
      · rw [if_pos h4] at hf
        refine sm_lookup (tgt := 167) d_Sc_isWrongInPart_4 (by decide) (by rw [h4] <;> rfl) (by decide) ?_
        refine sm_aload_n d_Sc_isWrongInPart_167 rfl (j := 0) rfl ?_
        refine lo_get (v := .int (w 105 11)) d_Sc_isWrongInPart_168 fg_Sc_65 hI cl_105 rfl ?_
        refine sm_if_le (tgt := 178) d_Sc_isWrongInPart_171 (by decide) (fun h5 => ?_) (fun h5 => ?_)
        · rw [if_pos h5] at hf
          refine sm_iconst (v := 0) d_Sc_isWrongInPart_178 (by decide) ?_
          subst hf
          refine sm_ireturn d_Sc_isWrongInPart_179 rfl (by rfl) ?_
          exact ⟨rfl, rfl⟩
        · rw [if_neg h5] at hf
          refine sm_iconst (v := 1) d_Sc_isWrongInPart_174 (by decide) ?_
          refine sm_goto (tgt := 179) d_Sc_isWrongInPart_175 (by decide) ?_
          subst hf
          refine sm_ireturn d_Sc_isWrongInPart_179 rfl (by rfl) ?_
          exact ⟨rfl, rfl⟩
      · rw [if_neg h4] at hf
        refine sm_lookup (tgt := 180) d_Sc_isWrongInPart_4 (by decide) (lo_offD (List.forall_mem_cons.mpr ⟨(fun e9 => (fun e8 => h1 (Or.inl e8)) (sm_eqI.mpr (e9.symm.trans (by decide)))), List.forall_mem_cons.mpr ⟨(fun e9 => (fun e8 => h1 (Or.inr (Or.inl e8))) (sm_eqI.mpr (e9.symm.trans (by decide)))), List.forall_mem_cons.mpr ⟨(fun e9 => (fun e8 => h1 (Or.inr (Or.inr (Or.inl e8)))) (sm_eqI.mpr (e9.symm.trans (by decide)))), List.forall_mem_cons.mpr ⟨(fun e9 => (fun e8 => h2 (Or.inl e8)) (sm_eqI.mpr (e9.symm.trans (by decide)))), List.forall_mem_cons.mpr ⟨(fun e9 => (fun e8 => h2 (Or.inr (Or.inl e8))) (sm_eqI.mpr (e9.symm.trans (by decide)))), List.forall_mem_cons.mpr ⟨(fun e9 => (fun e8 => h1 (Or.inr (Or.inr (Or.inr (Or.inl e8))))) (sm_eqI.mpr (e9.symm.trans (by decide)))), List.forall_mem_cons.mpr ⟨(fun e9 => (fun e8 => h1 (Or.inr (Or.inr (Or.inr (Or.inr (Or.inl e8)))))) (sm_eqI.mpr (e9.symm.trans (by decide)))), List.forall_mem_cons.mpr ⟨(fun e9 => (fun e8 => h2 (Or.inr (Or.inr (Or.inl e8)))) (sm_eqI.mpr (e9.symm.trans (by decide)))), List.forall_mem_cons.mpr ⟨(fun e9 => (fun e8 => h2 (Or.inr (Or.inr (Or.inr (Or.inl e8))))) (sm_eqI.mpr (e9.symm.trans (by decide)))), List.forall_mem_cons.mpr ⟨(fun e9 => (fun e8 => h2 (Or.inr (Or.inr (Or.inr (Or.inr (Or.inl e8)))))) (sm_eqI.mpr (e9.symm.trans (by decide)))), List.forall_mem_cons.mpr ⟨(fun e9 => (fun e8 => h2 (Or.inr (Or.inr (Or.inr (Or.inr (Or.inr e8)))))) (sm_eqI.mpr (e9.symm.trans (by decide)))), List.forall_mem_cons.mpr ⟨(fun e9 => (fun e8 => h1 (Or.inr (Or.inr (Or.inr (Or.inr (Or.inr (Or.inl e8))))))) (sm_eqI.mpr (e9.symm.trans (by decide)))), List.forall_mem_cons.mpr ⟨(fun e9 => h4 (sm_eqI.mpr (e9.symm.trans (by decide)))), List.forall_mem_cons.mpr ⟨(fun e9 => (fun e8 => h1 (Or.inr (Or.inr (Or.inr (Or.inr (Or.inr (Or.inr (Or.inl e8)))))))) (sm_eqI.mpr (e9.symm.trans (by decide)))), List.forall_mem_cons.mpr ⟨(fun e9 => (fun e8 => h1 (Or.inr (Or.inr (Or.inr (Or.inr (Or.inr (Or.inr (Or.inr (Or.inl e8))))))))) (sm_eqI.mpr (e9.symm.trans (by decide)))), List.forall_mem_cons.mpr ⟨(fun e9 => (fun e8 => h1 (Or.inr (Or.inr (Or.inr (Or.inr (Or.inr (Or.inr (Or.inr (Or.inr (Or.inl e8)))))))))) (sm_eqI.mpr (e9.symm.trans (by decide)))), List.forall_mem_cons.mpr ⟨(fun e9 => (fun e8 => h1 (Or.inr (Or.inr (Or.inr (Or.inr (Or.inr (Or.inr (Or.inr (Or.inr (Or.inr e8)))))))))) (sm_eqI.mpr (e9.symm.trans (by decide)))), List.forall_mem_nil _⟩⟩⟩⟩⟩⟩⟩⟩⟩⟩⟩⟩⟩⟩⟩⟩⟩)) (by decide) ?_
        refine sm_iconst (v := 0) d_Sc_isWrongInPart_180 (by decide) ?_
        subst hf
        refine sm_ireturn d_Sc_isWrongInPart_181 rfl (by rfl) ?_
        exact ⟨rfl, rfl⟩

def fn_Sc_isWrong (Z : zd) (w : wd) : Bool := (if (w 105 4) = 0 then (if (w 105 7) = (79 : Int32) then false else true) else (if (w 105 4) = 1 then (if (w 105 7) = (81 : Int32) then false else true) else (if (w 105 4) = 2 then (fn_Sc_isWrongAmongMain Z w) else (if (w 105 4) = 3 then (fn_Sc_isWrongInPart Z w) else (if (w 105 7) = (144 : Int32) then false else (if (w 105 7) = (217 : Int32) then false else true))))))
set_option maxHeartbeats 1600000 in
set_option maxRecDepth 100000 in
theorem c_Sc_isWrong {G : sm_G} {b : Nat} {M0 M : sm_M} {Z : zd} {w : wd}  (hI : lo_in G cm_L b M0 M w) (hZ : cz_at G b M0 Z) : sm_C G mf_Sc_isWrong [.ref (b + 105)] M 0 0 (sm_pu M (.int (bi (fn_Sc_isWrong Z w)))) := by
  obtain ⟨R, hf⟩ : ∃ R, fn_Sc_isWrong Z w = R := ⟨_, rfl⟩
  rw [hf]
  unfold fn_Sc_isWrong at hf
  have hZ := hZ.go hI.2
  have hI := hI.here
  refine sm_ofW rfl (Nat.le_of_ble_eq_true rfl) ?_
  refine sm_aload_n d_Sc_isWrong_0 rfl (j := 0) rfl ?_
  refine lo_get (v := .int (w 105 4)) d_Sc_isWrong_1 fg_Sc_39 hI cl_105 rfl ?_
  by_cases h1 : (w 105 4) = 0
  · rw [if_pos h1] at hf
    refine sm_tableIn (tgt := 36) d_Sc_isWrong_4 (by rw [h1] <;> decide) (by rw [h1] <;> decide) (by rw [h1] <;> rfl) (by decide) ?_
    refine sm_aload_n d_Sc_isWrong_36 rfl (j := 0) rfl ?_
    refine lo_get (v := .int (w 105 7)) d_Sc_isWrong_37 fg_Sc_97 hI cl_105 rfl ?_
    refine sm_bipush (v := 79) d_Sc_isWrong_40 (by decide) ?_
    refine sm_icmp_eq (tgt := 49) d_Sc_isWrong_42 (by decide) (fun h2 => ?_) (fun h2 => ?_)
    · rw [if_pos h2] at hf
      refine sm_iconst (v := 0) d_Sc_isWrong_49 (by decide) ?_
      subst hf
      refine sm_ireturn d_Sc_isWrong_50 rfl (by rfl) ?_
      exact ⟨rfl, rfl⟩
    · rw [if_neg h2] at hf
      refine sm_iconst (v := 1) d_Sc_isWrong_45 (by decide) ?_
      refine sm_goto (tgt := 50) d_Sc_isWrong_46 (by decide) ?_
      subst hf
      refine sm_ireturn d_Sc_isWrong_50 rfl (by rfl) ?_
      exact ⟨rfl, rfl⟩
  · rw [if_neg h1] at hf
    by_cases h3 : (w 105 4) = 1
    · rw [if_pos h3] at hf
      refine sm_tableIn (tgt := 51) d_Sc_isWrong_4 (by rw [h3] <;> decide) (by rw [h3] <;> decide) (by rw [h3] <;> rfl) (by decide) ?_
      refine sm_aload_n d_Sc_isWrong_51 rfl (j := 0) rfl ?_
      refine lo_get (v := .int (w 105 7)) d_Sc_isWrong_52 fg_Sc_97 hI cl_105 rfl ?_
      refine sm_bipush (v := 81) d_Sc_isWrong_55 (by decide) ?_
      refine sm_icmp_eq (tgt := 64) d_Sc_isWrong_57 (by decide) (fun h4 => ?_) (fun h4 => ?_)
      · rw [if_pos h4] at hf
        refine sm_iconst (v := 0) d_Sc_isWrong_64 (by decide) ?_
        subst hf
        refine sm_ireturn d_Sc_isWrong_65 rfl (by rfl) ?_
        exact ⟨rfl, rfl⟩
      · rw [if_neg h4] at hf
        refine sm_iconst (v := 1) d_Sc_isWrong_60 (by decide) ?_
        refine sm_goto (tgt := 65) d_Sc_isWrong_61 (by decide) ?_
        subst hf
        refine sm_ireturn d_Sc_isWrong_65 rfl (by rfl) ?_
        exact ⟨rfl, rfl⟩
    · rw [if_neg h3] at hf
      by_cases h5 : (w 105 4) = 2
      · rw [if_pos h5] at hf
        refine sm_tableIn (tgt := 66) d_Sc_isWrong_4 (by rw [h5] <;> decide) (by rw [h5] <;> decide) (by rw [h5] <;> rfl) (by decide) ?_
        refine sm_aload_n d_Sc_isWrong_66 rfl (j := 0) rfl ?_
        refine lo_callV d_Sc_isWrong_67 cs_Sc_isWrong_126 rfl hI cl_105 (As := []) rfl rfl (Nat.le_of_ble_eq_true rfl) (c_Sc_isWrongAmongMain hI hZ) ?_
        subst hf
        refine sm_ireturn d_Sc_isWrong_70 rfl (bi_n _) ?_
        exact ⟨rfl, rfl⟩
      · rw [if_neg h5] at hf
        by_cases h6 : (w 105 4) = 3
        · rw [if_pos h6] at hf
          refine sm_tableIn (tgt := 71) d_Sc_isWrong_4 (by rw [h6] <;> decide) (by rw [h6] <;> decide) (by rw [h6] <;> rfl) (by decide) ?_
          refine sm_aload_n d_Sc_isWrong_71 rfl (j := 0) rfl ?_
          refine lo_callV d_Sc_isWrong_72 cs_Sc_isWrong_129 rfl hI cl_105 (As := []) rfl rfl (Nat.le_of_ble_eq_true rfl) (c_Sc_isWrongInPart hI hZ) ?_
          subst hf
          refine sm_ireturn d_Sc_isWrong_75 rfl (bi_n _) ?_
          exact ⟨rfl, rfl⟩
        · rw [if_neg h6] at hf
          refine sm_tableOut (tgt := 76) d_Sc_isWrong_4 (by have := (mt sm_eqI.mpr h1); rw [show ((0 : Int32)).toInt = 0 by decide] at this; have := (mt sm_eqI.mpr h3); rw [show ((1 : Int32)).toInt = 1 by decide] at this; have := (mt sm_eqI.mpr h5); rw [show ((2 : Int32)).toInt = 2 by decide] at this; have := (mt sm_eqI.mpr h6); rw [show ((3 : Int32)).toInt = 3 by decide] at this; omega) (by decide) ?_
          refine sm_aload_n d_Sc_isWrong_76 rfl (j := 0) rfl ?_
          refine lo_get (v := .int (w 105 7)) d_Sc_isWrong_77 fg_Sc_97 hI cl_105 rfl ?_
          refine sm_sipush (v := 144) d_Sc_isWrong_80 (by decide) ?_
          refine sm_icmp_eq (tgt := 100) d_Sc_isWrong_83 (by decide) (fun h7 => ?_) (fun h7 => ?_)
          · rw [if_pos h7] at hf
            refine sm_iconst (v := 0) d_Sc_isWrong_100 (by decide) ?_
            subst hf
            refine sm_ireturn d_Sc_isWrong_101 rfl (by rfl) ?_
            exact ⟨rfl, rfl⟩
          · rw [if_neg h7] at hf
            refine sm_aload_n d_Sc_isWrong_86 rfl (j := 0) rfl ?_
            refine lo_get (v := .int (w 105 7)) d_Sc_isWrong_87 fg_Sc_97 hI cl_105 rfl ?_
            refine sm_sipush (v := 217) d_Sc_isWrong_90 (by decide) ?_
            refine sm_icmp_eq (tgt := 100) d_Sc_isWrong_93 (by decide) (fun h8 => ?_) (fun h8 => ?_)
            · rw [if_pos h8] at hf
              refine sm_iconst (v := 0) d_Sc_isWrong_100 (by decide) ?_
              subst hf
              refine sm_ireturn d_Sc_isWrong_101 rfl (by rfl) ?_
              exact ⟨rfl, rfl⟩
            · rw [if_neg h8] at hf
              refine sm_iconst (v := 1) d_Sc_isWrong_96 (by decide) ?_
              refine sm_goto (tgt := 101) d_Sc_isWrong_97 (by decide) ?_
              subst hf
              refine sm_ireturn d_Sc_isWrong_101 rfl (by rfl) ?_
              exact ⟨rfl, rfl⟩

def fn_Sc_told2 (Z : zd) (w : wd) (x1 : Int32) : Int32 := (nI (rw_u2 Z.1.1 (((w 105 5) + (4 : Int32)) + x1).toInt))
set_option maxHeartbeats 1600000 in
set_option maxRecDepth 100000 in
theorem c_Sc_told2 {G : sm_G} {b : Nat} {M0 M : sm_M} {Z : zd} {w : wd}  (hI : lo_in G cm_L b M0 M w) (hZ : cz_at G b M0 Z) (x1 : Int32)  : sm_C G mf_Sc_told2 [.ref (b + 105), .int x1] M 0 0 (sm_pu M (.int (fn_Sc_told2 Z w x1))) := by
  obtain ⟨R, hf⟩ : ∃ R, fn_Sc_told2 Z w x1 = R := ⟨_, rfl⟩
  rw [hf]
  unfold fn_Sc_told2 at hf
  have hZ := hZ.go hI.2
  have hI := hI.here
  refine sm_ofW rfl (Nat.le_of_ble_eq_true rfl) ?_
  refine sm_aload_n d_Sc_told2_0 rfl (j := 0) rfl ?_
  refine lo_get (v := .ref (b + 101)) d_Sc_told2_1 fg_Sc_32 hI cl_105 rfl ?_
  refine sm_aload_n d_Sc_told2_4 rfl (j := 0) rfl ?_
  refine lo_get (v := .int (w 105 5)) d_Sc_told2_5 fg_Sc_50 hI cl_105 rfl ?_
  refine sm_iconst (v := 4) d_Sc_told2_8 (by decide) ?_
  refine sm_iadd d_Sc_told2_9 ?_
  refine sm_iload_n d_Sc_told2_10 rfl (j := 1) rfl ?_
  refine sm_iadd d_Sc_told2_11 ?_
  refine cm_callR d_Sc_told2_12 cs_Sc_told2_123 rfl (cz_c1 hI hZ) (As := [.int (((w 105 5) + (4 : Int32)) + x1)]) rfl rfl (Nat.le_of_ble_eq_true rfl) (cz_u21 hI hZ (((w 105 5) + (4 : Int32)) + x1)) ?_
  subst hf
  refine sm_ireturn d_Sc_told2_15 rfl (by rfl) ?_
  exact ⟨rfl, rfl⟩

def fn_Sc_told (Z : zd) (w : wd) (x1 : Int32) : Int32 := (nI (rw_u1 Z.1.1 (((w 105 5) + (4 : Int32)) + x1).toInt))
set_option maxHeartbeats 1600000 in
set_option maxRecDepth 100000 in
theorem c_Sc_told {G : sm_G} {b : Nat} {M0 M : sm_M} {Z : zd} {w : wd}  (hI : lo_in G cm_L b M0 M w) (hZ : cz_at G b M0 Z) (x1 : Int32)  : sm_C G mf_Sc_told [.ref (b + 105), .int x1] M 0 0 (sm_pu M (.int (fn_Sc_told Z w x1))) := by
  obtain ⟨R, hf⟩ : ∃ R, fn_Sc_told Z w x1 = R := ⟨_, rfl⟩
  rw [hf]
  unfold fn_Sc_told at hf
  have hZ := hZ.go hI.2
  have hI := hI.here
  refine sm_ofW rfl (Nat.le_of_ble_eq_true rfl) ?_
  refine sm_aload_n d_Sc_told_0 rfl (j := 0) rfl ?_
  refine lo_get (v := .ref (b + 101)) d_Sc_told_1 fg_Sc_32 hI cl_105 rfl ?_
  refine sm_aload_n d_Sc_told_4 rfl (j := 0) rfl ?_
  refine lo_get (v := .int (w 105 5)) d_Sc_told_5 fg_Sc_50 hI cl_105 rfl ?_
  refine sm_iconst (v := 4) d_Sc_told_8 (by decide) ?_
  refine sm_iadd d_Sc_told_9 ?_
  refine sm_iload_n d_Sc_told_10 rfl (j := 1) rfl ?_
  refine sm_iadd d_Sc_told_11 ?_
  refine cm_callR d_Sc_told_12 cs_Sc_told_116 rfl (cz_c1 hI hZ) (As := [.int (((w 105 5) + (4 : Int32)) + x1)]) rfl rfl (Nat.le_of_ble_eq_true rfl) (cz_u11 hI hZ (((w 105 5) + (4 : Int32)) + x1)) ?_
  subst hf
  refine sm_ireturn d_Sc_told_15 rfl (by rfl) ?_
  exact ⟨rfl, rfl⟩

def fn_Sc_precinctBytes (x0 : Int32) (x1 : Int32) : Int32 := (if (x0 &&& (1 : Int32)) = 0 then (0 : Int32) else (x1 + (1 : Int32)))
set_option maxHeartbeats 1600000 in
set_option maxRecDepth 100000 in
theorem c_Sc_precinctBytes {G : sm_G} {M : sm_M}   (x0 : Int32) (x1 : Int32)  : sm_C G mf_Sc_precinctBytes [.int x0, .int x1] M 0 0 (sm_pu M (.int (fn_Sc_precinctBytes x0 x1))) := by
  obtain ⟨R, hf⟩ : ∃ R, fn_Sc_precinctBytes x0 x1 = R := ⟨_, rfl⟩
  rw [hf]
  unfold fn_Sc_precinctBytes at hf
  refine sm_ofW rfl (Nat.le_of_ble_eq_true rfl) ?_
  refine sm_iload_n d_Sc_precinctBytes_0 rfl (j := 0) rfl ?_
  refine sm_iconst (v := 1) d_Sc_precinctBytes_1 (by decide) ?_
  refine sm_iand d_Sc_precinctBytes_2 ?_
  refine sm_if_eq (tgt := 12) d_Sc_precinctBytes_3 (by decide) (fun h1 => ?_) (fun h1 => ?_)
  · rw [if_pos h1] at hf
    refine sm_iconst (v := 0) d_Sc_precinctBytes_12 (by decide) ?_
    subst hf
    refine sm_ireturn d_Sc_precinctBytes_13 rfl (by rfl) ?_
    exact ⟨rfl, rfl⟩
  · rw [if_neg h1] at hf
    refine sm_iload_n d_Sc_precinctBytes_6 rfl (j := 1) rfl ?_
    refine sm_iconst (v := 1) d_Sc_precinctBytes_7 (by decide) ?_
    refine sm_iadd d_Sc_precinctBytes_8 ?_
    refine sm_goto (tgt := 13) d_Sc_precinctBytes_9 (by decide) ?_
    subst hf
    refine sm_ireturn d_Sc_precinctBytes_13 rfl (by rfl) ?_
    exact ⟨rfl, rfl⟩

def fn_Sc_isCountOfSteps (x0 : Int32) : Bool := (if (97 : Int32) < x0 then false else (if (x0 - x0 / (3 : Int32) * (3 : Int32)) = (1 : Int32) then true else false))
set_option maxHeartbeats 1600000 in
set_option maxRecDepth 100000 in
theorem c_Sc_isCountOfSteps {G : sm_G} {M : sm_M}   (x0 : Int32)  : sm_C G mf_Sc_isCountOfSteps [.int x0] M 0 0 (sm_pu M (.int (bi (fn_Sc_isCountOfSteps x0)))) := by
  obtain ⟨R, hf⟩ : ∃ R, fn_Sc_isCountOfSteps x0 = R := ⟨_, rfl⟩
  rw [hf]
  unfold fn_Sc_isCountOfSteps at hf
  refine sm_ofW rfl (Nat.le_of_ble_eq_true rfl) ?_
  refine sm_iload_n d_Sc_isCountOfSteps_0 rfl (j := 0) rfl ?_
  refine sm_bipush (v := 97) d_Sc_isCountOfSteps_1 (by decide) ?_
  refine sm_icmp_gt (tgt := 17) d_Sc_isCountOfSteps_3 (by decide) (fun h1 => ?_) (fun h1 => ?_)
  · rw [if_pos h1] at hf
    refine sm_iconst (v := 0) d_Sc_isCountOfSteps_17 (by decide) ?_
    subst hf
    refine sm_ireturn d_Sc_isCountOfSteps_18 rfl (by rfl) ?_
    exact ⟨rfl, rfl⟩
  · rw [if_neg h1] at hf
    refine sm_iload_n d_Sc_isCountOfSteps_6 rfl (j := 0) rfl ?_
    refine sm_iconst (v := 3) d_Sc_isCountOfSteps_7 (by decide) ?_
    refine sm_irem d_Sc_isCountOfSteps_8 (by decide) ?_
    refine sm_iconst (v := 1) d_Sc_isCountOfSteps_9 (by decide) ?_
    refine sm_icmp_ne (tgt := 17) d_Sc_isCountOfSteps_10 (by decide) (fun h2 => ?_) (fun h2 => ?_)
    · rw [if_neg h2] at hf
      refine sm_iconst (v := 0) d_Sc_isCountOfSteps_17 (by decide) ?_
      subst hf
      refine sm_ireturn d_Sc_isCountOfSteps_18 rfl (by rfl) ?_
      exact ⟨rfl, rfl⟩
    · rw [if_pos h2] at hf
      refine sm_iconst (v := 1) d_Sc_isCountOfSteps_13 (by decide) ?_
      refine sm_goto (tgt := 18) d_Sc_isCountOfSteps_14 (by decide) ?_
      subst hf
      refine sm_ireturn d_Sc_isCountOfSteps_18 rfl (by rfl) ?_
      exact ⟨rfl, rfl⟩

def fn_Sc_hasLengthOfSteps (Z : zd) (w : wd) (x1 : Int32) : Bool := (if 0 ≤ (((w 105 8) - (3 : Int32)) - x1) then (if ((fn_Sc_told Z w x1) &&& (31 : Int32)) = 0 then (fn_Sc_isCountOfSteps (((w 105 8) - (3 : Int32)) - x1)) else (if ((fn_Sc_told Z w x1) &&& (31 : Int32)) = 1 then (if (((w 105 8) - (3 : Int32)) - x1) = (2 : Int32) then true else false) else (if ((fn_Sc_told Z w x1) &&& (31 : Int32)) = 2 then (if ((((w 105 8) - (3 : Int32)) - x1) - (((w 105 8) - (3 : Int32)) - x1) / (2 : Int32) * (2 : Int32)) = 0 then (if (fn_Sc_isCountOfSteps ((((w 105 8) - (3 : Int32)) - x1) / (2 : Int32))) = true then true else false) else false) else true))) else false)
set_option maxHeartbeats 1600000 in
set_option maxRecDepth 100000 in
theorem c_Sc_hasLengthOfSteps {G : sm_G} {b : Nat} {M0 M : sm_M} {Z : zd} {w : wd}  (hI : lo_in G cm_L b M0 M w) (hZ : cz_at G b M0 Z) (x1 : Int32)  : sm_C G mf_Sc_hasLengthOfSteps [.ref (b + 105), .int x1] M 0 0 (sm_pu M (.int (bi (fn_Sc_hasLengthOfSteps Z w x1)))) := by
  obtain ⟨R, hf⟩ : ∃ R, fn_Sc_hasLengthOfSteps Z w x1 = R := ⟨_, rfl⟩
  rw [hf]
  unfold fn_Sc_hasLengthOfSteps at hf
  have hZ := hZ.go hI.2
  have hI := hI.here
  refine sm_ofW rfl (Nat.le_of_ble_eq_true rfl) ?_
  refine sm_aload_n d_Sc_hasLengthOfSteps_0 rfl (j := 0) rfl ?_
  refine lo_get (v := .int (w 105 8)) d_Sc_hasLengthOfSteps_1 fg_Sc_113 hI cl_105 rfl ?_
  refine sm_iconst (v := 3) d_Sc_hasLengthOfSteps_4 (by decide) ?_
  refine sm_isub d_Sc_hasLengthOfSteps_5 ?_
  refine sm_iload_n d_Sc_hasLengthOfSteps_6 rfl (j := 1) rfl ?_
  refine sm_isub d_Sc_hasLengthOfSteps_7 ?_
  refine sm_istore_n d_Sc_hasLengthOfSteps_8 rfl (by decide) rfl ?_
  refine sm_iload_n d_Sc_hasLengthOfSteps_9 rfl (j := 0) rfl ?_
  refine sm_if_ge (tgt := 15) d_Sc_hasLengthOfSteps_10 (by decide) (fun h1 => ?_) (fun h1 => ?_)
  · rw [if_pos h1] at hf
    refine sm_aload_n d_Sc_hasLengthOfSteps_15 rfl (j := 1) rfl ?_
    refine sm_iload_n d_Sc_hasLengthOfSteps_16 rfl (j := 2) rfl ?_
    refine lo_callV d_Sc_hasLengthOfSteps_17 cs_Sc_hasLengthOfSteps_139 rfl hI cl_105 (As := [.int x1]) rfl rfl (Nat.le_of_ble_eq_true rfl) (c_Sc_told hI hZ x1) ?_
    refine sm_bipush (v := 31) d_Sc_hasLengthOfSteps_20 (by decide) ?_
    refine sm_iand d_Sc_hasLengthOfSteps_22 ?_
    by_cases h2 : ((fn_Sc_told Z w x1) &&& (31 : Int32)) = 0
    · rw [if_pos h2] at hf
      refine sm_tableIn (tgt := 48) d_Sc_hasLengthOfSteps_23 (by rw [h2] <;> decide) (by rw [h2] <;> decide) (by rw [h2] <;> rfl) (by decide) ?_
      refine sm_iload_n d_Sc_hasLengthOfSteps_48 rfl (j := 0) rfl ?_
      refine sm_callSp d_Sc_hasLengthOfSteps_49 cs_Sc_hasLengthOfSteps_150 rfl (As := [.int (((w 105 8) - (3 : Int32)) - x1)]) rfl rfl (Nat.le_of_ble_eq_true rfl) (c_Sc_isCountOfSteps (((w 105 8) - (3 : Int32)) - x1)) ?_
      subst hf
      refine sm_ireturn d_Sc_hasLengthOfSteps_52 rfl (bi_n _) ?_
      exact ⟨rfl, rfl⟩
    · rw [if_neg h2] at hf
      by_cases h3 : ((fn_Sc_told Z w x1) &&& (31 : Int32)) = 1
      · rw [if_pos h3] at hf
        refine sm_tableIn (tgt := 53) d_Sc_hasLengthOfSteps_23 (by rw [h3] <;> decide) (by rw [h3] <;> decide) (by rw [h3] <;> rfl) (by decide) ?_
        refine sm_iload_n d_Sc_hasLengthOfSteps_53 rfl (j := 0) rfl ?_
        refine sm_iconst (v := 2) d_Sc_hasLengthOfSteps_54 (by decide) ?_
        refine sm_icmp_ne (tgt := 62) d_Sc_hasLengthOfSteps_55 (by decide) (fun h4 => ?_) (fun h4 => ?_)
        · rw [if_neg h4] at hf
          refine sm_iconst (v := 0) d_Sc_hasLengthOfSteps_62 (by decide) ?_
          subst hf
          refine sm_ireturn d_Sc_hasLengthOfSteps_63 rfl (by rfl) ?_
          exact ⟨rfl, rfl⟩
        · rw [if_pos h4] at hf
          refine sm_iconst (v := 1) d_Sc_hasLengthOfSteps_58 (by decide) ?_
          refine sm_goto (tgt := 63) d_Sc_hasLengthOfSteps_59 (by decide) ?_
          subst hf
          refine sm_ireturn d_Sc_hasLengthOfSteps_63 rfl (by rfl) ?_
          exact ⟨rfl, rfl⟩
      · rw [if_neg h3] at hf
        by_cases h5 : ((fn_Sc_told Z w x1) &&& (31 : Int32)) = 2
        · rw [if_pos h5] at hf
          refine sm_tableIn (tgt := 64) d_Sc_hasLengthOfSteps_23 (by rw [h5] <;> decide) (by rw [h5] <;> decide) (by rw [h5] <;> rfl) (by decide) ?_
          refine sm_iload_n d_Sc_hasLengthOfSteps_64 rfl (j := 0) rfl ?_
          refine sm_iconst (v := 2) d_Sc_hasLengthOfSteps_65 (by decide) ?_
          refine sm_irem d_Sc_hasLengthOfSteps_66 (by decide) ?_
          refine sm_if_ne (tgt := 83) d_Sc_hasLengthOfSteps_67 (by decide) (fun h6 => ?_) (fun h6 => ?_)
          · rw [if_neg h6] at hf
            refine sm_iconst (v := 0) d_Sc_hasLengthOfSteps_83 (by decide) ?_
            subst hf
            refine sm_ireturn d_Sc_hasLengthOfSteps_84 rfl (by rfl) ?_
            exact ⟨rfl, rfl⟩
          · rw [if_pos h6] at hf
            refine sm_iload_n d_Sc_hasLengthOfSteps_70 rfl (j := 0) rfl ?_
            refine sm_iconst (v := 2) d_Sc_hasLengthOfSteps_71 (by decide) ?_
            refine sm_idiv d_Sc_hasLengthOfSteps_72 (by decide) ?_
            refine sm_callSp d_Sc_hasLengthOfSteps_73 cs_Sc_hasLengthOfSteps_150 rfl (As := [.int ((((w 105 8) - (3 : Int32)) - x1) / (2 : Int32))]) rfl rfl (Nat.le_of_ble_eq_true rfl) (c_Sc_isCountOfSteps ((((w 105 8) - (3 : Int32)) - x1) / (2 : Int32))) ?_
            refine sm_if_eq (tgt := 83) d_Sc_hasLengthOfSteps_76 (by decide) (fun h7 => ?_) (fun h7 => ?_)
            · rw [if_neg (bi0 h7)] at hf
              refine sm_iconst (v := 0) d_Sc_hasLengthOfSteps_83 (by decide) ?_
              subst hf
              refine sm_ireturn d_Sc_hasLengthOfSteps_84 rfl (by rfl) ?_
              exact ⟨rfl, rfl⟩
            · rw [if_pos (bi1 h7)] at hf
              refine sm_iconst (v := 1) d_Sc_hasLengthOfSteps_79 (by decide) ?_
              refine sm_goto (tgt := 84) d_Sc_hasLengthOfSteps_80 (by decide) ?_
              subst hf
              refine sm_ireturn d_Sc_hasLengthOfSteps_84 rfl (by rfl) ?_
              exact ⟨rfl, rfl⟩
        · rw [if_neg h5] at hf
          refine sm_tableOut (tgt := 85) d_Sc_hasLengthOfSteps_23 (by have := (mt sm_eqI.mpr h2); rw [show ((0 : Int32)).toInt = 0 by decide] at this; have := (mt sm_eqI.mpr h3); rw [show ((1 : Int32)).toInt = 1 by decide] at this; have := (mt sm_eqI.mpr h5); rw [show ((2 : Int32)).toInt = 2 by decide] at this; omega) (by decide) ?_
          refine sm_iconst (v := 1) d_Sc_hasLengthOfSteps_85 (by decide) ?_
          subst hf
          refine sm_ireturn d_Sc_hasLengthOfSteps_86 rfl (by rfl) ?_
          exact ⟨rfl, rfl⟩
  · rw [if_neg h1] at hf
    refine sm_iconst (v := 0) d_Sc_hasLengthOfSteps_13 (by decide) ?_
    subst hf
    refine sm_ireturn d_Sc_hasLengthOfSteps_14 rfl (by rfl) ?_
    exact ⟨rfl, rfl⟩

