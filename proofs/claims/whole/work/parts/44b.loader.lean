/-! loader, on; written by wip/tools/cls.py -/
def fn_Ld_loadChanges_77 (k31 : wd → Int32 → Int32 → Int32 → Option (wd)) (F : Nat) (Z : zd) (w : wd) (x1 : Int32) (x2 : Int32) (x3 : Int32) (x4 : Int32) (s0 : Int32) : Option (wd) := ((fn_Pl_addChange w (nI (rw_u1 Z.1.1 x4.toInt)) (nI (rw_u1 Z.1.1 (x4 + (1 : Int32)).toInt)) (nI (rw_u2 Z.1.1 (x4 + (2 : Int32)).toInt)) (nI (rw_u1 Z.1.1 (x4 + (4 : Int32)).toInt)) s0 (nI (rw_u1 Z.1.1 (x4 + (6 : Int32)).toInt))).bind fun r6 => k31 r6 x1 x2 (x3 + 1))
set_option maxHeartbeats 1600000 in
set_option maxRecDepth 100000 in
theorem w_Ld_loadChanges_77 {G : sm_G} {b : Nat} {M0 : sm_M} {bc bs : Nat} {Z : zd} {R : wd} {F : Nat} {k31 : wd → Int32 → Int32 → Int32 → Option (wd)} (hk31 : ∀ (M : sm_M) (w : wd) (x1 : Int32) (x2 : Int32) (x3 : Int32), lo_in G cm_L b M0 M w → k31 w x1 x2 x3 = some R → sm_W G mf_Ld_loadChanges 31 [(0, .ref (b + 115)), (1, .int x1), (2, .int x2), (3, .int x3)] [] M bc bs (wd_Q G cm_L b M0 none R)) (hZ : cz_at G b M0 Z) : ∀ (M : sm_M) (w : wd) (x1 : Int32) (x2 : Int32) (x3 : Int32) (x4 : Int32) (s0 : Int32), lo_in G cm_L b M0 M w → fn_Ld_loadChanges_77 k31 F Z w x1 x2 x3 x4 s0 = some R → sm_W G mf_Ld_loadChanges 77 [(0, .ref (b + 115)), (1, .int x1), (2, .int x2), (3, .int x3), (4, .int x4)] [.int s0] M bc bs (wd_Q G cm_L b M0 none R) := by
  intro M w x1 x2 x3 x4 s0 hI  hf
  unfold fn_Ld_loadChanges_77 at hf
  refine sm_istore d_Ld_loadChanges_77 (by decide) rfl ?_
  refine sm_aload_n d_Ld_loadChanges_79 rfl (j := 1) rfl ?_
  refine lo_get (v := .ref (b + 1)) d_Ld_loadChanges_80 fg_Ld_19 hI cl_115 rfl ?_
  refine sm_aload_n d_Ld_loadChanges_83 rfl (j := 1) rfl ?_
  refine lo_get (v := .ref (b + 101)) d_Ld_loadChanges_84 fg_Ld_9 hI cl_115 rfl ?_
  refine sm_iload d_Ld_loadChanges_87 (j := 5) rfl ?_
  refine cm_callR d_Ld_loadChanges_89 cs_Ld_loadChanges_59 rfl (cz_c1 hI hZ) (As := [.int x4]) rfl rfl (Nat.le_of_ble_eq_true rfl) (cz_u11 hI hZ x4) ?_
  refine sm_aload_n d_Ld_loadChanges_92 rfl (j := 1) rfl ?_
  refine lo_get (v := .ref (b + 101)) d_Ld_loadChanges_93 fg_Ld_9 hI cl_115 rfl ?_
  refine sm_iload d_Ld_loadChanges_96 (j := 5) rfl ?_
  refine sm_iconst (v := 1) d_Ld_loadChanges_98 (by decide) ?_
  refine sm_iadd d_Ld_loadChanges_99 ?_
  refine cm_callR d_Ld_loadChanges_100 cs_Ld_loadChanges_59 rfl (cz_c1 hI hZ) (As := [.int (x4 + (1 : Int32))]) rfl rfl (Nat.le_of_ble_eq_true rfl) (cz_u11 hI hZ (x4 + (1 : Int32))) ?_
  refine sm_aload_n d_Ld_loadChanges_103 rfl (j := 1) rfl ?_
  refine lo_get (v := .ref (b + 101)) d_Ld_loadChanges_104 fg_Ld_9 hI cl_115 rfl ?_
  refine sm_iload d_Ld_loadChanges_107 (j := 5) rfl ?_
  refine sm_iconst (v := 2) d_Ld_loadChanges_109 (by decide) ?_
  refine sm_iadd d_Ld_loadChanges_110 ?_
  refine cm_callR d_Ld_loadChanges_111 cs_Ld_loadChanges_54 rfl (cz_c1 hI hZ) (As := [.int (x4 + (2 : Int32))]) rfl rfl (Nat.le_of_ble_eq_true rfl) (cz_u21 hI hZ (x4 + (2 : Int32))) ?_
  refine sm_aload_n d_Ld_loadChanges_114 rfl (j := 1) rfl ?_
  refine lo_get (v := .ref (b + 101)) d_Ld_loadChanges_115 fg_Ld_9 hI cl_115 rfl ?_
  refine sm_iload d_Ld_loadChanges_118 (j := 5) rfl ?_
  refine sm_iconst (v := 4) d_Ld_loadChanges_120 (by decide) ?_
  refine sm_iadd d_Ld_loadChanges_121 ?_
  refine cm_callR d_Ld_loadChanges_122 cs_Ld_loadChanges_59 rfl (cz_c1 hI hZ) (As := [.int (x4 + (4 : Int32))]) rfl rfl (Nat.le_of_ble_eq_true rfl) (cz_u11 hI hZ (x4 + (4 : Int32))) ?_
  refine sm_iload d_Ld_loadChanges_125 (j := 0) rfl ?_
  refine sm_aload_n d_Ld_loadChanges_127 rfl (j := 1) rfl ?_
  refine lo_get (v := .ref (b + 101)) d_Ld_loadChanges_128 fg_Ld_9 hI cl_115 rfl ?_
  refine sm_iload d_Ld_loadChanges_131 (j := 5) rfl ?_
  refine sm_bipush (v := 6) d_Ld_loadChanges_133 (by decide) ?_
  refine sm_iadd d_Ld_loadChanges_135 ?_
  refine cm_callR d_Ld_loadChanges_136 cs_Ld_loadChanges_59 rfl (cz_c1 hI hZ) (As := [.int (x4 + (6 : Int32))]) rfl rfl (Nat.le_of_ble_eq_true rfl) (cz_u11 hI hZ (x4 + (6 : Int32))) ?_
  obtain ⟨r6, e7, hf⟩ := lo_bnd hf
  refine lo_callVm d_Ld_loadChanges_139 cs_Ld_loadChanges_154 rfl hI cl_1 (As := [.int (nI (rw_u1 Z.1.1 x4.toInt)), .int (nI (rw_u1 Z.1.1 (x4 + (1 : Int32)).toInt)), .int (nI (rw_u2 Z.1.1 (x4 + (2 : Int32)).toInt)), .int (nI (rw_u1 Z.1.1 (x4 + (4 : Int32)).toInt)), .int s0, .int (nI (rw_u1 Z.1.1 (x4 + (6 : Int32)).toInt))]) rfl rfl (Nat.le_of_ble_eq_true rfl) (c_Pl_addChange hI hZ (nI (rw_u1 Z.1.1 x4.toInt)) (nI (rw_u1 Z.1.1 (x4 + (1 : Int32)).toInt)) (nI (rw_u2 Z.1.1 (x4 + (2 : Int32)).toInt)) (nI (rw_u1 Z.1.1 (x4 + (4 : Int32)).toInt)) s0 (nI (rw_u1 Z.1.1 (x4 + (6 : Int32)).toInt)) e7) (fun M8 hI9 => ?_)
  refine sm_iinc (v := (x3 + 1)) d_Ld_loadChanges_142 (j := 4) rfl rfl (by decide) rfl ?_
  refine sm_goto (tgt := 31) d_Ld_loadChanges_145 (by decide) ?_
  exact sm_pick [2, 3, 4, 0] (hk31 _ _ _ _ _ hI9 hf) rfl

def fn_Ld_loadChanges_31 (F : Nat) (Z : zd) : Nat → wd → Int32 → Int32 → Int32 → Option (wd)
 | 0, _, _, _, _ => none
 | n9 + 1, w, x1, x2, x3 => (if x2 ≤ x3 then some w else (if (nI (rw_u1 Z.1.1 (((x1 + (4 : Int32)) + ((7 : Int32) * x3)) + (5 : Int32)).toInt)) = 0 then fn_Ld_loadChanges_77 (fn_Ld_loadChanges_31 F Z n9) F Z w x1 x2 x3 ((x1 + (4 : Int32)) + ((7 : Int32) * x3)) (256 : Int32) else fn_Ld_loadChanges_77 (fn_Ld_loadChanges_31 F Z n9) F Z w x1 x2 x3 ((x1 + (4 : Int32)) + ((7 : Int32) * x3)) (nI (rw_u1 Z.1.1 (((x1 + (4 : Int32)) + ((7 : Int32) * x3)) + (5 : Int32)).toInt))))
set_option maxHeartbeats 1600000 in
set_option maxRecDepth 100000 in
theorem w_Ld_loadChanges_31 {G : sm_G} {b : Nat} {M0 : sm_M} {bc bs : Nat} {Z : zd} {R : wd} {F : Nat} (hZ : cz_at G b M0 Z) : ∀ (n9 : Nat), ∀ (M : sm_M) (w : wd) (x1 : Int32) (x2 : Int32) (x3 : Int32), lo_in G cm_L b M0 M w → fn_Ld_loadChanges_31 F Z n9 w x1 x2 x3 = some R → sm_W G mf_Ld_loadChanges 31 [(0, .ref (b + 115)), (1, .int x1), (2, .int x2), (3, .int x3)] [] M bc bs (wd_Q G cm_L b M0 none R) := by
  intro n9
  induction n9 with
  | zero => intro M w x1 x2 x3 hI  hf; cases hf
  | succ n9 ih =>
    intro M w x1 x2 x3 hI  hf
    rw [fn_Ld_loadChanges_31] at hf
    refine sm_iload_n d_Ld_loadChanges_31 rfl (j := 3) rfl ?_
    refine sm_iload_n d_Ld_loadChanges_32 rfl (j := 2) rfl ?_
    refine sm_icmp_ge (tgt := 148) d_Ld_loadChanges_33 (by decide) (fun h4 => ?_) (fun h4 => ?_)
    · rw [if_pos h4] at hf
      cases hf
      refine sm_return d_Ld_loadChanges_148 rfl ?_
      exact ⟨rfl, hI⟩
    · rw [if_neg h4] at hf
      refine sm_iload_n d_Ld_loadChanges_36 rfl (j := 1) rfl ?_
      refine sm_iconst (v := 4) d_Ld_loadChanges_37 (by decide) ?_
      refine sm_iadd d_Ld_loadChanges_38 ?_
      refine sm_bipush (v := 7) d_Ld_loadChanges_39 (by decide) ?_
      refine sm_iload_n d_Ld_loadChanges_41 rfl (j := 3) rfl ?_
      refine sm_imul d_Ld_loadChanges_42 ?_
      refine sm_iadd d_Ld_loadChanges_43 ?_
      refine sm_istore d_Ld_loadChanges_44 (by decide) rfl ?_
      refine sm_aload_n d_Ld_loadChanges_46 rfl (j := 1) rfl ?_
      refine lo_get (v := .ref (b + 101)) d_Ld_loadChanges_47 fg_Ld_9 hI cl_115 rfl ?_
      refine sm_iload d_Ld_loadChanges_50 (j := 0) rfl ?_
      refine sm_iconst (v := 5) d_Ld_loadChanges_52 (by decide) ?_
      refine sm_iadd d_Ld_loadChanges_53 ?_
      refine cm_callR d_Ld_loadChanges_54 cs_Ld_loadChanges_59 rfl (cz_c1 hI hZ) (As := [.int (((x1 + (4 : Int32)) + ((7 : Int32) * x3)) + (5 : Int32))]) rfl rfl (Nat.le_of_ble_eq_true rfl) (cz_u11 hI hZ (((x1 + (4 : Int32)) + ((7 : Int32) * x3)) + (5 : Int32))) ?_
      refine sm_if_ne (tgt := 66) d_Ld_loadChanges_57 (by decide) (fun h5 => ?_) (fun h5 => ?_)
      · rw [if_neg h5] at hf
        refine sm_aload_n d_Ld_loadChanges_66 rfl (j := 1) rfl ?_
        refine lo_get (v := .ref (b + 101)) d_Ld_loadChanges_67 fg_Ld_9 hI cl_115 rfl ?_
        refine sm_iload d_Ld_loadChanges_70 (j := 0) rfl ?_
        refine sm_iconst (v := 5) d_Ld_loadChanges_72 (by decide) ?_
        refine sm_iadd d_Ld_loadChanges_73 ?_
        refine cm_callR d_Ld_loadChanges_74 cs_Ld_loadChanges_59 rfl (cz_c1 hI hZ) (As := [.int (((x1 + (4 : Int32)) + ((7 : Int32) * x3)) + (5 : Int32))]) rfl rfl (Nat.le_of_ble_eq_true rfl) (cz_u11 hI hZ (((x1 + (4 : Int32)) + ((7 : Int32) * x3)) + (5 : Int32))) ?_
        exact sm_pick [1, 2, 3, 4, 0] (w_Ld_loadChanges_77 ih hZ _ _ _ _ _ _ _ hI hf) rfl
      · rw [if_pos h5] at hf
        refine sm_sipush (v := 256) d_Ld_loadChanges_60 (by decide) ?_
        refine sm_goto (tgt := 77) d_Ld_loadChanges_63 (by decide) ?_
        exact sm_pick [1, 2, 3, 4, 0] (w_Ld_loadChanges_77 ih hZ _ _ _ _ _ _ _ hI hf) rfl

def fn_Ld_loadChanges (F : Nat) (Z : zd) (w : wd) (x1 : Int32) : Option (wd) := (if x1 = 0 then some w else fn_Ld_loadChanges_31 F Z F (up2 w 1 9 (0 : Int32)) x1 (((nI (rw_u2 Z.1.1 (x1 + (2 : Int32)).toInt)) - (2 : Int32)) / (7 : Int32)) (0 : Int32))
set_option maxHeartbeats 1600000 in
set_option maxRecDepth 100000 in
theorem c_Ld_loadChanges {G : sm_G} {b : Nat} {M0 M : sm_M} {Z : zd} {w : wd} {F : Nat} (hI : lo_in G cm_L b M0 M w) (hZ : cz_at G b M0 Z) (x1 : Int32)  {R : wd} (hf : fn_Ld_loadChanges F Z w x1 = some R) : sm_C G mf_Ld_loadChanges [.ref (b + 115), .int x1] M 0 0 (wd_Q G cm_L b M none R) := by
  unfold fn_Ld_loadChanges at hf
  have hZ := hZ.go hI.2
  have hI := hI.here
  refine sm_ofW rfl (Nat.le_of_ble_eq_true rfl) ?_
  refine sm_iload_n d_Ld_loadChanges_0 rfl (j := 1) rfl ?_
  refine sm_if_ne (tgt := 5) d_Ld_loadChanges_1 (by decide) (fun h1 => ?_) (fun h1 => ?_)
  · rw [if_neg h1] at hf
    refine sm_aload_n d_Ld_loadChanges_5 rfl (j := 0) rfl ?_
    refine lo_get (v := .ref (b + 101)) d_Ld_loadChanges_6 fg_Ld_9 hI cl_115 rfl ?_
    refine sm_iload_n d_Ld_loadChanges_9 rfl (j := 1) rfl ?_
    refine sm_iconst (v := 2) d_Ld_loadChanges_10 (by decide) ?_
    refine sm_iadd d_Ld_loadChanges_11 ?_
    refine cm_callR d_Ld_loadChanges_12 cs_Ld_loadChanges_54 rfl (cz_c1 hI hZ) (As := [.int (x1 + (2 : Int32))]) rfl rfl (Nat.le_of_ble_eq_true rfl) (cz_u21 hI hZ (x1 + (2 : Int32))) ?_
    refine sm_iconst (v := 2) d_Ld_loadChanges_15 (by decide) ?_
    refine sm_isub d_Ld_loadChanges_16 ?_
    refine sm_bipush (v := 7) d_Ld_loadChanges_17 (by decide) ?_
    refine sm_idiv d_Ld_loadChanges_19 (by decide) ?_
    refine sm_istore_n d_Ld_loadChanges_20 rfl (by decide) rfl ?_
    refine sm_aload_n d_Ld_loadChanges_21 rfl (j := 1) rfl ?_
    refine lo_get (v := .ref (b + 1)) d_Ld_loadChanges_22 fg_Ld_19 hI cl_115 rfl ?_
    refine sm_iconst (v := 0) d_Ld_loadChanges_25 (by decide) ?_
    refine lo_put d_Ld_loadChanges_26 fp_Ld_151 (by decide) hI cl_1 rfl (by rfl) (by rfl) (fun M2 hI3 => ?_)
    refine sm_iconst (v := 0) d_Ld_loadChanges_29 (by decide) ?_
    refine sm_istore_n d_Ld_loadChanges_30 rfl (by decide) rfl ?_
    exact sm_pick [2, 3, 1, 0] (w_Ld_loadChanges_31 hZ _ _ _ _ _ _ hI3 hf) rfl
  · rw [if_pos h1] at hf
    cases hf
    refine sm_return d_Ld_loadChanges_4 rfl ?_
    exact ⟨rfl, hI⟩

def fn_Ld_loadOwner_120 (k25 : wd → Int32 → Int32 → Int32 → Option (wd)) (F : Nat) (Z : zd) (w : wd) (x1 : Int32) (x2 : Int32) (x3 : Int32) : Option (wd) := k25 w x1 x2 (x3 + 1)
set_option maxHeartbeats 1600000 in
set_option maxRecDepth 100000 in
theorem w_Ld_loadOwner_120 {G : sm_G} {b : Nat} {M0 : sm_M} {bc bs : Nat} {Z : zd} {R : wd} {F : Nat} {k25 : wd → Int32 → Int32 → Int32 → Option (wd)} (hk25 : ∀ (M : sm_M) (w : wd) (x1 : Int32) (x2 : Int32) (x3 : Int32), lo_in G cm_L b M0 M w → k25 w x1 x2 x3 = some R → sm_W G mf_Ld_loadOwner 25 [(0, .ref (b + 115)), (1, .int x1), (2, .int x2), (3, .int x3)] [] M bc bs (wd_Q G cm_L b M0 none R)) (hZ : cz_at G b M0 Z) : ∀ (M : sm_M) (w : wd) (x1 : Int32) (x2 : Int32) (x3 : Int32), lo_in G cm_L b M0 M w → fn_Ld_loadOwner_120 k25 F Z w x1 x2 x3 = some R → sm_W G mf_Ld_loadOwner 120 [(0, .ref (b + 115)), (1, .int x1), (2, .int x2), (3, .int x3)] [] M bc bs (wd_Q G cm_L b M0 none R) := by
  intro M w x1 x2 x3 hI  hf
  unfold fn_Ld_loadOwner_120 at hf
  refine sm_iinc (v := (x3 + 1)) d_Ld_loadOwner_120 (j := 3) rfl rfl (by decide) rfl ?_
  refine sm_goto (tgt := 25) d_Ld_loadOwner_123 (by decide) ?_
  exact sm_pick [1, 2, 3, 0] (hk25 _ _ _ _ _ hI hf) rfl

def fn_Ld_loadOwner_25 (F : Nat) (Z : zd) : Nat → wd → Int32 → Int32 → Int32 → Option (wd)
 | 0, _, _, _, _ => none
 | n9 + 1, w, x1, x2, x3 => (if (w 1 2) ≤ x3 then ((fn_Ld_loadChanges F Z w (fn_Ps_startOf w x1 (95 : Int32) (0 : Int32))).bind fun r3 => some r3) else (if (0 ≤ x3.toInt ∧ x3.toInt < (w 1 2).toInt) ∧ x3.toInt < 16 then ((fn_Ld_loadCoding F Z w x3.toInt.toNat x2 (fn_Ps_startOf w x1 (83 : Int32) x3)).bind fun r8 => ((fn_Ld_loadSteps F Z r8 x3.toInt.toNat (fn_Ps_startOf r8 x1 (92 : Int32) (0 : Int32)) (fn_Ps_startOf r8 x1 (93 : Int32) x3)).bind fun r12 => fn_Ld_loadOwner_120 (fn_Ld_loadOwner_25 F Z n9) F Z (fn_Ld_loadShift Z r12 x3.toInt.toNat (fn_Ps_startOf r12 x1 (94 : Int32) x3)) x1 x2 x3)) else fn_Ld_loadOwner_120 (fn_Ld_loadOwner_25 F Z n9) F Z w x1 x2 x3))
set_option maxHeartbeats 1600000 in
set_option maxRecDepth 100000 in
theorem w_Ld_loadOwner_25 {G : sm_G} {b : Nat} {M0 : sm_M} {bc bs : Nat} {Z : zd} {R : wd} {F : Nat} (hZ : cz_at G b M0 Z) : ∀ (n9 : Nat), ∀ (M : sm_M) (w : wd) (x1 : Int32) (x2 : Int32) (x3 : Int32), lo_in G cm_L b M0 M w → fn_Ld_loadOwner_25 F Z n9 w x1 x2 x3 = some R → sm_W G mf_Ld_loadOwner 25 [(0, .ref (b + 115)), (1, .int x1), (2, .int x2), (3, .int x3)] [] M bc bs (wd_Q G cm_L b M0 none R) := by
  intro n9
  induction n9 with
  | zero => intro M w x1 x2 x3 hI  hf; cases hf
  | succ n9 ih =>
    intro M w x1 x2 x3 hI  hf
    rw [fn_Ld_loadOwner_25] at hf
    refine sm_iload_n d_Ld_loadOwner_25 rfl (j := 3) rfl ?_
    refine sm_aload_n d_Ld_loadOwner_26 rfl (j := 0) rfl ?_
    refine lo_get (v := .ref (b + 1)) d_Ld_loadOwner_27 fg_Ld_19 hI cl_115 rfl ?_
    refine lo_get (v := .int (w 1 2)) d_Ld_loadOwner_30 fg_Ld_77 hI cl_1 rfl ?_
    refine sm_icmp_ge (tgt := 126) d_Ld_loadOwner_33 (by decide) (fun h2 => ?_) (fun h2 => ?_)
    · rw [if_pos h2] at hf
      refine sm_aload_n d_Ld_loadOwner_126 rfl (j := 0) rfl ?_
      refine sm_aload_n d_Ld_loadOwner_127 rfl (j := 0) rfl ?_
      refine lo_get (v := .ref (b + 108)) d_Ld_loadOwner_128 fg_Ld_15 hI cl_115 rfl ?_
      refine sm_iload_n d_Ld_loadOwner_131 rfl (j := 1) rfl ?_
      refine sm_bipush (v := 95) d_Ld_loadOwner_132 (by decide) ?_
      refine sm_iconst (v := 0) d_Ld_loadOwner_134 (by decide) ?_
      refine lo_callV d_Ld_loadOwner_135 cs_Ld_loadOwner_70 rfl hI cl_108 (As := [.int x1, .int (95 : Int32), .int (0 : Int32)]) rfl rfl (Nat.le_of_ble_eq_true rfl) (c_Ps_startOf hI hZ x1 (95 : Int32) (0 : Int32)) ?_
      obtain ⟨r3, e4, hf⟩ := lo_bnd hf
      refine lo_callVm d_Ld_loadOwner_138 cs_Ld_loadOwner_107 rfl hI cl_115 (As := [.int (fn_Ps_startOf w x1 (95 : Int32) (0 : Int32))]) rfl rfl (Nat.le_of_ble_eq_true rfl) (c_Ld_loadChanges hI hZ (fn_Ps_startOf w x1 (95 : Int32) (0 : Int32)) e4) (fun M5 hI6 => ?_)
      cases hf
      refine sm_return d_Ld_loadOwner_141 rfl ?_
      exact ⟨rfl, hI6⟩
    · rw [if_neg h2] at hf
      refine sm_aload_n d_Ld_loadOwner_36 rfl (j := 0) rfl ?_
      refine lo_get (v := .ref (b + 1)) d_Ld_loadOwner_37 fg_Ld_19 hI cl_115 rfl ?_
      refine sm_iload_n d_Ld_loadOwner_40 rfl (j := 3) rfl ?_
      by_cases h7 : (0 ≤ x3.toInt ∧ x3.toInt < (w 1 2).toInt) ∧ x3.toInt < 16
      · rw [if_pos h7] at hf
        refine lo_callV d_Ld_loadOwner_41 cs_Ld_loadOwner_81 rfl hI cl_1 (As := [.int x3]) rfl rfl (Nat.le_of_ble_eq_true rfl) (c_Pl_conT hI hZ x3 h7) ?_
        refine sm_astore d_Ld_loadOwner_44 (by decide) rfl ?_
        refine sm_aload d_Ld_loadOwner_46 (j := 0) rfl ?_
        refine sm_ifnull d_Ld_loadOwner_48 ?_
        refine sm_aload_n d_Ld_loadOwner_51 rfl (j := 1) rfl ?_
        refine sm_aload d_Ld_loadOwner_52 (j := 0) rfl ?_
        refine lo_get (v := .ref (b + (6 + 6 * x3.toInt.toNat))) d_Ld_loadOwner_54 fg_Ld_85 hI (cl_Cp (cm_c16 h7)) rfl ?_
        refine sm_iload_n d_Ld_loadOwner_57 rfl (j := 3) rfl ?_
        refine sm_aload_n d_Ld_loadOwner_58 rfl (j := 1) rfl ?_
        refine lo_get (v := .ref (b + 108)) d_Ld_loadOwner_59 fg_Ld_15 hI cl_115 rfl ?_
        refine sm_iload_n d_Ld_loadOwner_62 rfl (j := 2) rfl ?_
        refine sm_bipush (v := 83) d_Ld_loadOwner_63 (by decide) ?_
        refine sm_iload_n d_Ld_loadOwner_65 rfl (j := 4) rfl ?_
        refine lo_callV d_Ld_loadOwner_66 cs_Ld_loadOwner_70 rfl hI cl_108 (As := [.int x1, .int (83 : Int32), .int x3]) rfl rfl (Nat.le_of_ble_eq_true rfl) (c_Ps_startOf hI hZ x1 (83 : Int32) x3) ?_
        obtain ⟨r8, e9, hf⟩ := lo_bnd hf
        refine lo_callVm d_Ld_loadOwner_69 cs_Ld_loadOwner_91 rfl hI cl_115 (As := [.ref (b + (6 + 6 * x3.toInt.toNat)), .int x2, .int (fn_Ps_startOf w x1 (83 : Int32) x3)]) rfl rfl (Nat.le_of_ble_eq_true rfl) (c_Ld_loadCoding hI hZ x3.toInt.toNat x2 (fn_Ps_startOf w x1 (83 : Int32) x3) (cm_c16 h7) e9) (fun M10 hI11 => ?_)
        refine sm_aload_n d_Ld_loadOwner_72 rfl (j := 1) rfl ?_
        refine sm_aload d_Ld_loadOwner_73 (j := 0) rfl ?_
        refine lo_get (v := .ref (b + (9 + 6 * x3.toInt.toNat))) d_Ld_loadOwner_75 fg_Ld_95 hI11 (cl_Cp (cm_c16 h7)) rfl ?_
        refine sm_aload_n d_Ld_loadOwner_78 rfl (j := 1) rfl ?_
        refine lo_get (v := .ref (b + 108)) d_Ld_loadOwner_79 fg_Ld_15 hI11 cl_115 rfl ?_
        refine sm_iload_n d_Ld_loadOwner_82 rfl (j := 2) rfl ?_
        refine sm_bipush (v := 92) d_Ld_loadOwner_83 (by decide) ?_
        refine sm_iconst (v := 0) d_Ld_loadOwner_85 (by decide) ?_
        refine lo_callV d_Ld_loadOwner_86 cs_Ld_loadOwner_70 rfl hI11 cl_108 (As := [.int x1, .int (92 : Int32), .int (0 : Int32)]) rfl rfl (Nat.le_of_ble_eq_true rfl) (c_Ps_startOf hI11 hZ x1 (92 : Int32) (0 : Int32)) ?_
        refine sm_aload_n d_Ld_loadOwner_89 rfl (j := 1) rfl ?_
        refine lo_get (v := .ref (b + 108)) d_Ld_loadOwner_90 fg_Ld_15 hI11 cl_115 rfl ?_
        refine sm_iload_n d_Ld_loadOwner_93 rfl (j := 2) rfl ?_
        refine sm_bipush (v := 93) d_Ld_loadOwner_94 (by decide) ?_
        refine sm_iload_n d_Ld_loadOwner_96 rfl (j := 4) rfl ?_
        refine lo_callV d_Ld_loadOwner_97 cs_Ld_loadOwner_70 rfl hI11 cl_108 (As := [.int x1, .int (93 : Int32), .int x3]) rfl rfl (Nat.le_of_ble_eq_true rfl) (c_Ps_startOf hI11 hZ x1 (93 : Int32) x3) ?_
        obtain ⟨r12, e13, hf⟩ := lo_bnd hf
        refine lo_callVm d_Ld_loadOwner_100 cs_Ld_loadOwner_99 rfl hI11 cl_115 (As := [.ref (b + (9 + 6 * x3.toInt.toNat)), .int (fn_Ps_startOf r8 x1 (92 : Int32) (0 : Int32)), .int (fn_Ps_startOf r8 x1 (93 : Int32) x3)]) rfl rfl (Nat.le_of_ble_eq_true rfl) (c_Ld_loadSteps hI11 hZ x3.toInt.toNat (fn_Ps_startOf r8 x1 (92 : Int32) (0 : Int32)) (fn_Ps_startOf r8 x1 (93 : Int32) x3) (cm_c16 h7) e13) (fun M14 hI15 => ?_)
        refine sm_aload_n d_Ld_loadOwner_103 rfl (j := 1) rfl ?_
        refine sm_aload d_Ld_loadOwner_104 (j := 0) rfl ?_
        refine sm_aload_n d_Ld_loadOwner_106 rfl (j := 1) rfl ?_
        refine lo_get (v := .ref (b + 108)) d_Ld_loadOwner_107 fg_Ld_15 hI15 cl_115 rfl ?_
        refine sm_iload_n d_Ld_loadOwner_110 rfl (j := 2) rfl ?_
        refine sm_bipush (v := 94) d_Ld_loadOwner_111 (by decide) ?_
        refine sm_iload_n d_Ld_loadOwner_113 rfl (j := 4) rfl ?_
        refine lo_callV d_Ld_loadOwner_114 cs_Ld_loadOwner_70 rfl hI15 cl_108 (As := [.int x1, .int (94 : Int32), .int x3]) rfl rfl (Nat.le_of_ble_eq_true rfl) (c_Ps_startOf hI15 hZ x1 (94 : Int32) x3) ?_
        refine lo_callVm d_Ld_loadOwner_117 cs_Ld_loadOwner_103 rfl hI15 cl_115 (As := [.ref (b + (5 + 6 * x3.toInt.toNat)), .int (fn_Ps_startOf r12 x1 (94 : Int32) x3)]) rfl rfl (Nat.le_of_ble_eq_true rfl) (c_Ld_loadShift hI15 hZ x3.toInt.toNat (fn_Ps_startOf r12 x1 (94 : Int32) x3) (cm_c16 h7)) (fun M16 hI17 => ?_)
        exact sm_pick [1, 2, 3, 4] (w_Ld_loadOwner_120 ih hZ _ _ _ _ _ hI17 hf) rfl
      · rw [if_neg h7] at hf
        refine lo_callV d_Ld_loadOwner_41 cs_Ld_loadOwner_81 rfl hI cl_1 (As := [.int x3]) rfl rfl (Nat.le_of_ble_eq_true rfl) (c_Pl_conF hI hZ x3 h7) ?_
        refine sm_astoreN d_Ld_loadOwner_44 (by decide) rfl ?_
        refine sm_aloadN d_Ld_loadOwner_46 (j := 0) rfl ?_
        refine sm_ifnullN (tgt := 120) d_Ld_loadOwner_48 (by decide) ?_
        exact sm_pick [1, 2, 3, 4] (w_Ld_loadOwner_120 ih hZ _ _ _ _ _ hI hf) rfl

def fn_Ld_loadOwner_23 (F : Nat) (Z : zd) (w : wd) (x1 : Int32) (x2 : Int32) : Option (wd) := fn_Ld_loadOwner_25 F Z F w x1 x2 (0 : Int32)
set_option maxHeartbeats 1600000 in
set_option maxRecDepth 100000 in
theorem w_Ld_loadOwner_23 {G : sm_G} {b : Nat} {M0 : sm_M} {bc bs : Nat} {Z : zd} {R : wd} {F : Nat} (hZ : cz_at G b M0 Z) : ∀ (M : sm_M) (w : wd) (x1 : Int32) (x2 : Int32), lo_in G cm_L b M0 M w → fn_Ld_loadOwner_23 F Z w x1 x2 = some R → sm_W G mf_Ld_loadOwner 23 [(0, .ref (b + 115)), (1, .int x1), (2, .int x2)] [] M bc bs (wd_Q G cm_L b M0 none R) := by
  intro M w x1 x2 hI  hf
  unfold fn_Ld_loadOwner_23 at hf
  refine sm_iconst (v := 0) d_Ld_loadOwner_23 (by decide) ?_
  refine sm_istore_n d_Ld_loadOwner_24 rfl (by decide) rfl ?_
  exact sm_pick [1, 2, 3, 0] (w_Ld_loadOwner_25 hZ _ _ _ _ _ _ hI hf) rfl

def fn_Ld_loadOwner (F : Nat) (Z : zd) (w : wd) (x1 : Int32) : Option (wd) := (if (fn_Ps_startOf w x1 (82 : Int32) (0 : Int32)) = 0 then fn_Ld_loadOwner_23 F Z w x1 (fn_Ps_startOf w x1 (82 : Int32) (0 : Int32)) else fn_Ld_loadOwner_23 F Z (fn_Ld_loadGeneral Z w ((fn_Ps_startOf w x1 (82 : Int32) (0 : Int32)) + (4 : Int32))) x1 (fn_Ps_startOf w x1 (82 : Int32) (0 : Int32)))
set_option maxHeartbeats 1600000 in
set_option maxRecDepth 100000 in
theorem c_Ld_loadOwner {G : sm_G} {b : Nat} {M0 M : sm_M} {Z : zd} {w : wd} {F : Nat} (hI : lo_in G cm_L b M0 M w) (hZ : cz_at G b M0 Z) (x1 : Int32)  {R : wd} (hf : fn_Ld_loadOwner F Z w x1 = some R) : sm_C G mf_Ld_loadOwner [.ref (b + 115), .int x1] M 0 0 (wd_Q G cm_L b M none R) := by
  unfold fn_Ld_loadOwner at hf
  have hZ := hZ.go hI.2
  have hI := hI.here
  refine sm_ofW rfl (Nat.le_of_ble_eq_true rfl) ?_
  refine sm_aload_n d_Ld_loadOwner_0 rfl (j := 0) rfl ?_
  refine lo_get (v := .ref (b + 108)) d_Ld_loadOwner_1 fg_Ld_15 hI cl_115 rfl ?_
  refine sm_iload_n d_Ld_loadOwner_4 rfl (j := 1) rfl ?_
  refine sm_bipush (v := 82) d_Ld_loadOwner_5 (by decide) ?_
  refine sm_iconst (v := 0) d_Ld_loadOwner_7 (by decide) ?_
  refine lo_callV d_Ld_loadOwner_8 cs_Ld_loadOwner_70 rfl hI cl_108 (As := [.int x1, .int (82 : Int32), .int (0 : Int32)]) rfl rfl (Nat.le_of_ble_eq_true rfl) (c_Ps_startOf hI hZ x1 (82 : Int32) (0 : Int32)) ?_
  refine sm_istore_n d_Ld_loadOwner_11 rfl (by decide) rfl ?_
  refine sm_iload_n d_Ld_loadOwner_12 rfl (j := 0) rfl ?_
  refine sm_if_eq (tgt := 23) d_Ld_loadOwner_13 (by decide) (fun h1 => ?_) (fun h1 => ?_)
  · rw [if_pos h1] at hf
    exact sm_pick [1, 2, 0] (w_Ld_loadOwner_23 hZ _ _ _ _ hI hf) rfl
  · rw [if_neg h1] at hf
    refine sm_aload_n d_Ld_loadOwner_16 rfl (j := 1) rfl ?_
    refine sm_iload_n d_Ld_loadOwner_17 rfl (j := 0) rfl ?_
    refine sm_iconst (v := 4) d_Ld_loadOwner_18 (by decide) ?_
    refine sm_iadd d_Ld_loadOwner_19 ?_
    refine lo_callVm d_Ld_loadOwner_20 cs_Ld_loadOwner_74 rfl hI cl_115 (As := [.int ((fn_Ps_startOf w x1 (82 : Int32) (0 : Int32)) + (4 : Int32))]) rfl rfl (Nat.le_of_ble_eq_true rfl) (c_Ld_loadGeneral hI hZ ((fn_Ps_startOf w x1 (82 : Int32) (0 : Int32)) + (4 : Int32))) (fun M18 hI19 => ?_)
    exact sm_pick [1, 2, 0] (w_Ld_loadOwner_23 hZ _ _ _ _ hI19 hf) rfl

def fn_Ld_loadMain (F : Nat) (Z : zd) (w : wd) : Option (wd) := ((fn_Ld_loadSize F Z (fn_Pl_reset w) (6 : Int32)).bind fun r3 => ((fn_Ld_loadOwner F Z r3 (0 : Int32)).bind fun r7 => some r7))
set_option maxHeartbeats 1600000 in
set_option maxRecDepth 100000 in
theorem c_Ld_loadMain {G : sm_G} {b : Nat} {M0 M : sm_M} {Z : zd} {w : wd} {F : Nat} (hI : lo_in G cm_L b M0 M w) (hZ : cz_at G b M0 Z) {R : wd} (hf : fn_Ld_loadMain F Z w = some R) : sm_C G mf_Ld_loadMain [.ref (b + 115)] M 0 0 (wd_Q G cm_L b M none R) := by
  unfold fn_Ld_loadMain at hf
  have hZ := hZ.go hI.2
  have hI := hI.here
  refine sm_ofW rfl (Nat.le_of_ble_eq_true rfl) ?_
  refine sm_aload_n d_Ld_loadMain_0 rfl (j := 0) rfl ?_
  refine lo_get (v := .ref (b + 1)) d_Ld_loadMain_1 fg_Ld_19 hI cl_115 rfl ?_
  refine lo_callVm d_Ld_loadMain_4 cs_Ld_loadMain_23 rfl hI cl_1 (As := []) rfl rfl (Nat.le_of_ble_eq_true rfl) (c_Pl_reset hI hZ) (fun M1 hI2 => ?_)
  refine sm_aload_n d_Ld_loadMain_7 rfl (j := 0) rfl ?_
  refine sm_bipush (v := 6) d_Ld_loadMain_8 (by decide) ?_
  obtain ⟨r3, e4, hf⟩ := lo_bnd hf
  refine lo_callVm d_Ld_loadMain_10 cs_Ld_loadMain_28 rfl hI2 cl_115 (As := [.int (6 : Int32)]) rfl rfl (Nat.le_of_ble_eq_true rfl) (c_Ld_loadSize hI2 hZ (6 : Int32) e4) (fun M5 hI6 => ?_)
  refine sm_aload_n d_Ld_loadMain_13 rfl (j := 0) rfl ?_
  refine sm_iconst (v := 0) d_Ld_loadMain_14 (by decide) ?_
  obtain ⟨r7, e8, hf⟩ := lo_bnd hf
  refine lo_callVm d_Ld_loadMain_15 cs_Ld_loadMain_32 rfl hI6 cl_115 (As := [.int (0 : Int32)]) rfl rfl (Nat.le_of_ble_eq_true rfl) (c_Ld_loadOwner hI6 hZ (0 : Int32) e8) (fun M9 hI10 => ?_)
  cases hf
  refine sm_return d_Ld_loadMain_18 rfl ?_
  exact ⟨rfl, hI10⟩

def fn_Ld_loadTile (F : Nat) (Z : zd) (w : wd) (x1 : Int32) : Option (wd) := ((fn_Ld_loadMain F Z w).bind fun r1 => ((fn_Ld_loadOwner F Z r1 (fn_Ps_ownerOf x1)).bind fun r5 => some r5))
set_option maxHeartbeats 1600000 in
set_option maxRecDepth 100000 in
theorem c_Ld_loadTile {G : sm_G} {b : Nat} {M0 M : sm_M} {Z : zd} {w : wd} {F : Nat} (hI : lo_in G cm_L b M0 M w) (hZ : cz_at G b M0 Z) (x1 : Int32)  {R : wd} (hf : fn_Ld_loadTile F Z w x1 = some R) : sm_C G mf_Ld_loadTile [.ref (b + 115), .int x1] M 0 0 (wd_Q G cm_L b M none R) := by
  unfold fn_Ld_loadTile at hf
  have hZ := hZ.go hI.2
  have hI := hI.here
  refine sm_ofW rfl (Nat.le_of_ble_eq_true rfl) ?_
  refine sm_aload_n d_Ld_loadTile_0 rfl (j := 0) rfl ?_
  obtain ⟨r1, e2, hf⟩ := lo_bnd hf
  refine lo_callVm d_Ld_loadTile_1 cs_Ld_loadTile_35 rfl hI cl_115 (As := []) rfl rfl (Nat.le_of_ble_eq_true rfl) (c_Ld_loadMain hI hZ e2) (fun M3 hI4 => ?_)
  refine sm_aload_n d_Ld_loadTile_4 rfl (j := 0) rfl ?_
  refine sm_iload_n d_Ld_loadTile_5 rfl (j := 1) rfl ?_
  refine sm_callSp d_Ld_loadTile_6 cs_Ld_loadTile_38 rfl (As := [.int x1]) rfl rfl (Nat.le_of_ble_eq_true rfl) (c_Ps_ownerOf x1) ?_
  obtain ⟨r5, e6, hf⟩ := lo_bnd hf
  refine lo_callVm d_Ld_loadTile_9 cs_Ld_loadTile_32 rfl hI4 cl_115 (As := [.int (fn_Ps_ownerOf x1)]) rfl rfl (Nat.le_of_ble_eq_true rfl) (c_Ld_loadOwner hI4 hZ (fn_Ps_ownerOf x1) e6) (fun M7 hI8 => ?_)
  cases hf
  refine sm_return d_Ld_loadTile_12 rfl ?_
  exact ⟨rfl, hI8⟩

