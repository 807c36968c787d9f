/-! scan, on; written by wip/tools/cls.py -/
def fn_Sc_hasChanges_45 (k12 : wd → Int32 → Int32 → Option (Bool)) (F : Nat) (Z : zd) (w : wd) (x1 : Int32) (x2 : Int32) (x3 : Int32) (s0 : Int32) : Option (Bool) := (if (fn_Ru_isChange (fn_Sc_told Z w x3) (fn_Sc_told Z w (x3 + (1 : Int32))) (fn_Sc_told2 Z w (x3 + (2 : Int32))) (fn_Sc_told Z w (x3 + (4 : Int32))) s0 (fn_Sc_told Z w (x3 + (6 : Int32)))) = true then k12 w x1 (x2 + 1) else some false)
set_option maxHeartbeats 1600000 in
set_option maxRecDepth 100000 in
theorem w_Sc_hasChanges_45 {G : sm_G} {b : Nat} {M0 : sm_M} {bc bs : Nat} {Z : zd} {R : Bool} {F : Nat} {k12 : wd → Int32 → Int32 → Option (Bool)} (hk12 : ∀ (w : wd) (x1 : Int32) (x2 : Int32), lo_in G cm_L b M0 M0 w → k12 w x1 x2 = some R → sm_W G mf_Sc_hasChanges 12 [(0, .ref (b + 105)), (1, .int x1), (2, .int x2)] [] M0 bc bs (sm_pu M0 (.int (bi R)))) (hZ : cz_at G b M0 Z) : ∀ (w : wd) (x1 : Int32) (x2 : Int32) (x3 : Int32) (s0 : Int32), lo_in G cm_L b M0 M0 w → fn_Sc_hasChanges_45 k12 F Z w x1 x2 x3 s0 = some R → sm_W G mf_Sc_hasChanges 45 [(0, .ref (b + 105)), (1, .int x1), (2, .int x2), (3, .int x3)] [.int s0] M0 bc bs (sm_pu M0 (.int (bi R))) := by
  intro w x1 x2 x3 s0 hI  hf
  unfold fn_Sc_hasChanges_45 at hf
  refine sm_istore d_Sc_hasChanges_45 (by decide) rfl ?_
  refine sm_aload_n d_Sc_hasChanges_47 rfl (j := 1) rfl ?_
  refine sm_iload_n d_Sc_hasChanges_48 rfl (j := 4) rfl ?_
  refine lo_callV d_Sc_hasChanges_49 cs_Sc_hasChanges_139 rfl hI cl_105 (As := [.int x3]) rfl rfl (Nat.le_of_ble_eq_true rfl) (c_Sc_told hI hZ x3) ?_
  refine sm_aload_n d_Sc_hasChanges_52 rfl (j := 1) rfl ?_
  refine sm_iload_n d_Sc_hasChanges_53 rfl (j := 4) rfl ?_
  refine sm_iconst (v := 1) d_Sc_hasChanges_54 (by decide) ?_
  refine sm_iadd d_Sc_hasChanges_55 ?_
  refine lo_callV d_Sc_hasChanges_56 cs_Sc_hasChanges_139 rfl hI cl_105 (As := [.int (x3 + (1 : Int32))]) rfl rfl (Nat.le_of_ble_eq_true rfl) (c_Sc_told hI hZ (x3 + (1 : Int32))) ?_
  refine sm_aload_n d_Sc_hasChanges_59 rfl (j := 1) rfl ?_
  refine sm_iload_n d_Sc_hasChanges_60 rfl (j := 4) rfl ?_
  refine sm_iconst (v := 2) d_Sc_hasChanges_61 (by decide) ?_
  refine sm_iadd d_Sc_hasChanges_62 ?_
  refine lo_callV d_Sc_hasChanges_63 cs_Sc_hasChanges_136 rfl hI cl_105 (As := [.int (x3 + (2 : Int32))]) rfl rfl (Nat.le_of_ble_eq_true rfl) (c_Sc_told2 hI hZ (x3 + (2 : Int32))) ?_
  refine sm_aload_n d_Sc_hasChanges_66 rfl (j := 1) rfl ?_
  refine sm_iload_n d_Sc_hasChanges_67 rfl (j := 4) rfl ?_
  refine sm_iconst (v := 4) d_Sc_hasChanges_68 (by decide) ?_
  refine sm_iadd d_Sc_hasChanges_69 ?_
  refine lo_callV d_Sc_hasChanges_70 cs_Sc_hasChanges_139 rfl hI cl_105 (As := [.int (x3 + (4 : Int32))]) rfl rfl (Nat.le_of_ble_eq_true rfl) (c_Sc_told hI hZ (x3 + (4 : Int32))) ?_
  refine sm_iload d_Sc_hasChanges_73 (j := 0) rfl ?_
  refine sm_aload_n d_Sc_hasChanges_75 rfl (j := 1) rfl ?_
  refine sm_iload_n d_Sc_hasChanges_76 rfl (j := 4) rfl ?_
  refine sm_bipush (v := 6) d_Sc_hasChanges_77 (by decide) ?_
  refine sm_iadd d_Sc_hasChanges_79 ?_
  refine lo_callV d_Sc_hasChanges_80 cs_Sc_hasChanges_139 rfl hI cl_105 (As := [.int (x3 + (6 : Int32))]) rfl rfl (Nat.le_of_ble_eq_true rfl) (c_Sc_told hI hZ (x3 + (6 : Int32))) ?_
  refine sm_callSp d_Sc_hasChanges_83 cs_Sc_hasChanges_226 rfl (As := [.int (fn_Sc_told Z w x3), .int (fn_Sc_told Z w (x3 + (1 : Int32))), .int (fn_Sc_told2 Z w (x3 + (2 : Int32))), .int (fn_Sc_told Z w (x3 + (4 : Int32))), .int s0, .int (fn_Sc_told Z w (x3 + (6 : Int32)))]) rfl rfl (Nat.le_of_ble_eq_true rfl) (b_Ru_isChange (fn_Sc_told Z w x3) (fn_Sc_told Z w (x3 + (1 : Int32))) (fn_Sc_told2 Z w (x3 + (2 : Int32))) (fn_Sc_told Z w (x3 + (4 : Int32))) s0 (fn_Sc_told Z w (x3 + (6 : Int32)))) ?_
  refine sm_if_ne (tgt := 91) d_Sc_hasChanges_86 (by decide) (fun h3 => ?_) (fun h3 => ?_)
  · rw [if_pos (bi1 h3)] at hf
    refine sm_iinc (v := (x2 + 1)) d_Sc_hasChanges_91 (j := 3) rfl rfl (by decide) rfl ?_
    refine sm_goto (tgt := 12) d_Sc_hasChanges_94 (by decide) ?_
    exact sm_pick [2, 3, 0] (hk12 _ _ _ hI hf) rfl
  · rw [if_neg (bi0 h3)] at hf
    refine sm_iconst (v := 0) d_Sc_hasChanges_89 (by decide) ?_
    cases hf
    refine sm_ireturn d_Sc_hasChanges_90 rfl (by rfl) ?_
    exact ⟨rfl, rfl⟩

def fn_Sc_hasChanges_12 (F : Nat) (Z : zd) : Nat → wd → Int32 → Int32 → Option (Bool)
 | 0, _, _, _ => none
 | n9 + 1, w, x1, x2 => (if x1 ≤ x2 then some true else (if (fn_Sc_told Z w (((7 : Int32) * x2) + (5 : Int32))) = 0 then fn_Sc_hasChanges_45 (fn_Sc_hasChanges_12 F Z n9) F Z w x1 x2 ((7 : Int32) * x2) (256 : Int32) else fn_Sc_hasChanges_45 (fn_Sc_hasChanges_12 F Z n9) F Z w x1 x2 ((7 : Int32) * x2) (fn_Sc_told Z w (((7 : Int32) * x2) + (5 : Int32)))))
set_option maxHeartbeats 1600000 in
set_option maxRecDepth 100000 in
theorem w_Sc_hasChanges_12 {G : sm_G} {b : Nat} {M0 : sm_M} {bc bs : Nat} {Z : zd} {R : Bool} {F : Nat} (hZ : cz_at G b M0 Z) : ∀ (n9 : Nat), ∀ (w : wd) (x1 : Int32) (x2 : Int32), lo_in G cm_L b M0 M0 w → fn_Sc_hasChanges_12 F Z n9 w x1 x2 = some R → sm_W G mf_Sc_hasChanges 12 [(0, .ref (b + 105)), (1, .int x1), (2, .int x2)] [] M0 bc bs (sm_pu M0 (.int (bi R))) := by
  intro n9
  induction n9 with
  | zero => intro w x1 x2 hI  hf; cases hf
  | succ n9 ih =>
    intro w x1 x2 hI  hf
    rw [fn_Sc_hasChanges_12] at hf
    refine sm_iload_n d_Sc_hasChanges_12 rfl (j := 2) rfl ?_
    refine sm_iload_n d_Sc_hasChanges_13 rfl (j := 1) rfl ?_
    refine sm_icmp_ge (tgt := 97) d_Sc_hasChanges_14 (by decide) (fun h1 => ?_) (fun h1 => ?_)
    · rw [if_pos h1] at hf
      refine sm_iconst (v := 1) d_Sc_hasChanges_97 (by decide) ?_
      cases hf
      refine sm_ireturn d_Sc_hasChanges_98 rfl (by rfl) ?_
      exact ⟨rfl, rfl⟩
    · rw [if_neg h1] at hf
      refine sm_bipush (v := 7) d_Sc_hasChanges_17 (by decide) ?_
      refine sm_iload_n d_Sc_hasChanges_19 rfl (j := 2) rfl ?_
      refine sm_imul d_Sc_hasChanges_20 ?_
      refine sm_istore_n d_Sc_hasChanges_21 rfl (by decide) rfl ?_
      refine sm_aload_n d_Sc_hasChanges_22 rfl (j := 1) rfl ?_
      refine sm_iload_n d_Sc_hasChanges_23 rfl (j := 0) rfl ?_
      refine sm_iconst (v := 5) d_Sc_hasChanges_24 (by decide) ?_
      refine sm_iadd d_Sc_hasChanges_25 ?_
      refine lo_callV d_Sc_hasChanges_26 cs_Sc_hasChanges_139 rfl hI cl_105 (As := [.int (((7 : Int32) * x2) + (5 : Int32))]) rfl rfl (Nat.le_of_ble_eq_true rfl) (c_Sc_told hI hZ (((7 : Int32) * x2) + (5 : Int32))) ?_
      refine sm_if_ne (tgt := 38) d_Sc_hasChanges_29 (by decide) (fun h2 => ?_) (fun h2 => ?_)
      · rw [if_neg h2] at hf
        refine sm_aload_n d_Sc_hasChanges_38 rfl (j := 1) rfl ?_
        refine sm_iload_n d_Sc_hasChanges_39 rfl (j := 0) rfl ?_
        refine sm_iconst (v := 5) d_Sc_hasChanges_40 (by decide) ?_
        refine sm_iadd d_Sc_hasChanges_41 ?_
        refine lo_callV d_Sc_hasChanges_42 cs_Sc_hasChanges_139 rfl hI cl_105 (As := [.int (((7 : Int32) * x2) + (5 : Int32))]) rfl rfl (Nat.le_of_ble_eq_true rfl) (c_Sc_told hI hZ (((7 : Int32) * x2) + (5 : Int32))) ?_
        exact sm_pick [1, 2, 3, 0] (w_Sc_hasChanges_45 ih hZ _ _ _ _ _ hI hf) rfl
      · rw [if_pos h2] at hf
        refine sm_sipush (v := 256) d_Sc_hasChanges_32 (by decide) ?_
        refine sm_goto (tgt := 45) d_Sc_hasChanges_35 (by decide) ?_
        exact sm_pick [1, 2, 3, 0] (w_Sc_hasChanges_45 ih hZ _ _ _ _ _ hI hf) rfl

def fn_Sc_hasChanges (F : Nat) (Z : zd) (w : wd) : Option (Bool) := fn_Sc_hasChanges_12 F Z F w (((w 105 8) - (2 : Int32)) / (7 : Int32)) (0 : Int32)
set_option maxHeartbeats 1600000 in
set_option maxRecDepth 100000 in
theorem c_Sc_hasChanges {G : sm_G} {b : Nat} {M0 M : sm_M} {Z : zd} {w : wd} {F : Nat} (hI : lo_in G cm_L b M0 M w) (hZ : cz_at G b M0 Z) {R : Bool} (hf : fn_Sc_hasChanges F Z w = some R) : sm_C G mf_Sc_hasChanges [.ref (b + 105)] M 0 0 (sm_pu M (.int (bi R))) := by
  unfold fn_Sc_hasChanges at hf
  have hZ := hZ.go hI.2
  have hI := hI.here
  refine sm_ofW rfl (Nat.le_of_ble_eq_true rfl) ?_
  refine sm_aload_n d_Sc_hasChanges_0 rfl (j := 0) rfl ?_
  refine lo_get (v := .int (w 105 8)) d_Sc_hasChanges_1 fg_Sc_113 hI cl_105 rfl ?_
  refine sm_iconst (v := 2) d_Sc_hasChanges_4 (by decide) ?_
  refine sm_isub d_Sc_hasChanges_5 ?_
  refine sm_bipush (v := 7) d_Sc_hasChanges_6 (by decide) ?_
  refine sm_idiv d_Sc_hasChanges_8 (by decide) ?_
  refine sm_istore_n d_Sc_hasChanges_9 rfl (by decide) rfl ?_
  refine sm_iconst (v := 0) d_Sc_hasChanges_10 (by decide) ?_
  refine sm_istore_n d_Sc_hasChanges_11 rfl (by decide) rfl ?_
  exact sm_pick [2, 1, 0] (w_Sc_hasChanges_12 hZ _ _ _ _ hI hf) rfl

def fn_Sc_span (Z : zd) (w : wd) : Int64 := (lN (rw_u4 Z.1.1 ((w 105 5) + (6 : Int32))))
set_option maxHeartbeats 1600000 in
set_option maxRecDepth 100000 in
theorem c_Sc_span {G : sm_G} {b : Nat} {M0 M : sm_M} {Z : zd} {w : wd}  (hI : lo_in G cm_L b M0 M w) (hZ : cz_at G b M0 Z) : sm_C G mf_Sc_span [.ref (b + 105)] M 0 0 (sm_pu M (.long (fn_Sc_span Z w))) := by
  obtain ⟨R, hf⟩ : ∃ R, fn_Sc_span Z w = R := ⟨_, rfl⟩
  rw [hf]
  unfold fn_Sc_span at hf
  have hZ := hZ.go hI.2
  have hI := hI.here
  refine sm_ofW rfl (Nat.le_of_ble_eq_true rfl) ?_
  refine sm_aload_n d_Sc_span_0 rfl (j := 0) rfl ?_
  refine lo_get (v := .ref (b + 101)) d_Sc_span_1 fg_Sc_32 hI cl_105 rfl ?_
  refine sm_aload_n d_Sc_span_4 rfl (j := 0) rfl ?_
  refine lo_get (v := .int (w 105 5)) d_Sc_span_5 fg_Sc_50 hI cl_105 rfl ?_
  refine sm_bipush (v := 6) d_Sc_span_8 (by decide) ?_
  refine sm_iadd d_Sc_span_10 ?_
  refine cm_callR d_Sc_span_11 cs_Sc_span_200 rfl (cz_c1 hI hZ) (As := [.int ((w 105 5) + (6 : Int32))]) rfl rfl (Nat.le_of_ble_eq_true rfl) (cz_u41 hI hZ ((w 105 5) + (6 : Int32))) ?_
  subst hf
  refine sm_lreturn d_Sc_span_14 rfl ?_
  exact ⟨rfl, rfl⟩

def fn_Sc_hasValues_409 (F : Nat) (Z : zd) (w : wd) : Option (Bool) := ((fn_Pt_mayFollow w (fn_Sc_told2 Z w (0 : Int32)) (fn_Sc_told Z w (6 : Int32)) (fn_Sc_told Z w (7 : Int32))).bind fun r48 => (if r48 = true then some true else some false))
set_option maxHeartbeats 1600000 in
set_option maxRecDepth 100000 in
theorem w_Sc_hasValues_409 {G : sm_G} {b : Nat} {M0 : sm_M} {bc bs : Nat} {Z : zd} {R : Bool} {F : Nat} (hZ : cz_at G b M0 Z) : ∀ (w : wd) , lo_in G cm_L b M0 M0 w → fn_Sc_hasValues_409 F Z w = some R → sm_W G mf_Sc_hasValues 409 [(0, .ref (b + 105))] [] M0 bc bs (sm_pu M0 (.int (bi R))) := by
  intro w  hI  hf
  unfold fn_Sc_hasValues_409 at hf
  refine sm_aload_n d_Sc_hasValues_409 rfl (j := 0) rfl ?_
  refine lo_get (v := .ref (b + 110)) d_Sc_hasValues_410 fg_Sc_28 hI cl_105 rfl ?_
  refine sm_aload_n d_Sc_hasValues_413 rfl (j := 0) rfl ?_
  refine sm_iconst (v := 0) d_Sc_hasValues_414 (by decide) ?_
  refine lo_callV d_Sc_hasValues_415 cs_Sc_hasValues_136 rfl hI cl_105 (As := [.int (0 : Int32)]) rfl rfl (Nat.le_of_ble_eq_true rfl) (c_Sc_told2 hI hZ (0 : Int32)) ?_
  refine sm_aload_n d_Sc_hasValues_418 rfl (j := 0) rfl ?_
  refine sm_bipush (v := 6) d_Sc_hasValues_419 (by decide) ?_
  refine lo_callV d_Sc_hasValues_421 cs_Sc_hasValues_139 rfl hI cl_105 (As := [.int (6 : Int32)]) rfl rfl (Nat.le_of_ble_eq_true rfl) (c_Sc_told hI hZ (6 : Int32)) ?_
  refine sm_aload_n d_Sc_hasValues_424 rfl (j := 0) rfl ?_
  refine sm_bipush (v := 7) d_Sc_hasValues_425 (by decide) ?_
  refine lo_callV d_Sc_hasValues_427 cs_Sc_hasValues_139 rfl hI cl_105 (As := [.int (7 : Int32)]) rfl rfl (Nat.le_of_ble_eq_true rfl) (c_Sc_told hI hZ (7 : Int32)) ?_
  obtain ⟨r48, e49, hf⟩ := lo_bnd hf
  refine lo_callV d_Sc_hasValues_430 cs_Sc_hasValues_196 rfl hI cl_110 (As := [.int (fn_Sc_told2 Z w (0 : Int32)), .int (fn_Sc_told Z w (6 : Int32)), .int (fn_Sc_told Z w (7 : Int32))]) rfl rfl (Nat.le_of_ble_eq_true rfl) (c_Pt_mayFollow hI hZ (fn_Sc_told2 Z w (0 : Int32)) (fn_Sc_told Z w (6 : Int32)) (fn_Sc_told Z w (7 : Int32)) e49) ?_
  refine sm_if_eq (tgt := 440) d_Sc_hasValues_433 (by decide) (fun h50 => ?_) (fun h50 => ?_)
  · rw [if_neg (bi0 h50)] at hf
    refine sm_iconst (v := 0) d_Sc_hasValues_440 (by decide) ?_
    cases hf
    refine sm_ireturn d_Sc_hasValues_441 rfl (by rfl) ?_
    exact ⟨rfl, rfl⟩
  · rw [if_pos (bi1 h50)] at hf
    refine sm_iconst (v := 1) d_Sc_hasValues_436 (by decide) ?_
    refine sm_goto (tgt := 441) d_Sc_hasValues_437 (by decide) ?_
    cases hf
    refine sm_ireturn d_Sc_hasValues_441 rfl (by rfl) ?_
    exact ⟨rfl, rfl⟩

def fn_Sc_hasValues (F : Nat) (Z : zd) (w : wd) : Option (Bool) := (if (w 105 7) = 81 then (if (fn_Sc_hasArea Z w) = true then ((fn_Sc_hasComponents F Z w).bind fun r3 => (if r3 = true then some true else some false)) else some false) else (if (w 105 7) = 82 then (if (7 : Int32) < (fn_Sc_told Z w (0 : Int32)) then some false else (if (fn_Ru_isOrder (fn_Sc_told Z w (1 : Int32))) = true then (if (fn_Sc_told2 Z w (2 : Int32)) < (1 : Int32) then some false else (if (1 : Int32) < (fn_Sc_told Z w (4 : Int32)) then some false else (if ((fn_Sc_told Z w (0 : Int32)) &&& (1 : Int32)) = 0 then ((fn_Sc_hasBody F Z w (5 : Int32) false).bind fun r12 => (if r12 = true then some true else some false)) else ((fn_Sc_hasBody F Z w (5 : Int32) true).bind fun r15 => (if r15 = true then some true else some false))))) else some false)) else (if (w 105 7) = 83 then (if (w 105 9) ≤ (fn_Sc_told Z w (0 : Int32)) then some false else (if (1 : Int32) < (fn_Sc_told Z w (1 : Int32)) then some false else (if ((fn_Sc_told Z w (1 : Int32)) &&& (1 : Int32)) = 0 then ((fn_Sc_hasBody F Z w (2 : Int32) false).bind fun r22 => (if r22 = true then some true else some false)) else ((fn_Sc_hasBody F Z w (2 : Int32) true).bind fun r25 => (if r25 = true then some true else some false))))) else (if (w 105 7) = 92 then some (fn_Ru_isStepping ((fn_Sc_told Z w (0 : Int32)) &&& (31 : Int32)) ((fn_Sc_told Z w (0 : Int32)) >>> ((5 : Int32) &&& 31))) else (if (w 105 7) = 93 then (if (w 105 9) ≤ (fn_Sc_told Z w (0 : Int32)) then some false else (if (fn_Ru_isStepping ((fn_Sc_told Z w (1 : Int32)) &&& (31 : Int32)) ((fn_Sc_told Z w (1 : Int32)) >>> ((5 : Int32) &&& 31))) = true then some true else some false)) else (if (w 105 7) = 94 then (if (w 105 9) ≤ (fn_Sc_told Z w (0 : Int32)) then some false else (if (fn_Sc_told Z w (1 : Int32)) = 0 then (if (fn_Ru_isShift (fn_Sc_told Z w (2 : Int32))) = true then some true else some false) else some false)) else (if (w 105 7) = 95 then ((fn_Sc_hasChanges F Z w).bind fun r37 => some r37) else (if (w 105 7) = 96 then (if (fn_Sc_told Z w (0 : Int32)) = (w 105 11) then some true else some false) else (if (w 105 7) = 97 then ((fn_Pt_headSegmentsOf w (w 105 12)).bind fun r42 => (if (fn_Sc_told Z w (0 : Int32)) = r42 then some true else some false)) else (if (w 105 7) = 144 then (if (w 105 10) ≤ (fn_Sc_told2 Z w (0 : Int32)) then some false else (if (fn_Sc_span Z w) = (0 : Int64) then fn_Sc_hasValues_409 F Z w else (if (fn_Sc_span Z w) < (14 : Int64) then some false else fn_Sc_hasValues_409 F Z w))) else some true))))))))))
set_option maxHeartbeats 1600000 in
set_option maxRecDepth 100000 in
theorem c_Sc_hasValues {G : sm_G} {b : Nat} {M0 M : sm_M} {Z : zd} {w : wd} {F : Nat} (hI : lo_in G cm_L b M0 M w) (hZ : cz_at G b M0 Z) {R : Bool} (hf : fn_Sc_hasValues F Z w = some R) : sm_C G mf_Sc_hasValues [.ref (b + 105)] M 0 0 (sm_pu M (.int (bi R))) := by
  unfold fn_Sc_hasValues at hf
  have hZ := hZ.go hI.2
  have hI := hI.here
  refine sm_ofW rfl (Nat.le_of_ble_eq_true rfl) ?_
  refine sm_aload_n d_Sc_hasValues_0 rfl (j := 0) rfl ?_
  refine lo_get (v := .int (w 105 7)) d_Sc_hasValues_1 fg_Sc_97 hI cl_105 rfl ?_
  by_cases h1 : (w 105 7) = 81
  · rw [if_pos h1] at hf
    refine sm_lookup (tgt := 96) d_Sc_hasValues_4 (by decide) (by rw [h1] <;> rfl) (by decide) ?_
    refine sm_aload_n d_Sc_hasValues_96 rfl (j := 0) rfl ?_
    refine lo_callV d_Sc_hasValues_97 cs_Sc_hasValues_153 rfl hI cl_105 (As := []) rfl rfl (Nat.le_of_ble_eq_true rfl) (c_Sc_hasArea hI hZ) ?_
    refine sm_if_eq (tgt := 114) d_Sc_hasValues_100 (by decide) (fun h2 => ?_) (fun h2 => ?_)
    · rw [if_neg (bi0 h2)] at hf
      refine sm_iconst (v := 0) d_Sc_hasValues_114 (by decide) ?_
      cases hf
      refine sm_ireturn d_Sc_hasValues_115 rfl (by rfl) ?_
      exact ⟨rfl, rfl⟩
    · rw [if_pos (bi1 h2)] at hf
      refine sm_aload_n d_Sc_hasValues_103 rfl (j := 0) rfl ?_
      obtain ⟨r3, e4, hf⟩ := lo_bnd hf
      refine lo_callV d_Sc_hasValues_104 cs_Sc_hasValues_163 rfl hI cl_105 (As := []) rfl rfl (Nat.le_of_ble_eq_true rfl) (c_Sc_hasComponents hI hZ e4) ?_
      refine sm_if_eq (tgt := 114) d_Sc_hasValues_107 (by decide) (fun h5 => ?_) (fun h5 => ?_)
      · rw [if_neg (bi0 h5)] at hf
        refine sm_iconst (v := 0) d_Sc_hasValues_114 (by decide) ?_
        cases hf
        refine sm_ireturn d_Sc_hasValues_115 rfl (by rfl) ?_
        exact ⟨rfl, rfl⟩
      · rw [if_pos (bi1 h5)] at hf
        refine sm_iconst (v := 1) d_Sc_hasValues_110 (by decide) ?_
        refine sm_goto (tgt := 115) d_Sc_hasValues_111 (by decide) ?_
        cases hf
        refine sm_ireturn d_Sc_hasValues_115 rfl (by rfl) ?_
        exact ⟨rfl, rfl⟩
  · rw [if_neg h1] at hf
    by_cases h6 : (w 105 7) = 82
    · rw [if_pos h6] at hf
      refine sm_lookup (tgt := 116) d_Sc_hasValues_4 (by decide) (by rw [h6] <;> rfl) (by decide) ?_
      refine sm_aload_n d_Sc_hasValues_116 rfl (j := 0) rfl ?_
      refine sm_iconst (v := 0) d_Sc_hasValues_117 (by decide) ?_
      refine lo_callV d_Sc_hasValues_118 cs_Sc_hasValues_139 rfl hI cl_105 (As := [.int (0 : Int32)]) rfl rfl (Nat.le_of_ble_eq_true rfl) (c_Sc_told hI hZ (0 : Int32)) ?_
      refine sm_bipush (v := 7) d_Sc_hasValues_121 (by decide) ?_
      refine sm_icmp_gt (tgt := 182) d_Sc_hasValues_123 (by decide) (fun h7 => ?_) (fun h7 => ?_)
      · rw [if_pos h7] at hf
        refine sm_iconst (v := 0) d_Sc_hasValues_182 (by decide) ?_
        cases hf
        refine sm_ireturn d_Sc_hasValues_183 rfl (by rfl) ?_
        exact ⟨rfl, rfl⟩
      · rw [if_neg h7] at hf
        refine sm_aload_n d_Sc_hasValues_126 rfl (j := 0) rfl ?_
        refine sm_iconst (v := 1) d_Sc_hasValues_127 (by decide) ?_
        refine lo_callV d_Sc_hasValues_128 cs_Sc_hasValues_139 rfl hI cl_105 (As := [.int (1 : Int32)]) rfl rfl (Nat.le_of_ble_eq_true rfl) (c_Sc_told hI hZ (1 : Int32)) ?_
        refine sm_callSp d_Sc_hasValues_131 cs_Sc_hasValues_166 rfl (As := [.int (fn_Sc_told Z w (1 : Int32))]) rfl rfl (Nat.le_of_ble_eq_true rfl) (b_Ru_isOrder (fn_Sc_told Z w (1 : Int32))) ?_
        refine sm_if_eq (tgt := 182) d_Sc_hasValues_134 (by decide) (fun h8 => ?_) (fun h8 => ?_)
        · rw [if_neg (bi0 h8)] at hf
          refine sm_iconst (v := 0) d_Sc_hasValues_182 (by decide) ?_
          cases hf
          refine sm_ireturn d_Sc_hasValues_183 rfl (by rfl) ?_
          exact ⟨rfl, rfl⟩
        · rw [if_pos (bi1 h8)] at hf
          refine sm_aload_n d_Sc_hasValues_137 rfl (j := 0) rfl ?_
          refine sm_iconst (v := 2) d_Sc_hasValues_138 (by decide) ?_
          refine lo_callV d_Sc_hasValues_139 cs_Sc_hasValues_136 rfl hI cl_105 (As := [.int (2 : Int32)]) rfl rfl (Nat.le_of_ble_eq_true rfl) (c_Sc_told2 hI hZ (2 : Int32)) ?_
          refine sm_iconst (v := 1) d_Sc_hasValues_142 (by decide) ?_
          refine sm_icmp_lt (tgt := 182) d_Sc_hasValues_143 (by decide) (fun h9 => ?_) (fun h9 => ?_)
          · rw [if_pos h9] at hf
            refine sm_iconst (v := 0) d_Sc_hasValues_182 (by decide) ?_
            cases hf
            refine sm_ireturn d_Sc_hasValues_183 rfl (by rfl) ?_
            exact ⟨rfl, rfl⟩
          · rw [if_neg h9] at hf
            refine sm_aload_n d_Sc_hasValues_146 rfl (j := 0) rfl ?_
            refine sm_iconst (v := 4) d_Sc_hasValues_147 (by decide) ?_
            refine lo_callV d_Sc_hasValues_148 cs_Sc_hasValues_139 rfl hI cl_105 (As := [.int (4 : Int32)]) rfl rfl (Nat.le_of_ble_eq_true rfl) (c_Sc_told hI hZ (4 : Int32)) ?_
            refine sm_iconst (v := 1) d_Sc_hasValues_151 (by decide) ?_
            refine sm_icmp_gt (tgt := 182) d_Sc_hasValues_152 (by decide) (fun h10 => ?_) (fun h10 => ?_)
            · rw [if_pos h10] at hf
              refine sm_iconst (v := 0) d_Sc_hasValues_182 (by decide) ?_
              cases hf
              refine sm_ireturn d_Sc_hasValues_183 rfl (by rfl) ?_
              exact ⟨rfl, rfl⟩
            · rw [if_neg h10] at hf
              refine sm_aload_n d_Sc_hasValues_155 rfl (j := 0) rfl ?_
              refine sm_iconst (v := 5) d_Sc_hasValues_156 (by decide) ?_
              refine sm_aload_n d_Sc_hasValues_157 rfl (j := 0) rfl ?_
              refine sm_iconst (v := 0) d_Sc_hasValues_158 (by decide) ?_
              refine lo_callV d_Sc_hasValues_159 cs_Sc_hasValues_139 rfl hI cl_105 (As := [.int (0 : Int32)]) rfl rfl (Nat.le_of_ble_eq_true rfl) (c_Sc_told hI hZ (0 : Int32)) ?_
              refine sm_iconst (v := 1) d_Sc_hasValues_162 (by decide) ?_
              refine sm_iand d_Sc_hasValues_163 ?_
              refine sm_if_eq (tgt := 171) d_Sc_hasValues_164 (by decide) (fun h11 => ?_) (fun h11 => ?_)
              · rw [if_pos h11] at hf
                refine sm_iconst (v := 0) d_Sc_hasValues_171 (by decide) ?_
                obtain ⟨r12, e13, hf⟩ := lo_bnd hf
                refine lo_callV d_Sc_hasValues_172 cs_Sc_hasValues_171 rfl hI cl_105 (As := [.int (5 : Int32), .int (0 : Int32)]) rfl rfl (Nat.le_of_ble_eq_true rfl) (c_Sc_hasBody hI hZ (5 : Int32) false e13) ?_
                refine sm_if_eq (tgt := 182) d_Sc_hasValues_175 (by decide) (fun h14 => ?_) (fun h14 => ?_)
                · rw [if_neg (bi0 h14)] at hf
                  refine sm_iconst (v := 0) d_Sc_hasValues_182 (by decide) ?_
                  cases hf
                  refine sm_ireturn d_Sc_hasValues_183 rfl (by rfl) ?_
                  exact ⟨rfl, rfl⟩
                · rw [if_pos (bi1 h14)] at hf
                  refine sm_iconst (v := 1) d_Sc_hasValues_178 (by decide) ?_
                  refine sm_goto (tgt := 183) d_Sc_hasValues_179 (by decide) ?_
                  cases hf
                  refine sm_ireturn d_Sc_hasValues_183 rfl (by rfl) ?_
                  exact ⟨rfl, rfl⟩
              · rw [if_neg h11] at hf
                refine sm_iconst (v := 1) d_Sc_hasValues_167 (by decide) ?_
                refine sm_goto (tgt := 172) d_Sc_hasValues_168 (by decide) ?_
                obtain ⟨r15, e16, hf⟩ := lo_bnd hf
                refine lo_callV d_Sc_hasValues_172 cs_Sc_hasValues_171 rfl hI cl_105 (As := [.int (5 : Int32), .int (1 : Int32)]) rfl rfl (Nat.le_of_ble_eq_true rfl) (c_Sc_hasBody hI hZ (5 : Int32) true e16) ?_
                refine sm_if_eq (tgt := 182) d_Sc_hasValues_175 (by decide) (fun h17 => ?_) (fun h17 => ?_)
                · rw [if_neg (bi0 h17)] at hf
                  refine sm_iconst (v := 0) d_Sc_hasValues_182 (by decide) ?_
                  cases hf
                  refine sm_ireturn d_Sc_hasValues_183 rfl (by rfl) ?_
                  exact ⟨rfl, rfl⟩
                · rw [if_pos (bi1 h17)] at hf
                  refine sm_iconst (v := 1) d_Sc_hasValues_178 (by decide) ?_
                  refine sm_goto (tgt := 183) d_Sc_hasValues_179 (by decide) ?_
                  cases hf
                  refine sm_ireturn d_Sc_hasValues_183 rfl (by rfl) ?_
                  exact ⟨rfl, rfl⟩
    · rw [if_neg h6] at hf
      by_cases h18 : (w 105 7) = 83
      · rw [if_pos h18] at hf
        refine sm_lookup (tgt := 184) d_Sc_hasValues_4 (by decide) (by rw [h18] <;> rfl) (by decide) ?_
        refine sm_aload_n d_Sc_hasValues_184 rfl (j := 0) rfl ?_
        refine sm_iconst (v := 0) d_Sc_hasValues_185 (by decide) ?_
        refine lo_callV d_Sc_hasValues_186 cs_Sc_hasValues_139 rfl hI cl_105 (As := [.int (0 : Int32)]) rfl rfl (Nat.le_of_ble_eq_true rfl) (c_Sc_told hI hZ (0 : Int32)) ?_
        refine sm_aload_n d_Sc_hasValues_189 rfl (j := 0) rfl ?_
        refine lo_get (v := .int (w 105 9)) d_Sc_hasValues_190 fg_Sc_59 hI cl_105 rfl ?_
        refine sm_icmp_ge (tgt := 232) d_Sc_hasValues_193 (by decide) (fun h19 => ?_) (fun h19 => ?_)
        · rw [if_pos h19] at hf
          refine sm_iconst (v := 0) d_Sc_hasValues_232 (by decide) ?_
          cases hf
          refine sm_ireturn d_Sc_hasValues_233 rfl (by rfl) ?_
          exact ⟨rfl, rfl⟩
        · rw [if_neg h19] at hf
          refine sm_aload_n d_Sc_hasValues_196 rfl (j := 0) rfl ?_
          refine sm_iconst (v := 1) d_Sc_hasValues_197 (by decide) ?_
          refine lo_callV d_Sc_hasValues_198 cs_Sc_hasValues_139 rfl hI cl_105 (As := [.int (1 : Int32)]) rfl rfl (Nat.le_of_ble_eq_true rfl) (c_Sc_told hI hZ (1 : Int32)) ?_
          refine sm_iconst (v := 1) d_Sc_hasValues_201 (by decide) ?_
          refine sm_icmp_gt (tgt := 232) d_Sc_hasValues_202 (by decide) (fun h20 => ?_) (fun h20 => ?_)
          · rw [if_pos h20] at hf
            refine sm_iconst (v := 0) d_Sc_hasValues_232 (by decide) ?_
            cases hf
            refine sm_ireturn d_Sc_hasValues_233 rfl (by rfl) ?_
            exact ⟨rfl, rfl⟩
          · rw [if_neg h20] at hf
            refine sm_aload_n d_Sc_hasValues_205 rfl (j := 0) rfl ?_
            refine sm_iconst (v := 2) d_Sc_hasValues_206 (by decide) ?_
            refine sm_aload_n d_Sc_hasValues_207 rfl (j := 0) rfl ?_
            refine sm_iconst (v := 1) d_Sc_hasValues_208 (by decide) ?_
            refine lo_callV d_Sc_hasValues_209 cs_Sc_hasValues_139 rfl hI cl_105 (As := [.int (1 : Int32)]) rfl rfl (Nat.le_of_ble_eq_true rfl) (c_Sc_told hI hZ (1 : Int32)) ?_
            refine sm_iconst (v := 1) d_Sc_hasValues_212 (by decide) ?_
            refine sm_iand d_Sc_hasValues_213 ?_
            refine sm_if_eq (tgt := 221) d_Sc_hasValues_214 (by decide) (fun h21 => ?_) (fun h21 => ?_)
            · rw [if_pos h21] at hf
              refine sm_iconst (v := 0) d_Sc_hasValues_221 (by decide) ?_
              obtain ⟨r22, e23, hf⟩ := lo_bnd hf
              refine lo_callV d_Sc_hasValues_222 cs_Sc_hasValues_171 rfl hI cl_105 (As := [.int (2 : Int32), .int (0 : Int32)]) rfl rfl (Nat.le_of_ble_eq_true rfl) (c_Sc_hasBody hI hZ (2 : Int32) false e23) ?_
              refine sm_if_eq (tgt := 232) d_Sc_hasValues_225 (by decide) (fun h24 => ?_) (fun h24 => ?_)
              · rw [if_neg (bi0 h24)] at hf
                refine sm_iconst (v := 0) d_Sc_hasValues_232 (by decide) ?_
                cases hf
                refine sm_ireturn d_Sc_hasValues_233 rfl (by rfl) ?_
                exact ⟨rfl, rfl⟩
              · rw [if_pos (bi1 h24)] at hf
                refine sm_iconst (v := 1) d_Sc_hasValues_228 (by decide) ?_
                refine sm_goto (tgt := 233) d_Sc_hasValues_229 (by decide) ?_
                cases hf
                refine sm_ireturn d_Sc_hasValues_233 rfl (by rfl) ?_
                exact ⟨rfl, rfl⟩
            · rw [if_neg h21] at hf
              refine sm_iconst (v := 1) d_Sc_hasValues_217 (by decide) ?_
              refine sm_goto (tgt := 222) d_Sc_hasValues_218 (by decide) ?_
              obtain ⟨r25, e26, hf⟩ := lo_bnd hf
              refine lo_callV d_Sc_hasValues_222 cs_Sc_hasValues_171 rfl hI cl_105 (As := [.int (2 : Int32), .int (1 : Int32)]) rfl rfl (Nat.le_of_ble_eq_true rfl) (c_Sc_hasBody hI hZ (2 : Int32) true e26) ?_
              refine sm_if_eq (tgt := 232) d_Sc_hasValues_225 (by decide) (fun h27 => ?_) (fun h27 => ?_)
              · rw [if_neg (bi0 h27)] at hf
                refine sm_iconst (v := 0) d_Sc_hasValues_232 (by decide) ?_
                cases hf
                refine sm_ireturn d_Sc_hasValues_233 rfl (by rfl) ?_
                exact ⟨rfl, rfl⟩
              · rw [if_pos (bi1 h27)] at hf
                refine sm_iconst (v := 1) d_Sc_hasValues_228 (by decide) ?_
                refine sm_goto (tgt := 233) d_Sc_hasValues_229 (by decide) ?_
                cases hf
                refine sm_ireturn d_Sc_hasValues_233 rfl (by rfl) ?_
                exact ⟨rfl, rfl⟩
      · rw [if_neg h18] at hf
        by_cases h28 : (w 105 7) = 92
        · rw [if_pos h28] at hf
          refine sm_lookup (tgt := 234) d_Sc_hasValues_4 (by decide) (by rw [h28] <;> rfl) (by decide) ?_
          refine sm_aload_n d_Sc_hasValues_234 rfl (j := 0) rfl ?_
          refine sm_iconst (v := 0) d_Sc_hasValues_235 (by decide) ?_
          refine lo_callV d_Sc_hasValues_236 cs_Sc_hasValues_139 rfl hI cl_105 (As := [.int (0 : Int32)]) rfl rfl (Nat.le_of_ble_eq_true rfl) (c_Sc_told hI hZ (0 : Int32)) ?_
          refine sm_bipush (v := 31) d_Sc_hasValues_239 (by decide) ?_
          refine sm_iand d_Sc_hasValues_241 ?_
          refine sm_aload_n d_Sc_hasValues_242 rfl (j := 0) rfl ?_
          refine sm_iconst (v := 0) d_Sc_hasValues_243 (by decide) ?_
          refine lo_callV d_Sc_hasValues_244 cs_Sc_hasValues_139 rfl hI cl_105 (As := [.int (0 : Int32)]) rfl rfl (Nat.le_of_ble_eq_true rfl) (c_Sc_told hI hZ (0 : Int32)) ?_
          refine sm_iconst (v := 5) d_Sc_hasValues_247 (by decide) ?_
          refine sm_ishr d_Sc_hasValues_248 ?_
          refine sm_callSp d_Sc_hasValues_249 cs_Sc_hasValues_175 rfl (As := [.int ((fn_Sc_told Z w (0 : Int32)) &&& (31 : Int32)), .int ((fn_Sc_told Z w (0 : Int32)) >>> ((5 : Int32) &&& 31))]) rfl rfl (Nat.le_of_ble_eq_true rfl) (b_Ru_isStepping ((fn_Sc_told Z w (0 : Int32)) &&& (31 : Int32)) ((fn_Sc_told Z w (0 : Int32)) >>> ((5 : Int32) &&& 31))) ?_
          cases hf
          refine sm_ireturn d_Sc_hasValues_252 rfl (bi_n _) ?_
          exact ⟨rfl, rfl⟩
        · rw [if_neg h28] at hf
          by_cases h29 : (w 105 7) = 93
          · rw [if_pos h29] at hf
            refine sm_lookup (tgt := 253) d_Sc_hasValues_4 (by decide) (by rw [h29] <;> rfl) (by decide) ?_
            refine sm_aload_n d_Sc_hasValues_253 rfl (j := 0) rfl ?_
            refine sm_iconst (v := 0) d_Sc_hasValues_254 (by decide) ?_
            refine lo_callV d_Sc_hasValues_255 cs_Sc_hasValues_139 rfl hI cl_105 (As := [.int (0 : Int32)]) rfl rfl (Nat.le_of_ble_eq_true rfl) (c_Sc_told hI hZ (0 : Int32)) ?_
            refine sm_aload_n d_Sc_hasValues_258 rfl (j := 0) rfl ?_
            refine lo_get (v := .int (w 105 9)) d_Sc_hasValues_259 fg_Sc_59 hI cl_105 rfl ?_
            refine sm_icmp_ge (tgt := 290) d_Sc_hasValues_262 (by decide) (fun h30 => ?_) (fun h30 => ?_)
            · rw [if_pos h30] at hf
              refine sm_iconst (v := 0) d_Sc_hasValues_290 (by decide) ?_
              cases hf
              refine sm_ireturn d_Sc_hasValues_291 rfl (by rfl) ?_
              exact ⟨rfl, rfl⟩
            · rw [if_neg h30] at hf
              refine sm_aload_n d_Sc_hasValues_265 rfl (j := 0) rfl ?_
              refine sm_iconst (v := 1) d_Sc_hasValues_266 (by decide) ?_
              refine lo_callV d_Sc_hasValues_267 cs_Sc_hasValues_139 rfl hI cl_105 (As := [.int (1 : Int32)]) rfl rfl (Nat.le_of_ble_eq_true rfl) (c_Sc_told hI hZ (1 : Int32)) ?_
              refine sm_bipush (v := 31) d_Sc_hasValues_270 (by decide) ?_
              refine sm_iand d_Sc_hasValues_272 ?_
              refine sm_aload_n d_Sc_hasValues_273 rfl (j := 0) rfl ?_
              refine sm_iconst (v := 1) d_Sc_hasValues_274 (by decide) ?_
              refine lo_callV d_Sc_hasValues_275 cs_Sc_hasValues_139 rfl hI cl_105 (As := [.int (1 : Int32)]) rfl rfl (Nat.le_of_ble_eq_true rfl) (c_Sc_told hI hZ (1 : Int32)) ?_
              refine sm_iconst (v := 5) d_Sc_hasValues_278 (by decide) ?_
              refine sm_ishr d_Sc_hasValues_279 ?_
              refine sm_callSp d_Sc_hasValues_280 cs_Sc_hasValues_175 rfl (As := [.int ((fn_Sc_told Z w (1 : Int32)) &&& (31 : Int32)), .int ((fn_Sc_told Z w (1 : Int32)) >>> ((5 : Int32) &&& 31))]) rfl rfl (Nat.le_of_ble_eq_true rfl) (b_Ru_isStepping ((fn_Sc_told Z w (1 : Int32)) &&& (31 : Int32)) ((fn_Sc_told Z w (1 : Int32)) >>> ((5 : Int32) &&& 31))) ?_
              refine sm_if_eq (tgt := 290) d_Sc_hasValues_283 (by decide) (fun h31 => ?_) (fun h31 => ?_)
              · rw [if_neg (bi0 h31)] at hf
                refine sm_iconst (v := 0) d_Sc_hasValues_290 (by decide) ?_
                cases hf
                refine sm_ireturn d_Sc_hasValues_291 rfl (by rfl) ?_
                exact ⟨rfl, rfl⟩
              · rw [if_pos (bi1 h31)] at hf
                refine sm_iconst (v := 1) d_Sc_hasValues_286 (by decide) ?_
                refine sm_goto (tgt := 291) d_Sc_hasValues_287 (by decide) ?_
                cases hf
                refine sm_ireturn d_Sc_hasValues_291 rfl (by rfl) ?_
                exact ⟨rfl, rfl⟩
          · rw [if_neg h29] at hf
            by_cases h32 : (w 105 7) = 94
            · rw [if_pos h32] at hf
              refine sm_lookup (tgt := 292) d_Sc_hasValues_4 (by decide) (by rw [h32] <;> rfl) (by decide) ?_
              refine sm_aload_n d_Sc_hasValues_292 rfl (j := 0) rfl ?_
              refine sm_iconst (v := 0) d_Sc_hasValues_293 (by decide) ?_
              refine lo_callV d_Sc_hasValues_294 cs_Sc_hasValues_139 rfl hI cl_105 (As := [.int (0 : Int32)]) rfl rfl (Nat.le_of_ble_eq_true rfl) (c_Sc_told hI hZ (0 : Int32)) ?_
              refine sm_aload_n d_Sc_hasValues_297 rfl (j := 0) rfl ?_
              refine lo_get (v := .int (w 105 9)) d_Sc_hasValues_298 fg_Sc_59 hI cl_105 rfl ?_
              refine sm_icmp_ge (tgt := 327) d_Sc_hasValues_301 (by decide) (fun h33 => ?_) (fun h33 => ?_)
              · rw [if_pos h33] at hf
                refine sm_iconst (v := 0) d_Sc_hasValues_327 (by decide) ?_
                cases hf
                refine sm_ireturn d_Sc_hasValues_328 rfl (by rfl) ?_
                exact ⟨rfl, rfl⟩
              · rw [if_neg h33] at hf
                refine sm_aload_n d_Sc_hasValues_304 rfl (j := 0) rfl ?_
                refine sm_iconst (v := 1) d_Sc_hasValues_305 (by decide) ?_
                refine lo_callV d_Sc_hasValues_306 cs_Sc_hasValues_139 rfl hI cl_105 (As := [.int (1 : Int32)]) rfl rfl (Nat.le_of_ble_eq_true rfl) (c_Sc_told hI hZ (1 : Int32)) ?_
                refine sm_if_ne (tgt := 327) d_Sc_hasValues_309 (by decide) (fun h34 => ?_) (fun h34 => ?_)
                · rw [if_neg h34] at hf
                  refine sm_iconst (v := 0) d_Sc_hasValues_327 (by decide) ?_
                  cases hf
                  refine sm_ireturn d_Sc_hasValues_328 rfl (by rfl) ?_
                  exact ⟨rfl, rfl⟩
                · rw [if_pos h34] at hf
                  refine sm_aload_n d_Sc_hasValues_312 rfl (j := 0) rfl ?_
                  refine sm_iconst (v := 2) d_Sc_hasValues_313 (by decide) ?_
                  refine lo_callV d_Sc_hasValues_314 cs_Sc_hasValues_139 rfl hI cl_105 (As := [.int (2 : Int32)]) rfl rfl (Nat.le_of_ble_eq_true rfl) (c_Sc_told hI hZ (2 : Int32)) ?_
                  refine sm_callSp d_Sc_hasValues_317 cs_Sc_hasValues_179 rfl (As := [.int (fn_Sc_told Z w (2 : Int32))]) rfl rfl (Nat.le_of_ble_eq_true rfl) (b_Ru_isShift (fn_Sc_told Z w (2 : Int32))) ?_
                  refine sm_if_eq (tgt := 327) d_Sc_hasValues_320 (by decide) (fun h35 => ?_) (fun h35 => ?_)
                  · rw [if_neg (bi0 h35)] at hf
                    refine sm_iconst (v := 0) d_Sc_hasValues_327 (by decide) ?_
                    cases hf
                    refine sm_ireturn d_Sc_hasValues_328 rfl (by rfl) ?_
                    exact ⟨rfl, rfl⟩
                  · rw [if_pos (bi1 h35)] at hf
                    refine sm_iconst (v := 1) d_Sc_hasValues_323 (by decide) ?_
                    refine sm_goto (tgt := 328) d_Sc_hasValues_324 (by decide) ?_
                    cases hf
                    refine sm_ireturn d_Sc_hasValues_328 rfl (by rfl) ?_
                    exact ⟨rfl, rfl⟩
            · rw [if_neg h32] at hf
              by_cases h36 : (w 105 7) = 95
              · rw [if_pos h36] at hf
                refine sm_lookup (tgt := 329) d_Sc_hasValues_4 (by decide) (by rw [h36] <;> rfl) (by decide) ?_
                refine sm_aload_n d_Sc_hasValues_329 rfl (j := 0) rfl ?_
                obtain ⟨r37, e38, hf⟩ := lo_bnd hf
                refine lo_callV d_Sc_hasValues_330 cs_Sc_hasValues_182 rfl hI cl_105 (As := []) rfl rfl (Nat.le_of_ble_eq_true rfl) (c_Sc_hasChanges hI hZ e38) ?_
                cases hf
                refine sm_ireturn d_Sc_hasValues_333 rfl (bi_n _) ?_
                exact ⟨rfl, rfl⟩
              · rw [if_neg h36] at hf
                by_cases h39 : (w 105 7) = 96
                · rw [if_pos h39] at hf
                  refine sm_lookup (tgt := 334) d_Sc_hasValues_4 (by decide) (by rw [h39] <;> rfl) (by decide) ?_
                  refine sm_aload_n d_Sc_hasValues_334 rfl (j := 0) rfl ?_
                  refine sm_iconst (v := 0) d_Sc_hasValues_335 (by decide) ?_
                  refine lo_callV d_Sc_hasValues_336 cs_Sc_hasValues_139 rfl hI cl_105 (As := [.int (0 : Int32)]) rfl rfl (Nat.le_of_ble_eq_true rfl) (c_Sc_told hI hZ (0 : Int32)) ?_
                  refine sm_aload_n d_Sc_hasValues_339 rfl (j := 0) rfl ?_
                  refine lo_get (v := .int (w 105 11)) d_Sc_hasValues_340 fg_Sc_65 hI cl_105 rfl ?_
                  refine sm_icmp_ne (tgt := 350) d_Sc_hasValues_343 (by decide) (fun h40 => ?_) (fun h40 => ?_)
                  · rw [if_neg h40] at hf
                    refine sm_iconst (v := 0) d_Sc_hasValues_350 (by decide) ?_
                    cases hf
                    refine sm_ireturn d_Sc_hasValues_351 rfl (by rfl) ?_
                    exact ⟨rfl, rfl⟩
                  · rw [if_pos h40] at hf
                    refine sm_iconst (v := 1) d_Sc_hasValues_346 (by decide) ?_
                    refine sm_goto (tgt := 351) d_Sc_hasValues_347 (by decide) ?_
                    cases hf
                    refine sm_ireturn d_Sc_hasValues_351 rfl (by rfl) ?_
                    exact ⟨rfl, rfl⟩
                · rw [if_neg h39] at hf
                  by_cases h41 : (w 105 7) = 97
                  · rw [if_pos h41] at hf
                    refine sm_lookup (tgt := 352) d_Sc_hasValues_4 (by decide) (by rw [h41] <;> rfl) (by decide) ?_
                    refine sm_aload_n d_Sc_hasValues_352 rfl (j := 0) rfl ?_
                    refine sm_iconst (v := 0) d_Sc_hasValues_353 (by decide) ?_
                    refine lo_callV d_Sc_hasValues_354 cs_Sc_hasValues_139 rfl hI cl_105 (As := [.int (0 : Int32)]) rfl rfl (Nat.le_of_ble_eq_true rfl) (c_Sc_told hI hZ (0 : Int32)) ?_
                    refine sm_aload_n d_Sc_hasValues_357 rfl (j := 0) rfl ?_
                    refine lo_get (v := .ref (b + 110)) d_Sc_hasValues_358 fg_Sc_28 hI cl_105 rfl ?_
                    refine sm_aload_n d_Sc_hasValues_361 rfl (j := 0) rfl ?_
                    refine lo_get (v := .int (w 105 12)) d_Sc_hasValues_362 fg_Sc_185 hI cl_105 rfl ?_
                    obtain ⟨r42, e43, hf⟩ := lo_bnd hf
                    refine lo_callV d_Sc_hasValues_365 cs_Sc_hasValues_188 rfl hI cl_110 (As := [.int (w 105 12)]) rfl rfl (Nat.le_of_ble_eq_true rfl) (c_Pt_headSegmentsOf hI hZ (w 105 12) e43) ?_
                    refine sm_icmp_ne (tgt := 375) d_Sc_hasValues_368 (by decide) (fun h44 => ?_) (fun h44 => ?_)
                    · rw [if_neg h44] at hf
                      refine sm_iconst (v := 0) d_Sc_hasValues_375 (by decide) ?_
                      cases hf
                      refine sm_ireturn d_Sc_hasValues_376 rfl (by rfl) ?_
                      exact ⟨rfl, rfl⟩
                    · rw [if_pos h44] at hf
                      refine sm_iconst (v := 1) d_Sc_hasValues_371 (by decide) ?_
                      refine sm_goto (tgt := 376) d_Sc_hasValues_372 (by decide) ?_
                      cases hf
                      refine sm_ireturn d_Sc_hasValues_376 rfl (by rfl) ?_
                      exact ⟨rfl, rfl⟩
                  · rw [if_neg h41] at hf
                    by_cases h45 : (w 105 7) = 144
                    · rw [if_pos h45] at hf
                      refine sm_lookup (tgt := 377) d_Sc_hasValues_4 (by decide) (by rw [h45] <;> rfl) (by decide) ?_
                      refine sm_aload_n d_Sc_hasValues_377 rfl (j := 0) rfl ?_
                      refine sm_iconst (v := 0) d_Sc_hasValues_378 (by decide) ?_
                      refine lo_callV d_Sc_hasValues_379 cs_Sc_hasValues_136 rfl hI cl_105 (As := [.int (0 : Int32)]) rfl rfl (Nat.le_of_ble_eq_true rfl) (c_Sc_told2 hI hZ (0 : Int32)) ?_
                      refine sm_aload_n d_Sc_hasValues_382 rfl (j := 0) rfl ?_
                      refine lo_get (v := .int (w 105 10)) d_Sc_hasValues_383 fg_Sc_62 hI cl_105 rfl ?_
                      refine sm_icmp_ge (tgt := 440) d_Sc_hasValues_386 (by decide) (fun h46 => ?_) (fun h46 => ?_)
                      · rw [if_pos h46] at hf
                        refine sm_iconst (v := 0) d_Sc_hasValues_440 (by decide) ?_
                        cases hf
                        refine sm_ireturn d_Sc_hasValues_441 rfl (by rfl) ?_
                        exact ⟨rfl, rfl⟩
                      · rw [if_neg h46] at hf
                        refine sm_aload_n d_Sc_hasValues_389 rfl (j := 0) rfl ?_
                        refine lo_callV d_Sc_hasValues_390 cs_Sc_hasValues_191 rfl hI cl_105 (As := []) rfl rfl (Nat.le_of_ble_eq_true rfl) (c_Sc_span hI hZ) ?_
                        refine sm_lconst (v := 0) d_Sc_hasValues_393 (by decide) ?_
                        refine sm_lcmp d_Sc_hasValues_394 ?_
                        refine sm_if_eq (tgt := 409) d_Sc_hasValues_395 (by decide) (fun h47 => ?_) (fun h47 => ?_)
                        · rw [if_pos ((lg_cmp_eq _ _).mp h47)] at hf
                          exact sm_pick [0] (w_Sc_hasValues_409 hZ _ hI hf) rfl
                        · rw [if_neg (mt (lg_cmp_eq _ _).mpr h47)] at hf
                          refine sm_aload_n d_Sc_hasValues_398 rfl (j := 0) rfl ?_
                          refine lo_callV d_Sc_hasValues_399 cs_Sc_hasValues_191 rfl hI cl_105 (As := []) rfl rfl (Nat.le_of_ble_eq_true rfl) (c_Sc_span hI hZ) ?_
                          refine sm_ldc2 (v := 14) d_Sc_hasValues_402 mw_515 ?_
                          refine sm_lcmp d_Sc_hasValues_405 ?_
                          refine sm_if_lt (tgt := 440) d_Sc_hasValues_406 (by decide) (fun h51 => ?_) (fun h51 => ?_)
                          · rw [if_pos ((lg_cmp_lt _ _).mp h51)] at hf
                            refine sm_iconst (v := 0) d_Sc_hasValues_440 (by decide) ?_
                            cases hf
                            refine sm_ireturn d_Sc_hasValues_441 rfl (by rfl) ?_
                            exact ⟨rfl, rfl⟩
                          · rw [if_neg (mt (lg_cmp_lt _ _).mpr h51)] at hf
                            exact sm_pick [0] (w_Sc_hasValues_409 hZ _ hI hf) rfl
                    · rw [if_neg h45] at hf
                      refine sm_lookup (tgt := 442) d_Sc_hasValues_4 (by decide) (lo_offD (List.forall_mem_cons.mpr ⟨(fun e9 => h1 (sm_eqI.mpr (e9.symm.trans (by decide)))), List.forall_mem_cons.mpr ⟨(fun e9 => h6 (sm_eqI.mpr (e9.symm.trans (by decide)))), List.forall_mem_cons.mpr ⟨(fun e9 => h18 (sm_eqI.mpr (e9.symm.trans (by decide)))), List.forall_mem_cons.mpr ⟨(fun e9 => h28 (sm_eqI.mpr (e9.symm.trans (by decide)))), List.forall_mem_cons.mpr ⟨(fun e9 => h29 (sm_eqI.mpr (e9.symm.trans (by decide)))), List.forall_mem_cons.mpr ⟨(fun e9 => h32 (sm_eqI.mpr (e9.symm.trans (by decide)))), List.forall_mem_cons.mpr ⟨(fun e9 => h36 (sm_eqI.mpr (e9.symm.trans (by decide)))), List.forall_mem_cons.mpr ⟨(fun e9 => h39 (sm_eqI.mpr (e9.symm.trans (by decide)))), List.forall_mem_cons.mpr ⟨(fun e9 => h41 (sm_eqI.mpr (e9.symm.trans (by decide)))), List.forall_mem_cons.mpr ⟨(fun e9 => h45 (sm_eqI.mpr (e9.symm.trans (by decide)))), List.forall_mem_nil _⟩⟩⟩⟩⟩⟩⟩⟩⟩⟩)) (by decide) ?_
                      refine sm_iconst (v := 1) d_Sc_hasValues_442 (by decide) ?_
                      cases hf
                      refine sm_ireturn d_Sc_hasValues_443 rfl (by rfl) ?_
                      exact ⟨rfl, rfl⟩

def fn_Sc_owner (Z : zd) (w : wd) : Int32 := (if (w 105 4) = (3 : Int32) then (fn_Ps_ownerOf (w 105 12)) else (0 : Int32))
set_option maxHeartbeats 1600000 in
set_option maxRecDepth 100000 in
theorem c_Sc_owner {G : sm_G} {b : Nat} {M0 M : sm_M} {Z : zd} {w : wd}  (hI : lo_in G cm_L b M0 M w) (hZ : cz_at G b M0 Z) : sm_C G mf_Sc_owner [.ref (b + 105)] M 0 0 (sm_pu M (.int (fn_Sc_owner Z w))) := by
  obtain ⟨R, hf⟩ : ∃ R, fn_Sc_owner Z w = R := ⟨_, rfl⟩
  rw [hf]
  unfold fn_Sc_owner at hf
  have hZ := hZ.go hI.2
  have hI := hI.here
  refine sm_ofW rfl (Nat.le_of_ble_eq_true rfl) ?_
  refine sm_aload_n d_Sc_owner_0 rfl (j := 0) rfl ?_
  refine lo_get (v := .int (w 105 4)) d_Sc_owner_1 fg_Sc_39 hI cl_105 rfl ?_
  refine sm_iconst (v := 3) d_Sc_owner_4 (by decide) ?_
  refine sm_icmp_ne (tgt := 18) d_Sc_owner_5 (by decide) (fun h1 => ?_) (fun h1 => ?_)
  · rw [if_neg h1] at hf
    refine sm_iconst (v := 0) d_Sc_owner_18 (by decide) ?_
    subst hf
    refine sm_ireturn d_Sc_owner_19 rfl (by rfl) ?_
    exact ⟨rfl, rfl⟩
  · rw [if_pos h1] at hf
    refine sm_aload_n d_Sc_owner_8 rfl (j := 0) rfl ?_
    refine lo_get (v := .int (w 105 12)) d_Sc_owner_9 fg_Sc_185 hI cl_105 rfl ?_
    refine sm_callSp d_Sc_owner_12 cs_Sc_owner_250 rfl (As := [.int (w 105 12)]) rfl rfl (Nat.le_of_ble_eq_true rfl) (c_Ps_ownerOf (w 105 12)) ?_
    refine sm_goto (tgt := 19) d_Sc_owner_15 (by decide) ?_
    subst hf
    refine sm_ireturn d_Sc_owner_19 rfl (by rfl) ?_
    exact ⟨rfl, rfl⟩

def fn_Sc_toldComponent (Z : zd) (w : wd) : Int32 := (if (w 105 7) = (83 : Int32) then (fn_Sc_told Z w (0 : Int32)) else (if (w 105 7) = (93 : Int32) then (fn_Sc_told Z w (0 : Int32)) else (if (w 105 7) = (94 : Int32) then (fn_Sc_told Z w (0 : Int32)) else (0 : Int32))))
set_option maxHeartbeats 1600000 in
set_option maxRecDepth 100000 in
theorem c_Sc_toldComponent {G : sm_G} {b : Nat} {M0 M : sm_M} {Z : zd} {w : wd}  (hI : lo_in G cm_L b M0 M w) (hZ : cz_at G b M0 Z) : sm_C G mf_Sc_toldComponent [.ref (b + 105)] M 0 0 (sm_pu M (.int (fn_Sc_toldComponent Z w))) := by
  obtain ⟨R, hf⟩ : ∃ R, fn_Sc_toldComponent Z w = R := ⟨_, rfl⟩
  rw [hf]
  unfold fn_Sc_toldComponent at hf
  have hZ := hZ.go hI.2
  have hI := hI.here
  refine sm_ofW rfl (Nat.le_of_ble_eq_true rfl) ?_
  refine sm_aload_n d_Sc_toldComponent_0 rfl (j := 0) rfl ?_
  refine lo_get (v := .int (w 105 7)) d_Sc_toldComponent_1 fg_Sc_97 hI cl_105 rfl ?_
  refine sm_bipush (v := 83) d_Sc_toldComponent_4 (by decide) ?_
  refine sm_icmp_eq (tgt := 27) d_Sc_toldComponent_6 (by decide) (fun h1 => ?_) (fun h1 => ?_)
  · rw [if_pos h1] at hf
    refine sm_aload_n d_Sc_toldComponent_27 rfl (j := 0) rfl ?_
    refine sm_iconst (v := 0) d_Sc_toldComponent_28 (by decide) ?_
    refine lo_callV d_Sc_toldComponent_29 cs_Sc_toldComponent_139 rfl hI cl_105 (As := [.int (0 : Int32)]) rfl rfl (Nat.le_of_ble_eq_true rfl) (c_Sc_told hI hZ (0 : Int32)) ?_
    refine sm_goto (tgt := 36) d_Sc_toldComponent_32 (by decide) ?_
    subst hf
    refine sm_ireturn d_Sc_toldComponent_36 rfl (by rfl) ?_
    exact ⟨rfl, rfl⟩
  · rw [if_neg h1] at hf
    refine sm_aload_n d_Sc_toldComponent_9 rfl (j := 0) rfl ?_
    refine lo_get (v := .int (w 105 7)) d_Sc_toldComponent_10 fg_Sc_97 hI cl_105 rfl ?_
    refine sm_bipush (v := 93) d_Sc_toldComponent_13 (by decide) ?_
    refine sm_icmp_eq (tgt := 27) d_Sc_toldComponent_15 (by decide) (fun h2 => ?_) (fun h2 => ?_)
    · rw [if_pos h2] at hf
      refine sm_aload_n d_Sc_toldComponent_27 rfl (j := 0) rfl ?_
      refine sm_iconst (v := 0) d_Sc_toldComponent_28 (by decide) ?_
      refine lo_callV d_Sc_toldComponent_29 cs_Sc_toldComponent_139 rfl hI cl_105 (As := [.int (0 : Int32)]) rfl rfl (Nat.le_of_ble_eq_true rfl) (c_Sc_told hI hZ (0 : Int32)) ?_
      refine sm_goto (tgt := 36) d_Sc_toldComponent_32 (by decide) ?_
      subst hf
      refine sm_ireturn d_Sc_toldComponent_36 rfl (by rfl) ?_
      exact ⟨rfl, rfl⟩
    · rw [if_neg h2] at hf
      refine sm_aload_n d_Sc_toldComponent_18 rfl (j := 0) rfl ?_
      refine lo_get (v := .int (w 105 7)) d_Sc_toldComponent_19 fg_Sc_97 hI cl_105 rfl ?_
      refine sm_bipush (v := 94) d_Sc_toldComponent_22 (by decide) ?_
      refine sm_icmp_ne (tgt := 35) d_Sc_toldComponent_24 (by decide) (fun h3 => ?_) (fun h3 => ?_)
      · rw [if_neg h3] at hf
        refine sm_iconst (v := 0) d_Sc_toldComponent_35 (by decide) ?_
        subst hf
        refine sm_ireturn d_Sc_toldComponent_36 rfl (by rfl) ?_
        exact ⟨rfl, rfl⟩
      · rw [if_pos h3] at hf
        refine sm_aload_n d_Sc_toldComponent_27 rfl (j := 0) rfl ?_
        refine sm_iconst (v := 0) d_Sc_toldComponent_28 (by decide) ?_
        refine lo_callV d_Sc_toldComponent_29 cs_Sc_toldComponent_139 rfl hI cl_105 (As := [.int (0 : Int32)]) rfl rfl (Nat.le_of_ble_eq_true rfl) (c_Sc_told hI hZ (0 : Int32)) ?_
        refine sm_goto (tgt := 36) d_Sc_toldComponent_32 (by decide) ?_
        subst hf
        refine sm_ireturn d_Sc_toldComponent_36 rfl (by rfl) ?_
        exact ⟨rfl, rfl⟩

def fn_Sc_spanIsCut (Z : zd) (w : wd) : Bool := (if (fn_Sc_span Z w) = (0 : Int64) then (if (((nI Z.1.1.length) - (2 : Int32)) - (w 105 5)) < (12 : Int32) then true else (if (nI (rw_u1 Z.1.1 ((nI Z.1.1.length) - (2 : Int32)).toInt)) = (255 : Int32) then (if (nI (rw_u1 Z.1.1 (((nI Z.1.1.length) - (2 : Int32)) + (1 : Int32)).toInt)) = (217 : Int32) then false else true) else true)) else (if (fn_Sc_span Z w) ≤ ((nI Z.1.1.length) - (w 105 5)).toInt64 then false else true))
set_option maxHeartbeats 1600000 in
set_option maxRecDepth 100000 in
theorem c_Sc_spanIsCut {G : sm_G} {b : Nat} {M0 M : sm_M} {Z : zd} {w : wd}  (hI : lo_in G cm_L b M0 M w) (hZ : cz_at G b M0 Z) : sm_C G mf_Sc_spanIsCut [.ref (b + 105)] M 0 0 (sm_pu M (.int (bi (fn_Sc_spanIsCut Z w)))) := by
  obtain ⟨R, hf⟩ : ∃ R, fn_Sc_spanIsCut Z w = R := ⟨_, rfl⟩
  rw [hf]
  unfold fn_Sc_spanIsCut at hf
  have hZ := hZ.go hI.2
  have hI := hI.here
  refine sm_ofW rfl (Nat.le_of_ble_eq_true rfl) ?_
  refine sm_aload_n d_Sc_spanIsCut_0 rfl (j := 0) rfl ?_
  refine lo_callV d_Sc_spanIsCut_1 cs_Sc_spanIsCut_191 rfl hI cl_105 (As := []) rfl rfl (Nat.le_of_ble_eq_true rfl) (c_Sc_span hI hZ) ?_
  refine sm_lconst (v := 0) d_Sc_spanIsCut_4 (by decide) ?_
  refine sm_lcmp d_Sc_spanIsCut_5 ?_
  refine sm_if_ne (tgt := 66) d_Sc_spanIsCut_6 (by decide) (fun h1 => ?_) (fun h1 => ?_)
  · rw [if_neg (mt (lg_cmp_eq _ _).mpr h1)] at hf
    refine sm_aload_n d_Sc_spanIsCut_66 rfl (j := 0) rfl ?_
    refine lo_callV d_Sc_spanIsCut_67 cs_Sc_spanIsCut_191 rfl hI cl_105 (As := []) rfl rfl (Nat.le_of_ble_eq_true rfl) (c_Sc_span hI hZ) ?_
    refine sm_aload_n d_Sc_spanIsCut_70 rfl (j := 0) rfl ?_
    refine lo_get (v := .ref (b + 101)) d_Sc_spanIsCut_71 fg_Sc_32 hI cl_105 rfl ?_
    refine cm_cnt1 d_Sc_spanIsCut_74 fg_Sc_53 hI hZ ?_
    refine sm_aload_n d_Sc_spanIsCut_77 rfl (j := 0) rfl ?_
    refine lo_get (v := .int (w 105 5)) d_Sc_spanIsCut_78 fg_Sc_50 hI cl_105 rfl ?_
    refine sm_isub d_Sc_spanIsCut_81 ?_
    refine sm_i2l d_Sc_spanIsCut_82 ?_
    refine sm_lcmp d_Sc_spanIsCut_83 ?_
    refine sm_if_le (tgt := 91) d_Sc_spanIsCut_84 (by decide) (fun h2 => ?_) (fun h2 => ?_)
    · rw [if_pos ((lg_cmp_le _ _).mp h2)] at hf
      refine sm_iconst (v := 0) d_Sc_spanIsCut_91 (by decide) ?_
      subst hf
      refine sm_ireturn d_Sc_spanIsCut_92 rfl (by rfl) ?_
      exact ⟨rfl, rfl⟩
    · rw [if_neg (mt (lg_cmp_le _ _).mpr h2)] at hf
      refine sm_iconst (v := 1) d_Sc_spanIsCut_87 (by decide) ?_
      refine sm_goto (tgt := 92) d_Sc_spanIsCut_88 (by decide) ?_
      subst hf
      refine sm_ireturn d_Sc_spanIsCut_92 rfl (by rfl) ?_
      exact ⟨rfl, rfl⟩
  · rw [if_pos ((lg_cmp_eq _ _).mp h1)] at hf
    refine sm_aload_n d_Sc_spanIsCut_9 rfl (j := 0) rfl ?_
    refine lo_get (v := .ref (b + 101)) d_Sc_spanIsCut_10 fg_Sc_32 hI cl_105 rfl ?_
    refine cm_cnt1 d_Sc_spanIsCut_13 fg_Sc_53 hI hZ ?_
    refine sm_iconst (v := 2) d_Sc_spanIsCut_16 (by decide) ?_
    refine sm_isub d_Sc_spanIsCut_17 ?_
    refine sm_istore_n d_Sc_spanIsCut_18 rfl (by decide) rfl ?_
    refine sm_iload_n d_Sc_spanIsCut_19 rfl (j := 0) rfl ?_
    refine sm_aload_n d_Sc_spanIsCut_20 rfl (j := 1) rfl ?_
    refine lo_get (v := .int (w 105 5)) d_Sc_spanIsCut_21 fg_Sc_50 hI cl_105 rfl ?_
    refine sm_isub d_Sc_spanIsCut_24 ?_
    refine sm_bipush (v := 12) d_Sc_spanIsCut_25 (by decide) ?_
    refine sm_icmp_lt (tgt := 60) d_Sc_spanIsCut_27 (by decide) (fun h3 => ?_) (fun h3 => ?_)
    · rw [if_pos h3] at hf
      refine sm_iconst (v := 1) d_Sc_spanIsCut_60 (by decide) ?_
      refine sm_goto (tgt := 65) d_Sc_spanIsCut_61 (by decide) ?_
      subst hf
      refine sm_ireturn d_Sc_spanIsCut_65 rfl (by rfl) ?_
      exact ⟨rfl, rfl⟩
    · rw [if_neg h3] at hf
      refine sm_aload_n d_Sc_spanIsCut_30 rfl (j := 1) rfl ?_
      refine lo_get (v := .ref (b + 101)) d_Sc_spanIsCut_31 fg_Sc_32 hI cl_105 rfl ?_
      refine sm_iload_n d_Sc_spanIsCut_34 rfl (j := 0) rfl ?_
      refine cm_callR d_Sc_spanIsCut_35 cs_Sc_spanIsCut_116 rfl (cz_c1 hI hZ) (As := [.int ((nI Z.1.1.length) - (2 : Int32))]) rfl rfl (Nat.le_of_ble_eq_true rfl) (cz_u11 hI hZ ((nI Z.1.1.length) - (2 : Int32))) ?_
      refine sm_sipush (v := 255) d_Sc_spanIsCut_38 (by decide) ?_
      refine sm_icmp_ne (tgt := 60) d_Sc_spanIsCut_41 (by decide) (fun h4 => ?_) (fun h4 => ?_)
      · rw [if_neg h4] at hf
        refine sm_iconst (v := 1) d_Sc_spanIsCut_60 (by decide) ?_
        refine sm_goto (tgt := 65) d_Sc_spanIsCut_61 (by decide) ?_
        subst hf
        refine sm_ireturn d_Sc_spanIsCut_65 rfl (by rfl) ?_
        exact ⟨rfl, rfl⟩
      · rw [if_pos h4] at hf
        refine sm_aload_n d_Sc_spanIsCut_44 rfl (j := 1) rfl ?_
        refine lo_get (v := .ref (b + 101)) d_Sc_spanIsCut_45 fg_Sc_32 hI cl_105 rfl ?_
        refine sm_iload_n d_Sc_spanIsCut_48 rfl (j := 0) rfl ?_
        refine sm_iconst (v := 1) d_Sc_spanIsCut_49 (by decide) ?_
        refine sm_iadd d_Sc_spanIsCut_50 ?_
        refine cm_callR d_Sc_spanIsCut_51 cs_Sc_spanIsCut_116 rfl (cz_c1 hI hZ) (As := [.int (((nI Z.1.1.length) - (2 : Int32)) + (1 : Int32))]) rfl rfl (Nat.le_of_ble_eq_true rfl) (cz_u11 hI hZ (((nI Z.1.1.length) - (2 : Int32)) + (1 : Int32))) ?_
        refine sm_sipush (v := 217) d_Sc_spanIsCut_54 (by decide) ?_
        refine sm_icmp_eq (tgt := 64) d_Sc_spanIsCut_57 (by decide) (fun h5 => ?_) (fun h5 => ?_)
        · rw [if_pos h5] at hf
          refine sm_iconst (v := 0) d_Sc_spanIsCut_64 (by decide) ?_
          subst hf
          refine sm_ireturn d_Sc_spanIsCut_65 rfl (by rfl) ?_
          exact ⟨rfl, rfl⟩
        · rw [if_neg h5] at hf
          refine sm_iconst (v := 1) d_Sc_spanIsCut_60 (by decide) ?_
          refine sm_goto (tgt := 65) d_Sc_spanIsCut_61 (by decide) ?_
          subst hf
          refine sm_ireturn d_Sc_spanIsCut_65 rfl (by rfl) ?_
          exact ⟨rfl, rfl⟩

