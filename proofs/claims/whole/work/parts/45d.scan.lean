/-! scan, on; written by wip/tools/cls.py -/
def fn_Sc_isMissing_68 (F : Nat) (Z : zd) (w : wd) : Option (Bool) := (if (w 105 7) = (217 : Int32) then ((fn_Pt_areComplete F w (w 105 10)).bind fun r4 => (if r4 = true then some false else some true)) else some false)
set_option maxHeartbeats 1600000 in
set_option maxRecDepth 100000 in
theorem w_Sc_isMissing_68 {G : sm_G} {b : Nat} {M0 : sm_M} {bc bs : Nat} {Z : zd} {R : Bool} {F : Nat} (hZ : cz_at G b M0 Z) : ∀ (w : wd) , lo_in G cm_L b M0 M0 w → fn_Sc_isMissing_68 F Z w = some R → sm_W G mf_Sc_isMissing 68 [(0, .ref (b + 105))] [] M0 bc bs (sm_pu M0 (.int (bi R))) := by
  intro w  hI  hf
  unfold fn_Sc_isMissing_68 at hf
  refine sm_aload_n d_Sc_isMissing_68 rfl (j := 0) rfl ?_
  refine lo_get (v := .int (w 105 7)) d_Sc_isMissing_69 fg_Sc_97 hI cl_105 rfl ?_
  refine sm_sipush (v := 217) d_Sc_isMissing_72 (by decide) ?_
  refine sm_icmp_ne (tgt := 96) d_Sc_isMissing_75 (by decide) (fun h3 => ?_) (fun h3 => ?_)
  · rw [if_neg h3] at hf
    refine sm_iconst (v := 0) d_Sc_isMissing_96 (by decide) ?_
    cases hf
    refine sm_ireturn d_Sc_isMissing_97 rfl (by rfl) ?_
    exact ⟨rfl, rfl⟩
  · rw [if_pos h3] at hf
    refine sm_aload_n d_Sc_isMissing_78 rfl (j := 0) rfl ?_
    refine lo_get (v := .ref (b + 110)) d_Sc_isMissing_79 fg_Sc_28 hI cl_105 rfl ?_
    refine sm_aload_n d_Sc_isMissing_82 rfl (j := 0) rfl ?_
    refine lo_get (v := .int (w 105 10)) d_Sc_isMissing_83 fg_Sc_62 hI cl_105 rfl ?_
    obtain ⟨r4, e5, hf⟩ := lo_bnd hf
    refine lo_callV d_Sc_isMissing_86 cs_Sc_isMissing_230 rfl hI cl_110 (As := [.int (w 105 10)]) rfl rfl (Nat.le_of_ble_eq_true rfl) (c_Pt_areComplete hI hZ (w 105 10) e5) ?_
    refine sm_if_ne (tgt := 96) d_Sc_isMissing_89 (by decide) (fun h6 => ?_) (fun h6 => ?_)
    · rw [if_pos (bi1 h6)] at hf
      refine sm_iconst (v := 0) d_Sc_isMissing_96 (by decide) ?_
      cases hf
      refine sm_ireturn d_Sc_isMissing_97 rfl (by rfl) ?_
      exact ⟨rfl, rfl⟩
    · rw [if_neg (bi0 h6)] at hf
      refine sm_iconst (v := 1) d_Sc_isMissing_92 (by decide) ?_
      refine sm_goto (tgt := 97) d_Sc_isMissing_93 (by decide) ?_
      cases hf
      refine sm_ireturn d_Sc_isMissing_97 rfl (by rfl) ?_
      exact ⟨rfl, rfl⟩

def fn_Sc_isMissing_33 (F : Nat) (Z : zd) (w : wd) (s0 : Bool) : Option (Bool) := (if s0 = true then (if (fn_Ps_startOf w (0 : Int32) (82 : Int32) (0 : Int32)) = 0 then some true else (if (fn_Ps_startOf w (0 : Int32) (92 : Int32) (0 : Int32)) = 0 then some true else fn_Sc_isMissing_68 F Z w)) else fn_Sc_isMissing_68 F Z w)
set_option maxHeartbeats 1600000 in
set_option maxRecDepth 100000 in
theorem w_Sc_isMissing_33 {G : sm_G} {b : Nat} {M0 : sm_M} {bc bs : Nat} {Z : zd} {R : Bool} {F : Nat} (hZ : cz_at G b M0 Z) : ∀ (w : wd) (s0 : Bool), lo_in G cm_L b M0 M0 w → fn_Sc_isMissing_33 F Z w s0 = some R → sm_W G mf_Sc_isMissing 33 [(0, .ref (b + 105))] [.int (bi s0)] M0 bc bs (sm_pu M0 (.int (bi R))) := by
  intro w s0 hI  hf
  unfold fn_Sc_isMissing_33 at hf
  refine sm_istore_n d_Sc_isMissing_33 rfl (by decide) rfl ?_
  refine sm_iload_n d_Sc_isMissing_34 rfl (j := 0) rfl ?_
  refine sm_if_eq (tgt := 68) d_Sc_isMissing_35 (by decide) (fun h2 => ?_) (fun h2 => ?_)
  · rw [if_neg (bi0 h2)] at hf
    exact sm_pick [1] (w_Sc_isMissing_68 hZ _ hI hf) rfl
  · rw [if_pos (bi1 h2)] at hf
    refine sm_aload_n d_Sc_isMissing_38 rfl (j := 1) rfl ?_
    refine lo_get (v := .ref (b + 108)) d_Sc_isMissing_39 fg_Sc_21 hI cl_105 rfl ?_
    refine sm_iconst (v := 0) d_Sc_isMissing_42 (by decide) ?_
    refine sm_bipush (v := 82) d_Sc_isMissing_43 (by decide) ?_
    refine sm_iconst (v := 0) d_Sc_isMissing_45 (by decide) ?_
    refine lo_callV d_Sc_isMissing_46 cs_Sc_isMissing_103 rfl hI cl_108 (As := [.int (0 : Int32), .int (82 : Int32), .int (0 : Int32)]) rfl rfl (Nat.le_of_ble_eq_true rfl) (c_Ps_startOf hI hZ (0 : Int32) (82 : Int32) (0 : Int32)) ?_
    refine sm_if_eq (tgt := 66) d_Sc_isMissing_49 (by decide) (fun h7 => ?_) (fun h7 => ?_)
    · rw [if_pos h7] at hf
      refine sm_iconst (v := 1) d_Sc_isMissing_66 (by decide) ?_
      cases hf
      refine sm_ireturn d_Sc_isMissing_67 rfl (by rfl) ?_
      exact ⟨rfl, rfl⟩
    · rw [if_neg h7] at hf
      refine sm_aload_n d_Sc_isMissing_52 rfl (j := 1) rfl ?_
      refine lo_get (v := .ref (b + 108)) d_Sc_isMissing_53 fg_Sc_21 hI cl_105 rfl ?_
      refine sm_iconst (v := 0) d_Sc_isMissing_56 (by decide) ?_
      refine sm_bipush (v := 92) d_Sc_isMissing_57 (by decide) ?_
      refine sm_iconst (v := 0) d_Sc_isMissing_59 (by decide) ?_
      refine lo_callV d_Sc_isMissing_60 cs_Sc_isMissing_103 rfl hI cl_108 (As := [.int (0 : Int32), .int (92 : Int32), .int (0 : Int32)]) rfl rfl (Nat.le_of_ble_eq_true rfl) (c_Ps_startOf hI hZ (0 : Int32) (92 : Int32) (0 : Int32)) ?_
      refine sm_if_ne (tgt := 68) d_Sc_isMissing_63 (by decide) (fun h8 => ?_) (fun h8 => ?_)
      · rw [if_neg h8] at hf
        exact sm_pick [1] (w_Sc_isMissing_68 hZ _ hI hf) rfl
      · rw [if_pos h8] at hf
        refine sm_iconst (v := 1) d_Sc_isMissing_66 (by decide) ?_
        cases hf
        refine sm_ireturn d_Sc_isMissing_67 rfl (by rfl) ?_
        exact ⟨rfl, rfl⟩

def fn_Sc_isMissing_32 (F : Nat) (Z : zd) (w : wd) : Option (Bool) := fn_Sc_isMissing_33 F Z w false
set_option maxHeartbeats 1600000 in
set_option maxRecDepth 100000 in
theorem w_Sc_isMissing_32 {G : sm_G} {b : Nat} {M0 : sm_M} {bc bs : Nat} {Z : zd} {R : Bool} {F : Nat} (hZ : cz_at G b M0 Z) : ∀ (w : wd) , lo_in G cm_L b M0 M0 w → fn_Sc_isMissing_32 F Z w = some R → sm_W G mf_Sc_isMissing 32 [(0, .ref (b + 105))] [] M0 bc bs (sm_pu M0 (.int (bi R))) := by
  intro w  hI  hf
  unfold fn_Sc_isMissing_32 at hf
  refine sm_iconst (v := 0) d_Sc_isMissing_32 (by decide) ?_
  exact sm_pick [0] (w_Sc_isMissing_33 hZ _ _ hI hf) rfl

def fn_Sc_isMissing_28 (F : Nat) (Z : zd) (w : wd) : Option (Bool) := fn_Sc_isMissing_33 F Z w true
set_option maxHeartbeats 1600000 in
set_option maxRecDepth 100000 in
theorem w_Sc_isMissing_28 {G : sm_G} {b : Nat} {M0 : sm_M} {bc bs : Nat} {Z : zd} {R : Bool} {F : Nat} (hZ : cz_at G b M0 Z) : ∀ (w : wd) , lo_in G cm_L b M0 M0 w → fn_Sc_isMissing_28 F Z w = some R → sm_W G mf_Sc_isMissing 28 [(0, .ref (b + 105))] [] M0 bc bs (sm_pu M0 (.int (bi R))) := by
  intro w  hI  hf
  unfold fn_Sc_isMissing_28 at hf
  refine sm_iconst (v := 1) d_Sc_isMissing_28 (by decide) ?_
  refine sm_goto (tgt := 33) d_Sc_isMissing_29 (by decide) ?_
  exact sm_pick [0] (w_Sc_isMissing_33 hZ _ _ hI hf) rfl

def fn_Sc_isMissing (F : Nat) (Z : zd) (w : wd) : Option (Bool) := (if (w 105 4) = (2 : Int32) then (if (w 105 7) = (144 : Int32) then fn_Sc_isMissing_28 F Z w else (if (w 105 7) = (217 : Int32) then fn_Sc_isMissing_28 F Z w else fn_Sc_isMissing_32 F Z w)) else fn_Sc_isMissing_32 F Z w)
set_option maxHeartbeats 1600000 in
set_option maxRecDepth 100000 in
theorem c_Sc_isMissing {G : sm_G} {b : Nat} {M0 M : sm_M} {Z : zd} {w : wd} {F : Nat} (hI : lo_in G cm_L b M0 M w) (hZ : cz_at G b M0 Z) {R : Bool} (hf : fn_Sc_isMissing F Z w = some R) : sm_C G mf_Sc_isMissing [.ref (b + 105)] M 0 0 (sm_pu M (.int (bi R))) := by
  unfold fn_Sc_isMissing at hf
  have hZ := hZ.go hI.2
  have hI := hI.here
  refine sm_ofW rfl (Nat.le_of_ble_eq_true rfl) ?_
  refine sm_aload_n d_Sc_isMissing_0 rfl (j := 0) rfl ?_
  refine lo_get (v := .int (w 105 4)) d_Sc_isMissing_1 fg_Sc_39 hI cl_105 rfl ?_
  refine sm_iconst (v := 2) d_Sc_isMissing_4 (by decide) ?_
  refine sm_icmp_ne (tgt := 32) d_Sc_isMissing_5 (by decide) (fun h1 => ?_) (fun h1 => ?_)
  · rw [if_neg h1] at hf
    exact sm_pick [0] (w_Sc_isMissing_32 hZ _ hI hf) rfl
  · rw [if_pos h1] at hf
    refine sm_aload_n d_Sc_isMissing_8 rfl (j := 0) rfl ?_
    refine lo_get (v := .int (w 105 7)) d_Sc_isMissing_9 fg_Sc_97 hI cl_105 rfl ?_
    refine sm_sipush (v := 144) d_Sc_isMissing_12 (by decide) ?_
    refine sm_icmp_eq (tgt := 28) d_Sc_isMissing_15 (by decide) (fun h9 => ?_) (fun h9 => ?_)
    · rw [if_pos h9] at hf
      exact sm_pick [0] (w_Sc_isMissing_28 hZ _ hI hf) rfl
    · rw [if_neg h9] at hf
      refine sm_aload_n d_Sc_isMissing_18 rfl (j := 0) rfl ?_
      refine lo_get (v := .int (w 105 7)) d_Sc_isMissing_19 fg_Sc_97 hI cl_105 rfl ?_
      refine sm_sipush (v := 217) d_Sc_isMissing_22 (by decide) ?_
      refine sm_icmp_ne (tgt := 32) d_Sc_isMissing_25 (by decide) (fun h10 => ?_) (fun h10 => ?_)
      · rw [if_neg h10] at hf
        exact sm_pick [0] (w_Sc_isMissing_32 hZ _ hI hf) rfl
      · rw [if_pos h10] at hf
        exact sm_pick [0] (w_Sc_isMissing_28 hZ _ hI hf) rfl

def fn_Sc_refusalHere_89 (F : Nat) (Z : zd) (w : wd) : Option (Int32 × wd) := ((fn_Sc_isMissing F Z w).bind fun r12 => (if r12 = true then some ((6 : Int32), w) else some ((0 : Int32), w)))
set_option maxHeartbeats 1600000 in
set_option maxRecDepth 100000 in
theorem w_Sc_refusalHere_89 {G : sm_G} {b : Nat} {M0 : sm_M} {bc bs : Nat} {Z : zd} {R : Int32 × wd} {F : Nat} (hZ : cz_at G b M0 Z) : ∀ (M : sm_M) (w : wd) , lo_in G cm_L b M0 M w → fn_Sc_refusalHere_89 F Z w = some R → sm_W G mf_Sc_refusalHere 89 [(0, .ref (b + 105))] [] M bc bs (wd_Q G cm_L b M0 (some (.int R.1)) R.2) := by
  intro M w  hI  hf
  unfold fn_Sc_refusalHere_89 at hf
  refine sm_aload_n d_Sc_refusalHere_89 rfl (j := 0) rfl ?_
  obtain ⟨r12, e13, hf⟩ := lo_bnd hf
  refine lo_callV d_Sc_refusalHere_90 cs_Sc_refusalHere_110 rfl hI cl_105 (As := []) rfl rfl (Nat.le_of_ble_eq_true rfl) (c_Sc_isMissing hI hZ e13) ?_
  refine sm_if_eq (tgt := 101) d_Sc_refusalHere_93 (by decide) (fun h14 => ?_) (fun h14 => ?_)
  · rw [if_neg (bi0 h14)] at hf
    refine sm_iconst (v := 0) d_Sc_refusalHere_101 (by decide) ?_
    cases hf
    refine sm_ireturn d_Sc_refusalHere_102 rfl (by rfl) ?_
    exact ⟨rfl, hI⟩
  · rw [if_pos (bi1 h14)] at hf
    refine sm_bipush (v := 6) d_Sc_refusalHere_96 (by decide) ?_
    refine sm_goto (tgt := 102) d_Sc_refusalHere_98 (by decide) ?_
    cases hf
    refine sm_ireturn d_Sc_refusalHere_102 rfl (by rfl) ?_
    exact ⟨rfl, hI⟩

def fn_Sc_refusalHere (F : Nat) (Z : zd) (w : wd) : Option (Int32 × wd) := (if (fn_Sc_readsCutMark Z w).1 = true then some ((1 : Int32), (fn_Sc_readsCutMark Z w).2) else (if (fn_Sc_isWrong Z (fn_Sc_readsCutMark Z w).2) = true then some ((2 : Int32), (fn_Sc_readsCutMark Z w).2) else (if (fn_Sc_hasLength Z (fn_Sc_readsCutMark Z w).2) = true then (if (fn_Sc_isGreat Z (fn_Sc_readsCutMark Z w).2) = true then some ((7 : Int32), (fn_Sc_readsCutMark Z w).2) else ((fn_Sc_hasValues F Z (fn_Sc_readsCutMark Z w).2).bind fun r7 => (if r7 = true then (if (fn_Ps_startOf (fn_Sc_readsCutMark Z w).2 (fn_Sc_owner Z (fn_Sc_readsCutMark Z w).2) ((fn_Sc_readsCutMark Z w).2 105 7) (fn_Sc_toldComponent Z (fn_Sc_readsCutMark Z w).2)) = 0 then (if ((fn_Sc_readsCutMark Z w).2 105 7) = (144 : Int32) then (if (fn_Sc_spanIsCut Z (fn_Sc_readsCutMark Z w).2) = true then some ((1 : Int32), (fn_Sc_readsCutMark Z w).2) else fn_Sc_refusalHere_89 F Z ((fn_Sc_readsCutMark Z w).2)) else fn_Sc_refusalHere_89 F Z ((fn_Sc_readsCutMark Z w).2)) else some ((4 : Int32), (fn_Sc_readsCutMark Z w).2)) else some ((5 : Int32), (fn_Sc_readsCutMark Z w).2)))) else some ((3 : Int32), (fn_Sc_readsCutMark Z w).2))))
set_option maxHeartbeats 1600000 in
set_option maxRecDepth 100000 in
theorem c_Sc_refusalHere {G : sm_G} {b : Nat} {M0 M : sm_M} {Z : zd} {w : wd} {F : Nat} (hI : lo_in G cm_L b M0 M w) (hZ : cz_at G b M0 Z) {R : Int32 × wd} (hf : fn_Sc_refusalHere F Z w = some R) : sm_C G mf_Sc_refusalHere [.ref (b + 105)] M 0 0 (wd_Q G cm_L b M (some (.int R.1)) R.2) := by
  unfold fn_Sc_refusalHere at hf
  have hZ := hZ.go hI.2
  have hI := hI.here
  refine sm_ofW rfl (Nat.le_of_ble_eq_true rfl) ?_
  refine sm_aload_n d_Sc_refusalHere_0 rfl (j := 0) rfl ?_
  refine lo_callVm d_Sc_refusalHere_1 cs_Sc_refusalHere_78 rfl hI cl_105 (As := []) rfl rfl (Nat.le_of_ble_eq_true rfl) (c_Sc_readsCutMark hI hZ) (fun M1 hI2 => ?_)
  refine sm_if_eq (tgt := 9) d_Sc_refusalHere_4 (by decide) (fun h3 => ?_) (fun h3 => ?_)
  · rw [if_neg (bi0 h3)] at hf
    refine sm_aload_n d_Sc_refusalHere_9 rfl (j := 0) rfl ?_
    refine lo_callV d_Sc_refusalHere_10 cs_Sc_refusalHere_82 rfl hI2 cl_105 (As := []) rfl rfl (Nat.le_of_ble_eq_true rfl) (c_Sc_isWrong hI2 hZ) ?_
    refine sm_if_eq (tgt := 18) d_Sc_refusalHere_13 (by decide) (fun h4 => ?_) (fun h4 => ?_)
    · rw [if_neg (bi0 h4)] at hf
      refine sm_aload_n d_Sc_refusalHere_18 rfl (j := 0) rfl ?_
      refine lo_callV d_Sc_refusalHere_19 cs_Sc_refusalHere_85 rfl hI2 cl_105 (As := []) rfl rfl (Nat.le_of_ble_eq_true rfl) (c_Sc_hasLength hI2 hZ) ?_
      refine sm_if_ne (tgt := 27) d_Sc_refusalHere_22 (by decide) (fun h5 => ?_) (fun h5 => ?_)
      · rw [if_pos (bi1 h5)] at hf
        refine sm_aload_n d_Sc_refusalHere_27 rfl (j := 0) rfl ?_
        refine lo_callV d_Sc_refusalHere_28 cs_Sc_refusalHere_88 rfl hI2 cl_105 (As := []) rfl rfl (Nat.le_of_ble_eq_true rfl) (c_Sc_isGreat hI2 hZ) ?_
        refine sm_if_eq (tgt := 37) d_Sc_refusalHere_31 (by decide) (fun h6 => ?_) (fun h6 => ?_)
        · rw [if_neg (bi0 h6)] at hf
          refine sm_aload_n d_Sc_refusalHere_37 rfl (j := 0) rfl ?_
          obtain ⟨r7, e8, hf⟩ := lo_bnd hf
          refine lo_callV d_Sc_refusalHere_38 cs_Sc_refusalHere_91 rfl hI2 cl_105 (As := []) rfl rfl (Nat.le_of_ble_eq_true rfl) (c_Sc_hasValues hI2 hZ e8) ?_
          refine sm_if_ne (tgt := 46) d_Sc_refusalHere_41 (by decide) (fun h9 => ?_) (fun h9 => ?_)
          · rw [if_pos (bi1 h9)] at hf
            refine sm_aload_n d_Sc_refusalHere_46 rfl (j := 0) rfl ?_
            refine lo_get (v := .ref (b + 108)) d_Sc_refusalHere_47 fg_Sc_21 hI2 cl_105 rfl ?_
            refine sm_aload_n d_Sc_refusalHere_50 rfl (j := 0) rfl ?_
            refine lo_callV d_Sc_refusalHere_51 cs_Sc_refusalHere_94 rfl hI2 cl_105 (As := []) rfl rfl (Nat.le_of_ble_eq_true rfl) (c_Sc_owner hI2 hZ) ?_
            refine sm_aload_n d_Sc_refusalHere_54 rfl (j := 0) rfl ?_
            refine lo_get (v := .int ((fn_Sc_readsCutMark Z w).2 105 7)) d_Sc_refusalHere_55 fg_Sc_97 hI2 cl_105 rfl ?_
            refine sm_aload_n d_Sc_refusalHere_58 rfl (j := 0) rfl ?_
            refine lo_callV d_Sc_refusalHere_59 cs_Sc_refusalHere_100 rfl hI2 cl_105 (As := []) rfl rfl (Nat.le_of_ble_eq_true rfl) (c_Sc_toldComponent hI2 hZ) ?_
            refine lo_callV d_Sc_refusalHere_62 cs_Sc_refusalHere_103 rfl hI2 cl_108 (As := [.int (fn_Sc_owner Z (fn_Sc_readsCutMark Z w).2), .int ((fn_Sc_readsCutMark Z w).2 105 7), .int (fn_Sc_toldComponent Z (fn_Sc_readsCutMark Z w).2)]) rfl rfl (Nat.le_of_ble_eq_true rfl) (c_Ps_startOf hI2 hZ (fn_Sc_owner Z (fn_Sc_readsCutMark Z w).2) ((fn_Sc_readsCutMark Z w).2 105 7) (fn_Sc_toldComponent Z (fn_Sc_readsCutMark Z w).2)) ?_
            refine sm_if_eq (tgt := 70) d_Sc_refusalHere_65 (by decide) (fun h10 => ?_) (fun h10 => ?_)
            · rw [if_pos h10] at hf
              refine sm_aload_n d_Sc_refusalHere_70 rfl (j := 0) rfl ?_
              refine lo_get (v := .int ((fn_Sc_readsCutMark Z w).2 105 7)) d_Sc_refusalHere_71 fg_Sc_97 hI2 cl_105 rfl ?_
              refine sm_sipush (v := 144) d_Sc_refusalHere_74 (by decide) ?_
              refine sm_icmp_ne (tgt := 89) d_Sc_refusalHere_77 (by decide) (fun h11 => ?_) (fun h11 => ?_)
              · rw [if_neg h11] at hf
                exact sm_pick [0] (w_Sc_refusalHere_89 hZ _ _ hI2 hf) rfl
              · rw [if_pos h11] at hf
                refine sm_aload_n d_Sc_refusalHere_80 rfl (j := 0) rfl ?_
                refine lo_callV d_Sc_refusalHere_81 cs_Sc_refusalHere_107 rfl hI2 cl_105 (As := []) rfl rfl (Nat.le_of_ble_eq_true rfl) (c_Sc_spanIsCut hI2 hZ) ?_
                refine sm_if_eq (tgt := 89) d_Sc_refusalHere_84 (by decide) (fun h15 => ?_) (fun h15 => ?_)
                · rw [if_neg (bi0 h15)] at hf
                  exact sm_pick [0] (w_Sc_refusalHere_89 hZ _ _ hI2 hf) rfl
                · rw [if_pos (bi1 h15)] at hf
                  refine sm_iconst (v := 1) d_Sc_refusalHere_87 (by decide) ?_
                  cases hf
                  refine sm_ireturn d_Sc_refusalHere_88 rfl (by rfl) ?_
                  exact ⟨rfl, hI2⟩
            · rw [if_neg h10] at hf
              refine sm_iconst (v := 4) d_Sc_refusalHere_68 (by decide) ?_
              cases hf
              refine sm_ireturn d_Sc_refusalHere_69 rfl (by rfl) ?_
              exact ⟨rfl, hI2⟩
          · rw [if_neg (bi0 h9)] at hf
            refine sm_iconst (v := 5) d_Sc_refusalHere_44 (by decide) ?_
            cases hf
            refine sm_ireturn d_Sc_refusalHere_45 rfl (by rfl) ?_
            exact ⟨rfl, hI2⟩
        · rw [if_pos (bi1 h6)] at hf
          refine sm_bipush (v := 7) d_Sc_refusalHere_34 (by decide) ?_
          cases hf
          refine sm_ireturn d_Sc_refusalHere_36 rfl (by rfl) ?_
          exact ⟨rfl, hI2⟩
      · rw [if_neg (bi0 h5)] at hf
        refine sm_iconst (v := 3) d_Sc_refusalHere_25 (by decide) ?_
        cases hf
        refine sm_ireturn d_Sc_refusalHere_26 rfl (by rfl) ?_
        exact ⟨rfl, hI2⟩
    · rw [if_pos (bi1 h4)] at hf
      refine sm_iconst (v := 2) d_Sc_refusalHere_16 (by decide) ?_
      cases hf
      refine sm_ireturn d_Sc_refusalHere_17 rfl (by rfl) ?_
      exact ⟨rfl, hI2⟩
  · rw [if_pos (bi1 h3)] at hf
    refine sm_iconst (v := 1) d_Sc_refusalHere_7 (by decide) ?_
    cases hf
    refine sm_ireturn d_Sc_refusalHere_8 rfl (by rfl) ?_
    exact ⟨rfl, hI2⟩

def fn_Sc_takePart_78 (F : Nat) (Z : zd) (w : wd) : Option (wd) := (if (fn_Sc_span Z w) = (0 : Int64) then some (up2 (up2 w 105 6 ((nI Z.1.1.length) - (2 : Int32))) 105 4 (3 : Int32)) else some (up2 (up2 w 105 6 ((w 105 5) + (fn_Sc_span Z w).toInt32)) 105 4 (3 : Int32)))
set_option maxHeartbeats 1600000 in
set_option maxRecDepth 100000 in
theorem w_Sc_takePart_78 {G : sm_G} {b : Nat} {M0 : sm_M} {bc bs : Nat} {Z : zd} {R : wd} {F : Nat} (hZ : cz_at G b M0 Z) : ∀ (M : sm_M) (w : wd) , lo_in G cm_L b M0 M w → fn_Sc_takePart_78 F Z w = some R → sm_W G mf_Sc_takePart 78 [(0, .ref (b + 105))] [] M bc bs (wd_Q G cm_L b M0 none R) := by
  intro M w  hI  hf
  unfold fn_Sc_takePart_78 at hf
  refine sm_aload_n d_Sc_takePart_78 rfl (j := 0) rfl ?_
  refine sm_aload_n d_Sc_takePart_79 rfl (j := 0) rfl ?_
  refine lo_callV d_Sc_takePart_80 cs_Sc_takePart_191 rfl hI cl_105 (As := []) rfl rfl (Nat.le_of_ble_eq_true rfl) (c_Sc_span hI hZ) ?_
  refine sm_lconst (v := 0) d_Sc_takePart_83 (by decide) ?_
  refine sm_lcmp d_Sc_takePart_84 ?_
  refine sm_if_ne (tgt := 100) d_Sc_takePart_85 (by decide) (fun h11 => ?_) (fun h11 => ?_)
  · rw [if_neg (mt (lg_cmp_eq _ _).mpr h11)] at hf
    refine sm_aload_n d_Sc_takePart_100 rfl (j := 0) rfl ?_
    refine lo_get (v := .int (w 105 5)) d_Sc_takePart_101 fg_Sc_50 hI cl_105 rfl ?_
    refine sm_aload_n d_Sc_takePart_104 rfl (j := 0) rfl ?_
    refine lo_callV d_Sc_takePart_105 cs_Sc_takePart_191 rfl hI cl_105 (As := []) rfl rfl (Nat.le_of_ble_eq_true rfl) (c_Sc_span hI hZ) ?_
    refine sm_l2i d_Sc_takePart_108 ?_
    refine sm_iadd d_Sc_takePart_109 ?_
    refine lo_put d_Sc_takePart_110 fp_Sc_56 (by decide) hI cl_105 rfl (by rfl) (by rfl) (fun M12 hI13 => ?_)
    refine sm_aload_n d_Sc_takePart_113 rfl (j := 0) rfl ?_
    refine sm_iconst (v := 3) d_Sc_takePart_114 (by decide) ?_
    refine lo_put d_Sc_takePart_115 fp_Sc_39 (by decide) hI13 cl_105 rfl (by rfl) (by rfl) (fun M14 hI15 => ?_)
    cases hf
    refine sm_return d_Sc_takePart_118 rfl ?_
    exact ⟨rfl, hI15⟩
  · rw [if_pos ((lg_cmp_eq _ _).mp h11)] at hf
    refine sm_aload_n d_Sc_takePart_88 rfl (j := 0) rfl ?_
    refine lo_get (v := .ref (b + 101)) d_Sc_takePart_89 fg_Sc_32 hI cl_105 rfl ?_
    refine cm_cnt1 d_Sc_takePart_92 fg_Sc_53 hI hZ ?_
    refine sm_iconst (v := 2) d_Sc_takePart_95 (by decide) ?_
    refine sm_isub d_Sc_takePart_96 ?_
    refine sm_goto (tgt := 110) d_Sc_takePart_97 (by decide) ?_
    refine lo_put d_Sc_takePart_110 fp_Sc_56 (by decide) hI cl_105 rfl (by rfl) (by rfl) (fun M16 hI17 => ?_)
    refine sm_aload_n d_Sc_takePart_113 rfl (j := 0) rfl ?_
    refine sm_iconst (v := 3) d_Sc_takePart_114 (by decide) ?_
    refine lo_put d_Sc_takePart_115 fp_Sc_39 (by decide) hI17 cl_105 rfl (by rfl) (by rfl) (fun M18 hI19 => ?_)
    cases hf
    refine sm_return d_Sc_takePart_118 rfl ?_
    exact ⟨rfl, hI19⟩

def fn_Sc_takePart_24 (F : Nat) (Z : zd) (w : wd) (s0 : Bool) : Option (wd) := ((fn_Pt_add (up2 w 105 13 (bi s0)) ((up2 w 105 13 (bi s0)) 105 12) (fn_Sc_told Z (up2 w 105 13 (bi s0)) (6 : Int32)) (fn_Sc_told Z (up2 w 105 13 (bi s0)) (7 : Int32)) (nI Z.2.2.1.length)).bind fun r6 => (if (r6 105 13) = 0 then fn_Sc_takePart_78 F Z r6 else ((fn_Ps_forget F r6 (fn_Ps_ownerOf (r6 105 12))).bind fun r20 => fn_Sc_takePart_78 F Z r20)))
set_option maxHeartbeats 1600000 in
set_option maxRecDepth 100000 in
theorem w_Sc_takePart_24 {G : sm_G} {b : Nat} {M0 : sm_M} {bc bs : Nat} {Z : zd} {R : wd} {F : Nat} (hZ : cz_at G b M0 Z) : ∀ (M : sm_M) (w : wd) (s0 : Bool), lo_in G cm_L b M0 M w → fn_Sc_takePart_24 F Z w s0 = some R → sm_W G mf_Sc_takePart 24 [(0, .ref (b + 105))] [.int (bi s0), .ref (b + 105)] M bc bs (wd_Q G cm_L b M0 none R) := by
  intro M w s0 hI  hf
  unfold fn_Sc_takePart_24 at hf
  refine lo_put d_Sc_takePart_24 fp_Sc_132 (by decide) hI cl_105 rfl (bi_n _) (bi_f _) (fun M4 hI5 => ?_)
  refine sm_aload_n d_Sc_takePart_27 rfl (j := 0) rfl ?_
  refine lo_get (v := .ref (b + 110)) d_Sc_takePart_28 fg_Sc_28 hI5 cl_105 rfl ?_
  refine sm_aload_n d_Sc_takePart_31 rfl (j := 0) rfl ?_
  refine lo_get (v := .int ((up2 w 105 13 (bi s0)) 105 12)) d_Sc_takePart_32 fg_Sc_185 hI5 cl_105 rfl ?_
  refine sm_aload_n d_Sc_takePart_35 rfl (j := 0) rfl ?_
  refine sm_bipush (v := 6) d_Sc_takePart_36 (by decide) ?_
  refine lo_callV d_Sc_takePart_38 cs_Sc_takePart_139 rfl hI5 cl_105 (As := [.int (6 : Int32)]) rfl rfl (Nat.le_of_ble_eq_true rfl) (c_Sc_told hI5 hZ (6 : Int32)) ?_
  refine sm_aload_n d_Sc_takePart_41 rfl (j := 0) rfl ?_
  refine sm_bipush (v := 7) d_Sc_takePart_42 (by decide) ?_
  refine lo_callV d_Sc_takePart_44 cs_Sc_takePart_139 rfl hI5 cl_105 (As := [.int (7 : Int32)]) rfl rfl (Nat.le_of_ble_eq_true rfl) (c_Sc_told hI5 hZ (7 : Int32)) ?_
  refine sm_aload_n d_Sc_takePart_47 rfl (j := 0) rfl ?_
  refine lo_get (v := .ref (b + 106)) d_Sc_takePart_48 fg_Sc_12 hI5 cl_105 rfl ?_
  refine cm_cnt3 d_Sc_takePart_51 fg_Sc_53 hI5 hZ ?_
  obtain ⟨r6, e7, hf⟩ := lo_bnd hf
  refine lo_callVm d_Sc_takePart_54 cs_Sc_takePart_246 rfl hI5 cl_110 (As := [.int ((up2 w 105 13 (bi s0)) 105 12), .int (fn_Sc_told Z (up2 w 105 13 (bi s0)) (6 : Int32)), .int (fn_Sc_told Z (up2 w 105 13 (bi s0)) (7 : Int32)), .int (nI Z.2.2.1.length)]) rfl rfl (Nat.le_of_ble_eq_true rfl) (c_Pt_add hI5 hZ ((up2 w 105 13 (bi s0)) 105 12) (fn_Sc_told Z (up2 w 105 13 (bi s0)) (6 : Int32)) (fn_Sc_told Z (up2 w 105 13 (bi s0)) (7 : Int32)) (nI Z.2.2.1.length) e7) (fun M8 hI9 => ?_)
  refine sm_aload_n d_Sc_takePart_57 rfl (j := 0) rfl ?_
  refine lo_get (v := .int (r6 105 13)) d_Sc_takePart_58 fg_Sc_132 hI9 cl_105 rfl ?_
  refine sm_if_eq (tgt := 78) d_Sc_takePart_61 (by decide) (fun h10 => ?_) (fun h10 => ?_)
  · rw [if_pos h10] at hf
    exact sm_pick [0] (w_Sc_takePart_78 hZ _ _ hI9 hf) rfl
  · rw [if_neg h10] at hf
    refine sm_aload_n d_Sc_takePart_64 rfl (j := 0) rfl ?_
    refine lo_get (v := .ref (b + 108)) d_Sc_takePart_65 fg_Sc_21 hI9 cl_105 rfl ?_
    refine sm_aload_n d_Sc_takePart_68 rfl (j := 0) rfl ?_
    refine lo_get (v := .int (r6 105 12)) d_Sc_takePart_69 fg_Sc_185 hI9 cl_105 rfl ?_
    refine sm_callSp d_Sc_takePart_72 cs_Sc_takePart_250 rfl (As := [.int (r6 105 12)]) rfl rfl (Nat.le_of_ble_eq_true rfl) (c_Ps_ownerOf (r6 105 12)) ?_
    obtain ⟨r20, e21, hf⟩ := lo_bnd hf
    refine lo_callVm d_Sc_takePart_75 cs_Sc_takePart_71 rfl hI9 cl_108 (As := [.int (fn_Ps_ownerOf (r6 105 12))]) rfl rfl (Nat.le_of_ble_eq_true rfl) (c_Ps_forget hI9 hZ (fn_Ps_ownerOf (r6 105 12)) e21) (fun M22 hI23 => ?_)
    exact sm_pick [0] (w_Sc_takePart_78 hZ _ _ hI23 hf) rfl

def fn_Sc_takePart (F : Nat) (Z : zd) (w : wd) : Option (wd) := (if (fn_Sc_told Z (up2 w 105 12 (fn_Sc_told2 Z w (0 : Int32))) (6 : Int32)) = 0 then fn_Sc_takePart_24 F Z (up2 w 105 12 (fn_Sc_told2 Z w (0 : Int32))) true else fn_Sc_takePart_24 F Z (up2 w 105 12 (fn_Sc_told2 Z w (0 : Int32))) false)
set_option maxHeartbeats 1600000 in
set_option maxRecDepth 100000 in
theorem c_Sc_takePart {G : sm_G} {b : Nat} {M0 M : sm_M} {Z : zd} {w : wd} {F : Nat} (hI : lo_in G cm_L b M0 M w) (hZ : cz_at G b M0 Z) {R : wd} (hf : fn_Sc_takePart F Z w = some R) : sm_C G mf_Sc_takePart [.ref (b + 105)] M 0 0 (wd_Q G cm_L b M none R) := by
  unfold fn_Sc_takePart at hf
  have hZ := hZ.go hI.2
  have hI := hI.here
  refine sm_ofW rfl (Nat.le_of_ble_eq_true rfl) ?_
  refine sm_aload_n d_Sc_takePart_0 rfl (j := 0) rfl ?_
  refine sm_aload_n d_Sc_takePart_1 rfl (j := 0) rfl ?_
  refine sm_iconst (v := 0) d_Sc_takePart_2 (by decide) ?_
  refine lo_callV d_Sc_takePart_3 cs_Sc_takePart_136 rfl hI cl_105 (As := [.int (0 : Int32)]) rfl rfl (Nat.le_of_ble_eq_true rfl) (c_Sc_told2 hI hZ (0 : Int32)) ?_
  refine lo_put d_Sc_takePart_6 fp_Sc_185 (by decide) hI cl_105 rfl (by rfl) (by rfl) (fun M1 hI2 => ?_)
  refine sm_aload_n d_Sc_takePart_9 rfl (j := 0) rfl ?_
  refine sm_aload_n d_Sc_takePart_10 rfl (j := 0) rfl ?_
  refine sm_bipush (v := 6) d_Sc_takePart_11 (by decide) ?_
  refine lo_callV d_Sc_takePart_13 cs_Sc_takePart_139 rfl hI2 cl_105 (As := [.int (6 : Int32)]) rfl rfl (Nat.le_of_ble_eq_true rfl) (c_Sc_told hI2 hZ (6 : Int32)) ?_
  refine sm_if_ne (tgt := 23) d_Sc_takePart_16 (by decide) (fun h3 => ?_) (fun h3 => ?_)
  · rw [if_neg h3] at hf
    refine sm_iconst (v := 0) d_Sc_takePart_23 (by decide) ?_
    exact sm_pick [0] (w_Sc_takePart_24 hZ _ _ _ hI2 hf) rfl
  · rw [if_pos h3] at hf
    refine sm_iconst (v := 1) d_Sc_takePart_19 (by decide) ?_
    refine sm_goto (tgt := 24) d_Sc_takePart_20 (by decide) ?_
    exact sm_pick [0] (w_Sc_takePart_24 hZ _ _ _ hI2 hf) rfl

def fn_Sc_dealHeads_60 (k4 : wd → Int32 → Int32 → Option (wd)) (F : Nat) (Z : zd) (w : wd) (x1 : Int32) (x2 : Int32) (x3 : Int32) : Option (wd) := k4 (fn_Pt_setHeads w x2 x1 x3) (x1 + x3) (x2 + 1)
set_option maxHeartbeats 1600000 in
set_option maxRecDepth 100000 in
theorem w_Sc_dealHeads_60 {G : sm_G} {b : Nat} {M0 : sm_M} {bc bs : Nat} {Z : zd} {R : wd} {F : Nat} {k4 : wd → Int32 → Int32 → Option (wd)} (hk4 : ∀ (M : sm_M) (w : wd) (x1 : Int32) (x2 : Int32), lo_in G cm_L b M0 M w → k4 w x1 x2 = some R → sm_W G mf_Sc_dealHeads 4 [(0, .ref (b + 105)), (1, .int x1), (2, .int x2)] [] M bc bs (wd_Q G cm_L b M0 none R)) (hZ : cz_at G b M0 Z) : ∀ (M : sm_M) (w : wd) (x1 : Int32) (x2 : Int32) (x3 : Int32), lo_in G cm_L b M0 M w → fn_Sc_dealHeads_60 k4 F Z w x1 x2 x3 = some R → sm_W G mf_Sc_dealHeads 60 [(0, .ref (b + 105)), (1, .int x1), (2, .int x2), (3, .int x3)] [] M bc bs (wd_Q G cm_L b M0 none R) := by
  intro M w x1 x2 x3 hI  hf
  unfold fn_Sc_dealHeads_60 at hf
  refine sm_aload_n d_Sc_dealHeads_60 rfl (j := 0) rfl ?_
  refine lo_get (v := .ref (b + 110)) d_Sc_dealHeads_61 fg_Sc_28 hI cl_105 rfl ?_
  refine sm_iload_n d_Sc_dealHeads_64 rfl (j := 2) rfl ?_
  refine sm_iload_n d_Sc_dealHeads_65 rfl (j := 1) rfl ?_
  refine sm_iload_n d_Sc_dealHeads_66 rfl (j := 3) rfl ?_
  refine lo_callVm d_Sc_dealHeads_67 cs_Sc_dealHeads_269 rfl hI cl_110 (As := [.int x2, .int x1, .int x3]) rfl rfl (Nat.le_of_ble_eq_true rfl) (c_Pt_setHeads hI hZ x2 x1 x3) (fun M3 hI4 => ?_)
  refine sm_iload_n d_Sc_dealHeads_70 rfl (j := 1) rfl ?_
  refine sm_iload_n d_Sc_dealHeads_71 rfl (j := 3) rfl ?_
  refine sm_iadd d_Sc_dealHeads_72 ?_
  refine sm_istore_n d_Sc_dealHeads_73 rfl (by decide) rfl ?_
  refine sm_iinc (v := (x2 + 1)) d_Sc_dealHeads_74 (j := 2) rfl rfl (by decide) rfl ?_
  refine sm_goto (tgt := 4) d_Sc_dealHeads_77 (by decide) ?_
  exact sm_pick [2, 1, 0] (hk4 _ _ _ _ hI4 hf) rfl

def fn_Sc_dealHeads_4 (F : Nat) (Z : zd) : Nat → wd → Int32 → Int32 → Option (wd)
 | 0, _, _, _ => none
 | n9 + 1, w, x1, x2 => (if (w 110 1) ≤ x2 then some w else (if ((nI Z.2.2.1.length) - x1) < (4 : Int32) then fn_Sc_dealHeads_60 (fn_Sc_dealHeads_4 F Z n9) F Z w x1 x2 (0 : Int32) else fn_Sc_dealHeads_60 (fn_Sc_dealHeads_4 F Z n9) F Z w (x1 + 4) x2 ((if ((nI Z.2.2.1.length) - (x1 + 4)).toInt64 < (lN (rw_u4 Z.2.2.1 x1)) then ((nI Z.2.2.1.length) - (x1 + 4)).toInt64 else (lN (rw_u4 Z.2.2.1 x1))).toInt32)))
set_option maxHeartbeats 1600000 in
set_option maxRecDepth 100000 in
theorem w_Sc_dealHeads_4 {G : sm_G} {b : Nat} {M0 : sm_M} {bc bs : Nat} {Z : zd} {R : wd} {F : Nat} (hZ : cz_at G b M0 Z) : ∀ (n9 : Nat), ∀ (M : sm_M) (w : wd) (x1 : Int32) (x2 : Int32), lo_in G cm_L b M0 M w → fn_Sc_dealHeads_4 F Z n9 w x1 x2 = some R → sm_W G mf_Sc_dealHeads 4 [(0, .ref (b + 105)), (1, .int x1), (2, .int x2)] [] M bc bs (wd_Q G cm_L b M0 none R) := by
  intro n9
  induction n9 with
  | zero => intro M w x1 x2 hI  hf; cases hf
  | succ n9 ih =>
    intro M w x1 x2 hI  hf
    rw [fn_Sc_dealHeads_4] at hf
    refine sm_iload_n d_Sc_dealHeads_4 rfl (j := 2) rfl ?_
    refine sm_aload_n d_Sc_dealHeads_5 rfl (j := 0) rfl ?_
    refine lo_get (v := .ref (b + 110)) d_Sc_dealHeads_6 fg_Sc_28 hI cl_105 rfl ?_
    refine lo_get (v := .int (w 110 1)) d_Sc_dealHeads_9 fg_Sc_162 hI cl_110 rfl ?_
    refine sm_icmp_ge (tgt := 80) d_Sc_dealHeads_12 (by decide) (fun h1 => ?_) (fun h1 => ?_)
    · rw [if_pos h1] at hf
      cases hf
      refine sm_return d_Sc_dealHeads_80 rfl ?_
      exact ⟨rfl, hI⟩
    · rw [if_neg h1] at hf
      refine sm_iconst (v := 0) d_Sc_dealHeads_15 (by decide) ?_
      refine sm_istore_n d_Sc_dealHeads_16 rfl (by decide) rfl ?_
      refine sm_aload_n d_Sc_dealHeads_17 rfl (j := 1) rfl ?_
      refine lo_get (v := .ref (b + 106)) d_Sc_dealHeads_18 fg_Sc_12 hI cl_105 rfl ?_
      refine cm_cnt3 d_Sc_dealHeads_21 fg_Sc_53 hI hZ ?_
      refine sm_iload_n d_Sc_dealHeads_24 rfl (j := 2) rfl ?_
      refine sm_isub d_Sc_dealHeads_25 ?_
      refine sm_iconst (v := 4) d_Sc_dealHeads_26 (by decide) ?_
      refine sm_icmp_lt (tgt := 60) d_Sc_dealHeads_27 (by decide) (fun h2 => ?_) (fun h2 => ?_)
      · rw [if_pos h2] at hf
        exact sm_pick [1, 2, 3, 0] (w_Sc_dealHeads_60 ih hZ _ _ _ _ _ hI hf) rfl
      · rw [if_neg h2] at hf
        refine sm_aload_n d_Sc_dealHeads_30 rfl (j := 1) rfl ?_
        refine lo_get (v := .ref (b + 106)) d_Sc_dealHeads_31 fg_Sc_12 hI cl_105 rfl ?_
        refine sm_iload_n d_Sc_dealHeads_34 rfl (j := 2) rfl ?_
        refine cm_callR d_Sc_dealHeads_35 cs_Sc_dealHeads_200 rfl (cz_c3 hI hZ) (As := [.int x1]) rfl rfl (Nat.le_of_ble_eq_true rfl) (cz_u43 hI hZ x1) ?_
        refine sm_lstore d_Sc_dealHeads_38 (by decide) rfl ?_
        refine sm_iinc (v := (x1 + 4)) d_Sc_dealHeads_40 (j := 3) rfl rfl (by decide) rfl ?_
        refine sm_lload d_Sc_dealHeads_43 (j := 1) rfl ?_
        refine sm_aload_n d_Sc_dealHeads_45 rfl (j := 3) rfl ?_
        refine lo_get (v := .ref (b + 106)) d_Sc_dealHeads_46 fg_Sc_12 hI cl_105 rfl ?_
        refine cm_cnt3 d_Sc_dealHeads_49 fg_Sc_53 hI hZ ?_
        refine sm_iload_n d_Sc_dealHeads_52 rfl (j := 0) rfl ?_
        refine sm_isub d_Sc_dealHeads_53 ?_
        refine sm_i2l d_Sc_dealHeads_54 ?_
        refine sm_minL d_Sc_dealHeads_55 ⟨mw_574, mw_575, mw_21, mw_576⟩ (by decide) (Nat.le_of_ble_eq_true rfl) ?_
        refine sm_l2i d_Sc_dealHeads_58 ?_
        refine sm_istore_n d_Sc_dealHeads_59 rfl (by decide) rfl ?_
        exact sm_pick [3, 1, 4, 0] (w_Sc_dealHeads_60 ih hZ _ _ _ _ _ hI hf) rfl

def fn_Sc_dealHeads (F : Nat) (Z : zd) (w : wd) : Option (wd) := fn_Sc_dealHeads_4 F Z F w (0 : Int32) (0 : Int32)
set_option maxHeartbeats 1600000 in
set_option maxRecDepth 100000 in
theorem c_Sc_dealHeads {G : sm_G} {b : Nat} {M0 M : sm_M} {Z : zd} {w : wd} {F : Nat} (hI : lo_in G cm_L b M0 M w) (hZ : cz_at G b M0 Z) {R : wd} (hf : fn_Sc_dealHeads F Z w = some R) : sm_C G mf_Sc_dealHeads [.ref (b + 105)] M 0 0 (wd_Q G cm_L b M none R) := by
  unfold fn_Sc_dealHeads at hf
  have hZ := hZ.go hI.2
  have hI := hI.here
  refine sm_ofW rfl (Nat.le_of_ble_eq_true rfl) ?_
  refine sm_iconst (v := 0) d_Sc_dealHeads_0 (by decide) ?_
  refine sm_istore_n d_Sc_dealHeads_1 rfl (by decide) rfl ?_
  refine sm_iconst (v := 0) d_Sc_dealHeads_2 (by decide) ?_
  refine sm_istore_n d_Sc_dealHeads_3 rfl (by decide) rfl ?_
  exact sm_pick [2, 1, 0] (w_Sc_dealHeads_4 hZ _ _ _ _ _ hI hf) rfl

