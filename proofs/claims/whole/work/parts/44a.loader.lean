/-! Loader; written by wip/tools/cls.py -/
def fn_Ld_number4 (Z : zd) (w : wd) (x1 : Int32) : Int32 := (lN (rw_u4 Z.1.1 x1)).toInt32
set_option maxHeartbeats 1600000 in
set_option maxRecDepth 100000 in
theorem c_Ld_number4 {G : sm_G} {b : Nat} {M0 M : sm_M} {Z : zd} {w : wd}  (hI : lo_in G cm_L b M0 M w) (hZ : cz_at G b M0 Z) (x1 : Int32)  : sm_C G mf_Ld_number4 [.ref (b + 115), .int x1] M 0 0 (sm_pu M (.int (fn_Ld_number4 Z w x1))) := by
  obtain ⟨R, hf⟩ : ∃ R, fn_Ld_number4 Z w x1 = R := ⟨_, rfl⟩
  rw [hf]
  unfold fn_Ld_number4 at hf
  have hZ := hZ.go hI.2
  have hI := hI.here
  refine sm_ofW rfl (Nat.le_of_ble_eq_true rfl) ?_
  refine sm_aload_n d_Ld_number4_0 rfl (j := 0) rfl ?_
  refine lo_get (v := .ref (b + 101)) d_Ld_number4_1 fg_Ld_9 hI cl_115 rfl ?_
  refine sm_iload_n d_Ld_number4_4 rfl (j := 1) rfl ?_
  refine cm_callR d_Ld_number4_5 cs_Ld_number4_66 rfl (cz_c1 hI hZ) (As := [.int x1]) rfl rfl (Nat.le_of_ble_eq_true rfl) (cz_u41 hI hZ x1) ?_
  refine sm_l2i d_Ld_number4_8 ?_
  subst hf
  refine sm_ireturn d_Ld_number4_9 rfl (by rfl) ?_
  exact ⟨rfl, rfl⟩

def fn_Ld_loadSize_141 (k91 : wd → Int32 → Int32 → Int32 → Option (wd)) (F : Nat) (Z : zd) (w : wd) (x1 : Int32) (x2 : Int32) (x3 : Int32) (x4 : Int32) (s0 : Bool) (s1 : Int32) : Option (wd) := k91 ((fn_Pl_addComponent w s1 s0 (nI (rw_u1 Z.1.1 (x4 + (1 : Int32)).toInt)) (nI (rw_u1 Z.1.1 (x4 + (2 : Int32)).toInt))).2) x1 x2 (x3 + 1)
set_option maxHeartbeats 1600000 in
set_option maxRecDepth 100000 in
theorem w_Ld_loadSize_141 {G : sm_G} {b : Nat} {M0 : sm_M} {bc bs : Nat} {Z : zd} {R : wd} {F : Nat} {k91 : wd → Int32 → Int32 → Int32 → Option (wd)} (hk91 : ∀ (M : sm_M) (w : wd) (x1 : Int32) (x2 : Int32) (x3 : Int32), lo_in G cm_L b M0 M w → k91 w x1 x2 x3 = some R → sm_W G mf_Ld_loadSize 91 [(0, .ref (b + 115)), (1, .int x1), (2, .int x2), (3, .int x3)] [] M bc bs (wd_Q G cm_L b M0 none R)) (hZ : cz_at G b M0 Z) : ∀ (M : sm_M) (w : wd) (x1 : Int32) (x2 : Int32) (x3 : Int32) (x4 : Int32) (s0 : Bool) (s1 : Int32), lo_in G cm_L b M0 M w → fn_Ld_loadSize_141 k91 F Z w x1 x2 x3 x4 s0 s1 = some R → sm_W G mf_Ld_loadSize 141 [(0, .ref (b + 115)), (1, .int x1), (2, .int x2), (3, .int x3), (4, .int x4)] [.int (bi s0), .int s1, .ref (b + 1)] M bc bs (wd_Q G cm_L b M0 none R) := by
  intro M w x1 x2 x3 x4 s0 s1 hI  hf
  unfold fn_Ld_loadSize_141 at hf
  refine sm_aload_n d_Ld_loadSize_141 rfl (j := 0) rfl ?_
  refine lo_get (v := .ref (b + 101)) d_Ld_loadSize_142 fg_Ld_9 hI cl_115 rfl ?_
  refine sm_iload d_Ld_loadSize_145 (j := 4) rfl ?_
  refine sm_iconst (v := 1) d_Ld_loadSize_147 (by decide) ?_
  refine sm_iadd d_Ld_loadSize_148 ?_
  refine cm_callR d_Ld_loadSize_149 cs_Ld_loadSize_59 rfl (cz_c1 hI hZ) (As := [.int (x4 + (1 : Int32))]) rfl rfl (Nat.le_of_ble_eq_true rfl) (cz_u11 hI hZ (x4 + (1 : Int32))) ?_
  refine sm_aload_n d_Ld_loadSize_152 rfl (j := 0) rfl ?_
  refine lo_get (v := .ref (b + 101)) d_Ld_loadSize_153 fg_Ld_9 hI cl_115 rfl ?_
  refine sm_iload d_Ld_loadSize_156 (j := 4) rfl ?_
  refine sm_iconst (v := 2) d_Ld_loadSize_158 (by decide) ?_
  refine sm_iadd d_Ld_loadSize_159 ?_
  refine cm_callR d_Ld_loadSize_160 cs_Ld_loadSize_59 rfl (cz_c1 hI hZ) (As := [.int (x4 + (2 : Int32))]) rfl rfl (Nat.le_of_ble_eq_true rfl) (cz_u11 hI hZ (x4 + (2 : Int32))) ?_
  refine lo_callVm d_Ld_loadSize_163 cs_Ld_loadSize_62 rfl hI cl_1 (As := [.int s1, .int (bi s0), .int (nI (rw_u1 Z.1.1 (x4 + (1 : Int32)).toInt)), .int (nI (rw_u1 Z.1.1 (x4 + (2 : Int32)).toInt))]) rfl rfl (Nat.le_of_ble_eq_true rfl) (c_Pl_addComponent hI hZ s1 s0 (nI (rw_u1 Z.1.1 (x4 + (1 : Int32)).toInt)) (nI (rw_u1 Z.1.1 (x4 + (2 : Int32)).toInt))) (fun M7 hI8 => ?_)
  refine sm_pop d_Ld_loadSize_166 rfl ?_
  refine sm_iinc (v := (x3 + 1)) d_Ld_loadSize_167 (j := 3) rfl rfl (by decide) rfl ?_
  refine sm_goto (tgt := 91) d_Ld_loadSize_170 (by decide) ?_
  exact sm_pick [1, 2, 3, 0] (hk91 _ _ _ _ _ hI8 hf) rfl

def fn_Ld_loadSize_91 (F : Nat) (Z : zd) : Nat → wd → Int32 → Int32 → Int32 → Option (wd)
 | 0, _, _, _, _ => none
 | n9 + 1, w, x1, x2, x3 => (if x2 ≤ x3 then some w else (if (nI (rw_u1 Z.1.1 ((x1 + (36 : Int32)) + ((3 : Int32) * x3)).toInt)) < (128 : Int32) then fn_Ld_loadSize_141 (fn_Ld_loadSize_91 F Z n9) F Z w x1 x2 x3 ((x1 + (36 : Int32)) + ((3 : Int32) * x3)) false (((nI (rw_u1 Z.1.1 ((x1 + (36 : Int32)) + ((3 : Int32) * x3)).toInt)) &&& (127 : Int32)) + (1 : Int32)) else fn_Ld_loadSize_141 (fn_Ld_loadSize_91 F Z n9) F Z w x1 x2 x3 ((x1 + (36 : Int32)) + ((3 : Int32) * x3)) true (((nI (rw_u1 Z.1.1 ((x1 + (36 : Int32)) + ((3 : Int32) * x3)).toInt)) &&& (127 : Int32)) + (1 : Int32))))
set_option maxHeartbeats 1600000 in
set_option maxRecDepth 100000 in
theorem w_Ld_loadSize_91 {G : sm_G} {b : Nat} {M0 : sm_M} {bc bs : Nat} {Z : zd} {R : wd} {F : Nat} (hZ : cz_at G b M0 Z) : ∀ (n9 : Nat), ∀ (M : sm_M) (w : wd) (x1 : Int32) (x2 : Int32) (x3 : Int32), lo_in G cm_L b M0 M w → fn_Ld_loadSize_91 F Z n9 w x1 x2 x3 = some R → sm_W G mf_Ld_loadSize 91 [(0, .ref (b + 115)), (1, .int x1), (2, .int x2), (3, .int x3)] [] M bc bs (wd_Q G cm_L b M0 none R) := by
  intro n9
  induction n9 with
  | zero => intro M w x1 x2 x3 hI  hf; cases hf
  | succ n9 ih =>
    intro M w x1 x2 x3 hI  hf
    rw [fn_Ld_loadSize_91] at hf
    refine sm_iload_n d_Ld_loadSize_91 rfl (j := 3) rfl ?_
    refine sm_iload_n d_Ld_loadSize_92 rfl (j := 2) rfl ?_
    refine sm_icmp_ge (tgt := 173) d_Ld_loadSize_93 (by decide) (fun h5 => ?_) (fun h5 => ?_)
    · rw [if_pos h5] at hf
      cases hf
      refine sm_return d_Ld_loadSize_173 rfl ?_
      exact ⟨rfl, hI⟩
    · rw [if_neg h5] at hf
      refine sm_iload_n d_Ld_loadSize_96 rfl (j := 1) rfl ?_
      refine sm_bipush (v := 36) d_Ld_loadSize_97 (by decide) ?_
      refine sm_iadd d_Ld_loadSize_99 ?_
      refine sm_iconst (v := 3) d_Ld_loadSize_100 (by decide) ?_
      refine sm_iload_n d_Ld_loadSize_101 rfl (j := 3) rfl ?_
      refine sm_imul d_Ld_loadSize_102 ?_
      refine sm_iadd d_Ld_loadSize_103 ?_
      refine sm_istore d_Ld_loadSize_104 (by decide) rfl ?_
      refine sm_aload_n d_Ld_loadSize_106 rfl (j := 1) rfl ?_
      refine lo_get (v := .ref (b + 101)) d_Ld_loadSize_107 fg_Ld_9 hI cl_115 rfl ?_
      refine sm_iload d_Ld_loadSize_110 (j := 0) rfl ?_
      refine cm_callR d_Ld_loadSize_112 cs_Ld_loadSize_59 rfl (cz_c1 hI hZ) (As := [.int ((x1 + (36 : Int32)) + ((3 : Int32) * x3))]) rfl rfl (Nat.le_of_ble_eq_true rfl) (cz_u11 hI hZ ((x1 + (36 : Int32)) + ((3 : Int32) * x3))) ?_
      refine sm_istore d_Ld_loadSize_115 (by decide) rfl ?_
      refine sm_aload_n d_Ld_loadSize_117 rfl (j := 2) rfl ?_
      refine lo_get (v := .ref (b + 1)) d_Ld_loadSize_118 fg_Ld_19 hI cl_115 rfl ?_
      refine sm_iload d_Ld_loadSize_121 (j := 0) rfl ?_
      refine sm_bipush (v := 127) d_Ld_loadSize_123 (by decide) ?_
      refine sm_iand d_Ld_loadSize_125 ?_
      refine sm_iconst (v := 1) d_Ld_loadSize_126 (by decide) ?_
      refine sm_iadd d_Ld_loadSize_127 ?_
      refine sm_iload d_Ld_loadSize_128 (j := 0) rfl ?_
      refine sm_sipush (v := 128) d_Ld_loadSize_130 (by decide) ?_
      refine sm_icmp_lt (tgt := 140) d_Ld_loadSize_133 (by decide) (fun h6 => ?_) (fun h6 => ?_)
      · rw [if_pos h6] at hf
        refine sm_iconst (v := 0) d_Ld_loadSize_140 (by decide) ?_
        exact sm_pick [2, 3, 4, 5, 1] (w_Ld_loadSize_141 ih hZ _ _ _ _ _ _ _ _ hI hf) rfl
      · rw [if_neg h6] at hf
        refine sm_iconst (v := 1) d_Ld_loadSize_136 (by decide) ?_
        refine sm_goto (tgt := 141) d_Ld_loadSize_137 (by decide) ?_
        exact sm_pick [2, 3, 4, 5, 1] (w_Ld_loadSize_141 ih hZ _ _ _ _ _ _ _ _ hI hf) rfl

def fn_Ld_loadSize (F : Nat) (Z : zd) (w : wd) (x1 : Int32) : Option (wd) := fn_Ld_loadSize_91 F Z F (fn_Pl_setTiles (fn_Pl_setPicture w (fn_Ld_number4 Z w (x1 + (10 : Int32))) (fn_Ld_number4 Z w (x1 + (14 : Int32))) (fn_Ld_number4 Z w (x1 + (2 : Int32))) (fn_Ld_number4 Z w (x1 + (6 : Int32)))) (fn_Ld_number4 Z (fn_Pl_setPicture w (fn_Ld_number4 Z w (x1 + (10 : Int32))) (fn_Ld_number4 Z w (x1 + (14 : Int32))) (fn_Ld_number4 Z w (x1 + (2 : Int32))) (fn_Ld_number4 Z w (x1 + (6 : Int32)))) (x1 + (26 : Int32))) (fn_Ld_number4 Z (fn_Pl_setPicture w (fn_Ld_number4 Z w (x1 + (10 : Int32))) (fn_Ld_number4 Z w (x1 + (14 : Int32))) (fn_Ld_number4 Z w (x1 + (2 : Int32))) (fn_Ld_number4 Z w (x1 + (6 : Int32)))) (x1 + (30 : Int32))) (fn_Ld_number4 Z (fn_Pl_setPicture w (fn_Ld_number4 Z w (x1 + (10 : Int32))) (fn_Ld_number4 Z w (x1 + (14 : Int32))) (fn_Ld_number4 Z w (x1 + (2 : Int32))) (fn_Ld_number4 Z w (x1 + (6 : Int32)))) (x1 + (18 : Int32))) (fn_Ld_number4 Z (fn_Pl_setPicture w (fn_Ld_number4 Z w (x1 + (10 : Int32))) (fn_Ld_number4 Z w (x1 + (14 : Int32))) (fn_Ld_number4 Z w (x1 + (2 : Int32))) (fn_Ld_number4 Z w (x1 + (6 : Int32)))) (x1 + (22 : Int32)))) x1 (nI (rw_u2 Z.1.1 (x1 + (34 : Int32)).toInt)) (0 : Int32)
set_option maxHeartbeats 1600000 in
set_option maxRecDepth 100000 in
theorem c_Ld_loadSize {G : sm_G} {b : Nat} {M0 M : sm_M} {Z : zd} {w : wd} {F : Nat} (hI : lo_in G cm_L b M0 M w) (hZ : cz_at G b M0 Z) (x1 : Int32)  {R : wd} (hf : fn_Ld_loadSize F Z w x1 = some R) : sm_C G mf_Ld_loadSize [.ref (b + 115), .int x1] M 0 0 (wd_Q G cm_L b M none R) := by
  unfold fn_Ld_loadSize at hf
  have hZ := hZ.go hI.2
  have hI := hI.here
  refine sm_ofW rfl (Nat.le_of_ble_eq_true rfl) ?_
  refine sm_aload_n d_Ld_loadSize_0 rfl (j := 0) rfl ?_
  refine lo_get (v := .ref (b + 1)) d_Ld_loadSize_1 fg_Ld_19 hI cl_115 rfl ?_
  refine sm_aload_n d_Ld_loadSize_4 rfl (j := 0) rfl ?_
  refine sm_iload_n d_Ld_loadSize_5 rfl (j := 1) rfl ?_
  refine sm_bipush (v := 10) d_Ld_loadSize_6 (by decide) ?_
  refine sm_iadd d_Ld_loadSize_8 ?_
  refine lo_callV d_Ld_loadSize_9 cs_Ld_loadSize_44 rfl hI cl_115 (As := [.int (x1 + (10 : Int32))]) rfl rfl (Nat.le_of_ble_eq_true rfl) (c_Ld_number4 hI hZ (x1 + (10 : Int32))) ?_
  refine sm_aload_n d_Ld_loadSize_12 rfl (j := 0) rfl ?_
  refine sm_iload_n d_Ld_loadSize_13 rfl (j := 1) rfl ?_
  refine sm_bipush (v := 14) d_Ld_loadSize_14 (by decide) ?_
  refine sm_iadd d_Ld_loadSize_16 ?_
  refine lo_callV d_Ld_loadSize_17 cs_Ld_loadSize_44 rfl hI cl_115 (As := [.int (x1 + (14 : Int32))]) rfl rfl (Nat.le_of_ble_eq_true rfl) (c_Ld_number4 hI hZ (x1 + (14 : Int32))) ?_
  refine sm_aload_n d_Ld_loadSize_20 rfl (j := 0) rfl ?_
  refine sm_iload_n d_Ld_loadSize_21 rfl (j := 1) rfl ?_
  refine sm_iconst (v := 2) d_Ld_loadSize_22 (by decide) ?_
  refine sm_iadd d_Ld_loadSize_23 ?_
  refine lo_callV d_Ld_loadSize_24 cs_Ld_loadSize_44 rfl hI cl_115 (As := [.int (x1 + (2 : Int32))]) rfl rfl (Nat.le_of_ble_eq_true rfl) (c_Ld_number4 hI hZ (x1 + (2 : Int32))) ?_
  refine sm_aload_n d_Ld_loadSize_27 rfl (j := 0) rfl ?_
  refine sm_iload_n d_Ld_loadSize_28 rfl (j := 1) rfl ?_
  refine sm_bipush (v := 6) d_Ld_loadSize_29 (by decide) ?_
  refine sm_iadd d_Ld_loadSize_31 ?_
  refine lo_callV d_Ld_loadSize_32 cs_Ld_loadSize_44 rfl hI cl_115 (As := [.int (x1 + (6 : Int32))]) rfl rfl (Nat.le_of_ble_eq_true rfl) (c_Ld_number4 hI hZ (x1 + (6 : Int32))) ?_
  refine lo_callVm d_Ld_loadSize_35 cs_Ld_loadSize_47 rfl hI cl_1 (As := [.int (fn_Ld_number4 Z w (x1 + (10 : Int32))), .int (fn_Ld_number4 Z w (x1 + (14 : Int32))), .int (fn_Ld_number4 Z w (x1 + (2 : Int32))), .int (fn_Ld_number4 Z w (x1 + (6 : Int32)))]) rfl rfl (Nat.le_of_ble_eq_true rfl) (c_Pl_setPicture hI hZ (fn_Ld_number4 Z w (x1 + (10 : Int32))) (fn_Ld_number4 Z w (x1 + (14 : Int32))) (fn_Ld_number4 Z w (x1 + (2 : Int32))) (fn_Ld_number4 Z w (x1 + (6 : Int32)))) (fun M1 hI2 => ?_)
  refine sm_aload_n d_Ld_loadSize_38 rfl (j := 0) rfl ?_
  refine lo_get (v := .ref (b + 1)) d_Ld_loadSize_39 fg_Ld_19 hI2 cl_115 rfl ?_
  refine sm_aload_n d_Ld_loadSize_42 rfl (j := 0) rfl ?_
  refine sm_iload_n d_Ld_loadSize_43 rfl (j := 1) rfl ?_
  refine sm_bipush (v := 26) d_Ld_loadSize_44 (by decide) ?_
  refine sm_iadd d_Ld_loadSize_46 ?_
  refine lo_callV d_Ld_loadSize_47 cs_Ld_loadSize_44 rfl hI2 cl_115 (As := [.int (x1 + (26 : Int32))]) rfl rfl (Nat.le_of_ble_eq_true rfl) (c_Ld_number4 hI2 hZ (x1 + (26 : Int32))) ?_
  refine sm_aload_n d_Ld_loadSize_50 rfl (j := 0) rfl ?_
  refine sm_iload_n d_Ld_loadSize_51 rfl (j := 1) rfl ?_
  refine sm_bipush (v := 30) d_Ld_loadSize_52 (by decide) ?_
  refine sm_iadd d_Ld_loadSize_54 ?_
  refine lo_callV d_Ld_loadSize_55 cs_Ld_loadSize_44 rfl hI2 cl_115 (As := [.int (x1 + (30 : Int32))]) rfl rfl (Nat.le_of_ble_eq_true rfl) (c_Ld_number4 hI2 hZ (x1 + (30 : Int32))) ?_
  refine sm_aload_n d_Ld_loadSize_58 rfl (j := 0) rfl ?_
  refine sm_iload_n d_Ld_loadSize_59 rfl (j := 1) rfl ?_
  refine sm_bipush (v := 18) d_Ld_loadSize_60 (by decide) ?_
  refine sm_iadd d_Ld_loadSize_62 ?_
  refine lo_callV d_Ld_loadSize_63 cs_Ld_loadSize_44 rfl hI2 cl_115 (As := [.int (x1 + (18 : Int32))]) rfl rfl (Nat.le_of_ble_eq_true rfl) (c_Ld_number4 hI2 hZ (x1 + (18 : Int32))) ?_
  refine sm_aload_n d_Ld_loadSize_66 rfl (j := 0) rfl ?_
  refine sm_iload_n d_Ld_loadSize_67 rfl (j := 1) rfl ?_
  refine sm_bipush (v := 22) d_Ld_loadSize_68 (by decide) ?_
  refine sm_iadd d_Ld_loadSize_70 ?_
  refine lo_callV d_Ld_loadSize_71 cs_Ld_loadSize_44 rfl hI2 cl_115 (As := [.int (x1 + (22 : Int32))]) rfl rfl (Nat.le_of_ble_eq_true rfl) (c_Ld_number4 hI2 hZ (x1 + (22 : Int32))) ?_
  refine lo_callVm d_Ld_loadSize_74 cs_Ld_loadSize_51 rfl hI2 cl_1 (As := [.int (fn_Ld_number4 Z (fn_Pl_setPicture w (fn_Ld_number4 Z w (x1 + (10 : Int32))) (fn_Ld_number4 Z w (x1 + (14 : Int32))) (fn_Ld_number4 Z w (x1 + (2 : Int32))) (fn_Ld_number4 Z w (x1 + (6 : Int32)))) (x1 + (26 : Int32))), .int (fn_Ld_number4 Z (fn_Pl_setPicture w (fn_Ld_number4 Z w (x1 + (10 : Int32))) (fn_Ld_number4 Z w (x1 + (14 : Int32))) (fn_Ld_number4 Z w (x1 + (2 : Int32))) (fn_Ld_number4 Z w (x1 + (6 : Int32)))) (x1 + (30 : Int32))), .int (fn_Ld_number4 Z (fn_Pl_setPicture w (fn_Ld_number4 Z w (x1 + (10 : Int32))) (fn_Ld_number4 Z w (x1 + (14 : Int32))) (fn_Ld_number4 Z w (x1 + (2 : Int32))) (fn_Ld_number4 Z w (x1 + (6 : Int32)))) (x1 + (18 : Int32))), .int (fn_Ld_number4 Z (fn_Pl_setPicture w (fn_Ld_number4 Z w (x1 + (10 : Int32))) (fn_Ld_number4 Z w (x1 + (14 : Int32))) (fn_Ld_number4 Z w (x1 + (2 : Int32))) (fn_Ld_number4 Z w (x1 + (6 : Int32)))) (x1 + (22 : Int32)))]) rfl rfl (Nat.le_of_ble_eq_true rfl) (c_Pl_setTiles hI2 hZ (fn_Ld_number4 Z (fn_Pl_setPicture w (fn_Ld_number4 Z w (x1 + (10 : Int32))) (fn_Ld_number4 Z w (x1 + (14 : Int32))) (fn_Ld_number4 Z w (x1 + (2 : Int32))) (fn_Ld_number4 Z w (x1 + (6 : Int32)))) (x1 + (26 : Int32))) (fn_Ld_number4 Z (fn_Pl_setPicture w (fn_Ld_number4 Z w (x1 + (10 : Int32))) (fn_Ld_number4 Z w (x1 + (14 : Int32))) (fn_Ld_number4 Z w (x1 + (2 : Int32))) (fn_Ld_number4 Z w (x1 + (6 : Int32)))) (x1 + (30 : Int32))) (fn_Ld_number4 Z (fn_Pl_setPicture w (fn_Ld_number4 Z w (x1 + (10 : Int32))) (fn_Ld_number4 Z w (x1 + (14 : Int32))) (fn_Ld_number4 Z w (x1 + (2 : Int32))) (fn_Ld_number4 Z w (x1 + (6 : Int32)))) (x1 + (18 : Int32))) (fn_Ld_number4 Z (fn_Pl_setPicture w (fn_Ld_number4 Z w (x1 + (10 : Int32))) (fn_Ld_number4 Z w (x1 + (14 : Int32))) (fn_Ld_number4 Z w (x1 + (2 : Int32))) (fn_Ld_number4 Z w (x1 + (6 : Int32)))) (x1 + (22 : Int32)))) (fun M3 hI4 => ?_)
  refine sm_aload_n d_Ld_loadSize_77 rfl (j := 0) rfl ?_
  refine lo_get (v := .ref (b + 101)) d_Ld_loadSize_78 fg_Ld_9 hI4 cl_115 rfl ?_
  refine sm_iload_n d_Ld_loadSize_81 rfl (j := 1) rfl ?_
  refine sm_bipush (v := 34) d_Ld_loadSize_82 (by decide) ?_
  refine sm_iadd d_Ld_loadSize_84 ?_
  refine cm_callR d_Ld_loadSize_85 cs_Ld_loadSize_54 rfl (cz_c1 hI4 hZ) (As := [.int (x1 + (34 : Int32))]) rfl rfl (Nat.le_of_ble_eq_true rfl) (cz_u21 hI4 hZ (x1 + (34 : Int32))) ?_
  refine sm_istore_n d_Ld_loadSize_88 rfl (by decide) rfl ?_
  refine sm_iconst (v := 0) d_Ld_loadSize_89 (by decide) ?_
  refine sm_istore_n d_Ld_loadSize_90 rfl (by decide) rfl ?_
  exact sm_pick [2, 3, 1, 0] (w_Ld_loadSize_91 hZ _ _ _ _ _ _ hI4 hf) rfl

def fn_Ld_loadGeneral_63 (Z : zd) (w : wd) (x2 : Int32) (s0 : Bool) (s1 : Bool) (s2 : Int32) (s3 : Int32) : wd := (if (x2 &&& (4 : Int32)) = 0 then (fn_Pl_setGeneral w s3 s2 s1 s0 false) else (fn_Pl_setGeneral w s3 s2 s1 s0 true))
set_option maxHeartbeats 1600000 in
set_option maxRecDepth 100000 in
theorem w_Ld_loadGeneral_63 {G : sm_G} {b : Nat} {M0 : sm_M} {bc bs : Nat} {Z : zd} {R : wd} (hZ : cz_at G b M0 Z) : ∀ (M : sm_M) (w : wd) (x2 : Int32) (s0 : Bool) (s1 : Bool) (s2 : Int32) (s3 : Int32), lo_in G cm_L b M0 M w → fn_Ld_loadGeneral_63 Z w x2 s0 s1 s2 s3 = R → sm_W G mf_Ld_loadGeneral 63 [(2, .int x2)] [.int (bi s0), .int (bi s1), .int s2, .int s3, .ref (b + 1)] M bc bs (wd_Q G cm_L b M0 none R) := by
  intro M w x2 s0 s1 s2 s3 hI  hf
  unfold fn_Ld_loadGeneral_63 at hf
  refine sm_iload_n d_Ld_loadGeneral_63 rfl (j := 0) rfl ?_
  refine sm_iconst (v := 4) d_Ld_loadGeneral_64 (by decide) ?_
  refine sm_iand d_Ld_loadGeneral_65 ?_
  refine sm_if_eq (tgt := 73) d_Ld_loadGeneral_66 (by decide) (fun h3 => ?_) (fun h3 => ?_)
  · rw [if_pos h3] at hf
    refine sm_iconst (v := 0) d_Ld_loadGeneral_73 (by decide) ?_
    refine lo_callVm d_Ld_loadGeneral_74 cs_Ld_loadGeneral_110 rfl hI cl_1 (As := [.int s3, .int s2, .int (bi s1), .int (bi s0), .int (0 : Int32)]) rfl rfl (Nat.le_of_ble_eq_true rfl) (c_Pl_setGeneral hI hZ s3 s2 s1 s0 false) (fun M4 hI5 => ?_)
    subst hf
    refine sm_return d_Ld_loadGeneral_77 rfl ?_
    exact ⟨rfl, hI5⟩
  · rw [if_neg h3] at hf
    refine sm_iconst (v := 1) d_Ld_loadGeneral_69 (by decide) ?_
    refine sm_goto (tgt := 74) d_Ld_loadGeneral_70 (by decide) ?_
    refine lo_callVm d_Ld_loadGeneral_74 cs_Ld_loadGeneral_110 rfl hI cl_1 (As := [.int s3, .int s2, .int (bi s1), .int (bi s0), .int (1 : Int32)]) rfl rfl (Nat.le_of_ble_eq_true rfl) (c_Pl_setGeneral hI hZ s3 s2 s1 s0 true) (fun M6 hI7 => ?_)
    subst hf
    refine sm_return d_Ld_loadGeneral_77 rfl ?_
    exact ⟨rfl, hI7⟩

def fn_Ld_loadGeneral_52 (Z : zd) (w : wd) (x2 : Int32) (s0 : Bool) (s1 : Int32) (s2 : Int32) : wd := (if (x2 &&& (2 : Int32)) = 0 then fn_Ld_loadGeneral_63 Z w x2 false s0 s1 s2 else fn_Ld_loadGeneral_63 Z w x2 true s0 s1 s2)
set_option maxHeartbeats 1600000 in
set_option maxRecDepth 100000 in
theorem w_Ld_loadGeneral_52 {G : sm_G} {b : Nat} {M0 : sm_M} {bc bs : Nat} {Z : zd} {R : wd} (hZ : cz_at G b M0 Z) : ∀ (M : sm_M) (w : wd) (x2 : Int32) (s0 : Bool) (s1 : Int32) (s2 : Int32), lo_in G cm_L b M0 M w → fn_Ld_loadGeneral_52 Z w x2 s0 s1 s2 = R → sm_W G mf_Ld_loadGeneral 52 [(2, .int x2)] [.int (bi s0), .int s1, .int s2, .ref (b + 1)] M bc bs (wd_Q G cm_L b M0 none R) := by
  intro M w x2 s0 s1 s2 hI  hf
  unfold fn_Ld_loadGeneral_52 at hf
  refine sm_iload_n d_Ld_loadGeneral_52 rfl (j := 0) rfl ?_
  refine sm_iconst (v := 2) d_Ld_loadGeneral_53 (by decide) ?_
  refine sm_iand d_Ld_loadGeneral_54 ?_
  refine sm_if_eq (tgt := 62) d_Ld_loadGeneral_55 (by decide) (fun h2 => ?_) (fun h2 => ?_)
  · rw [if_pos h2] at hf
    refine sm_iconst (v := 0) d_Ld_loadGeneral_62 (by decide) ?_
    exact sm_pick [0] (w_Ld_loadGeneral_63 hZ _ _ _ _ _ _ _ hI hf) rfl
  · rw [if_neg h2] at hf
    refine sm_iconst (v := 1) d_Ld_loadGeneral_58 (by decide) ?_
    refine sm_goto (tgt := 63) d_Ld_loadGeneral_59 (by decide) ?_
    exact sm_pick [0] (w_Ld_loadGeneral_63 hZ _ _ _ _ _ _ _ hI hf) rfl

def fn_Ld_loadGeneral (Z : zd) (w : wd) (x1 : Int32) : wd := (if (nI (rw_u1 Z.1.1 (x1 + (4 : Int32)).toInt)) = (1 : Int32) then fn_Ld_loadGeneral_52 Z w (nI (rw_u1 Z.1.1 x1.toInt)) true (nI (rw_u2 Z.1.1 (x1 + (2 : Int32)).toInt)) (nI (rw_u1 Z.1.1 (x1 + (1 : Int32)).toInt)) else fn_Ld_loadGeneral_52 Z w (nI (rw_u1 Z.1.1 x1.toInt)) false (nI (rw_u2 Z.1.1 (x1 + (2 : Int32)).toInt)) (nI (rw_u1 Z.1.1 (x1 + (1 : Int32)).toInt)))
set_option maxHeartbeats 1600000 in
set_option maxRecDepth 100000 in
theorem c_Ld_loadGeneral {G : sm_G} {b : Nat} {M0 M : sm_M} {Z : zd} {w : wd}  (hI : lo_in G cm_L b M0 M w) (hZ : cz_at G b M0 Z) (x1 : Int32)  : sm_C G mf_Ld_loadGeneral [.ref (b + 115), .int x1] M 0 0 (wd_Q G cm_L b M none (fn_Ld_loadGeneral Z w x1)) := by
  obtain ⟨R, hf⟩ : ∃ R, fn_Ld_loadGeneral Z w x1 = R := ⟨_, rfl⟩
  rw [hf]
  unfold fn_Ld_loadGeneral at hf
  have hZ := hZ.go hI.2
  have hI := hI.here
  refine sm_ofW rfl (Nat.le_of_ble_eq_true rfl) ?_
  refine sm_aload_n d_Ld_loadGeneral_0 rfl (j := 0) rfl ?_
  refine lo_get (v := .ref (b + 101)) d_Ld_loadGeneral_1 fg_Ld_9 hI cl_115 rfl ?_
  refine sm_iload_n d_Ld_loadGeneral_4 rfl (j := 1) rfl ?_
  refine cm_callR d_Ld_loadGeneral_5 cs_Ld_loadGeneral_59 rfl (cz_c1 hI hZ) (As := [.int x1]) rfl rfl (Nat.le_of_ble_eq_true rfl) (cz_u11 hI hZ x1) ?_
  refine sm_istore_n d_Ld_loadGeneral_8 rfl (by decide) rfl ?_
  refine sm_aload_n d_Ld_loadGeneral_9 rfl (j := 1) rfl ?_
  refine lo_get (v := .ref (b + 1)) d_Ld_loadGeneral_10 fg_Ld_19 hI cl_115 rfl ?_
  refine sm_aload_n d_Ld_loadGeneral_13 rfl (j := 1) rfl ?_
  refine lo_get (v := .ref (b + 101)) d_Ld_loadGeneral_14 fg_Ld_9 hI cl_115 rfl ?_
  refine sm_iload_n d_Ld_loadGeneral_17 rfl (j := 2) rfl ?_
  refine sm_iconst (v := 1) d_Ld_loadGeneral_18 (by decide) ?_
  refine sm_iadd d_Ld_loadGeneral_19 ?_
  refine cm_callR d_Ld_loadGeneral_20 cs_Ld_loadGeneral_59 rfl (cz_c1 hI hZ) (As := [.int (x1 + (1 : Int32))]) rfl rfl (Nat.le_of_ble_eq_true rfl) (cz_u11 hI hZ (x1 + (1 : Int32))) ?_
  refine sm_aload_n d_Ld_loadGeneral_23 rfl (j := 1) rfl ?_
  refine lo_get (v := .ref (b + 101)) d_Ld_loadGeneral_24 fg_Ld_9 hI cl_115 rfl ?_
  refine sm_iload_n d_Ld_loadGeneral_27 rfl (j := 2) rfl ?_
  refine sm_iconst (v := 2) d_Ld_loadGeneral_28 (by decide) ?_
  refine sm_iadd d_Ld_loadGeneral_29 ?_
  refine cm_callR d_Ld_loadGeneral_30 cs_Ld_loadGeneral_54 rfl (cz_c1 hI hZ) (As := [.int (x1 + (2 : Int32))]) rfl rfl (Nat.le_of_ble_eq_true rfl) (cz_u21 hI hZ (x1 + (2 : Int32))) ?_
  refine sm_aload_n d_Ld_loadGeneral_33 rfl (j := 1) rfl ?_
  refine lo_get (v := .ref (b + 101)) d_Ld_loadGeneral_34 fg_Ld_9 hI cl_115 rfl ?_
  refine sm_iload_n d_Ld_loadGeneral_37 rfl (j := 2) rfl ?_
  refine sm_iconst (v := 4) d_Ld_loadGeneral_38 (by decide) ?_
  refine sm_iadd d_Ld_loadGeneral_39 ?_
  refine cm_callR d_Ld_loadGeneral_40 cs_Ld_loadGeneral_59 rfl (cz_c1 hI hZ) (As := [.int (x1 + (4 : Int32))]) rfl rfl (Nat.le_of_ble_eq_true rfl) (cz_u11 hI hZ (x1 + (4 : Int32))) ?_
  refine sm_iconst (v := 1) d_Ld_loadGeneral_43 (by decide) ?_
  refine sm_icmp_ne (tgt := 51) d_Ld_loadGeneral_44 (by decide) (fun h1 => ?_) (fun h1 => ?_)
  · rw [if_neg h1] at hf
    refine sm_iconst (v := 0) d_Ld_loadGeneral_51 (by decide) ?_
    exact sm_pick [0] (w_Ld_loadGeneral_52 hZ _ _ _ _ _ _ hI hf) rfl
  · rw [if_pos h1] at hf
    refine sm_iconst (v := 1) d_Ld_loadGeneral_47 (by decide) ?_
    refine sm_goto (tgt := 52) d_Ld_loadGeneral_48 (by decide) ?_
    exact sm_pick [0] (w_Ld_loadGeneral_52 hZ _ _ _ _ _ _ hI hf) rfl

def fn_Ld_loadBody_76 (F : Nat) (Z : zd) : Nat → wd → Nat → Int32 → Int32 → Int32 → Int32 → Option (wd)
 | 0, _, _, _, _, _, _ => none
 | n9 + 1, w, c1, x2, x3, x4, x5 => (if (x3 &&& (1 : Int32)) = 0 then some w else (if x4 < x5 then some w else fn_Ld_loadBody_76 F Z n9 (fn_Cd_setPrecinct w c1 x5 ((nI (rw_u1 Z.1.1 ((x2 + (5 : Int32)) + x5).toInt)) &&& (15 : Int32)) ((nI (rw_u1 Z.1.1 ((x2 + (5 : Int32)) + x5).toInt)) >>> ((4 : Int32) &&& 31))) c1 x2 x3 x4 (x5 + 1)))
set_option maxHeartbeats 1600000 in
set_option maxRecDepth 100000 in
theorem w_Ld_loadBody_76 {G : sm_G} {b : Nat} {M0 : sm_M} {bc bs : Nat} {Z : zd} {R : wd} {F : Nat} (hZ : cz_at G b M0 Z) : ∀ (n9 : Nat), ∀ (M : sm_M) (w : wd) (c1 : Nat) (x2 : Int32) (x3 : Int32) (x4 : Int32) (x5 : Int32), lo_in G cm_L b M0 M w → c1 < 16 → fn_Ld_loadBody_76 F Z n9 w c1 x2 x3 x4 x5 = some R → sm_W G mf_Ld_loadBody 76 [(0, .ref (b + 115)), (1, .ref (b + (6 + 6 * c1))), (2, .int x2), (3, .int x3), (4, .int x4), (5, .int x5)] [] M bc bs (wd_Q G cm_L b M0 none R) := by
  intro n9
  induction n9 with
  | zero => intro M w c1 x2 x3 x4 x5 hI hc1 hf; cases hf
  | succ n9 ih =>
    intro M w c1 x2 x3 x4 x5 hI hc1 hf
    rw [fn_Ld_loadBody_76] at hf
    refine sm_iload_n d_Ld_loadBody_76 rfl (j := 3) rfl ?_
    refine sm_iconst (v := 1) d_Ld_loadBody_77 (by decide) ?_
    refine sm_iand d_Ld_loadBody_78 ?_
    refine sm_if_eq (tgt := 125) d_Ld_loadBody_79 (by decide) (fun h6 => ?_) (fun h6 => ?_)
    · rw [if_pos h6] at hf
      cases hf
      refine sm_return d_Ld_loadBody_125 rfl ?_
      exact ⟨rfl, hI⟩
    · rw [if_neg h6] at hf
      refine sm_iload d_Ld_loadBody_82 (j := 5) rfl ?_
      refine sm_iload d_Ld_loadBody_84 (j := 4) rfl ?_
      refine sm_icmp_gt (tgt := 125) d_Ld_loadBody_86 (by decide) (fun h7 => ?_) (fun h7 => ?_)
      · rw [if_pos h7] at hf
        cases hf
        refine sm_return d_Ld_loadBody_125 rfl ?_
        exact ⟨rfl, hI⟩
      · rw [if_neg h7] at hf
        refine sm_aload_n d_Ld_loadBody_89 rfl (j := 0) rfl ?_
        refine lo_get (v := .ref (b + 101)) d_Ld_loadBody_90 fg_Ld_9 hI cl_115 rfl ?_
        refine sm_iload_n d_Ld_loadBody_93 rfl (j := 2) rfl ?_
        refine sm_iconst (v := 5) d_Ld_loadBody_94 (by decide) ?_
        refine sm_iadd d_Ld_loadBody_95 ?_
        refine sm_iload d_Ld_loadBody_96 (j := 5) rfl ?_
        refine sm_iadd d_Ld_loadBody_98 ?_
        refine cm_callR d_Ld_loadBody_99 cs_Ld_loadBody_59 rfl (cz_c1 hI hZ) (As := [.int ((x2 + (5 : Int32)) + x5)]) rfl rfl (Nat.le_of_ble_eq_true rfl) (cz_u11 hI hZ ((x2 + (5 : Int32)) + x5)) ?_
        refine sm_istore d_Ld_loadBody_102 (by decide) rfl ?_
        refine sm_aload_n d_Ld_loadBody_104 rfl (j := 2) rfl ?_
        refine sm_iload d_Ld_loadBody_105 (j := 6) rfl ?_
        refine sm_iload d_Ld_loadBody_107 (j := 0) rfl ?_
        refine sm_bipush (v := 15) d_Ld_loadBody_109 (by decide) ?_
        refine sm_iand d_Ld_loadBody_111 ?_
        refine sm_iload d_Ld_loadBody_112 (j := 0) rfl ?_
        refine sm_iconst (v := 4) d_Ld_loadBody_114 (by decide) ?_
        refine sm_ishr d_Ld_loadBody_115 ?_
        refine lo_callVm d_Ld_loadBody_116 cs_Ld_loadBody_126 rfl hI (cl_Cd hc1) (As := [.int x5, .int ((nI (rw_u1 Z.1.1 ((x2 + (5 : Int32)) + x5).toInt)) &&& (15 : Int32)), .int ((nI (rw_u1 Z.1.1 ((x2 + (5 : Int32)) + x5).toInt)) >>> ((4 : Int32) &&& 31))]) rfl rfl (Nat.le_of_ble_eq_true rfl) (c_Cd_setPrecinct hI hZ c1 x5 ((nI (rw_u1 Z.1.1 ((x2 + (5 : Int32)) + x5).toInt)) &&& (15 : Int32)) ((nI (rw_u1 Z.1.1 ((x2 + (5 : Int32)) + x5).toInt)) >>> ((4 : Int32) &&& 31)) hc1) (fun M8 hI9 => ?_)
        refine sm_iinc (v := (x5 + 1)) d_Ld_loadBody_119 (j := 6) rfl rfl (by decide) rfl ?_
        refine sm_goto (tgt := 76) d_Ld_loadBody_122 (by decide) ?_
        exact sm_pick [2, 3, 4, 5, 6, 0] (ih _ _ _ _ _ _ _ hI9 hc1 hf) rfl

def fn_Ld_loadBody_66 (F : Nat) (Z : zd) (w : wd) (c1 : Nat) (x2 : Int32) (x3 : Int32) (x4 : Int32) (s0 : Bool) (s1 : Int32) (s2 : Int32) (s3 : Int32) (s4 : Int32) (cs5 : Nat) : Option (wd) := fn_Ld_loadBody_76 F Z F (fn_Cd_resetPrecincts (fn_Cd_setBlocks w cs5 s4 s3 s2 s1 s0) c1) c1 x2 x3 x4 (0 : Int32)
set_option maxHeartbeats 1600000 in
set_option maxRecDepth 100000 in
theorem w_Ld_loadBody_66 {G : sm_G} {b : Nat} {M0 : sm_M} {bc bs : Nat} {Z : zd} {R : wd} {F : Nat} (hZ : cz_at G b M0 Z) : ∀ (M : sm_M) (w : wd) (c1 : Nat) (x2 : Int32) (x3 : Int32) (x4 : Int32) (s0 : Bool) (s1 : Int32) (s2 : Int32) (s3 : Int32) (s4 : Int32) (cs5 : Nat), lo_in G cm_L b M0 M w → c1 < 16 → cs5 < 16 → fn_Ld_loadBody_66 F Z w c1 x2 x3 x4 s0 s1 s2 s3 s4 cs5 = some R → sm_W G mf_Ld_loadBody 66 [(0, .ref (b + 115)), (1, .ref (b + (6 + 6 * c1))), (2, .int x2), (3, .int x3), (4, .int x4)] [.int (bi s0), .int s1, .int s2, .int s3, .int s4, .ref (b + (6 + 6 * cs5))] M bc bs (wd_Q G cm_L b M0 none R) := by
  intro M w c1 x2 x3 x4 s0 s1 s2 s3 s4 cs5 hI hc1 hcs5 hf
  unfold fn_Ld_loadBody_66 at hf
  refine lo_callVm d_Ld_loadBody_66 cs_Ld_loadBody_117 rfl hI (cl_Cd hcs5) (As := [.int s4, .int s3, .int s2, .int s1, .int (bi s0)]) rfl rfl (Nat.le_of_ble_eq_true rfl) (c_Cd_setBlocks hI hZ cs5 s4 s3 s2 s1 s0 hcs5) (fun M2 hI3 => ?_)
  refine sm_aload_n d_Ld_loadBody_69 rfl (j := 1) rfl ?_
  refine lo_callVm d_Ld_loadBody_70 cs_Ld_loadBody_123 rfl hI3 (cl_Cd hc1) (As := []) rfl rfl (Nat.le_of_ble_eq_true rfl) (c_Cd_resetPrecincts hI3 hZ c1 hc1) (fun M4 hI5 => ?_)
  refine sm_iconst (v := 0) d_Ld_loadBody_73 (by decide) ?_
  refine sm_istore d_Ld_loadBody_74 (by decide) rfl ?_
  exact sm_pick [1, 2, 3, 4, 5, 0] (w_Ld_loadBody_76 hZ _ _ _ _ _ _ _ _ hI5 hc1 hf) rfl

def fn_Ld_loadBody (F : Nat) (Z : zd) (w : wd) (c1 : Nat) (x2 : Int32) (x3 : Int32) : Option (wd) := (if (nI (rw_u1 Z.1.1 (x2 + (4 : Int32)).toInt)) = (1 : Int32) then fn_Ld_loadBody_66 F Z w c1 x2 x3 (nI (rw_u1 Z.1.1 x2.toInt)) true (nI (rw_u1 Z.1.1 (x2 + (3 : Int32)).toInt)) ((nI (rw_u1 Z.1.1 (x2 + (2 : Int32)).toInt)) + (2 : Int32)) ((nI (rw_u1 Z.1.1 (x2 + (1 : Int32)).toInt)) + (2 : Int32)) (nI (rw_u1 Z.1.1 x2.toInt)) c1 else fn_Ld_loadBody_66 F Z w c1 x2 x3 (nI (rw_u1 Z.1.1 x2.toInt)) false (nI (rw_u1 Z.1.1 (x2 + (3 : Int32)).toInt)) ((nI (rw_u1 Z.1.1 (x2 + (2 : Int32)).toInt)) + (2 : Int32)) ((nI (rw_u1 Z.1.1 (x2 + (1 : Int32)).toInt)) + (2 : Int32)) (nI (rw_u1 Z.1.1 x2.toInt)) c1)
set_option maxHeartbeats 1600000 in
set_option maxRecDepth 100000 in
theorem c_Ld_loadBody {G : sm_G} {b : Nat} {M0 M : sm_M} {Z : zd} {w : wd} {F : Nat} (hI : lo_in G cm_L b M0 M w) (hZ : cz_at G b M0 Z) (c1 : Nat) (x2 : Int32) (x3 : Int32) (hc1 : c1 < 16) {R : wd} (hf : fn_Ld_loadBody F Z w c1 x2 x3 = some R) : sm_C G mf_Ld_loadBody [.ref (b + 115), .ref (b + (6 + 6 * c1)), .int x2, .int x3] M 0 0 (wd_Q G cm_L b M none R) := by
  unfold fn_Ld_loadBody at hf
  have hZ := hZ.go hI.2
  have hI := hI.here
  refine sm_ofW rfl (Nat.le_of_ble_eq_true rfl) ?_
  refine sm_aload_n d_Ld_loadBody_0 rfl (j := 0) rfl ?_
  refine lo_get (v := .ref (b + 101)) d_Ld_loadBody_1 fg_Ld_9 hI cl_115 rfl ?_
  refine sm_iload_n d_Ld_loadBody_4 rfl (j := 2) rfl ?_
  refine cm_callR d_Ld_loadBody_5 cs_Ld_loadBody_59 rfl (cz_c1 hI hZ) (As := [.int x2]) rfl rfl (Nat.le_of_ble_eq_true rfl) (cz_u11 hI hZ x2) ?_
  refine sm_istore d_Ld_loadBody_8 (by decide) rfl ?_
  refine sm_aload_n d_Ld_loadBody_10 rfl (j := 2) rfl ?_
  refine sm_iload d_Ld_loadBody_11 (j := 0) rfl ?_
  refine sm_aload_n d_Ld_loadBody_13 rfl (j := 1) rfl ?_
  refine lo_get (v := .ref (b + 101)) d_Ld_loadBody_14 fg_Ld_9 hI cl_115 rfl ?_
  refine sm_iload_n d_Ld_loadBody_17 rfl (j := 3) rfl ?_
  refine sm_iconst (v := 1) d_Ld_loadBody_18 (by decide) ?_
  refine sm_iadd d_Ld_loadBody_19 ?_
  refine cm_callR d_Ld_loadBody_20 cs_Ld_loadBody_59 rfl (cz_c1 hI hZ) (As := [.int (x2 + (1 : Int32))]) rfl rfl (Nat.le_of_ble_eq_true rfl) (cz_u11 hI hZ (x2 + (1 : Int32))) ?_
  refine sm_iconst (v := 2) d_Ld_loadBody_23 (by decide) ?_
  refine sm_iadd d_Ld_loadBody_24 ?_
  refine sm_aload_n d_Ld_loadBody_25 rfl (j := 1) rfl ?_
  refine lo_get (v := .ref (b + 101)) d_Ld_loadBody_26 fg_Ld_9 hI cl_115 rfl ?_
  refine sm_iload_n d_Ld_loadBody_29 rfl (j := 3) rfl ?_
  refine sm_iconst (v := 2) d_Ld_loadBody_30 (by decide) ?_
  refine sm_iadd d_Ld_loadBody_31 ?_
  refine cm_callR d_Ld_loadBody_32 cs_Ld_loadBody_59 rfl (cz_c1 hI hZ) (As := [.int (x2 + (2 : Int32))]) rfl rfl (Nat.le_of_ble_eq_true rfl) (cz_u11 hI hZ (x2 + (2 : Int32))) ?_
  refine sm_iconst (v := 2) d_Ld_loadBody_35 (by decide) ?_
  refine sm_iadd d_Ld_loadBody_36 ?_
  refine sm_aload_n d_Ld_loadBody_37 rfl (j := 1) rfl ?_
  refine lo_get (v := .ref (b + 101)) d_Ld_loadBody_38 fg_Ld_9 hI cl_115 rfl ?_
  refine sm_iload_n d_Ld_loadBody_41 rfl (j := 3) rfl ?_
  refine sm_iconst (v := 3) d_Ld_loadBody_42 (by decide) ?_
  refine sm_iadd d_Ld_loadBody_43 ?_
  refine cm_callR d_Ld_loadBody_44 cs_Ld_loadBody_59 rfl (cz_c1 hI hZ) (As := [.int (x2 + (3 : Int32))]) rfl rfl (Nat.le_of_ble_eq_true rfl) (cz_u11 hI hZ (x2 + (3 : Int32))) ?_
  refine sm_aload_n d_Ld_loadBody_47 rfl (j := 1) rfl ?_
  refine lo_get (v := .ref (b + 101)) d_Ld_loadBody_48 fg_Ld_9 hI cl_115 rfl ?_
  refine sm_iload_n d_Ld_loadBody_51 rfl (j := 3) rfl ?_
  refine sm_iconst (v := 4) d_Ld_loadBody_52 (by decide) ?_
  refine sm_iadd d_Ld_loadBody_53 ?_
  refine cm_callR d_Ld_loadBody_54 cs_Ld_loadBody_59 rfl (cz_c1 hI hZ) (As := [.int (x2 + (4 : Int32))]) rfl rfl (Nat.le_of_ble_eq_true rfl) (cz_u11 hI hZ (x2 + (4 : Int32))) ?_
  refine sm_iconst (v := 1) d_Ld_loadBody_57 (by decide) ?_
  refine sm_icmp_ne (tgt := 65) d_Ld_loadBody_58 (by decide) (fun h1 => ?_) (fun h1 => ?_)
  · rw [if_neg h1] at hf
    refine sm_iconst (v := 0) d_Ld_loadBody_65 (by decide) ?_
    exact sm_pick [1, 2, 3, 4, 0] (w_Ld_loadBody_66 hZ _ _ _ _ _ _ _ _ _ _ _ _ hI hc1 hc1 hf) rfl
  · rw [if_pos h1] at hf
    refine sm_iconst (v := 1) d_Ld_loadBody_61 (by decide) ?_
    refine sm_goto (tgt := 66) d_Ld_loadBody_62 (by decide) ?_
    exact sm_pick [1, 2, 3, 4, 0] (w_Ld_loadBody_66 hZ _ _ _ _ _ _ _ _ _ _ _ _ hI hc1 hc1 hf) rfl

def fn_Ld_loadCoding (F : Nat) (Z : zd) (w : wd) (c1 : Nat) (x2 : Int32) (x3 : Int32) : Option (wd) := (if x3 = 0 then (if x2 = 0 then some w else ((fn_Ld_loadBody F Z w c1 (x2 + (9 : Int32)) (nI (rw_u1 Z.1.1 (x2 + (4 : Int32)).toInt))).bind fun r3 => some r3)) else ((fn_Ld_loadBody F Z w c1 (x3 + (6 : Int32)) (nI (rw_u1 Z.1.1 (x3 + (5 : Int32)).toInt))).bind fun r7 => some r7))
set_option maxHeartbeats 1600000 in
set_option maxRecDepth 100000 in
theorem c_Ld_loadCoding {G : sm_G} {b : Nat} {M0 M : sm_M} {Z : zd} {w : wd} {F : Nat} (hI : lo_in G cm_L b M0 M w) (hZ : cz_at G b M0 Z) (c1 : Nat) (x2 : Int32) (x3 : Int32) (hc1 : c1 < 16) {R : wd} (hf : fn_Ld_loadCoding F Z w c1 x2 x3 = some R) : sm_C G mf_Ld_loadCoding [.ref (b + 115), .ref (b + (6 + 6 * c1)), .int x2, .int x3] M 0 0 (wd_Q G cm_L b M none R) := by
  unfold fn_Ld_loadCoding at hf
  have hZ := hZ.go hI.2
  have hI := hI.here
  refine sm_ofW rfl (Nat.le_of_ble_eq_true rfl) ?_
  refine sm_iload_n d_Ld_loadCoding_0 rfl (j := 3) rfl ?_
  refine sm_if_eq (tgt := 26) d_Ld_loadCoding_1 (by decide) (fun h1 => ?_) (fun h1 => ?_)
  · rw [if_pos h1] at hf
    refine sm_iload_n d_Ld_loadCoding_26 rfl (j := 2) rfl ?_
    refine sm_if_eq (tgt := 49) d_Ld_loadCoding_27 (by decide) (fun h2 => ?_) (fun h2 => ?_)
    · rw [if_pos h2] at hf
      cases hf
      refine sm_return d_Ld_loadCoding_49 rfl ?_
      exact ⟨rfl, hI⟩
    · rw [if_neg h2] at hf
      refine sm_aload_n d_Ld_loadCoding_30 rfl (j := 0) rfl ?_
      refine sm_aload_n d_Ld_loadCoding_31 rfl (j := 1) rfl ?_
      refine sm_iload_n d_Ld_loadCoding_32 rfl (j := 2) rfl ?_
      refine sm_bipush (v := 9) d_Ld_loadCoding_33 (by decide) ?_
      refine sm_iadd d_Ld_loadCoding_35 ?_
      refine sm_aload_n d_Ld_loadCoding_36 rfl (j := 0) rfl ?_
      refine lo_get (v := .ref (b + 101)) d_Ld_loadCoding_37 fg_Ld_9 hI cl_115 rfl ?_
      refine sm_iload_n d_Ld_loadCoding_40 rfl (j := 2) rfl ?_
      refine sm_iconst (v := 4) d_Ld_loadCoding_41 (by decide) ?_
      refine sm_iadd d_Ld_loadCoding_42 ?_
      refine cm_callR d_Ld_loadCoding_43 cs_Ld_loadCoding_59 rfl (cz_c1 hI hZ) (As := [.int (x2 + (4 : Int32))]) rfl rfl (Nat.le_of_ble_eq_true rfl) (cz_u11 hI hZ (x2 + (4 : Int32))) ?_
      obtain ⟨r3, e4, hf⟩ := lo_bnd hf
      refine lo_callVm d_Ld_loadCoding_46 cs_Ld_loadCoding_114 rfl hI cl_115 (As := [.ref (b + (6 + 6 * c1)), .int (x2 + (9 : Int32)), .int (nI (rw_u1 Z.1.1 (x2 + (4 : Int32)).toInt))]) rfl rfl (Nat.le_of_ble_eq_true rfl) (c_Ld_loadBody hI hZ c1 (x2 + (9 : Int32)) (nI (rw_u1 Z.1.1 (x2 + (4 : Int32)).toInt)) hc1 e4) (fun M5 hI6 => ?_)
      cases hf
      refine sm_return d_Ld_loadCoding_49 rfl ?_
      exact ⟨rfl, hI6⟩
  · rw [if_neg h1] at hf
    refine sm_aload_n d_Ld_loadCoding_4 rfl (j := 0) rfl ?_
    refine sm_aload_n d_Ld_loadCoding_5 rfl (j := 1) rfl ?_
    refine sm_iload_n d_Ld_loadCoding_6 rfl (j := 3) rfl ?_
    refine sm_bipush (v := 6) d_Ld_loadCoding_7 (by decide) ?_
    refine sm_iadd d_Ld_loadCoding_9 ?_
    refine sm_aload_n d_Ld_loadCoding_10 rfl (j := 0) rfl ?_
    refine lo_get (v := .ref (b + 101)) d_Ld_loadCoding_11 fg_Ld_9 hI cl_115 rfl ?_
    refine sm_iload_n d_Ld_loadCoding_14 rfl (j := 3) rfl ?_
    refine sm_iconst (v := 5) d_Ld_loadCoding_15 (by decide) ?_
    refine sm_iadd d_Ld_loadCoding_16 ?_
    refine cm_callR d_Ld_loadCoding_17 cs_Ld_loadCoding_59 rfl (cz_c1 hI hZ) (As := [.int (x3 + (5 : Int32))]) rfl rfl (Nat.le_of_ble_eq_true rfl) (cz_u11 hI hZ (x3 + (5 : Int32))) ?_
    obtain ⟨r7, e8, hf⟩ := lo_bnd hf
    refine lo_callVm d_Ld_loadCoding_20 cs_Ld_loadCoding_114 rfl hI cl_115 (As := [.ref (b + (6 + 6 * c1)), .int (x3 + (6 : Int32)), .int (nI (rw_u1 Z.1.1 (x3 + (5 : Int32)).toInt))]) rfl rfl (Nat.le_of_ble_eq_true rfl) (c_Ld_loadBody hI hZ c1 (x3 + (6 : Int32)) (nI (rw_u1 Z.1.1 (x3 + (5 : Int32)).toInt)) hc1 e8) (fun M9 hI10 => ?_)
    refine sm_goto (tgt := 49) d_Ld_loadCoding_23 (by decide) ?_
    cases hf
    refine sm_return d_Ld_loadCoding_49 rfl ?_
    exact ⟨rfl, hI10⟩

def fn_Ld_loadValues_99 (k50 : wd → Nat → Int32 → Int32 → Int32 → Option (wd)) (F : Nat) (Z : zd) (w : wd) (c1 : Nat) (x2 : Int32) (x5 : Int32) (x6 : Int32) (s0 : Int32) : Option (wd) := k50 (fn_St_setValue w c1 x6 s0) c1 x2 x5 (x6 + 1)
set_option maxHeartbeats 1600000 in
set_option maxRecDepth 100000 in
theorem w_Ld_loadValues_99 {G : sm_G} {b : Nat} {M0 : sm_M} {bc bs : Nat} {Z : zd} {R : wd} {F : Nat} {k50 : wd → Nat → Int32 → Int32 → Int32 → Option (wd)} (hk50 : ∀ (M : sm_M) (w : wd) (c1 : Nat) (x2 : Int32) (x5 : Int32) (x6 : Int32), lo_in G cm_L b M0 M w → c1 < 16 → k50 w c1 x2 x5 x6 = some R → sm_W G mf_Ld_loadValues 50 [(0, .ref (b + 115)), (1, .ref (b + (9 + 6 * c1))), (2, .int x2), (5, .int x5), (6, .int x6)] [] M bc bs (wd_Q G cm_L b M0 none R)) (hZ : cz_at G b M0 Z) : ∀ (M : sm_M) (w : wd) (c1 : Nat) (x2 : Int32) (x5 : Int32) (x6 : Int32) (s0 : Int32), lo_in G cm_L b M0 M w → c1 < 16 → fn_Ld_loadValues_99 k50 F Z w c1 x2 x5 x6 s0 = some R → sm_W G mf_Ld_loadValues 99 [(0, .ref (b + 115)), (1, .ref (b + (9 + 6 * c1))), (2, .int x2), (5, .int x5), (6, .int x6)] [.int s0] M bc bs (wd_Q G cm_L b M0 none R) := by
  intro M w c1 x2 x5 x6 s0 hI hc1 hf
  unfold fn_Ld_loadValues_99 at hf
  refine sm_istore d_Ld_loadValues_99 (by decide) rfl ?_
  refine sm_aload_n d_Ld_loadValues_101 rfl (j := 2) rfl ?_
  refine sm_iload d_Ld_loadValues_102 (j := 5) rfl ?_
  refine sm_iload d_Ld_loadValues_104 (j := 0) rfl ?_
  refine lo_callVm d_Ld_loadValues_106 cs_Ld_loadValues_144 rfl hI (cl_St hc1) (As := [.int x6, .int s0]) rfl rfl (Nat.le_of_ble_eq_true rfl) (c_St_setValue hI hZ c1 x6 s0 hc1) (fun M10 hI11 => ?_)
  refine sm_iinc (v := (x6 + 1)) d_Ld_loadValues_109 (j := 5) rfl rfl (by decide) rfl ?_
  refine sm_goto (tgt := 50) d_Ld_loadValues_112 (by decide) ?_
  exact sm_pick [2, 3, 4, 5, 0] (hk50 _ _ _ _ _ _ hI11 hc1 hf) rfl

def fn_Ld_loadValues_50 (F : Nat) (Z : zd) : Nat → wd → Nat → Int32 → Int32 → Int32 → Option (wd)
 | 0, _, _, _, _, _ => none
 | n9 + 1, w, c1, x2, x5, x6 => (if x5 ≤ x6 then some w else (if (w (9 + 6 * c1) 0) = 0 then fn_Ld_loadValues_99 (fn_Ld_loadValues_50 F Z n9) F Z w c1 x2 x5 x6 ((nI (rw_u1 Z.1.1 ((x2 + (1 : Int32)) + x6).toInt)) * (256 : Int32)) else fn_Ld_loadValues_99 (fn_Ld_loadValues_50 F Z n9) F Z w c1 x2 x5 x6 (nI (rw_u2 Z.1.1 ((x2 + (1 : Int32)) + ((2 : Int32) * x6)).toInt))))
set_option maxHeartbeats 1600000 in
set_option maxRecDepth 100000 in
theorem w_Ld_loadValues_50 {G : sm_G} {b : Nat} {M0 : sm_M} {bc bs : Nat} {Z : zd} {R : wd} {F : Nat} (hZ : cz_at G b M0 Z) : ∀ (n9 : Nat), ∀ (M : sm_M) (w : wd) (c1 : Nat) (x2 : Int32) (x5 : Int32) (x6 : Int32), lo_in G cm_L b M0 M w → c1 < 16 → fn_Ld_loadValues_50 F Z n9 w c1 x2 x5 x6 = some R → sm_W G mf_Ld_loadValues 50 [(0, .ref (b + 115)), (1, .ref (b + (9 + 6 * c1))), (2, .int x2), (5, .int x5), (6, .int x6)] [] M bc bs (wd_Q G cm_L b M0 none R) := by
  intro n9
  induction n9 with
  | zero => intro M w c1 x2 x5 x6 hI hc1 hf; cases hf
  | succ n9 ih =>
    intro M w c1 x2 x5 x6 hI hc1 hf
    rw [fn_Ld_loadValues_50] at hf
    refine sm_iload d_Ld_loadValues_50 (j := 4) rfl ?_
    refine sm_iload d_Ld_loadValues_52 (j := 3) rfl ?_
    refine sm_icmp_ge (tgt := 115) d_Ld_loadValues_54 (by decide) (fun h8 => ?_) (fun h8 => ?_)
    · rw [if_pos h8] at hf
      cases hf
      refine sm_return d_Ld_loadValues_115 rfl ?_
      exact ⟨rfl, hI⟩
    · rw [if_neg h8] at hf
      refine sm_aload_n d_Ld_loadValues_57 rfl (j := 1) rfl ?_
      refine lo_get (v := .int (w (9 + 6 * c1) 0)) d_Ld_loadValues_58 fg_Ld_133 hI (cl_St hc1) rfl ?_
      refine sm_if_ne (tgt := 84) d_Ld_loadValues_61 (by decide) (fun h9 => ?_) (fun h9 => ?_)
      · rw [if_neg h9] at hf
        refine sm_aload_n d_Ld_loadValues_84 rfl (j := 0) rfl ?_
        refine lo_get (v := .ref (b + 101)) d_Ld_loadValues_85 fg_Ld_9 hI cl_115 rfl ?_
        refine sm_iload_n d_Ld_loadValues_88 rfl (j := 2) rfl ?_
        refine sm_iconst (v := 1) d_Ld_loadValues_89 (by decide) ?_
        refine sm_iadd d_Ld_loadValues_90 ?_
        refine sm_iconst (v := 2) d_Ld_loadValues_91 (by decide) ?_
        refine sm_iload d_Ld_loadValues_92 (j := 4) rfl ?_
        refine sm_imul d_Ld_loadValues_94 ?_
        refine sm_iadd d_Ld_loadValues_95 ?_
        refine cm_callR d_Ld_loadValues_96 cs_Ld_loadValues_54 rfl (cz_c1 hI hZ) (As := [.int ((x2 + (1 : Int32)) + ((2 : Int32) * x6))]) rfl rfl (Nat.le_of_ble_eq_true rfl) (cz_u21 hI hZ ((x2 + (1 : Int32)) + ((2 : Int32) * x6))) ?_
        exact sm_pick [0, 1, 2, 3, 4] (w_Ld_loadValues_99 ih hZ _ _ _ _ _ _ _ hI hc1 hf) rfl
      · rw [if_pos h9] at hf
        refine sm_aload_n d_Ld_loadValues_64 rfl (j := 0) rfl ?_
        refine lo_get (v := .ref (b + 101)) d_Ld_loadValues_65 fg_Ld_9 hI cl_115 rfl ?_
        refine sm_iload_n d_Ld_loadValues_68 rfl (j := 2) rfl ?_
        refine sm_iconst (v := 1) d_Ld_loadValues_69 (by decide) ?_
        refine sm_iadd d_Ld_loadValues_70 ?_
        refine sm_iload d_Ld_loadValues_71 (j := 4) rfl ?_
        refine sm_iadd d_Ld_loadValues_73 ?_
        refine cm_callR d_Ld_loadValues_74 cs_Ld_loadValues_59 rfl (cz_c1 hI hZ) (As := [.int ((x2 + (1 : Int32)) + x6)]) rfl rfl (Nat.le_of_ble_eq_true rfl) (cz_u11 hI hZ ((x2 + (1 : Int32)) + x6)) ?_
        refine sm_sipush (v := 256) d_Ld_loadValues_77 (by decide) ?_
        refine sm_imul d_Ld_loadValues_80 ?_
        refine sm_goto (tgt := 99) d_Ld_loadValues_81 (by decide) ?_
        exact sm_pick [0, 1, 2, 3, 4] (w_Ld_loadValues_99 ih hZ _ _ _ _ _ _ _ hI hc1 hf) rfl

def fn_Ld_loadValues_45 (F : Nat) (Z : zd) (w : wd) (c1 : Nat) (x2 : Int32) (s0 : Int32) : Option (wd) := fn_Ld_loadValues_50 F Z F w c1 x2 s0 (0 : Int32)
set_option maxHeartbeats 1600000 in
set_option maxRecDepth 100000 in
theorem w_Ld_loadValues_45 {G : sm_G} {b : Nat} {M0 : sm_M} {bc bs : Nat} {Z : zd} {R : wd} {F : Nat} (hZ : cz_at G b M0 Z) : ∀ (M : sm_M) (w : wd) (c1 : Nat) (x2 : Int32) (s0 : Int32), lo_in G cm_L b M0 M w → c1 < 16 → fn_Ld_loadValues_45 F Z w c1 x2 s0 = some R → sm_W G mf_Ld_loadValues 45 [(0, .ref (b + 115)), (1, .ref (b + (9 + 6 * c1))), (2, .int x2)] [.int s0] M bc bs (wd_Q G cm_L b M0 none R) := by
  intro M w c1 x2 s0 hI hc1 hf
  unfold fn_Ld_loadValues_45 at hf
  refine sm_istore d_Ld_loadValues_45 (by decide) rfl ?_
  refine sm_iconst (v := 0) d_Ld_loadValues_47 (by decide) ?_
  refine sm_istore d_Ld_loadValues_48 (by decide) rfl ?_
  exact sm_pick [2, 3, 4, 1, 0] (w_Ld_loadValues_50 hZ _ _ _ _ _ _ _ hI hc1 hf) rfl

def fn_Ld_loadValues (F : Nat) (Z : zd) (w : wd) (c1 : Nat) (x2 : Int32) (x3 : Int32) : Option (wd) := (if ((fn_St_resetValues (up2 (up2 w (9 + 6 * c1) 0 ((nI (rw_u1 Z.1.1 x2.toInt)) &&& (31 : Int32))) (9 + 6 * c1) 1 ((nI (rw_u1 Z.1.1 x2.toInt)) >>> ((5 : Int32) &&& 31))) c1) (9 + 6 * c1) 0) = 0 then fn_Ld_loadValues_45 F Z (fn_St_resetValues (up2 (up2 w (9 + 6 * c1) 0 ((nI (rw_u1 Z.1.1 x2.toInt)) &&& (31 : Int32))) (9 + 6 * c1) 1 ((nI (rw_u1 Z.1.1 x2.toInt)) >>> ((5 : Int32) &&& 31))) c1) c1 x2 x3 else fn_Ld_loadValues_45 F Z (fn_St_resetValues (up2 (up2 w (9 + 6 * c1) 0 ((nI (rw_u1 Z.1.1 x2.toInt)) &&& (31 : Int32))) (9 + 6 * c1) 1 ((nI (rw_u1 Z.1.1 x2.toInt)) >>> ((5 : Int32) &&& 31))) c1) c1 x2 (x3 / (2 : Int32)))
set_option maxHeartbeats 1600000 in
set_option maxRecDepth 100000 in
theorem c_Ld_loadValues {G : sm_G} {b : Nat} {M0 M : sm_M} {Z : zd} {w : wd} {F : Nat} (hI : lo_in G cm_L b M0 M w) (hZ : cz_at G b M0 Z) (c1 : Nat) (x2 : Int32) (x3 : Int32) (hc1 : c1 < 16) {R : wd} (hf : fn_Ld_loadValues F Z w c1 x2 x3 = some R) : sm_C G mf_Ld_loadValues [.ref (b + 115), .ref (b + (9 + 6 * c1)), .int x2, .int x3] M 0 0 (wd_Q G cm_L b M none R) := by
  unfold fn_Ld_loadValues at hf
  have hZ := hZ.go hI.2
  have hI := hI.here
  refine sm_ofW rfl (Nat.le_of_ble_eq_true rfl) ?_
  refine sm_aload_n d_Ld_loadValues_0 rfl (j := 0) rfl ?_
  refine lo_get (v := .ref (b + 101)) d_Ld_loadValues_1 fg_Ld_9 hI cl_115 rfl ?_
  refine sm_iload_n d_Ld_loadValues_4 rfl (j := 2) rfl ?_
  refine cm_callR d_Ld_loadValues_5 cs_Ld_loadValues_59 rfl (cz_c1 hI hZ) (As := [.int x2]) rfl rfl (Nat.le_of_ble_eq_true rfl) (cz_u11 hI hZ x2) ?_
  refine sm_istore d_Ld_loadValues_8 (by decide) rfl ?_
  refine sm_aload_n d_Ld_loadValues_10 rfl (j := 2) rfl ?_
  refine sm_iload d_Ld_loadValues_11 (j := 0) rfl ?_
  refine sm_bipush (v := 31) d_Ld_loadValues_13 (by decide) ?_
  refine sm_iand d_Ld_loadValues_15 ?_
  refine lo_put d_Ld_loadValues_16 fp_Ld_133 (by decide) hI (cl_St hc1) rfl (by rfl) (by rfl) (fun M1 hI2 => ?_)
  refine sm_aload_n d_Ld_loadValues_19 rfl (j := 2) rfl ?_
  refine sm_iload d_Ld_loadValues_20 (j := 0) rfl ?_
  refine sm_iconst (v := 5) d_Ld_loadValues_22 (by decide) ?_
  refine sm_ishr d_Ld_loadValues_23 ?_
  refine lo_put d_Ld_loadValues_24 fp_Ld_138 (by decide) hI2 (cl_St hc1) rfl (by rfl) (by rfl) (fun M3 hI4 => ?_)
  refine sm_aload_n d_Ld_loadValues_27 rfl (j := 2) rfl ?_
  refine lo_callVm d_Ld_loadValues_28 cs_Ld_loadValues_141 rfl hI4 (cl_St hc1) (As := []) rfl rfl (Nat.le_of_ble_eq_true rfl) (c_St_resetValues hI4 hZ c1 hc1) (fun M5 hI6 => ?_)
  refine sm_aload_n d_Ld_loadValues_31 rfl (j := 2) rfl ?_
  refine lo_get (v := .int ((fn_St_resetValues (up2 (up2 w (9 + 6 * c1) 0 ((nI (rw_u1 Z.1.1 x2.toInt)) &&& (31 : Int32))) (9 + 6 * c1) 1 ((nI (rw_u1 Z.1.1 x2.toInt)) >>> ((5 : Int32) &&& 31))) c1) (9 + 6 * c1) 0)) d_Ld_loadValues_32 fg_Ld_133 hI6 (cl_St hc1) rfl ?_
  refine sm_if_ne (tgt := 42) d_Ld_loadValues_35 (by decide) (fun h7 => ?_) (fun h7 => ?_)
  · rw [if_neg h7] at hf
    refine sm_iload_n d_Ld_loadValues_42 rfl (j := 4) rfl ?_
    refine sm_iconst (v := 2) d_Ld_loadValues_43 (by decide) ?_
    refine sm_idiv d_Ld_loadValues_44 (by decide) ?_
    exact sm_pick [1, 2, 3] (w_Ld_loadValues_45 hZ _ _ _ _ _ hI6 hc1 hf) rfl
  · rw [if_pos h7] at hf
    refine sm_iload_n d_Ld_loadValues_38 rfl (j := 4) rfl ?_
    refine sm_goto (tgt := 45) d_Ld_loadValues_39 (by decide) ?_
    exact sm_pick [1, 2, 3] (w_Ld_loadValues_45 hZ _ _ _ _ _ hI6 hc1 hf) rfl

def fn_Ld_loadSteps (F : Nat) (Z : zd) (w : wd) (c1 : Nat) (x2 : Int32) (x3 : Int32) : Option (wd) := (if x3 = 0 then (if x2 = 0 then some w else ((fn_Ld_loadValues F Z w c1 (x2 + (4 : Int32)) ((nI (rw_u2 Z.1.1 (x2 + (2 : Int32)).toInt)) - (3 : Int32))).bind fun r3 => some r3)) else ((fn_Ld_loadValues F Z w c1 (x3 + (5 : Int32)) ((nI (rw_u2 Z.1.1 (x3 + (2 : Int32)).toInt)) - (4 : Int32))).bind fun r7 => some r7))
set_option maxHeartbeats 1600000 in
set_option maxRecDepth 100000 in
theorem c_Ld_loadSteps {G : sm_G} {b : Nat} {M0 M : sm_M} {Z : zd} {w : wd} {F : Nat} (hI : lo_in G cm_L b M0 M w) (hZ : cz_at G b M0 Z) (c1 : Nat) (x2 : Int32) (x3 : Int32) (hc1 : c1 < 16) {R : wd} (hf : fn_Ld_loadSteps F Z w c1 x2 x3 = some R) : sm_C G mf_Ld_loadSteps [.ref (b + 115), .ref (b + (9 + 6 * c1)), .int x2, .int x3] M 0 0 (wd_Q G cm_L b M none R) := by
  unfold fn_Ld_loadSteps at hf
  have hZ := hZ.go hI.2
  have hI := hI.here
  refine sm_ofW rfl (Nat.le_of_ble_eq_true rfl) ?_
  refine sm_iload_n d_Ld_loadSteps_0 rfl (j := 3) rfl ?_
  refine sm_if_eq (tgt := 27) d_Ld_loadSteps_1 (by decide) (fun h1 => ?_) (fun h1 => ?_)
  · rw [if_pos h1] at hf
    refine sm_iload_n d_Ld_loadSteps_27 rfl (j := 2) rfl ?_
    refine sm_if_eq (tgt := 51) d_Ld_loadSteps_28 (by decide) (fun h2 => ?_) (fun h2 => ?_)
    · rw [if_pos h2] at hf
      cases hf
      refine sm_return d_Ld_loadSteps_51 rfl ?_
      exact ⟨rfl, hI⟩
    · rw [if_neg h2] at hf
      refine sm_aload_n d_Ld_loadSteps_31 rfl (j := 0) rfl ?_
      refine sm_aload_n d_Ld_loadSteps_32 rfl (j := 1) rfl ?_
      refine sm_iload_n d_Ld_loadSteps_33 rfl (j := 2) rfl ?_
      refine sm_iconst (v := 4) d_Ld_loadSteps_34 (by decide) ?_
      refine sm_iadd d_Ld_loadSteps_35 ?_
      refine sm_aload_n d_Ld_loadSteps_36 rfl (j := 0) rfl ?_
      refine lo_get (v := .ref (b + 101)) d_Ld_loadSteps_37 fg_Ld_9 hI cl_115 rfl ?_
      refine sm_iload_n d_Ld_loadSteps_40 rfl (j := 2) rfl ?_
      refine sm_iconst (v := 2) d_Ld_loadSteps_41 (by decide) ?_
      refine sm_iadd d_Ld_loadSteps_42 ?_
      refine cm_callR d_Ld_loadSteps_43 cs_Ld_loadSteps_54 rfl (cz_c1 hI hZ) (As := [.int (x2 + (2 : Int32))]) rfl rfl (Nat.le_of_ble_eq_true rfl) (cz_u21 hI hZ (x2 + (2 : Int32))) ?_
      refine sm_iconst (v := 3) d_Ld_loadSteps_46 (by decide) ?_
      refine sm_isub d_Ld_loadSteps_47 ?_
      obtain ⟨r3, e4, hf⟩ := lo_bnd hf
      refine lo_callVm d_Ld_loadSteps_48 cs_Ld_loadSteps_130 rfl hI cl_115 (As := [.ref (b + (9 + 6 * c1)), .int (x2 + (4 : Int32)), .int ((nI (rw_u2 Z.1.1 (x2 + (2 : Int32)).toInt)) - (3 : Int32))]) rfl rfl (Nat.le_of_ble_eq_true rfl) (c_Ld_loadValues hI hZ c1 (x2 + (4 : Int32)) ((nI (rw_u2 Z.1.1 (x2 + (2 : Int32)).toInt)) - (3 : Int32)) hc1 e4) (fun M5 hI6 => ?_)
      cases hf
      refine sm_return d_Ld_loadSteps_51 rfl ?_
      exact ⟨rfl, hI6⟩
  · rw [if_neg h1] at hf
    refine sm_aload_n d_Ld_loadSteps_4 rfl (j := 0) rfl ?_
    refine sm_aload_n d_Ld_loadSteps_5 rfl (j := 1) rfl ?_
    refine sm_iload_n d_Ld_loadSteps_6 rfl (j := 3) rfl ?_
    refine sm_iconst (v := 5) d_Ld_loadSteps_7 (by decide) ?_
    refine sm_iadd d_Ld_loadSteps_8 ?_
    refine sm_aload_n d_Ld_loadSteps_9 rfl (j := 0) rfl ?_
    refine lo_get (v := .ref (b + 101)) d_Ld_loadSteps_10 fg_Ld_9 hI cl_115 rfl ?_
    refine sm_iload_n d_Ld_loadSteps_13 rfl (j := 3) rfl ?_
    refine sm_iconst (v := 2) d_Ld_loadSteps_14 (by decide) ?_
    refine sm_iadd d_Ld_loadSteps_15 ?_
    refine cm_callR d_Ld_loadSteps_16 cs_Ld_loadSteps_54 rfl (cz_c1 hI hZ) (As := [.int (x3 + (2 : Int32))]) rfl rfl (Nat.le_of_ble_eq_true rfl) (cz_u21 hI hZ (x3 + (2 : Int32))) ?_
    refine sm_iconst (v := 4) d_Ld_loadSteps_19 (by decide) ?_
    refine sm_isub d_Ld_loadSteps_20 ?_
    obtain ⟨r7, e8, hf⟩ := lo_bnd hf
    refine lo_callVm d_Ld_loadSteps_21 cs_Ld_loadSteps_130 rfl hI cl_115 (As := [.ref (b + (9 + 6 * c1)), .int (x3 + (5 : Int32)), .int ((nI (rw_u2 Z.1.1 (x3 + (2 : Int32)).toInt)) - (4 : Int32))]) rfl rfl (Nat.le_of_ble_eq_true rfl) (c_Ld_loadValues hI hZ c1 (x3 + (5 : Int32)) ((nI (rw_u2 Z.1.1 (x3 + (2 : Int32)).toInt)) - (4 : Int32)) hc1 e8) (fun M9 hI10 => ?_)
    refine sm_goto (tgt := 51) d_Ld_loadSteps_24 (by decide) ?_
    cases hf
    refine sm_return d_Ld_loadSteps_51 rfl ?_
    exact ⟨rfl, hI10⟩

def fn_Ld_loadShift (Z : zd) (w : wd) (c1 : Nat) (x2 : Int32) : wd := (if x2 = 0 then w else (up2 w (5 + 6 * c1) 4 (nI (rw_u1 Z.1.1 (x2 + (6 : Int32)).toInt))))
set_option maxHeartbeats 1600000 in
set_option maxRecDepth 100000 in
theorem c_Ld_loadShift {G : sm_G} {b : Nat} {M0 M : sm_M} {Z : zd} {w : wd}  (hI : lo_in G cm_L b M0 M w) (hZ : cz_at G b M0 Z) (c1 : Nat) (x2 : Int32) (hc1 : c1 < 16) : sm_C G mf_Ld_loadShift [.ref (b + 115), .ref (b + (5 + 6 * c1)), .int x2] M 0 0 (wd_Q G cm_L b M none (fn_Ld_loadShift Z w c1 x2)) := by
  obtain ⟨R, hf⟩ : ∃ R, fn_Ld_loadShift Z w c1 x2 = R := ⟨_, rfl⟩
  rw [hf]
  unfold fn_Ld_loadShift at hf
  have hZ := hZ.go hI.2
  have hI := hI.here
  refine sm_ofW rfl (Nat.le_of_ble_eq_true rfl) ?_
  refine sm_iload_n d_Ld_loadShift_0 rfl (j := 2) rfl ?_
  refine sm_if_eq (tgt := 19) d_Ld_loadShift_1 (by decide) (fun h1 => ?_) (fun h1 => ?_)
  · rw [if_pos h1] at hf
    subst hf
    refine sm_return d_Ld_loadShift_19 rfl ?_
    exact ⟨rfl, hI⟩
  · rw [if_neg h1] at hf
    refine sm_aload_n d_Ld_loadShift_4 rfl (j := 1) rfl ?_
    refine sm_aload_n d_Ld_loadShift_5 rfl (j := 0) rfl ?_
    refine lo_get (v := .ref (b + 101)) d_Ld_loadShift_6 fg_Ld_9 hI cl_115 rfl ?_
    refine sm_iload_n d_Ld_loadShift_9 rfl (j := 2) rfl ?_
    refine sm_bipush (v := 6) d_Ld_loadShift_10 (by decide) ?_
    refine sm_iadd d_Ld_loadShift_12 ?_
    refine cm_callR d_Ld_loadShift_13 cs_Ld_loadShift_59 rfl (cz_c1 hI hZ) (As := [.int (x2 + (6 : Int32))]) rfl rfl (Nat.le_of_ble_eq_true rfl) (cz_u11 hI hZ (x2 + (6 : Int32))) ?_
    refine lo_put d_Ld_loadShift_16 fp_Ld_148 (by decide) hI (cl_Cp hc1) rfl (by rfl) (by rfl) (fun M2 hI3 => ?_)
    subst hf
    refine sm_return d_Ld_loadShift_19 rfl ?_
    exact ⟨rfl, hI3⟩

