/-! leaf, on; written by wip/tools/cls.py -/
def fn_Ps_forget_18 (F : Nat) : Nat → wd → Int32 → Int32 → Option (wd)
 | 0, _, _, _ => none
 | n9 + 1, w, x2, x3 => (if (x2 + (51 : Int32)) ≤ x3 then some w else (if (3315 : Int32) ≤ x3 then some w else (if 0 ≤ x3.toInt ∧ x3.toInt < 3315 then fn_Ps_forget_18 F n9 (up2 w 109 x3.toInt.toNat (0 : Int32)) x2 (x3 + 1) else none)))
set_option maxHeartbeats 1600000 in
set_option maxRecDepth 100000 in
theorem w_Ps_forget_18 {G : sm_G} {b : Nat} {M0 : sm_M} {bc bs : Nat} {Z : zd} {R : wd} {F : Nat} (hZ : cz_at G b M0 Z) : ∀ (n9 : Nat), ∀ (M : sm_M) (w : wd) (x2 : Int32) (x3 : Int32), lo_in G cm_L b M0 M w → fn_Ps_forget_18 F n9 w x2 x3 = some R → sm_W G mf_Ps_forget 18 [(0, .ref (b + 108)), (2, .int x2), (3, .int x3)] [] M bc bs (wd_Q G cm_L b M0 none R) := by
  intro n9
  induction n9 with
  | zero => intro M w x2 x3 hI  hf; cases hf
  | succ n9 ih =>
    intro M w x2 x3 hI  hf
    rw [fn_Ps_forget_18] at hf
    refine sm_iload_n d_Ps_forget_18 rfl (j := 2) rfl ?_
    refine sm_iload_n d_Ps_forget_19 rfl (j := 1) rfl ?_
    refine sm_bipush (v := 51) d_Ps_forget_20 (by decide) ?_
    refine sm_iadd d_Ps_forget_22 ?_
    refine sm_icmp_ge (tgt := 48) d_Ps_forget_23 (by decide) (fun h3 => ?_) (fun h3 => ?_)
    · rw [if_pos h3] at hf
      cases hf
      refine sm_return d_Ps_forget_48 rfl ?_
      exact ⟨rfl, hI⟩
    · rw [if_neg h3] at hf
      refine sm_iload_n d_Ps_forget_26 rfl (j := 2) rfl ?_
      refine sm_aload_n d_Ps_forget_27 rfl (j := 0) rfl ?_
      refine lo_get (v := .ref (b + 109)) d_Ps_forget_28 fg_Ps_11 hI cl_108 rfl ?_
      refine lo_aln (v := 3315) d_Ps_forget_31 hI cl_109 (by decide) ?_
      refine sm_icmp_ge (tgt := 48) d_Ps_forget_32 (by decide) (fun h4 => ?_) (fun h4 => ?_)
      · rw [if_pos h4] at hf
        cases hf
        refine sm_return d_Ps_forget_48 rfl ?_
        exact ⟨rfl, hI⟩
      · rw [if_neg h4] at hf
        refine sm_aload_n d_Ps_forget_35 rfl (j := 0) rfl ?_
        refine lo_get (v := .ref (b + 109)) d_Ps_forget_36 fg_Ps_11 hI cl_108 rfl ?_
        refine sm_iload_n d_Ps_forget_39 rfl (j := 2) rfl ?_
        refine sm_iconst (v := 0) d_Ps_forget_40 (by decide) ?_
        obtain ⟨h5, hf⟩ := lo_chk hf
        refine lo_ast (j := x3.toInt.toNat) d_Ps_forget_41 hI cl_109 h5 rfl (fun M6 hI7 => ?_)
        refine sm_iinc (v := (x3 + 1)) d_Ps_forget_42 (j := 2) rfl rfl (by decide) rfl ?_
        refine sm_goto (tgt := 18) d_Ps_forget_45 (by decide) ?_
        exact sm_pick [1, 2, 0] (ih _ _ _ _ hI7 hf) rfl

def fn_Ps_forget (F : Nat) (w : wd) (x1 : Int32) : Option (wd) := (if x1 < 0 then some w else (if x1 ≤ (64 : Int32) then fn_Ps_forget_18 F F w (x1 * (51 : Int32)) (x1 * (51 : Int32)) else some w))
set_option maxHeartbeats 1600000 in
set_option maxRecDepth 100000 in
theorem c_Ps_forget {G : sm_G} {b : Nat} {M0 M : sm_M} {Z : zd} {w : wd} {F : Nat} (hI : lo_in G cm_L b M0 M w) (hZ : cz_at G b M0 Z) (x1 : Int32)  {R : wd} (hf : fn_Ps_forget F w x1 = some R) : sm_C G mf_Ps_forget [.ref (b + 108), .int x1] M 0 0 (wd_Q G cm_L b M none R) := by
  unfold fn_Ps_forget at hf
  have hZ := hZ.go hI.2
  have hI := hI.here
  refine sm_ofW rfl (Nat.le_of_ble_eq_true rfl) ?_
  refine sm_iload_n d_Ps_forget_0 rfl (j := 1) rfl ?_
  refine sm_if_lt (tgt := 10) d_Ps_forget_1 (by decide) (fun h1 => ?_) (fun h1 => ?_)
  · rw [if_pos h1] at hf
    cases hf
    refine sm_return d_Ps_forget_10 rfl ?_
    exact ⟨rfl, hI⟩
  · rw [if_neg h1] at hf
    refine sm_iload_n d_Ps_forget_4 rfl (j := 1) rfl ?_
    refine sm_bipush (v := 64) d_Ps_forget_5 (by decide) ?_
    refine sm_icmp_le (tgt := 11) d_Ps_forget_7 (by decide) (fun h2 => ?_) (fun h2 => ?_)
    · rw [if_pos h2] at hf
      refine sm_iload_n d_Ps_forget_11 rfl (j := 1) rfl ?_
      refine sm_bipush (v := 51) d_Ps_forget_12 (by decide) ?_
      refine sm_imul d_Ps_forget_14 ?_
      refine sm_istore_n d_Ps_forget_15 rfl (by decide) rfl ?_
      refine sm_iload_n d_Ps_forget_16 rfl (j := 0) rfl ?_
      refine sm_istore_n d_Ps_forget_17 rfl (by decide) rfl ?_
      exact sm_pick [2, 1, 0] (w_Ps_forget_18 hZ _ _ _ _ _ hI hf) rfl
    · rw [if_neg h2] at hf
      cases hf
      refine sm_return d_Ps_forget_10 rfl ?_
      exact ⟨rfl, hI⟩

def fn_Ps_indexOf (x0 : Int32) (x1 : Int32) (x2 : Int32) : Int32 := (if x0 < 0 then (-1 : Int32) else (if (64 : Int32) < x0 then (-1 : Int32) else (if x2 < 0 then (-1 : Int32) else (if x2 < (16 : Int32) then (if x1 = 82 then (x0 * (51 : Int32)) else (if x1 = 83 then (((x0 * (51 : Int32)) + (3 : Int32)) + x2) else (if x1 = 84 ∨ x1 = 85 ∨ x1 = 86 ∨ x1 = 87 ∨ x1 = 88 ∨ x1 = 89 ∨ x1 = 90 ∨ x1 = 91 then (-1 : Int32) else (if x1 = 92 then ((x0 * (51 : Int32)) + (1 : Int32)) else (if x1 = 93 then ((((x0 * (51 : Int32)) + (3 : Int32)) + (16 : Int32)) + x2) else (if x1 = 94 then ((((x0 * (51 : Int32)) + (3 : Int32)) + (32 : Int32)) + x2) else (if x1 = 95 then ((x0 * (51 : Int32)) + (2 : Int32)) else (-1 : Int32)))))))) else (-1 : Int32)))))
set_option maxHeartbeats 1600000 in
set_option maxRecDepth 100000 in
theorem c_Ps_indexOf {G : sm_G} {M : sm_M}   (x0 : Int32) (x1 : Int32) (x2 : Int32)  : sm_C G mf_Ps_indexOf [.int x0, .int x1, .int x2] M 0 0 (sm_pu M (.int (fn_Ps_indexOf x0 x1 x2))) := by
  obtain ⟨R, hf⟩ : ∃ R, fn_Ps_indexOf x0 x1 x2 = R := ⟨_, rfl⟩
  rw [hf]
  unfold fn_Ps_indexOf at hf
  refine sm_ofW rfl (Nat.le_of_ble_eq_true rfl) ?_
  refine sm_iload_n d_Ps_indexOf_0 rfl (j := 0) rfl ?_
  refine sm_if_lt (tgt := 20) d_Ps_indexOf_1 (by decide) (fun h1 => ?_) (fun h1 => ?_)
  · rw [if_pos h1] at hf
    refine sm_iconst (v := -1) d_Ps_indexOf_20 (by decide) ?_
    subst hf
    refine sm_ireturn d_Ps_indexOf_21 rfl (by rfl) ?_
    exact ⟨rfl, rfl⟩
  · rw [if_neg h1] at hf
    refine sm_iload_n d_Ps_indexOf_4 rfl (j := 0) rfl ?_
    refine sm_bipush (v := 64) d_Ps_indexOf_5 (by decide) ?_
    refine sm_icmp_gt (tgt := 20) d_Ps_indexOf_7 (by decide) (fun h2 => ?_) (fun h2 => ?_)
    · rw [if_pos h2] at hf
      refine sm_iconst (v := -1) d_Ps_indexOf_20 (by decide) ?_
      subst hf
      refine sm_ireturn d_Ps_indexOf_21 rfl (by rfl) ?_
      exact ⟨rfl, rfl⟩
    · rw [if_neg h2] at hf
      refine sm_iload_n d_Ps_indexOf_10 rfl (j := 2) rfl ?_
      refine sm_if_lt (tgt := 20) d_Ps_indexOf_11 (by decide) (fun h3 => ?_) (fun h3 => ?_)
      · rw [if_pos h3] at hf
        refine sm_iconst (v := -1) d_Ps_indexOf_20 (by decide) ?_
        subst hf
        refine sm_ireturn d_Ps_indexOf_21 rfl (by rfl) ?_
        exact ⟨rfl, rfl⟩
      · rw [if_neg h3] at hf
        refine sm_iload_n d_Ps_indexOf_14 rfl (j := 2) rfl ?_
        refine sm_bipush (v := 16) d_Ps_indexOf_15 (by decide) ?_
        refine sm_icmp_lt (tgt := 22) d_Ps_indexOf_17 (by decide) (fun h4 => ?_) (fun h4 => ?_)
        · rw [if_pos h4] at hf
          refine sm_iload_n d_Ps_indexOf_22 rfl (j := 0) rfl ?_
          refine sm_bipush (v := 51) d_Ps_indexOf_23 (by decide) ?_
          refine sm_imul d_Ps_indexOf_25 ?_
          refine sm_istore_n d_Ps_indexOf_26 rfl (by decide) rfl ?_
          refine sm_iload_n d_Ps_indexOf_27 rfl (j := 2) rfl ?_
          by_cases h5 : x1 = 82
          · rw [if_pos h5] at hf
            refine sm_tableIn (tgt := 100) d_Ps_indexOf_28 (by rw [h5] <;> decide) (by rw [h5] <;> decide) (by rw [h5] <;> rfl) (by decide) ?_
            refine sm_iload_n d_Ps_indexOf_100 rfl (j := 0) rfl ?_
            subst hf
            refine sm_ireturn d_Ps_indexOf_101 rfl (by rfl) ?_
            exact ⟨rfl, rfl⟩
          · rw [if_neg h5] at hf
            by_cases h6 : x1 = 83
            · rw [if_pos h6] at hf
              refine sm_tableIn (tgt := 110) d_Ps_indexOf_28 (by rw [h6] <;> decide) (by rw [h6] <;> decide) (by rw [h6] <;> rfl) (by decide) ?_
              refine sm_iload_n d_Ps_indexOf_110 rfl (j := 0) rfl ?_
              refine sm_iconst (v := 3) d_Ps_indexOf_111 (by decide) ?_
              refine sm_iadd d_Ps_indexOf_112 ?_
              refine sm_iload_n d_Ps_indexOf_113 rfl (j := 3) rfl ?_
              refine sm_iadd d_Ps_indexOf_114 ?_
              subst hf
              refine sm_ireturn d_Ps_indexOf_115 rfl (by rfl) ?_
              exact ⟨rfl, rfl⟩
            · rw [if_neg h6] at hf
              by_cases h7 : x1 = 84 ∨ x1 = 85 ∨ x1 = 86 ∨ x1 = 87 ∨ x1 = 88 ∨ x1 = 89 ∨ x1 = 90 ∨ x1 = 91
              · rw [if_pos h7] at hf
                rcases h7 with h7 | h7 | h7 | h7 | h7 | h7 | h7 | h7
                · refine sm_tableIn (tgt := 134) d_Ps_indexOf_28 (by rw [h7] <;> decide) (by rw [h7] <;> decide) (by rw [h7] <;> rfl) (by decide) ?_
                  refine sm_iconst (v := -1) d_Ps_indexOf_134 (by decide) ?_
                  subst hf
                  refine sm_ireturn d_Ps_indexOf_135 rfl (by rfl) ?_
                  exact ⟨rfl, rfl⟩
                · refine sm_tableIn (tgt := 134) d_Ps_indexOf_28 (by rw [h7] <;> decide) (by rw [h7] <;> decide) (by rw [h7] <;> rfl) (by decide) ?_
                  refine sm_iconst (v := -1) d_Ps_indexOf_134 (by decide) ?_
                  subst hf
                  refine sm_ireturn d_Ps_indexOf_135 rfl (by rfl) ?_
                  exact ⟨rfl, rfl⟩
                · refine sm_tableIn (tgt := 134) d_Ps_indexOf_28 (by rw [h7] <;> decide) (by rw [h7] <;> decide) (by rw [h7] <;> rfl) (by decide) ?_
                  refine sm_iconst (v := -1) d_Ps_indexOf_134 (by decide) ?_
                  subst hf
                  refine sm_ireturn d_Ps_indexOf_135 rfl (by rfl) ?_
                  exact ⟨rfl, rfl⟩
                · refine sm_tableIn (tgt := 134) d_Ps_indexOf_28 (by rw [h7] <;> decide) (by rw [h7] <;> decide) (by rw [h7] <;> rfl) (by decide) ?_
                  refine sm_iconst (v := -1) d_Ps_indexOf_134 (by decide) ?_
                  subst hf
                  refine sm_ireturn d_Ps_indexOf_135 rfl (by rfl) ?_
                  exact ⟨rfl, rfl⟩
                · refine sm_tableIn (tgt := 134) d_Ps_indexOf_28 (by rw [h7] <;> decide) (by rw [h7] <;> decide) (by rw [h7] <;> rfl) (by decide) ?_
                  refine sm_iconst (v := -1) d_Ps_indexOf_134 (by decide) ?_
                  subst hf
                  refine sm_ireturn d_Ps_indexOf_135 rfl (by rfl) ?_
                  exact ⟨rfl, rfl⟩
                · refine sm_tableIn (tgt := 134) d_Ps_indexOf_28 (by rw [h7] <;> decide) (by rw [h7] <;> decide) (by rw [h7] <;> rfl) (by decide) ?_
                  refine sm_iconst (v := -1) d_Ps_indexOf_134 (by decide) ?_
                  subst hf
                  refine sm_ireturn d_Ps_indexOf_135 rfl (by rfl) ?_
                  exact ⟨rfl, rfl⟩
                · refine sm_tableIn (tgt := 134) d_Ps_indexOf_28 (by rw [h7] <;> decide) (by rw [h7] <;> decide) (by rw [h7] <;> rfl) (by decide) ?_
                  refine sm_iconst (v := -1) d_Ps_indexOf_134 (by decide) ?_
                  subst hf
                  refine sm_ireturn d_Ps_indexOf_135 rfl (by rfl) ?_
                  exact ⟨rfl, rfl⟩
                · refine sm_tableIn (tgt := 134) d_Ps_indexOf_28 (by rw [h7] <;> decide) (by rw [h7] <;> decide) (by rw [h7] <;> rfl) (by decide) ?_
                  refine sm_iconst (v := -1) d_Ps_indexOf_134 (by decide) ?_
                  subst hf
                  refine sm_ireturn d_Ps_indexOf_135 rfl (by rfl) ?_
                  exact ⟨rfl, rfl⟩
              · rw [if_neg h7] at hf
                by_cases h8 : x1 = 92
                · rw [if_pos h8] at hf
                  refine sm_tableIn (tgt := 102) d_Ps_indexOf_28 (by rw [h8] <;> decide) (by rw [h8] <;> decide) (by rw [h8] <;> rfl) (by decide) ?_
                  refine sm_iload_n d_Ps_indexOf_102 rfl (j := 0) rfl ?_
                  refine sm_iconst (v := 1) d_Ps_indexOf_103 (by decide) ?_
                  refine sm_iadd d_Ps_indexOf_104 ?_
                  subst hf
                  refine sm_ireturn d_Ps_indexOf_105 rfl (by rfl) ?_
                  exact ⟨rfl, rfl⟩
                · rw [if_neg h8] at hf
                  by_cases h9 : x1 = 93
                  · rw [if_pos h9] at hf
                    refine sm_tableIn (tgt := 116) d_Ps_indexOf_28 (by rw [h9] <;> decide) (by rw [h9] <;> decide) (by rw [h9] <;> rfl) (by decide) ?_
                    refine sm_iload_n d_Ps_indexOf_116 rfl (j := 0) rfl ?_
                    refine sm_iconst (v := 3) d_Ps_indexOf_117 (by decide) ?_
                    refine sm_iadd d_Ps_indexOf_118 ?_
                    refine sm_bipush (v := 16) d_Ps_indexOf_119 (by decide) ?_
                    refine sm_iadd d_Ps_indexOf_121 ?_
                    refine sm_iload_n d_Ps_indexOf_122 rfl (j := 3) rfl ?_
                    refine sm_iadd d_Ps_indexOf_123 ?_
                    subst hf
                    refine sm_ireturn d_Ps_indexOf_124 rfl (by rfl) ?_
                    exact ⟨rfl, rfl⟩
                  · rw [if_neg h9] at hf
                    by_cases h10 : x1 = 94
                    · rw [if_pos h10] at hf
                      refine sm_tableIn (tgt := 125) d_Ps_indexOf_28 (by rw [h10] <;> decide) (by rw [h10] <;> decide) (by rw [h10] <;> rfl) (by decide) ?_
                      refine sm_iload_n d_Ps_indexOf_125 rfl (j := 0) rfl ?_
                      refine sm_iconst (v := 3) d_Ps_indexOf_126 (by decide) ?_
                      refine sm_iadd d_Ps_indexOf_127 ?_
                      refine sm_bipush (v := 32) d_Ps_indexOf_128 (by decide) ?_
                      refine sm_iadd d_Ps_indexOf_130 ?_
                      refine sm_iload_n d_Ps_indexOf_131 rfl (j := 3) rfl ?_
                      refine sm_iadd d_Ps_indexOf_132 ?_
                      subst hf
                      refine sm_ireturn d_Ps_indexOf_133 rfl (by rfl) ?_
                      exact ⟨rfl, rfl⟩
                    · rw [if_neg h10] at hf
                      by_cases h11 : x1 = 95
                      · rw [if_pos h11] at hf
                        refine sm_tableIn (tgt := 106) d_Ps_indexOf_28 (by rw [h11] <;> decide) (by rw [h11] <;> decide) (by rw [h11] <;> rfl) (by decide) ?_
                        refine sm_iload_n d_Ps_indexOf_106 rfl (j := 0) rfl ?_
                        refine sm_iconst (v := 2) d_Ps_indexOf_107 (by decide) ?_
                        refine sm_iadd d_Ps_indexOf_108 ?_
                        subst hf
                        refine sm_ireturn d_Ps_indexOf_109 rfl (by rfl) ?_
                        exact ⟨rfl, rfl⟩
                      · rw [if_neg h11] at hf
                        refine sm_tableOut (tgt := 134) d_Ps_indexOf_28 (by have := (mt sm_eqI.mpr h5); rw [show ((82 : Int32)).toInt = 82 by decide] at this; have := (mt sm_eqI.mpr h6); rw [show ((83 : Int32)).toInt = 83 by decide] at this; have := (mt sm_eqI.mpr (fun e8 => h7 (Or.inl e8))); rw [show ((84 : Int32)).toInt = 84 by decide] at this; have := (mt sm_eqI.mpr (fun e8 => h7 (Or.inr (Or.inl e8)))); rw [show ((85 : Int32)).toInt = 85 by decide] at this; have := (mt sm_eqI.mpr (fun e8 => h7 (Or.inr (Or.inr (Or.inl e8))))); rw [show ((86 : Int32)).toInt = 86 by decide] at this; have := (mt sm_eqI.mpr (fun e8 => h7 (Or.inr (Or.inr (Or.inr (Or.inl e8)))))); rw [show ((87 : Int32)).toInt = 87 by decide] at this; have := (mt sm_eqI.mpr (fun e8 => h7 (Or.inr (Or.inr (Or.inr (Or.inr (Or.inl e8))))))); rw [show ((88 : Int32)).toInt = 88 by decide] at this; have := (mt sm_eqI.mpr (fun e8 => h7 (Or.inr (Or.inr (Or.inr (Or.inr (Or.inr (Or.inl e8)))))))); rw [show ((89 : Int32)).toInt = 89 by decide] at this; have := (mt sm_eqI.mpr (fun e8 => h7 (Or.inr (Or.inr (Or.inr (Or.inr (Or.inr (Or.inr (Or.inl e8))))))))); rw [show ((90 : Int32)).toInt = 90 by decide] at this; have := (mt sm_eqI.mpr (fun e8 => h7 (Or.inr (Or.inr (Or.inr (Or.inr (Or.inr (Or.inr (Or.inr e8))))))))); rw [show ((91 : Int32)).toInt = 91 by decide] at this; have := (mt sm_eqI.mpr h8); rw [show ((92 : Int32)).toInt = 92 by decide] at this; have := (mt sm_eqI.mpr h9); rw [show ((93 : Int32)).toInt = 93 by decide] at this; have := (mt sm_eqI.mpr h10); rw [show ((94 : Int32)).toInt = 94 by decide] at this; have := (mt sm_eqI.mpr h11); rw [show ((95 : Int32)).toInt = 95 by decide] at this; omega) (by decide) ?_
                        refine sm_iconst (v := -1) d_Ps_indexOf_134 (by decide) ?_
                        subst hf
                        refine sm_ireturn d_Ps_indexOf_135 rfl (by rfl) ?_
                        exact ⟨rfl, rfl⟩
        · rw [if_neg h4] at hf
          refine sm_iconst (v := -1) d_Ps_indexOf_20 (by decide) ?_
          subst hf
          refine sm_ireturn d_Ps_indexOf_21 rfl (by rfl) ?_
          exact ⟨rfl, rfl⟩

def fn_Ps_keep (w : wd) (x1 : Int32) (x2 : Int32) (x3 : Int32) (x4 : Int32) : wd := (if (fn_Ps_indexOf x1 x2 x3) < 0 then w else (if (3315 : Int32) ≤ (fn_Ps_indexOf x1 x2 x3) then w else (up2 w 109 ((fn_Ps_indexOf x1 x2 x3).toInt.toNat) x4)))
set_option maxHeartbeats 1600000 in
set_option maxRecDepth 100000 in
theorem c_Ps_keep {G : sm_G} {b : Nat} {M0 M : sm_M} {Z : zd} {w : wd}  (hI : lo_in G cm_L b M0 M w) (hZ : cz_at G b M0 Z) (x1 : Int32) (x2 : Int32) (x3 : Int32) (x4 : Int32)  : sm_C G mf_Ps_keep [.ref (b + 108), .int x1, .int x2, .int x3, .int x4] M 0 0 (wd_Q G cm_L b M none (fn_Ps_keep w x1 x2 x3 x4)) := by
  obtain ⟨R, hf⟩ : ∃ R, fn_Ps_keep w x1 x2 x3 x4 = R := ⟨_, rfl⟩
  rw [hf]
  unfold fn_Ps_keep at hf
  have hZ := hZ.go hI.2
  have hI := hI.here
  refine sm_ofW rfl (Nat.le_of_ble_eq_true rfl) ?_
  refine sm_iload_n d_Ps_keep_0 rfl (j := 1) rfl ?_
  refine sm_iload_n d_Ps_keep_1 rfl (j := 2) rfl ?_
  refine sm_iload_n d_Ps_keep_2 rfl (j := 3) rfl ?_
  refine sm_callSp d_Ps_keep_3 cs_Ps_keep_15 rfl (As := [.int x1, .int x2, .int x3]) rfl rfl (Nat.le_of_ble_eq_true rfl) (c_Ps_indexOf x1 x2 x3) ?_
  refine sm_istore d_Ps_keep_6 (by decide) rfl ?_
  refine sm_iload d_Ps_keep_8 (j := 0) rfl ?_
  refine sm_if_lt (tgt := 32) d_Ps_keep_10 (by decide) (fun h1 => ?_) (fun h1 => ?_)
  · rw [if_pos h1] at hf
    subst hf
    refine sm_return d_Ps_keep_32 rfl ?_
    exact ⟨rfl, hI⟩
  · rw [if_neg h1] at hf
    refine sm_iload d_Ps_keep_13 (j := 0) rfl ?_
    refine sm_aload_n d_Ps_keep_15 rfl (j := 1) rfl ?_
    refine lo_get (v := .ref (b + 109)) d_Ps_keep_16 fg_Ps_11 hI cl_108 rfl ?_
    refine lo_aln (v := 3315) d_Ps_keep_19 hI cl_109 (by decide) ?_
    refine sm_icmp_ge (tgt := 32) d_Ps_keep_20 (by decide) (fun h2 => ?_) (fun h2 => ?_)
    · rw [if_pos h2] at hf
      subst hf
      refine sm_return d_Ps_keep_32 rfl ?_
      exact ⟨rfl, hI⟩
    · rw [if_neg h2] at hf
      refine sm_aload_n d_Ps_keep_23 rfl (j := 1) rfl ?_
      refine lo_get (v := .ref (b + 109)) d_Ps_keep_24 fg_Ps_11 hI cl_108 rfl ?_
      refine sm_iload d_Ps_keep_27 (j := 0) rfl ?_
      refine sm_iload d_Ps_keep_29 (j := 5) rfl ?_
      refine lo_ast (j := (fn_Ps_indexOf x1 x2 x3).toInt.toNat) d_Ps_keep_31 hI cl_109 (lo_ix h1 h2 (by decide)) rfl (fun M3 hI4 => ?_)
      subst hf
      refine sm_return d_Ps_keep_32 rfl ?_
      exact ⟨rfl, hI4⟩

def fn_Ps_startOf (w : wd) (x1 : Int32) (x2 : Int32) (x3 : Int32) : Int32 := (if (fn_Ps_indexOf x1 x2 x3) < 0 then (0 : Int32) else (if (3315 : Int32) ≤ (fn_Ps_indexOf x1 x2 x3) then (0 : Int32) else (w 109 ((fn_Ps_indexOf x1 x2 x3).toInt.toNat))))
set_option maxHeartbeats 1600000 in
set_option maxRecDepth 100000 in
theorem c_Ps_startOf {G : sm_G} {b : Nat} {M0 M : sm_M} {Z : zd} {w : wd}  (hI : lo_in G cm_L b M0 M w) (hZ : cz_at G b M0 Z) (x1 : Int32) (x2 : Int32) (x3 : Int32)  : sm_C G mf_Ps_startOf [.ref (b + 108), .int x1, .int x2, .int x3] M 0 0 (sm_pu M (.int (fn_Ps_startOf w x1 x2 x3))) := by
  obtain ⟨R, hf⟩ : ∃ R, fn_Ps_startOf w x1 x2 x3 = R := ⟨_, rfl⟩
  rw [hf]
  unfold fn_Ps_startOf at hf
  have hZ := hZ.go hI.2
  have hI := hI.here
  refine sm_ofW rfl (Nat.le_of_ble_eq_true rfl) ?_
  refine sm_iload_n d_Ps_startOf_0 rfl (j := 1) rfl ?_
  refine sm_iload_n d_Ps_startOf_1 rfl (j := 2) rfl ?_
  refine sm_iload_n d_Ps_startOf_2 rfl (j := 3) rfl ?_
  refine sm_callSp d_Ps_startOf_3 cs_Ps_startOf_15 rfl (As := [.int x1, .int x2, .int x3]) rfl rfl (Nat.le_of_ble_eq_true rfl) (c_Ps_indexOf x1 x2 x3) ?_
  refine sm_istore d_Ps_startOf_6 (by decide) rfl ?_
  refine sm_iload d_Ps_startOf_8 (j := 0) rfl ?_
  refine sm_if_lt (tgt := 33) d_Ps_startOf_10 (by decide) (fun h1 => ?_) (fun h1 => ?_)
  · rw [if_pos h1] at hf
    refine sm_iconst (v := 0) d_Ps_startOf_33 (by decide) ?_
    subst hf
    refine sm_ireturn d_Ps_startOf_34 rfl (by rfl) ?_
    exact ⟨rfl, rfl⟩
  · rw [if_neg h1] at hf
    refine sm_iload d_Ps_startOf_13 (j := 0) rfl ?_
    refine sm_aload_n d_Ps_startOf_15 rfl (j := 1) rfl ?_
    refine lo_get (v := .ref (b + 109)) d_Ps_startOf_16 fg_Ps_11 hI cl_108 rfl ?_
    refine lo_aln (v := 3315) d_Ps_startOf_19 hI cl_109 (by decide) ?_
    refine sm_icmp_ge (tgt := 33) d_Ps_startOf_20 (by decide) (fun h2 => ?_) (fun h2 => ?_)
    · rw [if_pos h2] at hf
      refine sm_iconst (v := 0) d_Ps_startOf_33 (by decide) ?_
      subst hf
      refine sm_ireturn d_Ps_startOf_34 rfl (by rfl) ?_
      exact ⟨rfl, rfl⟩
    · rw [if_neg h2] at hf
      refine sm_aload_n d_Ps_startOf_23 rfl (j := 1) rfl ?_
      refine lo_get (v := .ref (b + 109)) d_Ps_startOf_24 fg_Ps_11 hI cl_108 rfl ?_
      refine sm_iload d_Ps_startOf_27 (j := 0) rfl ?_
      refine lo_ald (j := (fn_Ps_indexOf x1 x2 x3).toInt.toNat) d_Ps_startOf_29 hI cl_109 (lo_ix h1 h2 (by decide)) rfl ?_
      refine sm_goto (tgt := 34) d_Ps_startOf_30 (by decide) ?_
      subst hf
      refine sm_ireturn d_Ps_startOf_34 rfl (by rfl) ?_
      exact ⟨rfl, rfl⟩

def fn_Pt_forgetAll (w : wd) : wd := (fil2 (fil2 (fil2 (up2 w 110 1 (0 : Int32)) 112 64 (0 : Int32)) 113 64 (0 : Int32)) 114 64 (0 : Int32))
set_option maxHeartbeats 1600000 in
set_option maxRecDepth 100000 in
theorem c_Pt_forgetAll {G : sm_G} {b : Nat} {M0 M : sm_M} {Z : zd} {w : wd}  (hI : lo_in G cm_L b M0 M w) (hZ : cz_at G b M0 Z) : sm_C G mf_Pt_forgetAll [.ref (b + 110)] M 0 0 (wd_Q G cm_L b M none (fn_Pt_forgetAll w)) := by
  obtain ⟨R, hf⟩ : ∃ R, fn_Pt_forgetAll w = R := ⟨_, rfl⟩
  rw [hf]
  unfold fn_Pt_forgetAll at hf
  have hZ := hZ.go hI.2
  have hI := hI.here
  refine sm_ofW rfl (Nat.le_of_ble_eq_true rfl) ?_
  refine sm_aload_n d_Pt_forgetAll_0 rfl (j := 0) rfl ?_
  refine sm_iconst (v := 0) d_Pt_forgetAll_1 (by decide) ?_
  refine lo_put d_Pt_forgetAll_2 fp_Pt_24 (by decide) hI cl_110 rfl (by rfl) (by rfl) (fun M1 hI2 => ?_)
  refine sm_aload_n d_Pt_forgetAll_5 rfl (j := 0) rfl ?_
  refine lo_get (v := .ref (b + 112)) d_Pt_forgetAll_6 fg_Pt_15 hI2 cl_110 rfl ?_
  refine sm_iconst (v := 0) d_Pt_forgetAll_9 (by decide) ?_
  refine lo_callSm d_Pt_forgetAll_10 cs_Pt_forgetAll_28 rfl hI2 (As := [.ref (b + 112), .int (0 : Int32)]) rfl rfl (Nat.le_of_ble_eq_true rfl) (c_Ar_fill hI2 cl_112 (by decide) _) (fun M3 hI4 => ?_)
  refine sm_aload_n d_Pt_forgetAll_13 rfl (j := 0) rfl ?_
  refine lo_get (v := .ref (b + 113)) d_Pt_forgetAll_14 fg_Pt_18 hI4 cl_110 rfl ?_
  refine sm_iconst (v := 0) d_Pt_forgetAll_17 (by decide) ?_
  refine lo_callSm d_Pt_forgetAll_18 cs_Pt_forgetAll_28 rfl hI4 (As := [.ref (b + 113), .int (0 : Int32)]) rfl rfl (Nat.le_of_ble_eq_true rfl) (c_Ar_fill hI4 cl_113 (by decide) _) (fun M5 hI6 => ?_)
  refine sm_aload_n d_Pt_forgetAll_21 rfl (j := 0) rfl ?_
  refine lo_get (v := .ref (b + 114)) d_Pt_forgetAll_22 fg_Pt_21 hI6 cl_110 rfl ?_
  refine sm_iconst (v := 0) d_Pt_forgetAll_25 (by decide) ?_
  refine lo_callSm d_Pt_forgetAll_26 cs_Pt_forgetAll_28 rfl hI6 (As := [.ref (b + 114), .int (0 : Int32)]) rfl rfl (Nat.le_of_ble_eq_true rfl) (c_Ar_fill hI6 cl_114 (by decide) _) (fun M7 hI8 => ?_)
  subst hf
  refine sm_return d_Pt_forgetAll_29 rfl ?_
  exact ⟨rfl, hI8⟩

def fn_Pt_number (w : wd) (x1 : Int32) (x2 : Int32) : Int32 := (if ((x1 * (7 : Int32)) + x2) < 0 then (0 : Int32) else (if (1792 : Int32) ≤ ((x1 * (7 : Int32)) + x2) then (0 : Int32) else (w 111 (((x1 * (7 : Int32)) + x2).toInt.toNat))))
set_option maxHeartbeats 1600000 in
set_option maxRecDepth 100000 in
theorem c_Pt_number {G : sm_G} {b : Nat} {M0 M : sm_M} {Z : zd} {w : wd}  (hI : lo_in G cm_L b M0 M w) (hZ : cz_at G b M0 Z) (x1 : Int32) (x2 : Int32)  : sm_C G mf_Pt_number [.ref (b + 110), .int x1, .int x2] M 0 0 (sm_pu M (.int (fn_Pt_number w x1 x2))) := by
  obtain ⟨R, hf⟩ : ∃ R, fn_Pt_number w x1 x2 = R := ⟨_, rfl⟩
  rw [hf]
  unfold fn_Pt_number at hf
  have hZ := hZ.go hI.2
  have hI := hI.here
  refine sm_ofW rfl (Nat.le_of_ble_eq_true rfl) ?_
  refine sm_iload_n d_Pt_number_0 rfl (j := 1) rfl ?_
  refine sm_bipush (v := 7) d_Pt_number_1 (by decide) ?_
  refine sm_imul d_Pt_number_3 ?_
  refine sm_iload_n d_Pt_number_4 rfl (j := 2) rfl ?_
  refine sm_iadd d_Pt_number_5 ?_
  refine sm_istore_n d_Pt_number_6 rfl (by decide) rfl ?_
  refine sm_iload_n d_Pt_number_7 rfl (j := 0) rfl ?_
  refine sm_if_lt (tgt := 29) d_Pt_number_8 (by decide) (fun h1 => ?_) (fun h1 => ?_)
  · rw [if_pos h1] at hf
    refine sm_iconst (v := 0) d_Pt_number_29 (by decide) ?_
    subst hf
    refine sm_ireturn d_Pt_number_30 rfl (by rfl) ?_
    exact ⟨rfl, rfl⟩
  · rw [if_neg h1] at hf
    refine sm_iload_n d_Pt_number_11 rfl (j := 0) rfl ?_
    refine sm_aload_n d_Pt_number_12 rfl (j := 1) rfl ?_
    refine lo_get (v := .ref (b + 111)) d_Pt_number_13 fg_Pt_11 hI cl_110 rfl ?_
    refine lo_aln (v := 1792) d_Pt_number_16 hI cl_111 (by decide) ?_
    refine sm_icmp_ge (tgt := 29) d_Pt_number_17 (by decide) (fun h2 => ?_) (fun h2 => ?_)
    · rw [if_pos h2] at hf
      refine sm_iconst (v := 0) d_Pt_number_29 (by decide) ?_
      subst hf
      refine sm_ireturn d_Pt_number_30 rfl (by rfl) ?_
      exact ⟨rfl, rfl⟩
    · rw [if_neg h2] at hf
      refine sm_aload_n d_Pt_number_20 rfl (j := 1) rfl ?_
      refine lo_get (v := .ref (b + 111)) d_Pt_number_21 fg_Pt_11 hI cl_110 rfl ?_
      refine sm_iload_n d_Pt_number_24 rfl (j := 0) rfl ?_
      refine lo_ald (j := ((x1 * (7 : Int32)) + x2).toInt.toNat) d_Pt_number_25 hI cl_111 (lo_ix h1 h2 (by decide)) rfl ?_
      refine sm_goto (tgt := 30) d_Pt_number_26 (by decide) ?_
      subst hf
      refine sm_ireturn d_Pt_number_30 rfl (by rfl) ?_
      exact ⟨rfl, rfl⟩

def fn_Pt_setNumber (w : wd) (x1 : Int32) (x2 : Int32) (x3 : Int32) : wd := (if ((x1 * (7 : Int32)) + x2) < 0 then w else (if (1792 : Int32) ≤ ((x1 * (7 : Int32)) + x2) then w else (up2 w 111 (((x1 * (7 : Int32)) + x2).toInt.toNat) x3)))
set_option maxHeartbeats 1600000 in
set_option maxRecDepth 100000 in
theorem c_Pt_setNumber {G : sm_G} {b : Nat} {M0 M : sm_M} {Z : zd} {w : wd}  (hI : lo_in G cm_L b M0 M w) (hZ : cz_at G b M0 Z) (x1 : Int32) (x2 : Int32) (x3 : Int32)  : sm_C G mf_Pt_setNumber [.ref (b + 110), .int x1, .int x2, .int x3] M 0 0 (wd_Q G cm_L b M none (fn_Pt_setNumber w x1 x2 x3)) := by
  obtain ⟨R, hf⟩ : ∃ R, fn_Pt_setNumber w x1 x2 x3 = R := ⟨_, rfl⟩
  rw [hf]
  unfold fn_Pt_setNumber at hf
  have hZ := hZ.go hI.2
  have hI := hI.here
  refine sm_ofW rfl (Nat.le_of_ble_eq_true rfl) ?_
  refine sm_iload_n d_Pt_setNumber_0 rfl (j := 1) rfl ?_
  refine sm_bipush (v := 7) d_Pt_setNumber_1 (by decide) ?_
  refine sm_imul d_Pt_setNumber_3 ?_
  refine sm_iload_n d_Pt_setNumber_4 rfl (j := 2) rfl ?_
  refine sm_iadd d_Pt_setNumber_5 ?_
  refine sm_istore d_Pt_setNumber_6 (by decide) rfl ?_
  refine sm_iload d_Pt_setNumber_8 (j := 0) rfl ?_
  refine sm_if_lt (tgt := 31) d_Pt_setNumber_10 (by decide) (fun h1 => ?_) (fun h1 => ?_)
  · rw [if_pos h1] at hf
    subst hf
    refine sm_return d_Pt_setNumber_31 rfl ?_
    exact ⟨rfl, hI⟩
  · rw [if_neg h1] at hf
    refine sm_iload d_Pt_setNumber_13 (j := 0) rfl ?_
    refine sm_aload_n d_Pt_setNumber_15 rfl (j := 1) rfl ?_
    refine lo_get (v := .ref (b + 111)) d_Pt_setNumber_16 fg_Pt_11 hI cl_110 rfl ?_
    refine lo_aln (v := 1792) d_Pt_setNumber_19 hI cl_111 (by decide) ?_
    refine sm_icmp_ge (tgt := 31) d_Pt_setNumber_20 (by decide) (fun h2 => ?_) (fun h2 => ?_)
    · rw [if_pos h2] at hf
      subst hf
      refine sm_return d_Pt_setNumber_31 rfl ?_
      exact ⟨rfl, hI⟩
    · rw [if_neg h2] at hf
      refine sm_aload_n d_Pt_setNumber_23 rfl (j := 1) rfl ?_
      refine lo_get (v := .ref (b + 111)) d_Pt_setNumber_24 fg_Pt_11 hI cl_110 rfl ?_
      refine sm_iload d_Pt_setNumber_27 (j := 0) rfl ?_
      refine sm_iload_n d_Pt_setNumber_29 rfl (j := 4) rfl ?_
      refine lo_ast (j := ((x1 * (7 : Int32)) + x2).toInt.toNat) d_Pt_setNumber_30 hI cl_111 (lo_ix h1 h2 (by decide)) rfl (fun M3 hI4 => ?_)
      subst hf
      refine sm_return d_Pt_setNumber_31 rfl ?_
      exact ⟨rfl, hI4⟩

def fn_Pt_isTile (x0 : Int32) : Bool := (if x0 < 0 then false else (if (64 : Int32) ≤ x0 then false else true))
set_option maxHeartbeats 1600000 in
set_option maxRecDepth 100000 in
theorem c_Pt_isTile {G : sm_G} {M : sm_M}   (x0 : Int32)  : sm_C G mf_Pt_isTile [.int x0] M 0 0 (sm_pu M (.int (bi (fn_Pt_isTile x0)))) := by
  obtain ⟨R, hf⟩ : ∃ R, fn_Pt_isTile x0 = R := ⟨_, rfl⟩
  rw [hf]
  unfold fn_Pt_isTile at hf
  refine sm_ofW rfl (Nat.le_of_ble_eq_true rfl) ?_
  refine sm_iload_n d_Pt_isTile_0 rfl (j := 0) rfl ?_
  refine sm_if_lt (tgt := 14) d_Pt_isTile_1 (by decide) (fun h1 => ?_) (fun h1 => ?_)
  · rw [if_pos h1] at hf
    refine sm_iconst (v := 0) d_Pt_isTile_14 (by decide) ?_
    subst hf
    refine sm_ireturn d_Pt_isTile_15 rfl (by rfl) ?_
    exact ⟨rfl, rfl⟩
  · rw [if_neg h1] at hf
    refine sm_iload_n d_Pt_isTile_4 rfl (j := 0) rfl ?_
    refine sm_bipush (v := 64) d_Pt_isTile_5 (by decide) ?_
    refine sm_icmp_ge (tgt := 14) d_Pt_isTile_7 (by decide) (fun h2 => ?_) (fun h2 => ?_)
    · rw [if_pos h2] at hf
      refine sm_iconst (v := 0) d_Pt_isTile_14 (by decide) ?_
      subst hf
      refine sm_ireturn d_Pt_isTile_15 rfl (by rfl) ?_
      exact ⟨rfl, rfl⟩
    · rw [if_neg h2] at hf
      refine sm_iconst (v := 1) d_Pt_isTile_10 (by decide) ?_
      refine sm_goto (tgt := 15) d_Pt_isTile_11 (by decide) ?_
      subst hf
      refine sm_ireturn d_Pt_isTile_15 rfl (by rfl) ?_
      exact ⟨rfl, rfl⟩

def fn_Pt_mayFollow (w : wd) (x1 : Int32) (x2 : Int32) (x3 : Int32) : Option (Bool) := (if (fn_Pt_isTile x1) = true then (if 0 ≤ x1.toInt ∧ x1.toInt < 64 then (if x2 = (w 112 x1.toInt.toNat) then (if x3 = 0 then some true else (if x3 ≤ x2 then some false else (if 0 ≤ x1.toInt ∧ x1.toInt < 64 then (if (w 113 x1.toInt.toNat) = 0 then some true else (if 0 ≤ x1.toInt ∧ x1.toInt < 64 then (if (w 113 x1.toInt.toNat) = x3 then some true else some false) else none)) else none))) else some false) else none) else some false)
set_option maxHeartbeats 1600000 in
set_option maxRecDepth 100000 in
theorem c_Pt_mayFollow {G : sm_G} {b : Nat} {M0 M : sm_M} {Z : zd} {w : wd}  (hI : lo_in G cm_L b M0 M w) (hZ : cz_at G b M0 Z) (x1 : Int32) (x2 : Int32) (x3 : Int32)  {R : Bool} (hf : fn_Pt_mayFollow w x1 x2 x3 = some R) : sm_C G mf_Pt_mayFollow [.ref (b + 110), .int x1, .int x2, .int x3] M 0 0 (sm_pu M (.int (bi R))) := by
  unfold fn_Pt_mayFollow at hf
  have hZ := hZ.go hI.2
  have hI := hI.here
  refine sm_ofW rfl (Nat.le_of_ble_eq_true rfl) ?_
  refine sm_iload_n d_Pt_mayFollow_0 rfl (j := 1) rfl ?_
  refine sm_callSp d_Pt_mayFollow_1 cs_Pt_mayFollow_34 rfl (As := [.int x1]) rfl rfl (Nat.le_of_ble_eq_true rfl) (c_Pt_isTile x1) ?_
  refine sm_if_eq (tgt := 17) d_Pt_mayFollow_4 (by decide) (fun h1 => ?_) (fun h1 => ?_)
  · rw [if_neg (bi0 h1)] at hf
    refine sm_iconst (v := 0) d_Pt_mayFollow_17 (by decide) ?_
    cases hf
    refine sm_ireturn d_Pt_mayFollow_18 rfl (by rfl) ?_
    exact ⟨rfl, rfl⟩
  · rw [if_pos (bi1 h1)] at hf
    refine sm_iload_n d_Pt_mayFollow_7 rfl (j := 2) rfl ?_
    refine sm_aload_n d_Pt_mayFollow_8 rfl (j := 0) rfl ?_
    refine lo_get (v := .ref (b + 112)) d_Pt_mayFollow_9 fg_Pt_15 hI cl_110 rfl ?_
    refine sm_iload_n d_Pt_mayFollow_12 rfl (j := 1) rfl ?_
    obtain ⟨h2, hf⟩ := lo_chk hf
    refine lo_ald (j := x1.toInt.toNat) d_Pt_mayFollow_13 hI cl_112 h2 rfl ?_
    refine sm_icmp_eq (tgt := 19) d_Pt_mayFollow_14 (by decide) (fun h3 => ?_) (fun h3 => ?_)
    · rw [if_pos h3] at hf
      refine sm_iload_n d_Pt_mayFollow_19 rfl (j := 3) rfl ?_
      refine sm_if_eq (tgt := 47) d_Pt_mayFollow_20 (by decide) (fun h4 => ?_) (fun h4 => ?_)
      · rw [if_pos h4] at hf
        refine sm_iconst (v := 1) d_Pt_mayFollow_47 (by decide) ?_
        refine sm_goto (tgt := 52) d_Pt_mayFollow_48 (by decide) ?_
        cases hf
        refine sm_ireturn d_Pt_mayFollow_52 rfl (by rfl) ?_
        exact ⟨rfl, rfl⟩
      · rw [if_neg h4] at hf
        refine sm_iload_n d_Pt_mayFollow_23 rfl (j := 3) rfl ?_
        refine sm_iload_n d_Pt_mayFollow_24 rfl (j := 2) rfl ?_
        refine sm_icmp_le (tgt := 51) d_Pt_mayFollow_25 (by decide) (fun h5 => ?_) (fun h5 => ?_)
        · rw [if_pos h5] at hf
          refine sm_iconst (v := 0) d_Pt_mayFollow_51 (by decide) ?_
          cases hf
          refine sm_ireturn d_Pt_mayFollow_52 rfl (by rfl) ?_
          exact ⟨rfl, rfl⟩
        · rw [if_neg h5] at hf
          refine sm_aload_n d_Pt_mayFollow_28 rfl (j := 0) rfl ?_
          refine lo_get (v := .ref (b + 113)) d_Pt_mayFollow_29 fg_Pt_18 hI cl_110 rfl ?_
          refine sm_iload_n d_Pt_mayFollow_32 rfl (j := 1) rfl ?_
          obtain ⟨h6, hf⟩ := lo_chk hf
          refine lo_ald (j := x1.toInt.toNat) d_Pt_mayFollow_33 hI cl_113 h6 rfl ?_
          refine sm_if_eq (tgt := 47) d_Pt_mayFollow_34 (by decide) (fun h7 => ?_) (fun h7 => ?_)
          · rw [if_pos h7] at hf
            refine sm_iconst (v := 1) d_Pt_mayFollow_47 (by decide) ?_
            refine sm_goto (tgt := 52) d_Pt_mayFollow_48 (by decide) ?_
            cases hf
            refine sm_ireturn d_Pt_mayFollow_52 rfl (by rfl) ?_
            exact ⟨rfl, rfl⟩
          · rw [if_neg h7] at hf
            refine sm_aload_n d_Pt_mayFollow_37 rfl (j := 0) rfl ?_
            refine lo_get (v := .ref (b + 113)) d_Pt_mayFollow_38 fg_Pt_18 hI cl_110 rfl ?_
            refine sm_iload_n d_Pt_mayFollow_41 rfl (j := 1) rfl ?_
            obtain ⟨h8, hf⟩ := lo_chk hf
            refine lo_ald (j := x1.toInt.toNat) d_Pt_mayFollow_42 hI cl_113 h8 rfl ?_
            refine sm_iload_n d_Pt_mayFollow_43 rfl (j := 3) rfl ?_
            refine sm_icmp_ne (tgt := 51) d_Pt_mayFollow_44 (by decide) (fun h9 => ?_) (fun h9 => ?_)
            · rw [if_neg h9] at hf
              refine sm_iconst (v := 0) d_Pt_mayFollow_51 (by decide) ?_
              cases hf
              refine sm_ireturn d_Pt_mayFollow_52 rfl (by rfl) ?_
              exact ⟨rfl, rfl⟩
            · rw [if_pos h9] at hf
              refine sm_iconst (v := 1) d_Pt_mayFollow_47 (by decide) ?_
              refine sm_goto (tgt := 52) d_Pt_mayFollow_48 (by decide) ?_
              cases hf
              refine sm_ireturn d_Pt_mayFollow_52 rfl (by rfl) ?_
              exact ⟨rfl, rfl⟩
    · rw [if_neg h3] at hf
      refine sm_iconst (v := 0) d_Pt_mayFollow_17 (by decide) ?_
      cases hf
      refine sm_ireturn d_Pt_mayFollow_18 rfl (by rfl) ?_
      exact ⟨rfl, rfl⟩

def fn_Pt_add (w : wd) (x1 : Int32) (x2 : Int32) (x3 : Int32) (x4 : Int32) : Option (wd) := (if (fn_Pt_isTile x1) = true then (if (w 110 1) < (256 : Int32) then (if 0 ≤ x1.toInt ∧ x1.toInt < 64 then (if 0 ≤ x1.toInt ∧ x1.toInt < 64 then (if x3 = 0 then some (up2 (up2 (fn_Pt_setNumber (fn_Pt_setNumber (fn_Pt_setNumber (fn_Pt_setNumber (fn_Pt_setNumber w (w 110 1) (0 : Int32) x1) ((fn_Pt_setNumber w (w 110 1) (0 : Int32) x1) 110 1) (1 : Int32) x2) ((fn_Pt_setNumber (fn_Pt_setNumber w (w 110 1) (0 : Int32) x1) ((fn_Pt_setNumber w (w 110 1) (0 : Int32) x1) 110 1) (1 : Int32) x2) 110 1) (2 : Int32) x3) ((fn_Pt_setNumber (fn_Pt_setNumber (fn_Pt_setNumber w (w 110 1) (0 : Int32) x1) ((fn_Pt_setNumber w (w 110 1) (0 : Int32) x1) 110 1) (1 : Int32) x2) ((fn_Pt_setNumber (fn_Pt_setNumber w (w 110 1) (0 : Int32) x1) ((fn_Pt_setNumber w (w 110 1) (0 : Int32) x1) 110 1) (1 : Int32) x2) 110 1) (2 : Int32) x3) 110 1) (5 : Int32) x4) ((fn_Pt_setNumber (fn_Pt_setNumber (fn_Pt_setNumber (fn_Pt_setNumber w (w 110 1) (0 : Int32) x1) ((fn_Pt_setNumber w (w 110 1) (0 : Int32) x1) 110 1) (1 : Int32) x2) ((fn_Pt_setNumber (fn_Pt_setNumber w (w 110 1) (0 : Int32) x1) ((fn_Pt_setNumber w (w 110 1) (0 : Int32) x1) 110 1) (1 : Int32) x2) 110 1) (2 : Int32) x3) ((fn_Pt_setNumber (fn_Pt_setNumber (fn_Pt_setNumber w (w 110 1) (0 : Int32) x1) ((fn_Pt_setNumber w (w 110 1) (0 : Int32) x1) 110 1) (1 : Int32) x2) ((fn_Pt_setNumber (fn_Pt_setNumber w (w 110 1) (0 : Int32) x1) ((fn_Pt_setNumber w (w 110 1) (0 : Int32) x1) 110 1) (1 : Int32) x2) 110 1) (2 : Int32) x3) 110 1) (5 : Int32) x4) 110 1) (6 : Int32) (0 : Int32)) 110 1 (((fn_Pt_setNumber (fn_Pt_setNumber (fn_Pt_setNumber (fn_Pt_setNumber (fn_Pt_setNumber w (w 110 1) (0 : Int32) x1) ((fn_Pt_setNumber w (w 110 1) (0 : Int32) x1) 110 1) (1 : Int32) x2) ((fn_Pt_setNumber (fn_Pt_setNumber w (w 110 1) (0 : Int32) x1) ((fn_Pt_setNumber w (w 110 1) (0 : Int32) x1) 110 1) (1 : Int32) x2) 110 1) (2 : Int32) x3) ((fn_Pt_setNumber (fn_Pt_setNumber (fn_Pt_setNumber w (w 110 1) (0 : Int32) x1) ((fn_Pt_setNumber w (w 110 1) (0 : Int32) x1) 110 1) (1 : Int32) x2) ((fn_Pt_setNumber (fn_Pt_setNumber w (w 110 1) (0 : Int32) x1) ((fn_Pt_setNumber w (w 110 1) (0 : Int32) x1) 110 1) (1 : Int32) x2) 110 1) (2 : Int32) x3) 110 1) (5 : Int32) x4) ((fn_Pt_setNumber (fn_Pt_setNumber (fn_Pt_setNumber (fn_Pt_setNumber w (w 110 1) (0 : Int32) x1) ((fn_Pt_setNumber w (w 110 1) (0 : Int32) x1) 110 1) (1 : Int32) x2) ((fn_Pt_setNumber (fn_Pt_setNumber w (w 110 1) (0 : Int32) x1) ((fn_Pt_setNumber w (w 110 1) (0 : Int32) x1) 110 1) (1 : Int32) x2) 110 1) (2 : Int32) x3) ((fn_Pt_setNumber (fn_Pt_setNumber (fn_Pt_setNumber w (w 110 1) (0 : Int32) x1) ((fn_Pt_setNumber w (w 110 1) (0 : Int32) x1) 110 1) (1 : Int32) x2) ((fn_Pt_setNumber (fn_Pt_setNumber w (w 110 1) (0 : Int32) x1) ((fn_Pt_setNumber w (w 110 1) (0 : Int32) x1) 110 1) (1 : Int32) x2) 110 1) (2 : Int32) x3) 110 1) (5 : Int32) x4) 110 1) (6 : Int32) (0 : Int32)) 110 1) + (1 : Int32))) 112 x1.toInt.toNat (((up2 (fn_Pt_setNumber (fn_Pt_setNumber (fn_Pt_setNumber (fn_Pt_setNumber (fn_Pt_setNumber w (w 110 1) (0 : Int32) x1) ((fn_Pt_setNumber w (w 110 1) (0 : Int32) x1) 110 1) (1 : Int32) x2) ((fn_Pt_setNumber (fn_Pt_setNumber w (w 110 1) (0 : Int32) x1) ((fn_Pt_setNumber w (w 110 1) (0 : Int32) x1) 110 1) (1 : Int32) x2) 110 1) (2 : Int32) x3) ((fn_Pt_setNumber (fn_Pt_setNumber (fn_Pt_setNumber w (w 110 1) (0 : Int32) x1) ((fn_Pt_setNumber w (w 110 1) (0 : Int32) x1) 110 1) (1 : Int32) x2) ((fn_Pt_setNumber (fn_Pt_setNumber w (w 110 1) (0 : Int32) x1) ((fn_Pt_setNumber w (w 110 1) (0 : Int32) x1) 110 1) (1 : Int32) x2) 110 1) (2 : Int32) x3) 110 1) (5 : Int32) x4) ((fn_Pt_setNumber (fn_Pt_setNumber (fn_Pt_setNumber (fn_Pt_setNumber w (w 110 1) (0 : Int32) x1) ((fn_Pt_setNumber w (w 110 1) (0 : Int32) x1) 110 1) (1 : Int32) x2) ((fn_Pt_setNumber (fn_Pt_setNumber w (w 110 1) (0 : Int32) x1) ((fn_Pt_setNumber w (w 110 1) (0 : Int32) x1) 110 1) (1 : Int32) x2) 110 1) (2 : Int32) x3) ((fn_Pt_setNumber (fn_Pt_setNumber (fn_Pt_setNumber w (w 110 1) (0 : Int32) x1) ((fn_Pt_setNumber w (w 110 1) (0 : Int32) x1) 110 1) (1 : Int32) x2) ((fn_Pt_setNumber (fn_Pt_setNumber w (w 110 1) (0 : Int32) x1) ((fn_Pt_setNumber w (w 110 1) (0 : Int32) x1) 110 1) (1 : Int32) x2) 110 1) (2 : Int32) x3) 110 1) (5 : Int32) x4) 110 1) (6 : Int32) (0 : Int32)) 110 1 (((fn_Pt_setNumber (fn_Pt_setNumber (fn_Pt_setNumber (fn_Pt_setNumber (fn_Pt_setNumber w (w 110 1) (0 : Int32) x1) ((fn_Pt_setNumber w (w 110 1) (0 : Int32) x1) 110 1) (1 : Int32) x2) ((fn_Pt_setNumber (fn_Pt_setNumber w (w 110 1) (0 : Int32) x1) ((fn_Pt_setNumber w (w 110 1) (0 : Int32) x1) 110 1) (1 : Int32) x2) 110 1) (2 : Int32) x3) ((fn_Pt_setNumber (fn_Pt_setNumber (fn_Pt_setNumber w (w 110 1) (0 : Int32) x1) ((fn_Pt_setNumber w (w 110 1) (0 : Int32) x1) 110 1) (1 : Int32) x2) ((fn_Pt_setNumber (fn_Pt_setNumber w (w 110 1) (0 : Int32) x1) ((fn_Pt_setNumber w (w 110 1) (0 : Int32) x1) 110 1) (1 : Int32) x2) 110 1) (2 : Int32) x3) 110 1) (5 : Int32) x4) ((fn_Pt_setNumber (fn_Pt_setNumber (fn_Pt_setNumber (fn_Pt_setNumber w (w 110 1) (0 : Int32) x1) ((fn_Pt_setNumber w (w 110 1) (0 : Int32) x1) 110 1) (1 : Int32) x2) ((fn_Pt_setNumber (fn_Pt_setNumber w (w 110 1) (0 : Int32) x1) ((fn_Pt_setNumber w (w 110 1) (0 : Int32) x1) 110 1) (1 : Int32) x2) 110 1) (2 : Int32) x3) ((fn_Pt_setNumber (fn_Pt_setNumber (fn_Pt_setNumber w (w 110 1) (0 : Int32) x1) ((fn_Pt_setNumber w (w 110 1) (0 : Int32) x1) 110 1) (1 : Int32) x2) ((fn_Pt_setNumber (fn_Pt_setNumber w (w 110 1) (0 : Int32) x1) ((fn_Pt_setNumber w (w 110 1) (0 : Int32) x1) 110 1) (1 : Int32) x2) 110 1) (2 : Int32) x3) 110 1) (5 : Int32) x4) 110 1) (6 : Int32) (0 : Int32)) 110 1) + (1 : Int32))) 112 x1.toInt.toNat) + (1 : Int32))) else (if 0 ≤ x1.toInt ∧ x1.toInt < 64 then some (up2 (up2 (up2 (fn_Pt_setNumber (fn_Pt_setNumber (fn_Pt_setNumber (fn_Pt_setNumber (fn_Pt_setNumber w (w 110 1) (0 : Int32) x1) ((fn_Pt_setNumber w (w 110 1) (0 : Int32) x1) 110 1) (1 : Int32) x2) ((fn_Pt_setNumber (fn_Pt_setNumber w (w 110 1) (0 : Int32) x1) ((fn_Pt_setNumber w (w 110 1) (0 : Int32) x1) 110 1) (1 : Int32) x2) 110 1) (2 : Int32) x3) ((fn_Pt_setNumber (fn_Pt_setNumber (fn_Pt_setNumber w (w 110 1) (0 : Int32) x1) ((fn_Pt_setNumber w (w 110 1) (0 : Int32) x1) 110 1) (1 : Int32) x2) ((fn_Pt_setNumber (fn_Pt_setNumber w (w 110 1) (0 : Int32) x1) ((fn_Pt_setNumber w (w 110 1) (0 : Int32) x1) 110 1) (1 : Int32) x2) 110 1) (2 : Int32) x3) 110 1) (5 : Int32) x4) ((fn_Pt_setNumber (fn_Pt_setNumber (fn_Pt_setNumber (fn_Pt_setNumber w (w 110 1) (0 : Int32) x1) ((fn_Pt_setNumber w (w 110 1) (0 : Int32) x1) 110 1) (1 : Int32) x2) ((fn_Pt_setNumber (fn_Pt_setNumber w (w 110 1) (0 : Int32) x1) ((fn_Pt_setNumber w (w 110 1) (0 : Int32) x1) 110 1) (1 : Int32) x2) 110 1) (2 : Int32) x3) ((fn_Pt_setNumber (fn_Pt_setNumber (fn_Pt_setNumber w (w 110 1) (0 : Int32) x1) ((fn_Pt_setNumber w (w 110 1) (0 : Int32) x1) 110 1) (1 : Int32) x2) ((fn_Pt_setNumber (fn_Pt_setNumber w (w 110 1) (0 : Int32) x1) ((fn_Pt_setNumber w (w 110 1) (0 : Int32) x1) 110 1) (1 : Int32) x2) 110 1) (2 : Int32) x3) 110 1) (5 : Int32) x4) 110 1) (6 : Int32) (0 : Int32)) 110 1 (((fn_Pt_setNumber (fn_Pt_setNumber (fn_Pt_setNumber (fn_Pt_setNumber (fn_Pt_setNumber w (w 110 1) (0 : Int32) x1) ((fn_Pt_setNumber w (w 110 1) (0 : Int32) x1) 110 1) (1 : Int32) x2) ((fn_Pt_setNumber (fn_Pt_setNumber w (w 110 1) (0 : Int32) x1) ((fn_Pt_setNumber w (w 110 1) (0 : Int32) x1) 110 1) (1 : Int32) x2) 110 1) (2 : Int32) x3) ((fn_Pt_setNumber (fn_Pt_setNumber (fn_Pt_setNumber w (w 110 1) (0 : Int32) x1) ((fn_Pt_setNumber w (w 110 1) (0 : Int32) x1) 110 1) (1 : Int32) x2) ((fn_Pt_setNumber (fn_Pt_setNumber w (w 110 1) (0 : Int32) x1) ((fn_Pt_setNumber w (w 110 1) (0 : Int32) x1) 110 1) (1 : Int32) x2) 110 1) (2 : Int32) x3) 110 1) (5 : Int32) x4) ((fn_Pt_setNumber (fn_Pt_setNumber (fn_Pt_setNumber (fn_Pt_setNumber w (w 110 1) (0 : Int32) x1) ((fn_Pt_setNumber w (w 110 1) (0 : Int32) x1) 110 1) (1 : Int32) x2) ((fn_Pt_setNumber (fn_Pt_setNumber w (w 110 1) (0 : Int32) x1) ((fn_Pt_setNumber w (w 110 1) (0 : Int32) x1) 110 1) (1 : Int32) x2) 110 1) (2 : Int32) x3) ((fn_Pt_setNumber (fn_Pt_setNumber (fn_Pt_setNumber w (w 110 1) (0 : Int32) x1) ((fn_Pt_setNumber w (w 110 1) (0 : Int32) x1) 110 1) (1 : Int32) x2) ((fn_Pt_setNumber (fn_Pt_setNumber w (w 110 1) (0 : Int32) x1) ((fn_Pt_setNumber w (w 110 1) (0 : Int32) x1) 110 1) (1 : Int32) x2) 110 1) (2 : Int32) x3) 110 1) (5 : Int32) x4) 110 1) (6 : Int32) (0 : Int32)) 110 1) + (1 : Int32))) 112 x1.toInt.toNat (((up2 (fn_Pt_setNumber (fn_Pt_setNumber (fn_Pt_setNumber (fn_Pt_setNumber (fn_Pt_setNumber w (w 110 1) (0 : Int32) x1) ((fn_Pt_setNumber w (w 110 1) (0 : Int32) x1) 110 1) (1 : Int32) x2) ((fn_Pt_setNumber (fn_Pt_setNumber w (w 110 1) (0 : Int32) x1) ((fn_Pt_setNumber w (w 110 1) (0 : Int32) x1) 110 1) (1 : Int32) x2) 110 1) (2 : Int32) x3) ((fn_Pt_setNumber (fn_Pt_setNumber (fn_Pt_setNumber w (w 110 1) (0 : Int32) x1) ((fn_Pt_setNumber w (w 110 1) (0 : Int32) x1) 110 1) (1 : Int32) x2) ((fn_Pt_setNumber (fn_Pt_setNumber w (w 110 1) (0 : Int32) x1) ((fn_Pt_setNumber w (w 110 1) (0 : Int32) x1) 110 1) (1 : Int32) x2) 110 1) (2 : Int32) x3) 110 1) (5 : Int32) x4) ((fn_Pt_setNumber (fn_Pt_setNumber (fn_Pt_setNumber (fn_Pt_setNumber w (w 110 1) (0 : Int32) x1) ((fn_Pt_setNumber w (w 110 1) (0 : Int32) x1) 110 1) (1 : Int32) x2) ((fn_Pt_setNumber (fn_Pt_setNumber w (w 110 1) (0 : Int32) x1) ((fn_Pt_setNumber w (w 110 1) (0 : Int32) x1) 110 1) (1 : Int32) x2) 110 1) (2 : Int32) x3) ((fn_Pt_setNumber (fn_Pt_setNumber (fn_Pt_setNumber w (w 110 1) (0 : Int32) x1) ((fn_Pt_setNumber w (w 110 1) (0 : Int32) x1) 110 1) (1 : Int32) x2) ((fn_Pt_setNumber (fn_Pt_setNumber w (w 110 1) (0 : Int32) x1) ((fn_Pt_setNumber w (w 110 1) (0 : Int32) x1) 110 1) (1 : Int32) x2) 110 1) (2 : Int32) x3) 110 1) (5 : Int32) x4) 110 1) (6 : Int32) (0 : Int32)) 110 1 (((fn_Pt_setNumber (fn_Pt_setNumber (fn_Pt_setNumber (fn_Pt_setNumber (fn_Pt_setNumber w (w 110 1) (0 : Int32) x1) ((fn_Pt_setNumber w (w 110 1) (0 : Int32) x1) 110 1) (1 : Int32) x2) ((fn_Pt_setNumber (fn_Pt_setNumber w (w 110 1) (0 : Int32) x1) ((fn_Pt_setNumber w (w 110 1) (0 : Int32) x1) 110 1) (1 : Int32) x2) 110 1) (2 : Int32) x3) ((fn_Pt_setNumber (fn_Pt_setNumber (fn_Pt_setNumber w (w 110 1) (0 : Int32) x1) ((fn_Pt_setNumber w (w 110 1) (0 : Int32) x1) 110 1) (1 : Int32) x2) ((fn_Pt_setNumber (fn_Pt_setNumber w (w 110 1) (0 : Int32) x1) ((fn_Pt_setNumber w (w 110 1) (0 : Int32) x1) 110 1) (1 : Int32) x2) 110 1) (2 : Int32) x3) 110 1) (5 : Int32) x4) ((fn_Pt_setNumber (fn_Pt_setNumber (fn_Pt_setNumber (fn_Pt_setNumber w (w 110 1) (0 : Int32) x1) ((fn_Pt_setNumber w (w 110 1) (0 : Int32) x1) 110 1) (1 : Int32) x2) ((fn_Pt_setNumber (fn_Pt_setNumber w (w 110 1) (0 : Int32) x1) ((fn_Pt_setNumber w (w 110 1) (0 : Int32) x1) 110 1) (1 : Int32) x2) 110 1) (2 : Int32) x3) ((fn_Pt_setNumber (fn_Pt_setNumber (fn_Pt_setNumber w (w 110 1) (0 : Int32) x1) ((fn_Pt_setNumber w (w 110 1) (0 : Int32) x1) 110 1) (1 : Int32) x2) ((fn_Pt_setNumber (fn_Pt_setNumber w (w 110 1) (0 : Int32) x1) ((fn_Pt_setNumber w (w 110 1) (0 : Int32) x1) 110 1) (1 : Int32) x2) 110 1) (2 : Int32) x3) 110 1) (5 : Int32) x4) 110 1) (6 : Int32) (0 : Int32)) 110 1) + (1 : Int32))) 112 x1.toInt.toNat) + (1 : Int32))) 113 x1.toInt.toNat x3) else none)) else none) else none) else some w) else some w)
set_option maxHeartbeats 1600000 in
set_option maxRecDepth 100000 in
theorem c_Pt_add {G : sm_G} {b : Nat} {M0 M : sm_M} {Z : zd} {w : wd}  (hI : lo_in G cm_L b M0 M w) (hZ : cz_at G b M0 Z) (x1 : Int32) (x2 : Int32) (x3 : Int32) (x4 : Int32)  {R : wd} (hf : fn_Pt_add w x1 x2 x3 x4 = some R) : sm_C G mf_Pt_add [.ref (b + 110), .int x1, .int x2, .int x3, .int x4] M 0 0 (wd_Q G cm_L b M none R) := by
  unfold fn_Pt_add at hf
  have hZ := hZ.go hI.2
  have hI := hI.here
  refine sm_ofW rfl (Nat.le_of_ble_eq_true rfl) ?_
  refine sm_iload_n d_Pt_add_0 rfl (j := 1) rfl ?_
  refine sm_callSp d_Pt_add_1 cs_Pt_add_34 rfl (As := [.int x1]) rfl rfl (Nat.le_of_ble_eq_true rfl) (c_Pt_isTile x1) ?_
  refine sm_if_eq (tgt := 17) d_Pt_add_4 (by decide) (fun h1 => ?_) (fun h1 => ?_)
  · rw [if_neg (bi0 h1)] at hf
    cases hf
    refine sm_return d_Pt_add_17 rfl ?_
    exact ⟨rfl, hI⟩
  · rw [if_pos (bi1 h1)] at hf
    refine sm_aload_n d_Pt_add_7 rfl (j := 0) rfl ?_
    refine lo_get (v := .int (w 110 1)) d_Pt_add_8 fg_Pt_24 hI cl_110 rfl ?_
    refine sm_sipush (v := 256) d_Pt_add_11 (by decide) ?_
    refine sm_icmp_lt (tgt := 18) d_Pt_add_14 (by decide) (fun h2 => ?_) (fun h2 => ?_)
    · rw [if_pos h2] at hf
      refine sm_aload_n d_Pt_add_18 rfl (j := 0) rfl ?_
      refine sm_aload_n d_Pt_add_19 rfl (j := 0) rfl ?_
      refine lo_get (v := .int (w 110 1)) d_Pt_add_20 fg_Pt_24 hI cl_110 rfl ?_
      refine sm_iconst (v := 0) d_Pt_add_23 (by decide) ?_
      refine sm_iload_n d_Pt_add_24 rfl (j := 1) rfl ?_
      refine lo_callVm d_Pt_add_25 cs_Pt_add_38 rfl hI cl_110 (As := [.int (w 110 1), .int (0 : Int32), .int x1]) rfl rfl (Nat.le_of_ble_eq_true rfl) (c_Pt_setNumber hI hZ (w 110 1) (0 : Int32) x1) (fun M3 hI4 => ?_)
      refine sm_aload_n d_Pt_add_28 rfl (j := 0) rfl ?_
      refine sm_aload_n d_Pt_add_29 rfl (j := 0) rfl ?_
      refine lo_get (v := .int ((fn_Pt_setNumber w (w 110 1) (0 : Int32) x1) 110 1)) d_Pt_add_30 fg_Pt_24 hI4 cl_110 rfl ?_
      refine sm_iconst (v := 1) d_Pt_add_33 (by decide) ?_
      refine sm_iload_n d_Pt_add_34 rfl (j := 2) rfl ?_
      refine lo_callVm d_Pt_add_35 cs_Pt_add_38 rfl hI4 cl_110 (As := [.int ((fn_Pt_setNumber w (w 110 1) (0 : Int32) x1) 110 1), .int (1 : Int32), .int x2]) rfl rfl (Nat.le_of_ble_eq_true rfl) (c_Pt_setNumber hI4 hZ ((fn_Pt_setNumber w (w 110 1) (0 : Int32) x1) 110 1) (1 : Int32) x2) (fun M5 hI6 => ?_)
      refine sm_aload_n d_Pt_add_38 rfl (j := 0) rfl ?_
      refine sm_aload_n d_Pt_add_39 rfl (j := 0) rfl ?_
      refine lo_get (v := .int ((fn_Pt_setNumber (fn_Pt_setNumber w (w 110 1) (0 : Int32) x1) ((fn_Pt_setNumber w (w 110 1) (0 : Int32) x1) 110 1) (1 : Int32) x2) 110 1)) d_Pt_add_40 fg_Pt_24 hI6 cl_110 rfl ?_
      refine sm_iconst (v := 2) d_Pt_add_43 (by decide) ?_
      refine sm_iload_n d_Pt_add_44 rfl (j := 3) rfl ?_
      refine lo_callVm d_Pt_add_45 cs_Pt_add_38 rfl hI6 cl_110 (As := [.int ((fn_Pt_setNumber (fn_Pt_setNumber w (w 110 1) (0 : Int32) x1) ((fn_Pt_setNumber w (w 110 1) (0 : Int32) x1) 110 1) (1 : Int32) x2) 110 1), .int (2 : Int32), .int x3]) rfl rfl (Nat.le_of_ble_eq_true rfl) (c_Pt_setNumber hI6 hZ ((fn_Pt_setNumber (fn_Pt_setNumber w (w 110 1) (0 : Int32) x1) ((fn_Pt_setNumber w (w 110 1) (0 : Int32) x1) 110 1) (1 : Int32) x2) 110 1) (2 : Int32) x3) (fun M7 hI8 => ?_)
      refine sm_aload_n d_Pt_add_48 rfl (j := 0) rfl ?_
      refine sm_aload_n d_Pt_add_49 rfl (j := 0) rfl ?_
      refine lo_get (v := .int ((fn_Pt_setNumber (fn_Pt_setNumber (fn_Pt_setNumber w (w 110 1) (0 : Int32) x1) ((fn_Pt_setNumber w (w 110 1) (0 : Int32) x1) 110 1) (1 : Int32) x2) ((fn_Pt_setNumber (fn_Pt_setNumber w (w 110 1) (0 : Int32) x1) ((fn_Pt_setNumber w (w 110 1) (0 : Int32) x1) 110 1) (1 : Int32) x2) 110 1) (2 : Int32) x3) 110 1)) d_Pt_add_50 fg_Pt_24 hI8 cl_110 rfl ?_
      refine sm_iconst (v := 5) d_Pt_add_53 (by decide) ?_
      refine sm_iload d_Pt_add_54 (j := 4) rfl ?_
      refine lo_callVm d_Pt_add_56 cs_Pt_add_38 rfl hI8 cl_110 (As := [.int ((fn_Pt_setNumber (fn_Pt_setNumber (fn_Pt_setNumber w (w 110 1) (0 : Int32) x1) ((fn_Pt_setNumber w (w 110 1) (0 : Int32) x1) 110 1) (1 : Int32) x2) ((fn_Pt_setNumber (fn_Pt_setNumber w (w 110 1) (0 : Int32) x1) ((fn_Pt_setNumber w (w 110 1) (0 : Int32) x1) 110 1) (1 : Int32) x2) 110 1) (2 : Int32) x3) 110 1), .int (5 : Int32), .int x4]) rfl rfl (Nat.le_of_ble_eq_true rfl) (c_Pt_setNumber hI8 hZ ((fn_Pt_setNumber (fn_Pt_setNumber (fn_Pt_setNumber w (w 110 1) (0 : Int32) x1) ((fn_Pt_setNumber w (w 110 1) (0 : Int32) x1) 110 1) (1 : Int32) x2) ((fn_Pt_setNumber (fn_Pt_setNumber w (w 110 1) (0 : Int32) x1) ((fn_Pt_setNumber w (w 110 1) (0 : Int32) x1) 110 1) (1 : Int32) x2) 110 1) (2 : Int32) x3) 110 1) (5 : Int32) x4) (fun M9 hI10 => ?_)
      refine sm_aload_n d_Pt_add_59 rfl (j := 0) rfl ?_
      refine sm_aload_n d_Pt_add_60 rfl (j := 0) rfl ?_
      refine lo_get (v := .int ((fn_Pt_setNumber (fn_Pt_setNumber (fn_Pt_setNumber (fn_Pt_setNumber w (w 110 1) (0 : Int32) x1) ((fn_Pt_setNumber w (w 110 1) (0 : Int32) x1) 110 1) (1 : Int32) x2) ((fn_Pt_setNumber (fn_Pt_setNumber w (w 110 1) (0 : Int32) x1) ((fn_Pt_setNumber w (w 110 1) (0 : Int32) x1) 110 1) (1 : Int32) x2) 110 1) (2 : Int32) x3) ((fn_Pt_setNumber (fn_Pt_setNumber (fn_Pt_setNumber w (w 110 1) (0 : Int32) x1) ((fn_Pt_setNumber w (w 110 1) (0 : Int32) x1) 110 1) (1 : Int32) x2) ((fn_Pt_setNumber (fn_Pt_setNumber w (w 110 1) (0 : Int32) x1) ((fn_Pt_setNumber w (w 110 1) (0 : Int32) x1) 110 1) (1 : Int32) x2) 110 1) (2 : Int32) x3) 110 1) (5 : Int32) x4) 110 1)) d_Pt_add_61 fg_Pt_24 hI10 cl_110 rfl ?_
      refine sm_bipush (v := 6) d_Pt_add_64 (by decide) ?_
      refine sm_iconst (v := 0) d_Pt_add_66 (by decide) ?_
      refine lo_callVm d_Pt_add_67 cs_Pt_add_38 rfl hI10 cl_110 (As := [.int ((fn_Pt_setNumber (fn_Pt_setNumber (fn_Pt_setNumber (fn_Pt_setNumber w (w 110 1) (0 : Int32) x1) ((fn_Pt_setNumber w (w 110 1) (0 : Int32) x1) 110 1) (1 : Int32) x2) ((fn_Pt_setNumber (fn_Pt_setNumber w (w 110 1) (0 : Int32) x1) ((fn_Pt_setNumber w (w 110 1) (0 : Int32) x1) 110 1) (1 : Int32) x2) 110 1) (2 : Int32) x3) ((fn_Pt_setNumber (fn_Pt_setNumber (fn_Pt_setNumber w (w 110 1) (0 : Int32) x1) ((fn_Pt_setNumber w (w 110 1) (0 : Int32) x1) 110 1) (1 : Int32) x2) ((fn_Pt_setNumber (fn_Pt_setNumber w (w 110 1) (0 : Int32) x1) ((fn_Pt_setNumber w (w 110 1) (0 : Int32) x1) 110 1) (1 : Int32) x2) 110 1) (2 : Int32) x3) 110 1) (5 : Int32) x4) 110 1), .int (6 : Int32), .int (0 : Int32)]) rfl rfl (Nat.le_of_ble_eq_true rfl) (c_Pt_setNumber hI10 hZ ((fn_Pt_setNumber (fn_Pt_setNumber (fn_Pt_setNumber (fn_Pt_setNumber w (w 110 1) (0 : Int32) x1) ((fn_Pt_setNumber w (w 110 1) (0 : Int32) x1) 110 1) (1 : Int32) x2) ((fn_Pt_setNumber (fn_Pt_setNumber w (w 110 1) (0 : Int32) x1) ((fn_Pt_setNumber w (w 110 1) (0 : Int32) x1) 110 1) (1 : Int32) x2) 110 1) (2 : Int32) x3) ((fn_Pt_setNumber (fn_Pt_setNumber (fn_Pt_setNumber w (w 110 1) (0 : Int32) x1) ((fn_Pt_setNumber w (w 110 1) (0 : Int32) x1) 110 1) (1 : Int32) x2) ((fn_Pt_setNumber (fn_Pt_setNumber w (w 110 1) (0 : Int32) x1) ((fn_Pt_setNumber w (w 110 1) (0 : Int32) x1) 110 1) (1 : Int32) x2) 110 1) (2 : Int32) x3) 110 1) (5 : Int32) x4) 110 1) (6 : Int32) (0 : Int32)) (fun M11 hI12 => ?_)
      refine sm_aload_n d_Pt_add_70 rfl (j := 0) rfl ?_
      refine sm_dup d_Pt_add_71 rfl ?_
      refine lo_get (v := .int ((fn_Pt_setNumber (fn_Pt_setNumber (fn_Pt_setNumber (fn_Pt_setNumber (fn_Pt_setNumber w (w 110 1) (0 : Int32) x1) ((fn_Pt_setNumber w (w 110 1) (0 : Int32) x1) 110 1) (1 : Int32) x2) ((fn_Pt_setNumber (fn_Pt_setNumber w (w 110 1) (0 : Int32) x1) ((fn_Pt_setNumber w (w 110 1) (0 : Int32) x1) 110 1) (1 : Int32) x2) 110 1) (2 : Int32) x3) ((fn_Pt_setNumber (fn_Pt_setNumber (fn_Pt_setNumber w (w 110 1) (0 : Int32) x1) ((fn_Pt_setNumber w (w 110 1) (0 : Int32) x1) 110 1) (1 : Int32) x2) ((fn_Pt_setNumber (fn_Pt_setNumber w (w 110 1) (0 : Int32) x1) ((fn_Pt_setNumber w (w 110 1) (0 : Int32) x1) 110 1) (1 : Int32) x2) 110 1) (2 : Int32) x3) 110 1) (5 : Int32) x4) ((fn_Pt_setNumber (fn_Pt_setNumber (fn_Pt_setNumber (fn_Pt_setNumber w (w 110 1) (0 : Int32) x1) ((fn_Pt_setNumber w (w 110 1) (0 : Int32) x1) 110 1) (1 : Int32) x2) ((fn_Pt_setNumber (fn_Pt_setNumber w (w 110 1) (0 : Int32) x1) ((fn_Pt_setNumber w (w 110 1) (0 : Int32) x1) 110 1) (1 : Int32) x2) 110 1) (2 : Int32) x3) ((fn_Pt_setNumber (fn_Pt_setNumber (fn_Pt_setNumber w (w 110 1) (0 : Int32) x1) ((fn_Pt_setNumber w (w 110 1) (0 : Int32) x1) 110 1) (1 : Int32) x2) ((fn_Pt_setNumber (fn_Pt_setNumber w (w 110 1) (0 : Int32) x1) ((fn_Pt_setNumber w (w 110 1) (0 : Int32) x1) 110 1) (1 : Int32) x2) 110 1) (2 : Int32) x3) 110 1) (5 : Int32) x4) 110 1) (6 : Int32) (0 : Int32)) 110 1)) d_Pt_add_72 fg_Pt_24 hI12 cl_110 rfl ?_
      refine sm_iconst (v := 1) d_Pt_add_75 (by decide) ?_
      refine sm_iadd d_Pt_add_76 ?_
      refine lo_put d_Pt_add_77 fp_Pt_24 (by decide) hI12 cl_110 rfl (by rfl) (by rfl) (fun M13 hI14 => ?_)
      refine sm_aload_n d_Pt_add_80 rfl (j := 0) rfl ?_
      refine lo_get (v := .ref (b + 112)) d_Pt_add_81 fg_Pt_15 hI14 cl_110 rfl ?_
      refine sm_iload_n d_Pt_add_84 rfl (j := 1) rfl ?_
      refine sm_dup2 d_Pt_add_85 rfl rfl ?_
      obtain ⟨h15, hf⟩ := lo_chk hf
      refine lo_ald (j := x1.toInt.toNat) d_Pt_add_86 hI14 cl_112 h15 rfl ?_
      refine sm_iconst (v := 1) d_Pt_add_87 (by decide) ?_
      refine sm_iadd d_Pt_add_88 ?_
      obtain ⟨h16, hf⟩ := lo_chk hf
      refine lo_ast (j := x1.toInt.toNat) d_Pt_add_89 hI14 cl_112 h16 rfl (fun M17 hI18 => ?_)
      refine sm_iload_n d_Pt_add_90 rfl (j := 3) rfl ?_
      refine sm_if_eq (tgt := 101) d_Pt_add_91 (by decide) (fun h19 => ?_) (fun h19 => ?_)
      · rw [if_pos h19] at hf
        cases hf
        refine sm_return d_Pt_add_101 rfl ?_
        exact ⟨rfl, hI18⟩
      · rw [if_neg h19] at hf
        refine sm_aload_n d_Pt_add_94 rfl (j := 0) rfl ?_
        refine lo_get (v := .ref (b + 113)) d_Pt_add_95 fg_Pt_18 hI18 cl_110 rfl ?_
        refine sm_iload_n d_Pt_add_98 rfl (j := 1) rfl ?_
        refine sm_iload_n d_Pt_add_99 rfl (j := 3) rfl ?_
        obtain ⟨h20, hf⟩ := lo_chk hf
        refine lo_ast (j := x1.toInt.toNat) d_Pt_add_100 hI18 cl_113 h20 rfl (fun M21 hI22 => ?_)
        cases hf
        refine sm_return d_Pt_add_101 rfl ?_
        exact ⟨rfl, hI22⟩
    · rw [if_neg h2] at hf
      cases hf
      refine sm_return d_Pt_add_17 rfl ?_
      exact ⟨rfl, hI⟩

def fn_Pt_setBytesOfLast (w : wd) (x1 : Int32) (x2 : Int32) : wd := (fn_Pt_setNumber (fn_Pt_setNumber w ((w 110 1) - (1 : Int32)) (3 : Int32) x1) (((fn_Pt_setNumber w ((w 110 1) - (1 : Int32)) (3 : Int32) x1) 110 1) - (1 : Int32)) (4 : Int32) x2)
set_option maxHeartbeats 1600000 in
set_option maxRecDepth 100000 in
theorem c_Pt_setBytesOfLast {G : sm_G} {b : Nat} {M0 M : sm_M} {Z : zd} {w : wd}  (hI : lo_in G cm_L b M0 M w) (hZ : cz_at G b M0 Z) (x1 : Int32) (x2 : Int32)  : sm_C G mf_Pt_setBytesOfLast [.ref (b + 110), .int x1, .int x2] M 0 0 (wd_Q G cm_L b M none (fn_Pt_setBytesOfLast w x1 x2)) := by
  obtain ⟨R, hf⟩ : ∃ R, fn_Pt_setBytesOfLast w x1 x2 = R := ⟨_, rfl⟩
  rw [hf]
  unfold fn_Pt_setBytesOfLast at hf
  have hZ := hZ.go hI.2
  have hI := hI.here
  refine sm_ofW rfl (Nat.le_of_ble_eq_true rfl) ?_
  refine sm_aload_n d_Pt_setBytesOfLast_0 rfl (j := 0) rfl ?_
  refine sm_aload_n d_Pt_setBytesOfLast_1 rfl (j := 0) rfl ?_
  refine lo_get (v := .int (w 110 1)) d_Pt_setBytesOfLast_2 fg_Pt_24 hI cl_110 rfl ?_
  refine sm_iconst (v := 1) d_Pt_setBytesOfLast_5 (by decide) ?_
  refine sm_isub d_Pt_setBytesOfLast_6 ?_
  refine sm_iconst (v := 3) d_Pt_setBytesOfLast_7 (by decide) ?_
  refine sm_iload_n d_Pt_setBytesOfLast_8 rfl (j := 1) rfl ?_
  refine lo_callVm d_Pt_setBytesOfLast_9 cs_Pt_setBytesOfLast_38 rfl hI cl_110 (As := [.int ((w 110 1) - (1 : Int32)), .int (3 : Int32), .int x1]) rfl rfl (Nat.le_of_ble_eq_true rfl) (c_Pt_setNumber hI hZ ((w 110 1) - (1 : Int32)) (3 : Int32) x1) (fun M1 hI2 => ?_)
  refine sm_aload_n d_Pt_setBytesOfLast_12 rfl (j := 0) rfl ?_
  refine sm_aload_n d_Pt_setBytesOfLast_13 rfl (j := 0) rfl ?_
  refine lo_get (v := .int ((fn_Pt_setNumber w ((w 110 1) - (1 : Int32)) (3 : Int32) x1) 110 1)) d_Pt_setBytesOfLast_14 fg_Pt_24 hI2 cl_110 rfl ?_
  refine sm_iconst (v := 1) d_Pt_setBytesOfLast_17 (by decide) ?_
  refine sm_isub d_Pt_setBytesOfLast_18 ?_
  refine sm_iconst (v := 4) d_Pt_setBytesOfLast_19 (by decide) ?_
  refine sm_iload_n d_Pt_setBytesOfLast_20 rfl (j := 2) rfl ?_
  refine lo_callVm d_Pt_setBytesOfLast_21 cs_Pt_setBytesOfLast_38 rfl hI2 cl_110 (As := [.int (((fn_Pt_setNumber w ((w 110 1) - (1 : Int32)) (3 : Int32) x1) 110 1) - (1 : Int32)), .int (4 : Int32), .int x2]) rfl rfl (Nat.le_of_ble_eq_true rfl) (c_Pt_setNumber hI2 hZ (((fn_Pt_setNumber w ((w 110 1) - (1 : Int32)) (3 : Int32) x1) 110 1) - (1 : Int32)) (4 : Int32) x2) (fun M3 hI4 => ?_)
  subst hf
  refine sm_return d_Pt_setBytesOfLast_24 rfl ?_
  exact ⟨rfl, hI4⟩

