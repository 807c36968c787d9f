/-! mathematics of both state tables, part 5; from wip/math -/
theorem b_component (F : Nat) (hF : 200 ≤ F) (Z : zd) {w w' : wd} (h : rpl w w') (x1 : Int32) (x2 : Bool) (x3 x4 : Int32) :
   ∃ v w1', fn_Md_component F w' x1 x2 x3 x4 = some (v, w1') ∧ pok Z w w' (fn_SM_component Z w x1 x2 x3 x4) w1' (cd2 "java/lang/IllegalArgumentException" (fn_SM_component Z w x1 x2 x3 x4).1) ∧ ∀ u, (fn_SM_component Z w x1 x2 x3 x4).1 = .inl u → u = v := by
  obtain ⟨g1, g2, ⟨n, g3⟩, k, g4⟩ := id h
  obtain ⟨hn1, hn2, hn, hcs⟩ := id g3
  have m1 := md_in0 x1 (a := 1) (b := 38) (c := 1) (d := 38) rfl rfl
  have m3 := md_in0 x3 (a := 1) (b := 255) (c := 1) (d := 255) rfl rfl
  have m4 := md_in0 x4 (a := 1) (b := 255) (c := 1) (d := 255) rfl rfl
  by_cases hp : 1 ≤ x1.toInt ∧ x1.toInt ≤ 38 ∧ 1 ≤ x3.toInt ∧ x3.toInt ≤ 255 ∧ 1 ≤ x4.toInt ∧ x4.toInt ≤ 255
  · have e2 : fn_Md_component F w' x1 x2 x3 x4 = fn_Md_component_43 F w' x1 x2 x3 x4 false := by
      unfold fn_Md_component
      rw [if_pos (m1.2 (by omega)), if_pos (m3.2 (by omega)), if_pos (m4.2 (by omega))]
    have e1 : fn_SM_component Z w x1 x2 x3 x4 = if n < 16 then (.inl (nI n), up2 (fn_Cp_reset w n x1 x2 x3 x4) 1 2 (nI (n + 1)), Z) else (.inr "java/lang/IllegalStateException", w, Z) := by
      unfold fn_SM_component
      rw [if_pos (by unfold fn_Ru_isComponent; simp only [decide_eq_true_eq]; exact hp)]
      unfold fn_Pl_addComponent
      rw [hn1]
      simp only [bn_lit]
      simp (disch := omega) only [bn_lt, bn_le, bn_i, Int.toNat_natCast, bn_add]
      by_cases h16 : n < 16
      · rw [if_pos h16, if_pos h16, if_neg (by omega), if_neg (by omega)]
      · rw [if_neg h16, if_neg h16]
    rw [e1, e2]
    unfold fn_Md_component_43
    rw [hn2]
    simp only [show (16 : Int32) = nI 16 from rfl]
    simp (disch := omega) only [bn_eq]
    by_cases h16 : n < 16
    · rw [if_pos h16, if_neg (by omega)]
      unfold fn_Md_component_57
      simp only [md_ref0, Bool.false_eq_true, if_false]
      have w03 : ∀ (a : Nat) (b : Nat) (v : Int32), a ≠ 0 → (up2 (up2 w' 0 0 0) a b v) 0 3 = nI n := by
        intro a b v ha
        simp (disch := omega) only [u2n]
        exact hn2
      have q0 : up2 w' 0 0 0 0 3 = nI n := by simp (disch := omega) only [u2n]; exact hn2
      have q1 : (if x2 = true then fn_Md_component_92 F (up2 (up2 w' 0 0 0) 2 n x1) x3 x4 true (nI n) else fn_Md_component_92 F (up2 (up2 w' 0 0 0) 2 n x1) x3 x4 false (nI n)) = fn_Md_component_92 F (up2 (up2 w' 0 0 0) 2 n x1) x3 x4 x2 (nI n) := by
        cases x2 <;> simp
      obtain ⟨w1, e3, e4⟩ := md_fresh F n h16 hF (up2 (up2 (up2 (up2 (up2 w' 0 0 0) 2 n x1) 3 n (bi x2)) 4 n x3) 5 n x4)
      have w13 : w1 0 3 = nI n := by
        rw [e4]
        simp (disch := omega) only [u2n]
        simp
        exact hn2
      have q2 : fn_Md_component_92 F (up2 (up2 w' 0 0 0) 2 n x1) x3 x4 x2 (nI n) = some (nI n, up2 w1 0 3 (nI (n + 1))) := by
        unfold fn_Md_component_92
        have t1 : (up2 (up2 (up2 w' 0 0 0) 2 n x1) 3 n (bi x2)) 0 3 = nI n := by simp (disch := omega) only [u2n]; exact hn2
        have t2 : (up2 (up2 (up2 (up2 w' 0 0 0) 2 n x1) 3 n (bi x2)) 4 n x3) 0 3 = nI n := by simp (disch := omega) only [u2n]; exact hn2
        have t3 : (up2 (up2 (up2 (up2 (up2 w' 0 0 0) 2 n x1) 3 n (bi x2)) 4 n x3) 5 n x4) 0 3 = nI n := by simp (disch := omega) only [u2n]; exact hn2
        simp (disch := omega) only [bn_i, Int.toNat_natCast, t1, t2, t3]
        rw [if_pos (by omega), if_pos (by omega), if_pos (by omega), e3]
        simp only [Option.bind_some, w13, show (1 : Int32) = nI 1 from rfl, bn_add]
        rw [u2e rfl rfl, bn_sub (by omega)]
        rfl
      rw [q0]
      simp (disch := omega) only [bn_i, Int.toNat_natCast]
      rw [if_pos (by omega)]
      rw [w03 2 n x1 (by omega), q1, q2]
      refine ⟨_, _, rfl, ?_, fun u hu => (Sum.inl.inj hu).symm⟩
      simp only [cd2, fn_Cp_reset, fn_St_reset, fn_St_resetValues, fn_Cd_reset, fn_Cd_resetPrecincts, fn_Cd_setBlocks]
      have hT : (∀ a j, ¬ (a = 0 ∧ (j = 0 ∨ j = 3)) → ¬ (2 ≤ a ∧ a ≤ 9 ∧ inc n a j) → (up2 w1 0 3 (nI (n + 1))) a j = w' a j) := by
        intro a j h7 h8
        unfold inc at h8
        rw [u2n (by omega), e4, if_neg (by omega), if_neg (by omega), if_neg (by omega)]
        simp (disch := omega) only [u2n]
      refine ⟨rpl_rcs (n := n + 1) h ?_ (fun a j h7 h8 => ?_) (fun a j h7 h8 => ?_), fun a j h7 => ?_, fun a j h7 => ?_, rfl, ?_⟩
      rotate_left
      · simp (disch := omega) only [u2n, f2n]
      · exact hT _ _ (by omega) (by omega)
      · simp (disch := omega) only [u2n, f2n]
      · exact hT _ _ (by omega) (by omega)
      · rw [u2n (by omega), e4, if_neg (by omega), if_neg (by omega), if_neg (by omega)]
        simp (disch := omega) only [u2n, u2e]
      · dsimp only
        refine ⟨u2e rfl rfl, u2e rfl rfl, by omega, fun c hc => ?_⟩
        by_cases hcn : c = n
        · subst hcn
          have v2 : w1 2 c = x1 := by rw [e4, if_neg (by omega), if_neg (by omega), if_neg (by omega)]; simp (disch := omega) only [u2n, u2e]
          have v3 : w1 3 c = bi x2 := by rw [e4, if_neg (by omega), if_neg (by omega), if_neg (by omega)]; simp (disch := omega) only [u2n, u2e]
          have v4 : w1 4 c = x3 := by rw [e4, if_neg (by omega), if_neg (by omega), if_neg (by omega)]; simp (disch := omega) only [u2n, u2e]
          have v5 : w1 5 c = x4 := by rw [e4, if_neg (by omega), if_neg (by omega), if_neg (by omega)]; simp (disch := omega) only [u2e]
          have v6 : ∀ j, 8 * c ≤ j → j < 8 * c + 8 → w1 6 j = (if j = 8 * c + 1 ∨ j = 8 * c + 2 then 6 else if j = 8 * c + 4 then 1 else if j = 8 * c + 6 then 2 else 0) := fun j h1 h2 => by rw [e4, if_neg (by omega), if_neg (by omega), if_pos ⟨rfl, h1, h2⟩]
          have v7 : ∀ r, r < 33 → w1 7 (33 * c + r) = 15 := fun r hr => by rw [e4, if_neg (by omega), if_pos (by omega)]
          have v8 : ∀ r, r < 33 → w1 8 (33 * c + r) = 15 := fun r hr => by rw [e4, if_neg (by omega), if_pos (by omega)]
          have v9 : ∀ r, r < 97 → w1 9 (97 * c + r) = 0 := fun r hr => by rw [e4, if_pos (by omega)]
          have u0 := v6 (8 * c) (by omega) (by omega)
          have u1 := v6 (8 * c + 1) (by omega) (by omega)
          have u2 := v6 (8 * c + 2) (by omega) (by omega)
          have u3 := v6 (8 * c + 3) (by omega) (by omega)
          have u4 := v6 (8 * c + 4) (by omega) (by omega)
          have u5 := v6 (8 * c + 5) (by omega) (by omega)
          have u6 := v6 (8 * c + 6) (by omega) (by omega)
          have u7 := v6 (8 * c + 7) (by omega) (by omega)
          simp at u0 u1 u2 u3 u4 u5 u6 u7
          unfold rc
          simp (disch := omega) only [u2n, u2e, f2n, v2, v3, v4, v5, u0, u1, u2, u3, u4, u5, u6, u7]
          refine ⟨by simp, by simp [bi], by simp, ?_, fun r hr => ?_, fun r hr => ?_, fun r hr => ?_⟩
          · cases x2 <;> simp [bi] <;> decide
          · rw [f2e rfl hr, v7 r hr]
          · rw [f2e rfl hr, v8 r hr]
          · rw [f2e rfl hr, v9 r hr]
            decide
        · refine rc_fr (by omega) (hcs c (by omega)) (fun a j h7 h8 => ?_) (fun a j h7 h8 h9 h10 h11 h12 => ?_)
          · simp (disch := omega) only [u2n, f2n]
          · exact hT a j (by omega) (by unfold inc; omega)
    · rw [if_neg h16, if_pos (by omega)]
      unfold fn_Md_component_57
      simp only [md_refF, if_true]
      exact ⟨_, _, rfl, pok_t h _ _, fun u hu => nomatch hu⟩
  · have e1 : fn_SM_component Z w x1 x2 x3 x4 = (.inr "java/lang/IllegalArgumentException", w, Z) := by
      unfold fn_SM_component
      rw [if_neg (by unfold fn_Ru_isComponent; simp only [decide_eq_true_eq]; exact hp)]
    have e2 : fn_Md_component F w' x1 x2 x3 x4 = some (0, up2 w' 0 0 1) := by
      have : fn_Md_component F w' x1 x2 x3 x4 = fn_Md_component_43 F w' x1 x2 x3 x4 true := by
        unfold fn_Md_component fn_Md_component_38
        grind (splits := 40)
      rw [this]
      unfold fn_Md_component_43 fn_Md_component_57
      simp only [md_refT, if_true, ite_self]
    rw [e1]
    exact ⟨_, _, e2, pok_t h _ _, fun u hu => nomatch hu⟩
