/-! mathematics of both state tables, part 3; from wip/math -/
theorem isC {w w' : wd} {n : Nat} (h : rcs w w' n) (x : Int32) : (fn_Md_isComponent w' x = true ↔ 0 ≤ x.toInt ∧ x.toInt < n) ∧ (((0 ≤ x.toInt ∧ x.toInt < (w 1 2).toInt) ∧ x.toInt < 16) ↔ 0 ≤ x.toInt ∧ x.toInt < n) := by
  obtain ⟨h1, h2, h3, _⟩ := h
  have hn : (nI n).toInt = n := bn_i (by omega)
  unfold fn_Md_isComponent
  rw [h1, h2]
  simp only [bi_lt, bi_le, hn, i0]
  constructor
  · grind
  · omega
def inc (c a j : Nat) : Prop := (a ≤ 5 ∧ j = c) ∨ (a = 6 ∧ 8 * c ≤ j ∧ j < 8 * c + 8) ∨ ((a = 7 ∨ a = 8) ∧ 33 * c ≤ j ∧ j < 33 * c + 33) ∨ (a = 9 ∧ 97 * c ≤ j ∧ j < 97 * c + 97)
theorem rcs_up {w w' w1 w1' : wd} {n c : Nat} (g : rcs w w' n) (hr : rc w1 w1' c) (h1 : w1 1 2 = w 1 2) (h2 : ∀ a j, 5 ≤ a → a < 101 → ¬ (5 + 6 * c ≤ a ∧ a < 11 + 6 * c) → w1 a j = w a j) (h3 : w1' 0 3 = w' 0 3) (h4 : ∀ a j, 2 ≤ a → a ≤ 9 → ¬ inc c a j → w1' a j = w' a j) : rcs w1 w1' n := by
  obtain ⟨a1, a2, a3, a4⟩ := g
  refine ⟨h1 ▸ a1, h3 ▸ a2, a3, fun d hd => ?_⟩
  by_cases hdc : d = c
  · subst hdc; exact hr
  · exact rc_fr (by omega) (a4 d hd) (fun a j h7 h8 => h2 a j (by omega) (by omega) (by omega)) (fun a j h7 h8 h9 h10 h11 h12 => h4 a j h7 h8 (by unfold inc; omega))
theorem pok_c {τ : Type} {Z : zd} {w w' w1 w1' : wd} {n c : Nat} (h : rpl w w') (g : rcs w w' n) (hc : c < n) (r : τ) (h1 : ∀ a j, ¬ (5 + 6 * c ≤ a ∧ a < 11 + 6 * c) → w1 a j = w a j) (h0 : w1' 0 0 = 0) (h2 : ∀ a j, ¬ (a = 0 ∧ j = 0) → ¬ (2 ≤ a ∧ a ≤ 9 ∧ inc c a j) → w1' a j = w' a j) (hr : rc w w' c → rc w1 w1' c) : pok Z w w' ((.inl r : τ ⊕ String), w1, Z) w1' 0 := by
  have hn := g.2.2.1
  refine ⟨rpl_rcs (n := n) h (rcs_up g (hr (g.2.2.2 c hc)) (h1 _ _ (by omega)) (fun a j _ _ h => h1 a j h) (h2 _ _ (by omega) (by omega)) (fun a j _ _ h => h2 a j (by omega) (fun x => h x.2.2))) (fun a j h7 h8 => h1 _ _ (by omega)) (fun a j h7 h8 => h2 _ _ (by omega) (by omega)), fun a j h7 => h1 _ _ (by omega), fun a j h7 => h2 _ _ (by omega) (by omega), rfl, h0⟩
theorem b_coding (Z : zd) {w w' : wd} (h : rpl w w') (x1 x2 x3 x4 x5 : Int32) (x6 : Bool) :
   ∃ w1', fn_Md_coding w' x1 x2 x3 x4 x5 x6 = some w1' ∧ pok Z w w' (fn_SM_coding Z w x1 x2 x3 x4 x5 x6) w1' (cd2 "java/util/NoSuchElementException" (fn_SM_coding Z w x1 x2 x3 x4 x5 x6).1) := by
  obtain ⟨g1, g2, ⟨n, g3⟩, k, g4⟩ := id h
  obtain ⟨i1, i2⟩ := isC g3 x1
  have hn := g3.2.2.1
  have m2 := md_in0 x2 (a := 0) (b := 32) (c := 0) (d := 32) rfl rfl
  have m3 := md_in0 x3 (a := 2) (b := 10) (c := 2) (d := 10) rfl rfl
  have m4 := md_in0 x4 (a := 2) (b := 10) (c := 2) (d := 10) rfl rfl
  have m5 := md_in0 x5 (a := 0) (b := 63) (c := 0) (d := 63) rfl rfl
  by_cases hc : 0 ≤ x1.toInt ∧ x1.toInt < n
  · by_cases hp : 0 ≤ x2.toInt ∧ x2.toInt ≤ 32 ∧ 2 ≤ x3.toInt ∧ x3.toInt ≤ 10 ∧ 2 ≤ x4.toInt ∧ x4.toInt ≤ 10 ∧ (x3 + x4).toInt ≤ 12 ∧ 0 ≤ x5.toInt ∧ x5.toInt < 64
    · obtain ⟨c, hc2, rfl⟩ := bn_ex hc.1
      rw [bn_i hc2] at hc
      have hcn : c < n := by omega
      have e1 : fn_SM_coding Z w (nI c) x2 x3 x4 x5 x6 = (.inl (), (fn_Cd_setBlocks w c x2 x3 x4 x5 x6), Z) := by
        unfold fn_SM_coding
        rw [if_pos (i2.2 (by rw [bn_i hc2]; omega)), if_pos (by unfold fn_Ru_isCoding; simp only [decide_eq_true_eq]; exact hp), bn_nn _ hc2]
      have e2 : fn_Md_coding w' (nI c) x2 x3 x4 x5 x6 = some (up2 (up2 (up2 (up2 (up2 (up2 w' 0 0 0) 6 (8 * c) x2) 6 (8 * c + 1) x3) 6 (8 * c + 2) x4) 6 (8 * c + 3) x5) 6 (8 * c + 4) (bi x6)) := by
        unfold fn_Md_coding fn_Md_coding_14
        rw [if_pos (i1.2 (by rw [bn_i hc2]; omega)), if_pos (m2.2 (by omega)), if_pos (m3.2 (by omega)), if_pos (m4.2 (by omega)), if_neg (by rw [bi_lt]; show ¬ (12 : Int) < _; omega), if_pos (m5.2 (by omega))]
        simp only [fn_Md_coding_82, md_ref0, Bool.false_eq_true, if_false, bn_lit, bn_mul, bn_add]
        simp (disch := omega) only [bn_i]
        cases x6 <;> grind [bi, bn_lit]
      refine ⟨_, e2, ?_⟩
      rw [e1]
      simp only [fn_Cd_setBlocks, cd2]
      refine pok_c h g3 hcn _ (fun a j h7 => ?_) ?_ (fun a j h7 h8 => ?_) (fun hr => ?_)
      · simp (disch := omega) only [u2n]
      · simp (disch := omega) only [u2n, u2e]
      · unfold inc at h8
        simp (disch := omega) only [u2n]
      · have q1 : 0 ≤ x2 := by rw [bi_le]; exact hp.1
        have q2 : x2 ≤ 32 := by rw [bi_le]; exact hp.2.1
        unfold rc at *
        simp (disch := omega) only [u2n, u2e]
        simp only [true_and]
        cases x6 <;> simp [bi] <;> grind
    · have e1 : fn_SM_coding Z w x1 x2 x3 x4 x5 x6 = (.inr "java/lang/IllegalArgumentException", w, Z) := by
        unfold fn_SM_coding
        rw [if_pos (i2.2 hc), if_neg (by unfold fn_Ru_isCoding; simp only [decide_eq_true_eq]; exact hp)]
      have e2 : fn_Md_coding w' x1 x2 x3 x4 x5 x6 = some (up2 w' 0 0 2) := by
        have : fn_Md_coding w' x1 x2 x3 x4 x5 x6 = fn_Md_coding_82 w' x1 x2 x3 x4 x5 x6 true false := by
          unfold fn_Md_coding fn_Md_coding_14 fn_Md_coding_77
          simp only [bi_lt, bi_l]
          grind (splits := 40)
        rw [this]; unfold fn_Md_coding_82
        simp only [md_refF, if_true]
      rw [e1]
      exact ⟨_, e2, pok_t h _ _⟩
  · have e1 : fn_SM_coding Z w x1 x2 x3 x4 x5 x6 = (.inr "java/util/NoSuchElementException", w, Z) := by
      unfold fn_SM_coding
      rw [if_neg (fun x => hc (i2.1 x))]
    have e2 : fn_Md_coding w' x1 x2 x3 x4 x5 x6 = some (up2 w' 0 0 1) := by
      unfold fn_Md_coding fn_Md_coding_14 fn_Md_coding_77 fn_Md_coding_82
      rw [if_neg (fun x => hc (i1.1 x))]
      simp only [md_refT, if_true]
      grind (splits := 40)
    rw [e1]
    exact ⟨_, e2, pok_t h _ _⟩
theorem b_precincts (Z : zd) {w w' : wd} (h : rpl w w') (x1 x2 x3 x4 : Int32) :
   ∃ w1', fn_Md_precincts w' x1 x2 x3 x4 = some w1' ∧ pok Z w w' (fn_SM_precincts Z w x1 x2 x3 x4) w1' (cd2 "java/util/NoSuchElementException" (fn_SM_precincts Z w x1 x2 x3 x4).1) := by
  obtain ⟨g1, g2, ⟨n, g3⟩, k, g4⟩ := id h
  obtain ⟨i1, i2⟩ := isC g3 x1
  have hn := g3.2.2.1
  have m2 := md_in0 x2 (a := 0) (b := 32) (c := 0) (d := 32) rfl rfl
  have m3 := md_in0 x3 (a := 0) (b := 15) (c := 0) (d := 15) rfl rfl
  have m4 := md_in0 x4 (a := 0) (b := 15) (c := 0) (d := 15) rfl rfl
  by_cases hc : 0 ≤ x1.toInt ∧ x1.toInt < n
  · by_cases hp : 0 ≤ x2.toInt ∧ x2.toInt ≤ 32 ∧ (if x2.toInt = 0 then 0 else 1) ≤ x3.toInt ∧ x3.toInt ≤ 15 ∧ (if x2.toInt = 0 then 0 else 1) ≤ x4.toInt ∧ x4.toInt ≤ 15
    · have e2 : fn_Md_precincts w' x1 x2 x3 x4 = fn_Md_precincts_81 w' x1 x2 x3 x4 false false := by
        unfold fn_Md_precincts fn_Md_precincts_54 fn_Md_precincts_50 fn_Md_precincts_55 fn_Md_precincts_71
        simp only [bi_lt, bi_le, bi_eq, bi_l]
        grind (splits := 40)
      obtain ⟨c, hc2, rfl⟩ := bn_ex hc.1
      obtain ⟨r, hr2, rfl⟩ := bn_ex hp.1
      rw [bn_i hc2] at hc
      have hcn : c < n := by omega
      have hr : r < 33 := by have := hp.2.1; rw [bn_i hr2] at this; omega
      have e1 : fn_SM_precincts Z w (nI c) (nI r) x3 x4 = (.inl (), up2 (up2 w (7 + 6 * c) r x3) (8 + 6 * c) r x4, Z) := by
        unfold fn_SM_precincts
        rw [if_pos (i2.2 (by rw [bn_i hc2]; omega)), if_pos (by unfold fn_Ru_isPrecinct; simp only [decide_eq_true_eq]; exact hp), bn_nn _ hc2]
        unfold fn_Cd_setPrecinct
        simp only [bn_lit]
        simp (disch := omega) only [bn_lt, bn_le, bn_nn]
        rw [if_neg (by omega), if_neg (by omega), if_neg (by omega)]
      have e2 : fn_Md_precincts w' (nI c) (nI r) x3 x4 = some (up2 (up2 (up2 w' 0 0 0) 7 (33 * c + r) x3) 8 (33 * c + r) x4) := by
        rw [e2]
        simp only [fn_Md_precincts_81, md_ref0, Bool.false_eq_true, if_false, bn_lit, bn_mul, bn_add]
        simp (disch := omega) only [bn_i, Int.toNat_natCast]
        rw [if_pos (by omega), if_pos (by omega)]
      refine ⟨_, e2, ?_⟩
      rw [e1]
      simp only [cd2]
      refine pok_c h g3 hcn _ (fun a j h7 => ?_) ?_ (fun a j h7 h8 => ?_) (fun hr => ?_)
      · simp (disch := omega) only [u2n]
      · simp (disch := omega) only [u2n, u2e]
      · unfold inc at h8
        simp (disch := omega) only [u2n]
      · unfold rc at *
        simp (disch := omega) only [u2n]
        grind [up2]
    · have e1 : fn_SM_precincts Z w x1 x2 x3 x4 = (.inr "java/lang/IllegalArgumentException", w, Z) := by
        unfold fn_SM_precincts
        rw [if_pos (i2.2 hc)]
        rw [if_neg (by unfold fn_Ru_isPrecinct; simp only [decide_eq_true_eq]; exact hp)]
      have e2 : fn_Md_precincts w' x1 x2 x3 x4 = some (up2 w' 0 0 2) := by
        have : fn_Md_precincts w' x1 x2 x3 x4 = fn_Md_precincts_81 w' x1 x2 x3 x4 true false := by
          unfold fn_Md_precincts fn_Md_precincts_54 fn_Md_precincts_50 fn_Md_precincts_55 fn_Md_precincts_71
          try simp only [bi_lt, bi_le, bi_eq, bi_l]
          grind (splits := 40)
        rw [this]; unfold fn_Md_precincts_81
        simp only [md_refF, if_true]
      rw [e1]
      exact ⟨_, e2, pok_t h _ _⟩
  · have e1 : fn_SM_precincts Z w x1 x2 x3 x4 = (.inr "java/util/NoSuchElementException", w, Z) := by
      unfold fn_SM_precincts
      rw [if_neg (fun x => hc (i2.1 x))]
    have e2 : fn_Md_precincts w' x1 x2 x3 x4 = some (up2 w' 0 0 1) := by
      have : fn_Md_precincts w' x1 x2 x3 x4 = fn_Md_precincts_81 w' x1 x2 x3 x4 true true ∨ fn_Md_precincts w' x1 x2 x3 x4 = fn_Md_precincts_81 w' x1 x2 x3 x4 false true := by
        unfold fn_Md_precincts fn_Md_precincts_54 fn_Md_precincts_50 fn_Md_precincts_55 fn_Md_precincts_71
        grind (splits := 40)
      rcases this with e | e
      · rw [e]; unfold fn_Md_precincts_81
        simp only [md_refT, if_true]
      · rw [e]; unfold fn_Md_precincts_81
        simp only [md_refT, if_true]
    rw [e1]
    exact ⟨_, e2, pok_t h _ _⟩
theorem b_steps (Z : zd) {w w' : wd} (h : rpl w w') (x1 x2 x3 x4 : Int32) :
   ∃ w1', fn_Md_steps w' x1 x2 x3 x4 = some w1' ∧ pok Z w w' (fn_SM_steps Z w x1 x2 x3 x4) w1' (cd2 "java/util/NoSuchElementException" (fn_SM_steps Z w x1 x2 x3 x4).1) := by
  obtain ⟨g1, g2, ⟨n, g3⟩, k, g4⟩ := id h
  obtain ⟨i1, i2⟩ := isC g3 x1
  have hn := g3.2.2.1
  have m2 := md_in0 x2 (a := 0) (b := 2) (c := 0) (d := 2) rfl rfl
  have m3 := md_in0 x3 (a := 0) (b := 7) (c := 0) (d := 7) rfl rfl
  have m4 := md_in0 x4 (a := 0) (b := 37) (c := 0) (d := 37) rfl rfl
  by_cases hc : 0 ≤ x1.toInt ∧ x1.toInt < n
  · by_cases hp : (0 ≤ x2.toInt ∧ x2.toInt ≤ 2 ∧ 0 ≤ x3.toInt ∧ x3.toInt ≤ 7) ∧ 0 ≤ x4.toInt ∧ x4.toInt ≤ 37
    · have e2 : fn_Md_steps w' x1 x2 x3 x4 = fn_Md_steps_56 w' x1 x2 x3 x4 false false := by
        unfold fn_Md_steps fn_Md_steps_14 fn_Md_steps_51
        grind (splits := 40)
      obtain ⟨c, hc2, rfl⟩ := bn_ex hc.1
      rw [bn_i hc2] at hc
      have hcn : c < n := by omega
      have e1 : fn_SM_steps Z w (nI c) x2 x3 x4 = (.inl (), up2 (up2 (up2 w (9 + 6 * c) 0 x2) (9 + 6 * c) 1 x3) (5 + 6 * c) 4 x4, Z) := by
        unfold fn_SM_steps
        rw [if_pos (i2.2 (by rw [bn_i hc2]; omega)), if_pos (by unfold fn_Ru_isStepping; simp only [decide_eq_true_eq]; exact hp.1), if_pos (by unfold fn_Ru_isShift; simp only [decide_eq_true_eq]; exact hp.2), bn_nn _ hc2]
      have e2 : fn_Md_steps w' (nI c) x2 x3 x4 = some (up2 (up2 (up2 (up2 w' 0 0 0) 6 (8 * c + 5) x2) 6 (8 * c + 6) x3) 6 (8 * c + 7) x4) := by
        rw [e2]
        simp only [fn_Md_steps_56, md_ref0, Bool.false_eq_true, if_false, bn_lit, bn_mul, bn_add]
        simp (disch := omega) only [bn_i, Int.toNat_natCast]
        rw [if_pos (by omega), if_pos (by omega), if_pos (by omega)]
      refine ⟨_, e2, ?_⟩
      rw [e1]
      simp only [cd2]
      refine pok_c h g3 hcn _ (fun a j h7 => ?_) ?_ (fun a j h7 h8 => ?_) (fun hr => ?_)
      · simp (disch := omega) only [u2n]
      · simp (disch := omega) only [u2n, u2e]
      · unfold inc at h8
        simp (disch := omega) only [u2n]
      · unfold rc at *
        simp (disch := omega) only [u2n, u2e]
        grind (splits := 40)
    · have e1 : fn_SM_steps Z w x1 x2 x3 x4 = (.inr "java/lang/IllegalArgumentException", w, Z) := by
        unfold fn_SM_steps
        rw [if_pos (i2.2 hc)]
        unfold fn_Ru_isStepping fn_Ru_isShift; grind (splits := 40)
      have e2 : fn_Md_steps w' x1 x2 x3 x4 = some (up2 w' 0 0 2) := by
        have : fn_Md_steps w' x1 x2 x3 x4 = fn_Md_steps_56 w' x1 x2 x3 x4 true false := by
          unfold fn_Md_steps fn_Md_steps_14 fn_Md_steps_51
          try simp only [bi_lt, bi_le, bi_eq, bi_l]
          grind (splits := 40)
        rw [this]; unfold fn_Md_steps_56
        simp only [md_refF, if_true]
      rw [e1]
      exact ⟨_, e2, pok_t h _ _⟩
  · have e1 : fn_SM_steps Z w x1 x2 x3 x4 = (.inr "java/util/NoSuchElementException", w, Z) := by
      unfold fn_SM_steps
      rw [if_neg (fun x => hc (i2.1 x))]
    have e2 : fn_Md_steps w' x1 x2 x3 x4 = some (up2 w' 0 0 1) := by
      have : fn_Md_steps w' x1 x2 x3 x4 = fn_Md_steps_56 w' x1 x2 x3 x4 true true ∨ fn_Md_steps w' x1 x2 x3 x4 = fn_Md_steps_56 w' x1 x2 x3 x4 false true := by
        unfold fn_Md_steps fn_Md_steps_14 fn_Md_steps_51
        grind (splits := 40)
      rcases this with e | e
      · rw [e]; unfold fn_Md_steps_56
        simp only [md_refT, if_true]
      · rw [e]; unfold fn_Md_steps_56
        simp only [md_refT, if_true]
    rw [e1]
    exact ⟨_, e2, pok_t h _ _⟩
theorem b_step (Z : zd) {w w' : wd} (h : rpl w w') (x1 x2 x3 : Int32) :
   ∃ w1', fn_Md_step w' x1 x2 x3 = some w1' ∧ pok Z w w' (fn_SM_step Z w x1 x2 x3) w1' (cd2 "java/util/NoSuchElementException" (fn_SM_step Z w x1 x2 x3).1) := by
  obtain ⟨g1, g2, ⟨n, g3⟩, k, g4⟩ := id h
  obtain ⟨i1, i2⟩ := isC g3 x1
  have hn := g3.2.2.1
  have m2 := md_in0 x2 (a := 0) (b := 96) (c := 0) (d := 96) rfl rfl
  have m3 := md_in0 x3 (a := 0) (b := 65535) (c := 0) (d := 65535) rfl rfl
  by_cases hc : 0 ≤ x1.toInt ∧ x1.toInt < n
  · by_cases hp : 0 ≤ x2.toInt ∧ x2.toInt ≤ 96 ∧ 0 ≤ x3.toInt ∧ x3.toInt ≤ 65535
    · have e2 : fn_Md_step w' x1 x2 x3 = fn_Md_step_43 w' x1 x2 x3 false false := by
        unfold fn_Md_step fn_Md_step_14 fn_Md_step_38
        grind (splits := 40)
      obtain ⟨c, hc2, rfl⟩ := bn_ex hc.1
      obtain ⟨r, hr2, rfl⟩ := bn_ex hp.1
      rw [bn_i hc2] at hc
      have hcn : c < n := by omega
      have hr : r < 97 := by have := hp.2.1; rw [bn_i hr2] at this; omega
      have e1 : fn_SM_step Z w (nI c) (nI r) x3 = (.inl (), up2 w (10 + 6 * c) r x3, Z) := by
        unfold fn_SM_step
        rw [if_pos (i2.2 (by rw [bn_i hc2]; omega)), bn_nn _ hc2]
        unfold fn_St_setValue
        simp only [bi_lt, bi_le, bi_l, bn_nn _ hr2] at *
        grind (splits := 40)
      have e2 : fn_Md_step w' (nI c) (nI r) x3 = some (up2 (up2 w' 0 0 0) 9 (97 * c + r) x3) := by
        rw [e2]
        simp only [fn_Md_step_43, md_ref0, Bool.false_eq_true, if_false, bn_lit, bn_mul, bn_add]
        simp (disch := omega) only [bn_i, Int.toNat_natCast]
        rw [if_pos (by omega)]
      have q1 : 0 ≤ x3 := by rw [bi_le]; exact hp.2.2.1
      have q2 : x3 ≤ 65535 := by rw [bi_le]; exact hp.2.2.2
      refine ⟨_, e2, ?_⟩
      rw [e1]
      simp only [cd2]
      refine pok_c h g3 hcn _ (fun a j h7 => ?_) ?_ (fun a j h7 h8 => ?_) (fun hr => ?_)
      · simp (disch := omega) only [u2n]
      · simp (disch := omega) only [u2n, u2e]
      · unfold inc at h8
        simp (disch := omega) only [u2n]
      · unfold rc at *
        simp (disch := omega) only [u2n]
        obtain ⟨a1, a2, a3, a4, a5, a6, a7⟩ := hr
        refine ⟨a1, a2, a3, a4, a5, a6, fun k hk => ?_⟩
        have := a7 k hk
        by_cases hkr : k = r
        · subst hkr
          simp (disch := omega) only [u2e]
          exact ⟨trivial, q1, q2⟩
        · simp (disch := omega) only [u2n]
          exact this
    · have e1 : fn_SM_step Z w x1 x2 x3 = (.inr "java/lang/IllegalArgumentException", w, Z) := by
        unfold fn_SM_step
        rw [if_pos (i2.2 hc)]
        simp only [bi_lt, bi_le, bi_l]; grind (splits := 40)
      have e2 : fn_Md_step w' x1 x2 x3 = some (up2 w' 0 0 2) := by
        have : fn_Md_step w' x1 x2 x3 = fn_Md_step_43 w' x1 x2 x3 true false := by
          unfold fn_Md_step fn_Md_step_14 fn_Md_step_38
          try simp only [bi_lt, bi_le, bi_eq, bi_l]
          grind (splits := 40)
        rw [this]; unfold fn_Md_step_43
        simp only [md_refF, if_true]
      rw [e1]
      exact ⟨_, e2, pok_t h _ _⟩
  · have e1 : fn_SM_step Z w x1 x2 x3 = (.inr "java/util/NoSuchElementException", w, Z) := by
      unfold fn_SM_step
      rw [if_neg (fun x => hc (i2.1 x))]
    have e2 : fn_Md_step w' x1 x2 x3 = some (up2 w' 0 0 1) := by
      have : fn_Md_step w' x1 x2 x3 = fn_Md_step_43 w' x1 x2 x3 true true ∨ fn_Md_step w' x1 x2 x3 = fn_Md_step_43 w' x1 x2 x3 false true := by
        unfold fn_Md_step fn_Md_step_14 fn_Md_step_38
        grind (splits := 40)
      rcases this with e | e
      · rw [e]; unfold fn_Md_step_43
        simp only [md_refT, if_true]
      · rw [e]; unfold fn_Md_step_43
        simp only [md_refT, if_true]
    rw [e1]
    exact ⟨_, e2, pok_t h _ _⟩
