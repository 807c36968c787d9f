/-! mathematics of both state tables, part 25; from wip/math -/
theorem md_value {F : Nat} (hF : 70000 ≤ F) {w w' : wd} {Z : zd} {l : List Nat} {p m n cn : Nat} {x : Int32} (hs : str w' l) (h : at_ w Z l p m n) (hn : n = u2 l (p + 2)) (hL : fn_Md_hasLength (nI m) = true) (hh : fn_Sc_hasLength Z w = true) (hm : m ≠ 144) (hm81 : m ≠ 81) (hcn : cn ≤ 16) (hc' : w' 0 35 = nI cn) (hc : w 105 9 = nI cn)
    (h96 : m = 96 → ∃ k, fn_Md_met F w' 96 x = some (nI k) ∧ w 105 11 = nI k) (h97 : m = 97 → ∃ k, fn_Md_met F w' 97 x = some (nI k) ∧ fn_Pt_headSegmentsOf w (w 105 12) = some (nI k)) :
    ∃ b, fn_Md_isValue F w' (nI m) (nI p) x = some b ∧ fn_Sc_hasValues F Z w = some b ∧ (b = true → (m = 83 ∨ m = 93 ∨ m = 94 → u1 l (p + 4) < cn) ∧ (m = 82 → u1 l (p + 8) ≤ 1 ∧ u1 l (p + 9) ≤ 32 ∧ u1 l (p + 13) ≤ 1) ∧ (m = 83 → u1 l (p + 5) ≤ 1 ∧ u1 l (p + 6) ≤ 32 ∧ u1 l (p + 10) ≤ 1)) := by
  have LN := len_of h hL hh
  have T : ∀ k, k < 100000 → fn_Sc_told Z w (nI k) = nI (u1 l (p + 4 + k)) := fun k hk => told h hk
  have T2 : ∀ k, p + 4 + k + 1 < l.length → fn_Sc_told2 Z w (nI k) = nI (u2 l (p + 4 + k)) := fun k hk => told2 h hk
  obtain ⟨h1, h2, h3, h4, h5, h6, h7, h8⟩ := id h
  have hl := h2.1
  unfold fn_Md_isValue fn_Sc_hasValues
  rw [h4, if_neg (show ¬ nI m = 81 from bn_e' (k := 81) h5 (by omega) hm81), if_neg (show ¬ nI m = 81 from bn_e' (k := 81) h5 (by omega) hm81)]
  have a4 := u1_lt h2 (p + 4)
  have a5 := u1_lt h2 (p + 4 + 1)
  have a6 := u1_lt h2 (p + 4 + 2)
  have t0 : fn_Sc_told Z w 0 = nI (u1 l (p + 4)) := T 0 (by omega)
  have t1 : fn_Sc_told Z w 1 = nI (u1 l (p + 4 + 1)) := T 1 (by omega)
  have t2 : fn_Sc_told Z w 2 = nI (u1 l (p + 4 + 2)) := T 2 (by omega)
  have th : ∀ k : Nat, k < 256 → fn_Md_isThere w' (nI k) = decide (k < cn) := by
    intro k hk
    unfold fn_Md_isThere
    rw [hc']
    simp (disch := omega) only [bn_le]
    grind
  by_cases m82 : m = 82
  · subst m82
    obtain ⟨q1, q2⟩ := LN.2.1 rfl
    rw [if_pos (show nI 82 = 82 from rfl), if_pos (show nI 82 = 82 from rfl)]
    simp only [bn_a]
    have a7 := u2_lt h2 (p + 4 + 2)
    have a8 := u1_lt h2 (p + 4 + 4)
    rw [t0, t1, show fn_Sc_told2 Z w 2 = _ from T2 2 (by omega), show fn_Sc_told Z w 4 = _ from T 4 (by omega), md_u1 hs (by omega), md_u1 hs (by omega), md_u2 hs (by omega), md_u1 hs (by omega)]
    simp only [Option.bind_some, an1 (show u1 l (p + 4) < 2147483648 by omega)]
    have ro : fn_Ru_isOrder (nI (u1 l (p + 4 + 1))) = decide (u1 l (p + 4 + 1) ≤ 4) := by
      unfold fn_Ru_isOrder
      rw [bn_i (by omega), decide_eq_decide]; omega
    rw [ro]
    obtain ⟨b, b1, b2, b3⟩ := md_body (show 200 ≤ F by omega) (k := 5) hs h (by omega) (by omega) (decide (u1 l (p + 4) % 2 = 1)) (fun f => by
      have f := of_decide_eq_true f
      rw [if_pos f] at q2
      rw [show p + 4 + 5 = p + 9 from rfl]
      omega)
    rw [show p + 4 + 5 = p + 9 from rfl] at b1
    have b3 : b = true → u1 l (p + 9) ≤ 32 ∧ u1 l (p + 13) ≤ 1 := b3
    have e1 : (if nI (u1 l (p + 4) % 2) = 1 then (fn_Md_isBody F w' (nI (p + 4 + 5)) true).bind fun r23 => if r23 = true then some true else some false else (fn_Md_isBody F w' (nI (p + 4 + 5)) false).bind fun r20 => if r20 = true then some true else some false) = some b := by
      simp only [obb]
      by_cases f : u1 l (p + 4) % 2 = 1
      · rw [decide_eq_true f] at b1
        rw [f, if_pos (show nI 1 = 1 from rfl), show p + 4 + 5 = p + 9 from rfl, b1, Option.bind_some]
      · rw [decide_eq_false f] at b1
        rw [show u1 l (p + 4) % 2 = 0 by omega, if_neg (show ¬ nI 0 = 1 by decide), show p + 4 + 5 = p + 9 from rfl, b1, Option.bind_some]
    have e2 : (if nI (u1 l (p + 4) % 2) = 0 then (fn_Sc_hasBody F Z w 5 false).bind fun r12 => if r12 = true then some true else some false else (fn_Sc_hasBody F Z w 5 true).bind fun r15 => if r15 = true then some true else some false) = some b := by
      simp only [obb]
      by_cases f : u1 l (p + 4) % 2 = 1
      · rw [decide_eq_true f] at b2
        rw [f, if_neg (show ¬ nI 1 = 0 by decide), show fn_Sc_hasBody F Z w 5 true = _ from b2, Option.bind_some]
      · rw [decide_eq_false f] at b2
        rw [show u1 l (p + 4) % 2 = 0 by omega, if_pos (show nI 0 = 0 from rfl), show fn_Sc_hasBody F Z w 5 false = _ from b2, Option.bind_some]
    rw [e1, e2]
    simp only [show (8 : Int32) = nI 8 from rfl, show (4 : Int32) = nI 4 from rfl, show (1 : Int32) = nI 1 from rfl, show (7 : Int32) = nI 7 from rfl]
    simp (disch := omega) only [bn_le, bn_lt]
    by_cases G : u1 l (p + 4) < 8 ∧ u1 l (p + 4 + 1) ≤ 4 ∧ 1 ≤ u2 l (p + 4 + 2) ∧ u1 l (p + 4 + 4) ≤ 1
    · refine ⟨b, ?_, ?_, fun hb => ⟨fun x => by omega, fun _ => ⟨G.2.2.2, b3 hb⟩, fun x => by omega⟩⟩
      · rw [if_neg (by omega), if_neg (by omega), if_neg (by omega), if_neg (by omega)]
      · rw [if_neg (by omega), if_pos (by simp; omega), if_neg (by omega), if_neg (by omega)]
    · refine ⟨false, ?_, ?_, fun h => nomatch h⟩
      · grind
      · grind
  rw [if_neg (show ¬ nI m = 82 from bn_e' (k := 82) h5 (by omega) m82), if_neg (show ¬ nI m = 82 from bn_e' (k := 82) h5 (by omega) m82)]
  by_cases m83 : m = 83
  · subst m83
    obtain ⟨q1, q2⟩ := LN.2.2.1 rfl
    rw [if_pos (show nI 83 = 83 from rfl), if_pos (show nI 83 = 83 from rfl)]
    simp only [bn_a]
    rw [t0, t1, md_u1 hs (by omega), md_u1 hs (by omega), hc]
    simp only [Option.bind_some, an1 (show u1 l (p + 4 + 1) < 2147483648 by omega), th _ a4]
    obtain ⟨b, b1, b2, b3⟩ := md_body (show 200 ≤ F by omega) (k := 2) hs h (by omega) (by omega) (decide (u1 l (p + 4 + 1) % 2 = 1)) (fun f => by
      have f := of_decide_eq_true f
      rw [show p + 5 = p + 4 + 1 from rfl, if_pos f] at q2
      rw [show p + 4 + 2 = p + 6 from rfl]
      omega)
    rw [show p + 4 + 2 = p + 6 from rfl] at b1
    have b3 : b = true → u1 l (p + 6) ≤ 32 ∧ u1 l (p + 10) ≤ 1 := b3
    have e2 : (if nI (u1 l (p + 4 + 1) % 2) = 0 then (fn_Sc_hasBody F Z w 2 false).bind fun r12 => if r12 = true then some true else some false else (fn_Sc_hasBody F Z w 2 true).bind fun r15 => if r15 = true then some true else some false) = some b := by
      simp only [obb]
      by_cases f : u1 l (p + 4 + 1) % 2 = 1
      · rw [decide_eq_true f] at b2
        rw [f, if_neg (show ¬ nI 1 = 0 by decide), show fn_Sc_hasBody F Z w 2 true = _ from b2, Option.bind_some]
      · rw [decide_eq_false f] at b2
        rw [show u1 l (p + 4 + 1) % 2 = 0 by omega, if_pos (show nI 0 = 0 from rfl), show fn_Sc_hasBody F Z w 2 false = _ from b2, Option.bind_some]
    rw [e2]
    by_cases G : u1 l (p + 4) < cn ∧ u1 l (p + 4 + 1) < 2
    · have e1 : (if nI (u1 l (p + 4 + 1)) = 1 then (fn_Md_isBody F w' (nI (p + 4 + 2)) true).bind fun r23 => if r23 = true then some true else some false else (fn_Md_isBody F w' (nI (p + 4 + 2)) false).bind fun r20 => if r20 = true then some true else some false) = some b := by
        simp only [obb]
        by_cases f : u1 l (p + 4 + 1) % 2 = 1
        · rw [decide_eq_true f] at b1
          rw [show u1 l (p + 4 + 1) = 1 by omega, if_pos (show nI 1 = 1 from rfl), show p + 4 + 2 = p + 6 from rfl, b1, Option.bind_some]
        · rw [decide_eq_false f] at b1
          rw [show u1 l (p + 4 + 1) = 0 by omega, if_neg (show ¬ nI 0 = 1 by decide), show p + 4 + 2 = p + 6 from rfl, b1, Option.bind_some]
      refine ⟨b, ?_, ?_, fun hb => ⟨fun _ => G.1, fun x => by omega, fun _ => ⟨by have := G.2; rw [show p + 4 + 1 = p + 5 from rfl] at this; omega, b3 hb⟩⟩⟩
      · rw [e1, if_pos (by simp; omega), if_neg]
        rw [show (2 : Int32) = nI 2 from rfl, bn_le (by omega) (by omega)]; omega
      · rw [if_neg, if_neg]
        · rw [show (1 : Int32) = nI 1 from rfl, bn_lt (by omega) (by omega)]; omega
        · rw [bn_le (by omega) (by omega)]; omega
    · simp only [show (2 : Int32) = nI 2 from rfl, show (1 : Int32) = nI 1 from rfl]
      simp (disch := omega) only [bn_le, bn_lt]
      refine ⟨false, ?_, ?_, fun h => nomatch h⟩
      · grind
      · grind
  rw [if_neg (show ¬ nI m = 83 from bn_e' (k := 83) h5 (by omega) m83), if_neg (show ¬ nI m = 83 from bn_e' (k := 83) h5 (by omega) m83)]
  by_cases m92 : m = 92
  · subst m92
    have q1 := LN.2.2.2.1 rfl
    rw [if_neg (by decide), if_pos (show nI 92 = 92 from rfl), if_pos (show nI 92 = 92 from rfl)]
    simp only [bn_a]
    rw [t0, md_u1 hs (by omega), Option.bind_some, an31 (by omega), show (5 : Int32) = nI 5 from rfl, bn_shr (by omega) (by omega)]
    unfold fn_Ru_isStepping
    rw [bn_i (by omega), bn_i (by omega), ob', show (2 : Int32) = nI 2 from rfl]
    refine ⟨_, rfl, ?_, fun _ => by omega⟩
    congr 1
    rw [decide_eq_decide, bn_lt (by omega) (by omega)]
    omega
  by_cases m93 : m = 93
  · subst m93
    have q1 := LN.2.2.2.2.1 rfl
    rw [if_neg (by decide), if_neg (by decide), if_pos (show nI 93 = 93 from rfl), if_neg (by decide), if_pos (show nI 93 = 93 from rfl)]
    simp only [bn_a]
    rw [t0, t1, md_u1 hs (by omega), md_u1 hs (by omega), hc]
    simp only [Option.bind_some, th _ a4]
    rw [an31 (by omega), show (5 : Int32) = nI 5 from rfl, bn_shr (by omega) (by omega)]
    unfold fn_Ru_isStepping
    rw [bn_i (by omega), bn_i (by omega), ob', obb, show (2 : Int32) = nI 2 from rfl]
    by_cases G : u1 l (p + 4) < cn
    · rw [if_pos (by simpa using G), if_neg (by rw [bn_le (by omega) (by omega)]; omega)]
      refine ⟨_, rfl, ?_, fun _ => ⟨fun _ => G, fun x => by omega, fun x => by omega⟩⟩
      congr 1
      rw [decide_eq_decide, bn_lt (by omega) (by omega)]
      omega
    · rw [if_neg (by simpa using G), if_pos (by rw [bn_le (by omega) (by omega)]; omega)]
      exact ⟨_, rfl, rfl, fun h => nomatch h⟩
  by_cases m94 : m = 94
  · subst m94
    have q1 := LN.2.2.2.2.2.1 rfl
    rw [if_neg (by decide), if_neg (by decide), if_neg (by decide), if_pos (show nI 94 = 94 from rfl), if_neg (by decide), if_neg (by decide), if_pos (show nI 94 = 94 from rfl)]
    simp only [bn_a]
    rw [t0, t1, t2, md_u1 hs (by omega), md_u1 hs (by omega), md_u1 hs (by omega), hc]
    simp only [Option.bind_some, th _ a4]
    unfold fn_Ru_isShift
    rw [bn_i (by omega), ob', ob, show (37 : Int32) = nI 37 from rfl]
    have e0 : (nI (u1 l (p + 4 + 1)) = 0) = (u1 l (p + 4 + 1) = 0) := propext (bn_eq (b := 0) (by omega) (by omega))
    by_cases G : u1 l (p + 4) < cn
    · rw [if_pos (show decide (u1 l (p + 4) < cn) = true by simpa using G), if_neg (show ¬ nI cn ≤ nI (u1 l (p + 4)) by rw [bn_le (by omega) (by omega)]; omega)]
      simp only [e0]
      by_cases G1 : u1 l (p + 4 + 1) = 0
      · rw [if_pos G1, if_pos G1]
        refine ⟨_, rfl, ?_, fun _ => ⟨fun _ => G, fun x => by omega, fun x => by omega⟩⟩
        congr 1
        simp only [decide_eq_true_eq]
        rw [decide_eq_decide, bn_lt (by omega) (by omega)]
        omega
      · rw [if_neg G1, if_neg G1]
        exact ⟨_, rfl, rfl, fun h => nomatch h⟩
    · rw [if_neg (by simpa using G), if_pos (by rw [bn_le (by omega) (by omega)]; omega)]
      exact ⟨_, rfl, rfl, fun h => nomatch h⟩
  by_cases m95 : m = 95
  · subst m95
    have q1 := LN.2.2.2.2.2.2.1 rfl
    rw [if_neg (by decide), if_neg (by decide), if_neg (by decide), if_neg (by decide), if_pos (show nI 95 = 95 from rfl), if_neg (by decide), if_neg (by decide), if_neg (by decide), if_pos (show nI 95 = 95 from rfl)]
    unfold fn_Md_areChanges fn_Sc_hasChanges
    rw [h6]
    obtain ⟨b, b1, b2⟩ := chg_l (F := F) hs h hn q1 rfl F 0 (by omega) (by omega)
    rw [show (2 : Int32) = nI 2 from rfl, bn_sub q1, show (7 : Int32) = nI 7 from rfl, bn_div (by omega) (by omega), show (0 : Int32) = nI 0 from rfl, b1, b2, Option.bind_some]
    exact ⟨b, rfl, rfl, fun _ => by omega⟩
  by_cases m96 : m = 96
  · subst m96
    have q1 := LN.2.2.2.2.2.2.2.1 (.inl rfl)
    obtain ⟨k, k1, k2⟩ := h96 rfl
    rw [if_neg (by decide), if_neg (by decide), if_neg (by decide), if_neg (by decide), if_neg (by decide), if_pos (.inl (show nI 96 = 96 from rfl)), if_neg (by decide), if_neg (by decide), if_neg (by decide), if_neg (by decide), if_pos (show nI 96 = 96 from rfl)]
    simp only [bn_a]
    rw [t0, md_u1 hs (by omega), Option.bind_some, show fn_Md_met F w' (nI 96) x = _ from k1, Option.bind_some, k2, ob]
    exact ⟨_, rfl, rfl, fun _ => by omega⟩
  by_cases m97 : m = 97
  · subst m97
    have q1 := LN.2.2.2.2.2.2.2.1 (.inr rfl)
    obtain ⟨k, k1, k2⟩ := h97 rfl
    rw [if_neg (by decide), if_neg (by decide), if_neg (by decide), if_neg (by decide), if_neg (by decide), if_pos (.inr (show nI 97 = 97 from rfl)), if_neg (by decide), if_neg (by decide), if_neg (by decide), if_neg (by decide), if_neg (by decide), if_pos (show nI 97 = 97 from rfl)]
    simp only [bn_a]
    rw [t0, md_u1 hs (by omega), Option.bind_some, show fn_Md_met F w' (nI 97) x = _ from k1, Option.bind_some, k2, Option.bind_some, ob]
    exact ⟨_, rfl, rfl, fun _ => by omega⟩
  refine ⟨true, ?_, ?_, fun _ => by omega⟩
  · by_cases c : nI m = 84 ∨ nI m = 85 ∨ nI m = 86 ∨ nI m = 87 ∨ nI m = 88 ∨ nI m = 89 ∨ nI m = 90 ∨ nI m = 91
    · rw [if_pos c]
    · rw [if_neg c, if_neg (show ¬ nI m = 92 from bn_e' (k := 92) h5 (by omega) m92), if_neg (show ¬ nI m = 93 from bn_e' (k := 93) h5 (by omega) m93), if_neg (show ¬ nI m = 94 from bn_e' (k := 94) h5 (by omega) m94), if_neg (show ¬ nI m = 95 from bn_e' (k := 95) h5 (by omega) m95), if_neg (show ¬ (nI m = 96 ∨ nI m = 97) from fun x => x.elim (bn_e' (k := 96) h5 (by omega) m96) (bn_e' (k := 97) h5 (by omega) m97))]
  · rw [if_neg (show ¬ nI m = 92 from bn_e' (k := 92) h5 (by omega) m92), if_neg (show ¬ nI m = 93 from bn_e' (k := 93) h5 (by omega) m93), if_neg (show ¬ nI m = 94 from bn_e' (k := 94) h5 (by omega) m94), if_neg (show ¬ nI m = 95 from bn_e' (k := 95) h5 (by omega) m95), if_neg (show ¬ nI m = 96 from bn_e' (k := 96) h5 (by omega) m96), if_neg (show ¬ nI m = 97 from bn_e' (k := 97) h5 (by omega) m97), if_neg (show ¬ nI m = 144 from bn_e' (k := 144) h5 (by omega) hm)]
