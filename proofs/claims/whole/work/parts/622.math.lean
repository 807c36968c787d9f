/-! mathematics of both state tables, part 22; from wip/math -/
theorem len_of {w : wd} {Z : zd} {l : List Nat} {p m n : Nat} (h : at_ w Z l p m n) (hL : fn_Md_hasLength (nI m) = true) (hh : fn_Sc_hasLength Z w = true) : (m = 81 → 38 ≤ n ∧ n = 38 + 3 * u2 l (p + 38)) ∧ (m = 82 → 12 ≤ n ∧ n = 12 + (if u1 l (p + 4) % 2 = 1 then u1 l (p + 9) + 1 else 0)) ∧ (m = 83 → 9 ≤ n ∧ n = 9 + (if u1 l (p + 5) % 2 = 1 then u1 l (p + 6) + 1 else 0)) ∧ (m = 92 → 3 ≤ n) ∧ (m = 93 → 4 ≤ n) ∧ (m = 94 → n = 5) ∧ (m = 95 → 2 ≤ n) ∧ (m = 96 ∨ m = 97 → 3 ≤ n) ∧ (m = 144 → n = 10) ∧ 2 ≤ n := by
  have T : ∀ k, k < 100000 → fn_Sc_told Z w (nI k) = nI (u1 l (p + 4 + k)) := fun k hk => told h hk
  have T2 : ∀ k, p + 4 + k + 1 < l.length → fn_Sc_told2 Z w (nI k) = nI (u2 l (p + 4 + k)) := fun k hk => told2 h hk
  obtain ⟨h1, h2, h3, h4, h5, h6, h7, h8⟩ := h
  have hsg := hasSeg m h5 Z h4
  unfold fn_Sc_hasLength at hh
  rw [hsg, hL, h4, h6] at hh
  by_cases m81 : m = 81
  · subst m81
    rw [if_pos (show nI 81 = 81 from rfl)] at hh
    have c : 38 ≤ n := by
      by_cases c : nI n < 38
      · rw [if_pos c] at hh; exact absurd hh (by decide)
      · rw [show (38 : Int32) = nI 38 from rfl, bn_lt (by omega) (by omega)] at c; omega
    have c1 : ¬ nI n < 38 := by rw [show (38 : Int32) = nI 38 from rfl, bn_lt (by omega) (by omega)]; omega
    rw [if_neg c1, show (34 : Int32) = nI 34 from rfl, T2 34 (by omega), bb, decide_eq_true_eq, show (3 : Int32) = nI 3 from rfl, bn_mul, show (38 : Int32) = nI 38 from rfl, bn_add] at hh
    have u := u2_lt h2 (p + 4 + 34)
    rw [bn_eq (by omega) (by omega)] at hh
    refine ⟨fun _ => ⟨c, hh⟩, ?_⟩
    omega
  rw [if_neg (show ¬ nI m = 81 by rw [show (81 : Int32) = nI 81 from rfl, bn_eq (by omega) (by omega)]; exact m81)] at hh
  by_cases m82 : m = 82
  · subst m82
    rw [if_pos (show nI 82 = 82 from rfl)] at hh
    have c : 12 ≤ n := by
      by_cases c : nI n < 12
      · rw [if_pos c] at hh; exact absurd hh (by decide)
      · rw [show (12 : Int32) = nI 12 from rfl, bn_lt (by omega) (by omega)] at c; omega
    have c1 : ¬ nI n < 12 := by rw [show (12 : Int32) = nI 12 from rfl, bn_lt (by omega) (by omega)]; omega
    have u := u1_lt h2 (p + 4)
    have u5 := u1_lt h2 (p + 9)
    unfold fn_Sc_precinctBytes at hh
    rw [if_neg c1, show (0 : Int32) = nI 0 from rfl, T 0 (by omega), show (5 : Int32) = nI 5 from rfl, T 5 (by omega), bb, decide_eq_true_eq, Nat.add_zero, an1 (by omega)] at hh
    refine ⟨fun x => by omega, fun _ => ⟨c, ?_⟩, by omega⟩
    by_cases f : u1 l (p + 4) % 2 = 1
    · rw [f, if_neg (show ¬ nI 1 = nI 0 by decide), (bn_a _).1] at hh
      rw [if_pos f]
      rw [show (12 : Int32) = nI 12 from rfl, bn_add, bn_eq (by omega) (by rw [show p + 4 + 5 = p + 9 from rfl]; omega)] at hh
      exact hh
    · rw [show u1 l (p + 4) % 2 = 0 by omega, if_pos rfl] at hh
      rw [if_neg f]
      rw [show (12 : Int32) = nI 12 from rfl, bn_add, bn_eq (by omega) (by omega)] at hh
      exact hh
  rw [if_neg (show ¬ nI m = 82 by rw [show (82 : Int32) = nI 82 from rfl, bn_eq (by omega) (by omega)]; exact m82)] at hh
  by_cases m83 : m = 83
  · subst m83
    rw [if_pos (show nI 83 = 83 from rfl)] at hh
    have c : 9 ≤ n := by
      by_cases c : nI n < 9
      · rw [if_pos c] at hh; exact absurd hh (by decide)
      · rw [show (9 : Int32) = nI 9 from rfl, bn_lt (by omega) (by omega)] at c; omega
    have c1 : ¬ nI n < 9 := by rw [show (9 : Int32) = nI 9 from rfl, bn_lt (by omega) (by omega)]; omega
    have u := u1_lt h2 (p + 5)
    have u5 := u1_lt h2 (p + 6)
    unfold fn_Sc_precinctBytes at hh
    rw [if_neg c1, show fn_Sc_told Z w 1 = nI (u1 l (p + 4 + 1)) from T 1 (by omega), show fn_Sc_told Z w 2 = nI (u1 l (p + 4 + 2)) from T 2 (by omega), bb, decide_eq_true_eq, an1 (show u1 l (p + 4 + 1) < 2147483648 by rw [show p + 4 + 1 = p + 5 from rfl]; omega)] at hh
    refine ⟨fun x => by omega, fun x => by omega, fun _ => ⟨c, ?_⟩, by omega⟩
    by_cases f : u1 l (p + 5) % 2 = 1
    · rw [show p + 4 + 1 = p + 5 from rfl, f, if_neg (show ¬ nI 1 = 0 by decide), (bn_a _).1] at hh
      rw [if_pos f]
      rw [show (9 : Int32) = nI 9 from rfl, bn_add, bn_eq (by omega) (by rw [show p + 4 + 2 = p + 6 from rfl]; omega)] at hh
      exact hh
    · rw [show p + 4 + 1 = p + 5 from rfl, show u1 l (p + 5) % 2 = 0 by omega, if_pos (show nI 0 = 0 from rfl)] at hh
      rw [if_neg f]
      rw [show (9 : Int32) = nI 9 from rfl, show (0 : Int32) = nI 0 from rfl, bn_add, bn_eq (by omega) (by omega)] at hh
      exact hh
  rw [if_neg (show ¬ nI m = 83 by rw [show (83 : Int32) = nI 83 from rfl, bn_eq (by omega) (by omega)]; exact m83)] at hh
  have S : ∀ k, k ≤ 1 → fn_Sc_hasLengthOfSteps Z w (nI k) = true → 3 + k ≤ n := by
    intro k hk hst
    by_cases c : n < 3 + k
    · unfold fn_Sc_hasLengthOfSteps at hst
      rw [h6, if_neg] at hst
      · exact absurd hst (by decide)
      · rw [show (nI n - 3 - nI k : Int32) = nI n - nI (3 + k) by rw [← bn_add, show nI 3 = (3 : Int32) from rfl]; grind]
        exact bn_ltz c (by omega)
    · omega
  by_cases m92 : m = 92
  · subst m92
    rw [if_pos (show nI 92 = 92 from rfl)] at hh
    have := S 0 (by omega) hh
    omega
  rw [if_neg (show ¬ nI m = 92 by rw [show (92 : Int32) = nI 92 from rfl, bn_eq (by omega) (by omega)]; exact m92)] at hh
  by_cases m93 : m = 93
  · subst m93
    rw [if_pos (show nI 93 = 93 from rfl)] at hh
    have := S 1 (by omega) hh
    omega
  rw [if_neg (show ¬ nI m = 93 by rw [show (93 : Int32) = nI 93 from rfl, bn_eq (by omega) (by omega)]; exact m93)] at hh
  refine ⟨fun x => by omega, fun x => by omega, fun x => by omega, fun x => by omega, fun x => by omega, ?_⟩
  simp only [bb, bb', if_true] at hh
  simp only [bn_lit] at hh
  simp (disch := omega) only [bn_lt, bn_le, bn_eq] at hh
  grind (splits := 40)
theorem tiles_n {w : wd} {Z : zd} {l : List Nat} {p m n : Nat} (h : at_ w Z l p m n) (hp : p + 38 ≤ l.length) (hP : picP l (p + 4)) : fn_Sc_toldTiles Z w = lN ((u4 l (p + 6) - u4 l (p + 30) + u4 l (p + 22) - 1) / u4 l (p + 22) * ((u4 l (p + 10) - u4 l (p + 34) + u4 l (p + 26) - 1) / u4 l (p + 26))) := by
  obtain ⟨h1, h2, h3, h4, h5, h6, h7, h8⟩ := h
  have hl := h2.1
  rw [picP_iff] at hP
  simp only [Nat.add_assoc p 4, Nat.reduceAdd] at hP
  unfold fn_Sc_toldTiles
  simp only [h1, h3, bn_a]
  have E : ∀ a, a + 3 < 38 → rw_u4 l (nI (p + a)) = u4 l (p + a) := fun a ha => ru4 hl (by omega)
  have e10 : rw_u4 l (nI p + 10) = u4 l (p + 10) := by rw [show (10 : Int32) = nI 10 from rfl, bn_add]; exact E 10 (by omega)
  simp only [E 6 (by omega), e10, E 22 (by omega), E 26 (by omega), E 30 (by omega), E 34 (by omega)]
  exact bl_ct (by omega) (by omega) (by omega) (by omega) (by omega) (by omega) (by omega) (by omega)
theorem cross_n {w' : wd} {l : List Nat} {d : Nat} (hs : str w' l) (hd : d + 34 ≤ l.length) (hP : picP l d) : fn_Md_across (lN (u4 l (d + 26))) (lN (u4 l (d + 2))) (lN (u4 l (d + 18))) = some (lN ((u4 l (d + 2) - u4 l (d + 26) + u4 l (d + 18) - 1) / u4 l (d + 18))) ∧ fn_Md_across (lN (u4 l (d + 30))) (lN (u4 l (d + 6))) (lN (u4 l (d + 22))) = some (lN ((u4 l (d + 6) - u4 l (d + 30) + u4 l (d + 22) - 1) / u4 l (d + 22))) ∧ 1 ≤ (u4 l (d + 2) - u4 l (d + 26) + u4 l (d + 18) - 1) / u4 l (d + 18) ∧ (u4 l (d + 2) - u4 l (d + 26) + u4 l (d + 18) - 1) / u4 l (d + 18) < 2147483648 ∧ 1 ≤ (u4 l (d + 6) - u4 l (d + 30) + u4 l (d + 22) - 1) / u4 l (d + 22) ∧ (u4 l (d + 6) - u4 l (d + 30) + u4 l (d + 22) - 1) / u4 l (d + 22) < 2147483648 := by
  rw [picP_iff] at hP
  have c1 := bl_cb (x := u4 l (d + 26)) (y := u4 l (d + 2)) (v := u4 l (d + 18)) (by omega) (by omega)
  have c2 := bl_cb (x := u4 l (d + 30)) (y := u4 l (d + 6)) (v := u4 l (d + 22)) (by omega) (by omega)
  exact ⟨bl_acr (by omega) (by omega) (by omega) (by omega), bl_acr (by omega) (by omega) (by omega) (by omega), c1.1, by omega, c2.1, by omega⟩
