/-! mathematics of both state tables, part 24; from wip/math -/
theorem body_lf {F : Nat} {w' : wd} {l : List Nat} {b : Nat} (hs : str w' l) (hb : b < l.length) (t : Bool) (g : Nat) (r : Nat) : fn_Md_isBody_86 F (g + 1) w' (nI b) t false (nI r) = some false := by
  rw [fn_Md_isBody_86, md_u1 hs hb, Option.bind_some]
  cases t <;> simp
theorem body_lt {F : Nat} {w w' : wd} {Z : zd} {l : List Nat} {p m n k : Nat} (hs : str w' l) (h : at_ w Z l p m n) (hk : k < 10) (hL : u1 l (p + 4 + k) ≤ 32) (hb : p + 4 + k + 5 + u1 l (p + 4 + k) < l.length) (g : Nat) : ∀ r, 1 ≤ r → r ≤ u1 l (p + 4 + k) + 1 → u1 l (p + 4 + k) + 1 - r < g → ∃ b, fn_Md_isBody_86 F (g + 1) w' (nI (p + 4 + k)) true true (nI r) = some b ∧ fn_Sc_hasBody_54 F Z g w (nI k) true (nI (u1 l (p + 4 + k))) (nI r) = some b := by
  have T : ∀ k, k < 100000 → fn_Sc_told Z w (nI k) = nI (u1 l (p + 4 + k)) := fun k hk => told h hk
  obtain ⟨h1, h2, h3, h4, h5, h6, h7, h8⟩ := id h
  have hl := h2.1
  induction g with
  | zero => intro r _ _ h; omega
  | succ g ih =>
    intro r hr0 hr1 hr2
    rw [fn_Md_isBody_86, fn_Sc_hasBody_54, md_u1 hs (by omega), Option.bind_some, if_pos rfl]
    simp only [bn_lt (show u1 l (p + 4 + k) < 2147483648 by omega) (show r < 2147483648 by omega), if_true]
    by_cases c : u1 l (p + 4 + k) < r
    · rw [if_pos c, if_pos c]
      exact ⟨_, rfl, rfl⟩
    · rw [if_neg c, if_neg c]
      simp only [bn_a, bn_add]
      rw [T _ (by omega), md_u1 hs (by omega), show p + 4 + (k + 5 + r) = p + 4 + k + 5 + r by omega]
      simp only [Option.bind_some]
      have a1 := u1_lt h2 (p + 4 + k + 5 + r)
      generalize u1 l (p + 4 + k + 5 + r) = x at *
      rw [show (16 : Int32) = nI 16 from rfl, bn_rem (by omega) (by omega), bn_div (by omega) (by omega), an15 (by omega), show (4 : Int32) = nI 4 from rfl, bn_shr (by omega) (by omega)]
      have R : fn_Ru_isPrecinct (nI r) (nI (x % 16)) (nI (x / 2 ^ 4)) = decide (0 < x % 16 ∧ 0 < x / 16) := by
        unfold fn_Ru_isPrecinct
        rw [bn_i (by omega), bn_i (by omega), bn_i (by omega), if_neg (by omega), decide_eq_decide]
        omega
      rw [R]
      unfold fn_Md_isBody_140 fn_Md_isBody_141
      simp only [bn_a, show (0 : Int32) = nI 0 from rfl]
      simp (disch := omega) only [bn_le]
      have ff : fn_Md_isBody_86 F (g + 1) w' (nI (p + 4 + k)) true false (nI (r + 1)) = some false := body_lf hs (by omega) true g (r + 1)
      rw [ff]
      obtain ⟨b, b1, b2⟩ := ih (r + 1) (by omega) (by omega) (by omega)
      rw [b1, b2]
      by_cases d1 : 0 < x % 16
      · by_cases d2 : 0 < x / 16
        · rw [if_neg (by omega), if_neg (by omega), if_pos (by simp; omega)]
          exact ⟨b, rfl, rfl⟩
        · rw [if_neg (by omega), if_pos (by omega), if_neg (by simp; omega)]
          exact ⟨_, rfl, rfl⟩
      · rw [if_pos (by omega), if_neg (by simp; omega)]
        exact ⟨_, rfl, rfl⟩
theorem md_body {F : Nat} (hF : 200 ≤ F) {w w' : wd} {Z : zd} {l : List Nat} {p m n k : Nat} (hs : str w' l) (h : at_ w Z l p m n) (hk : k < 10) (hb4 : p + 4 + k + 4 < l.length) (t : Bool) (hb : t = true → p + 4 + k + 5 + u1 l (p + 4 + k) < l.length) : ∃ b, fn_Md_isBody F w' (nI (p + 4 + k)) t = some b ∧ fn_Sc_hasBody F Z w (nI k) t = some b ∧ (b = true → u1 l (p + 4 + k) ≤ 32 ∧ u1 l (p + 4 + k + 4) ≤ 1) := by
  have T : ∀ k, k < 100000 → fn_Sc_told Z w (nI k) = nI (u1 l (p + 4 + k)) := fun k hk => told h hk
  obtain ⟨h1, h2, h3, h4, h5, h6, h7, h8⟩ := id h
  have hl := h2.1
  have a0 := u1_lt h2 (p + 4 + k)
  have a1 := u1_lt h2 (p + 4 + k + 1)
  have a2 := u1_lt h2 (p + 4 + k + 2)
  have a3 := u1_lt h2 (p + 4 + k + 3)
  have a4 := u1_lt h2 (p + 4 + k + 4)
  obtain ⟨F', hF'⟩ : ∃ F', F = F' + 1 := ⟨F - 1, by omega⟩
  have ff : fn_Md_isBody_86 F F w' (nI (p + 4 + k)) t false 1 = some false := by
    have := body_lf (F := F) hs (show p + 4 + k < l.length by omega) t F' 1
    rw [← hF'] at this; exact this
  by_cases G : u1 l (p + 4 + k) ≤ 32 ∧ u1 l (p + 4 + k + 1) ≤ 8 ∧ u1 l (p + 4 + k + 2) ≤ 8 ∧ u1 l (p + 4 + k + 1) + u1 l (p + 4 + k + 2) ≤ 8 ∧ u1 l (p + 4 + k + 3) < 64 ∧ u1 l (p + 4 + k + 4) ≤ 1
  · have eM : fn_Md_isBody F w' (nI (p + 4 + k)) t = fn_Md_isBody_86 F F w' (nI (p + 4 + k)) t true 1 := by
      unfold fn_Md_isBody fn_Md_isBody_82 fn_Md_isBody_81
      simp only [bn_a]
      rw [md_u1 hs (by omega), md_u1 hs (by omega), md_u1 hs (by omega), md_u1 hs (by omega), md_u1 hs (by omega)]
      simp only [Option.bind_some, bn_add]
      simp only [show (32 : Int32) = nI 32 from rfl, show (8 : Int32) = nI 8 from rfl, show (64 : Int32) = nI 64 from rfl]
      rw [show (1 : Int32) = nI 1 from rfl]
      simp (disch := omega) only [bn_lt, bn_le]
      rw [if_neg (by omega), if_neg (by omega), if_neg (by omega), if_neg (by omega), if_neg (by omega), if_neg (by omega)]
    have eS : fn_Sc_hasBody F Z w (nI k) t = fn_Sc_hasBody_54 F Z F w (nI k) t (nI (u1 l (p + 4 + k))) 0 := by
      unfold fn_Sc_hasBody
      simp only [bn_a]
      rw [T _ (by omega), T _ (by omega), T _ (by omega), T _ (by omega), T _ (by omega)]
      simp only [show p + 4 + (k + 1) = p + 4 + k + 1 by omega, show p + 4 + (k + 2) = p + 4 + k + 2 by omega, show p + 4 + (k + 3) = p + 4 + k + 3 by omega, show p + 4 + (k + 4) = p + 4 + k + 4 by omega, bn_a]
      rw [if_pos, if_pos]
      · rw [show (1 : Int32) = nI 1 from rfl, bn_le (by omega) (by omega)]; omega
      · unfold fn_Ru_isCoding
        rw [bn_add, bn_i (by omega), bn_i (by omega), bn_i (by omega), bn_i (by omega), bn_i (by omega)]
        simp
        omega
    rw [eM, eS]
    cases t with
    | false =>
      refine ⟨true, ?_, ?_, fun _ => ⟨G.1, G.2.2.2.2.2⟩⟩
      · rw [hF', fn_Md_isBody_86, md_u1 hs (by omega), Option.bind_some]
        simp
      · rw [hF', fn_Sc_hasBody_54]
        simp
    | true =>
      obtain ⟨b, b1, b2⟩ := body_lt (F := F) hs h hk G.1 (hb rfl) F' 1 (by omega) (by omega) (by omega)
      refine ⟨b, by rw [hF'] at *; exact b1, ?_, fun _ => ⟨G.1, G.2.2.2.2.2⟩⟩
      have : fn_Sc_hasBody_54 F Z (F' + 1) w (nI k) true (nI (u1 l (p + 4 + k))) (nI 0) = some b := by
        rw [fn_Sc_hasBody_54, if_pos rfl, if_neg (by rw [bn_lt (by omega) (by omega)]; omega), if_pos]
        · simp only [bn_a]
          exact b2
        · simp only [bn_a, bn_add]
          rw [T _ (by omega)]
          have a5 := u1_lt h2 (p + 4 + (k + 5 + 0))
          generalize u1 l (p + 4 + (k + 5 + 0)) = x at *
          rw [an15 (by omega), show (4 : Int32) = nI 4 from rfl, bn_shr (by omega) (by omega)]
          unfold fn_Ru_isPrecinct
          rw [bn_i (by omega), bn_i (by omega), bn_i (by omega), if_pos (by omega)]
          simp
          omega
      rw [← hF'] at this
      exact this
  · have eM : fn_Md_isBody F w' (nI (p + 4 + k)) t = some false := by
      unfold fn_Md_isBody fn_Md_isBody_81 fn_Md_isBody_82
      simp only [bn_a]
      rw [md_u1 hs (by omega), md_u1 hs (by omega), md_u1 hs (by omega), md_u1 hs (by omega), md_u1 hs (by omega)]
      simp only [Option.bind_some, bn_add, ff]
      simp only [show (32 : Int32) = nI 32 from rfl, show (8 : Int32) = nI 8 from rfl, show (64 : Int32) = nI 64 from rfl]
      rw [show (1 : Int32) = nI 1 from rfl]
      simp (disch := omega) only [bn_lt, bn_le]
      grind (splits := 40)
    have eS : fn_Sc_hasBody F Z w (nI k) t = some false := by
      unfold fn_Sc_hasBody
      simp only [bn_a]
      rw [T _ (by omega), T _ (by omega), T _ (by omega), T _ (by omega), T _ (by omega)]
      simp only [show p + 4 + (k + 1) = p + 4 + k + 1 by omega, show p + 4 + (k + 2) = p + 4 + k + 2 by omega, show p + 4 + (k + 3) = p + 4 + k + 3 by omega, show p + 4 + (k + 4) = p + 4 + k + 4 by omega, bn_a]
      unfold fn_Ru_isCoding
      rw [bn_add, bn_i (by omega), bn_i (by omega), bn_i (by omega), bn_i (by omega), bn_i (by omega)]
      by_cases c : u1 l (p + 4 + k + 4) ≤ 1
      · rw [if_neg]
        simp
        omega
      · rw [if_neg (show ¬ nI (u1 l (p + 4 + k + 4)) ≤ 1 by rw [show (1 : Int32) = nI 1 from rfl, bn_le (by omega) (by omega)]; omega)]
        simp
    exact ⟨false, eM, eS, fun h => nomatch h⟩
theorem chg_l {F : Nat} {w w' : wd} {Z : zd} {l : List Nat} {p m n q : Nat} (hs : str w' l) (h : at_ w Z l p m n) (hn : n = u2 l (p + 2)) (hn2 : 2 ≤ n) (hq : q = (n - 2) / 7) (g : Nat) : ∀ c, c ≤ q → q - c < g → ∃ b, fn_Md_areChanges_4 F g w' (nI p) true (nI c) = some b ∧ fn_Sc_hasChanges_12 F Z g w (nI q) (nI c) = some b := by
  have T : ∀ k, k < 100000 → fn_Sc_told Z w (nI k) = nI (u1 l (p + 4 + k)) := fun k hk => told h hk
  have T2 : ∀ k, p + 4 + k + 1 < l.length → fn_Sc_told2 Z w (nI k) = nI (u2 l (p + 4 + k)) := fun k hk => told2 h hk
  obtain ⟨h1, h2, h3, h4, h5, h6, h7, h8⟩ := id h
  have hl := h2.1
  induction g with
  | zero => intro c _ h; omega
  | succ g ih =>
    intro c hc1 hc2
    rw [fn_Md_areChanges_4, fn_Sc_hasChanges_12]
    have e7 : (7 : Int32) * nI c = nI (7 * c) := bn_mul 7 c
    simp only [bn_a, e7, bn_add]
    rw [md_u2 hs (by omega), Option.bind_some, ← hn, show (2 : Int32) = nI 2 from rfl, bn_sub hn2, show (7 : Int32) = nI 7 from rfl, bn_div (by omega) (by omega), ← hq]
    simp only [bn_le (show q < 2147483648 by omega) (show c < 2147483648 by omega), if_true]
    by_cases hc : q ≤ c
    · rw [if_pos hc, if_pos hc]
      exact ⟨_, rfl, rfl⟩
    · have hin : p + 4 + 7 * c + 6 < l.length := by omega
      rw [if_neg hc, if_neg hc, T _ (by omega), md_u1 hs (by omega), Option.bind_some, Option.bind_some, show p + 4 + (7 * c + 5) = p + 4 + 7 * c + 5 by omega]
      unfold fn_Md_areChanges_59 fn_Sc_hasChanges_45 fn_Md_areChanges_133 fn_Md_areChanges_134
      simp only [bn_a, show nI 2 = (2 : Int32) from rfl]
      rw [T _ (by omega), T _ (by omega), T2 _ (by omega), T _ (by omega), T _ (by omega), md_u1 hs (by omega), md_u1 hs (by omega), md_u1 hs (by omega), md_u2 hs (by omega), md_u1 hs (by omega)]
      simp only [Option.bind_some, show p + 4 + (7 * c + 1) = p + 4 + 7 * c + 1 by omega, show p + 4 + (7 * c + 2) = p + 4 + 7 * c + 2 by omega, show p + 4 + (7 * c + 4) = p + 4 + 7 * c + 4 by omega, show p + 4 + (7 * c + 6) = p + 4 + 7 * c + 6 by omega, show p + 4 + (7 * c) = p + 4 + 7 * c by omega]
      have a0 := u1_lt h2 (p + 4 + 7 * c)
      have a1 := u1_lt h2 (p + 4 + 7 * c + 1)
      have a2 := u2_lt h2 (p + 4 + 7 * c + 2)
      have a4 := u1_lt h2 (p + 4 + 7 * c + 4)
      have a5 := u1_lt h2 (p + 4 + 7 * c + 5)
      have a6 := u1_lt h2 (p + 4 + 7 * c + 6)
      generalize u1 l (p + 4 + 7 * c) = x0 at *
      generalize u1 l (p + 4 + 7 * c + 1) = x1 at *
      generalize u2 l (p + 4 + 7 * c + 2) = x2 at *
      generalize u1 l (p + 4 + 7 * c + 4) = x4 at *
      generalize u1 l (p + 4 + 7 * c + 5) = x5 at *
      generalize u1 l (p + 4 + 7 * c + 6) = x6 at *
      have ff : fn_Md_areChanges_4 F g w' (nI p) false (nI (c + 1)) = some false := by
        obtain ⟨g', rfl⟩ : ∃ g', g = g' + 1 := ⟨g - 1, by omega⟩
        rw [fn_Md_areChanges_4]
        simp only [bn_a]
        rw [md_u2 hs (by omega), Option.bind_some]
        simp
      obtain ⟨b, b1, b2⟩ := ih (c + 1) (by omega) (by omega)
      rw [b1, b2, ff]
      have R : ∀ e : Nat, e ≤ 256 → fn_Ru_isChange (nI x0) (nI x1) (nI x2) (nI x4) (nI e) (nI x6) = decide (x0 < x4 ∧ x4 ≤ 33 ∧ x1 < e ∧ 1 ≤ x2 ∧ x6 ≤ 4) := by
        intro e he
        unfold fn_Ru_isChange
        rw [bn_i (by omega), bn_i (by omega), bn_i (by omega), bn_i (by omega), bn_i (by omega), bn_i (by omega), decide_eq_decide]
        omega
      have M : ∀ e : Nat, e ≤ 256 → (if nI x4 ≤ nI x0 then some false else if 33 < nI x4 then some false else if nI e ≤ nI x1 then some false else if nI x2 < 1 then some false else if 4 < nI x6 then some false else some b : Option Bool) = if decide (x0 < x4 ∧ x4 ≤ 33 ∧ x1 < e ∧ 1 ≤ x2 ∧ x6 ≤ 4) = true then some b else some false := by
        intro e he
        simp only [show (33 : Int32) = nI 33 from rfl, show (1 : Int32) = nI 1 from rfl, show (4 : Int32) = nI 4 from rfl]
        simp (disch := omega) only [bn_le, bn_lt]
        grind
      by_cases z5 : nI x5 = 0
      · rw [if_pos z5, if_pos z5, show (256 : Int32) = nI 256 from rfl, R 256 (by omega), M 256 (by omega)]
        exact ⟨if decide (x0 < x4 ∧ x4 ≤ 33 ∧ x1 < 256 ∧ 1 ≤ x2 ∧ x6 ≤ 4) = true then b else false, by split <;> rfl, by split <;> rfl⟩
      · rw [if_neg z5, if_neg z5, R x5 (by omega), M x5 (by omega)]
        exact ⟨if decide (x0 < x4 ∧ x4 ≤ 33 ∧ x1 < x5 ∧ 1 ≤ x2 ∧ x6 ≤ 4) = true then b else false, by split <;> rfl, by split <;> rfl⟩
