/-! mathematics of both state tables, part 23; from wip/math -/
theorem bn_e' {m k : Nat} (hm : m < 256) (hk : k < 256) (h : ¬ m = k) : ¬ nI m = nI k := by rw [bn_eq (by omega) (by omega)]; exact h
theorem md_great {F : Nat} (hF : 200 ≤ F) {w w' : wd} {Z : zd} {l : List Nat} {p m n : Nat} (hs : str w' l) (h : at_ w Z l p m n) (hn : n = u2 l (p + 2)) (hp4 : p + 4 ≤ l.length) (hL : fn_Md_hasLength (nI m) = true) (hh : fn_Sc_hasLength Z w = true) (hm : m ≠ 144) : fn_Md_isGreat F w' (nI m) (nI p) = some (fn_Sc_isGreat Z w) := by
  have LN := len_of h hL hh
  have T2 : ∀ k, p + 4 + k + 1 < l.length → fn_Sc_told2 Z w (nI k) = nI (u2 l (p + 4 + k)) := fun k hk => told2 h hk
  obtain ⟨h1, h2, h3, h4, h5, h6, h7, h8⟩ := id h
  have hl := h2.1
  unfold fn_Md_isGreat fn_Sc_isGreat
  rw [h4]
  by_cases m81 : m = 81
  · subst m81
    have := LN.1 rfl
    have c := u2_lt h2 (p + 4 + 34)
    rw [if_pos (show nI 81 = 81 from rfl), if_pos (show nI 81 = 81 from rfl), show (34 : Int32) = nI 34 from rfl, T2 34 (by omega)]
    have A := sc_area h (by omega)
    simp only [bn_a]
    have E : ∀ a, a + 3 < 34 → fn_Md_u4 w' (nI (p + 4) + nI a) = some (lN (u4 l (p + 4 + a))) := fun a ha => by rw [bn_add]; exact md_u4 hs (by omega)
    have e2 := E 2 (by omega)
    have e6 := E 6 (by omega)
    have e18 := E 18 (by omega)
    have e22 := E 22 (by omega)
    have e26 := E 26 (by omega)
    have e30 := E 30 (by omega)
    have E' : ∀ a, a + 3 < 34 → fn_Md_u4 w' (nI (p + 4 + a)) = some (lN (u4 l (p + 4 + a))) := fun a ha => md_u4 hs (by omega)
    have G90 : ∀ x y : Nat, x < 2147483648 → y < 2147483648 → (1 ≤ x ∧ 1 ≤ y ∨ x = 0 ∧ y = 0) → fn_Md_isGreat_90 F w' (nI (p + 4)) (lN x) (lN y) = some (decide (16 < u2 l (p + 4 + 34) ∨ 64 < x * y)) := by
      intro x y hx hy hxy
      unfold fn_Md_isGreat_90
      rw [show (34 : Int32) = nI 34 from rfl, bn_add, md_u2 hs (by omega), Option.bind_some]
      have hxy2 : x * y ≤ 2147483647 * 2147483647 := Nat.mul_le_mul (by omega) (by omega)
      simp only [show (16 : Int32) = nI 16 from rfl, show (64 : Int64) = lN 64 from rfl, bl_mul]
      simp (disch := omega) only [bn_lt, bl_l, bl_e]
      rcases hxy with ⟨q1, q2⟩ | ⟨q1, q2⟩
      · have r1 : x * 1 ≤ x * y := Nat.mul_le_mul_left x q2
        have r2 : 1 * y ≤ x * y := Nat.mul_le_mul_right y q1
        grind
      · subst q1 q2
        grind
    rcases md_pic hF hs (show p + 4 + 34 ≤ l.length by omega) with ⟨P1, P2⟩ | ⟨P1, P2⟩
    · obtain ⟨X1, X2, X3, X4, X5, X6⟩ := cross_n hs (show p + 4 + 34 ≤ l.length by omega) P2
      rw [P1, Option.bind_some, if_pos rfl]
      unfold fn_Md_isGreat_52
      simp only [show (26 : Int32) = nI 26 from rfl, show (2 : Int32) = nI 2 from rfl, show (18 : Int32) = nI 18 from rfl, show (6 : Int32) = nI 6 from rfl, show (22 : Int32) = nI 22 from rfl, show (30 : Int32) = nI 30 from rfl, e2, e6, e18, e22, e26, e30, E' 2 (by omega), E' 6 (by omega), E' 18 (by omega), E' 22 (by omega), E' 26 (by omega), E' 30 (by omega), Option.bind_some, X1, X2, if_true]
      rw [G90 _ _ X4 X6 (.inl ⟨X3, X5⟩), A.2 P2, if_pos rfl, tiles_n h (by omega) P2]
      simp only [Nat.add_assoc p 4, Nat.reduceAdd] at *
      have hxy2 := Nat.mul_le_mul (Nat.le_of_lt_succ X4) (Nat.le_of_lt_succ X6)
      generalize (u4 l (p + 6) - u4 l (p + 30) + u4 l (p + 22) - 1) / u4 l (p + 22) * ((u4 l (p + 10) - u4 l (p + 34) + u4 l (p + 26) - 1) / u4 l (p + 26)) = q at *
      simp only [show (16 : Int32) = nI 16 from rfl, show (64 : Int64) = lN 64 from rfl]
      have r1 : (lN q ≤ lN 64) = (q ≤ 64) := propext (bl_e (by omega) (by omega))
      have r2 : (nI 16 < nI (u2 l (p + 38))) = (16 < u2 l (p + 38)) := propext (bn_lt (by omega) (by omega))
      simp only [r1, r2]
      grind
    · rw [P1, Option.bind_some, if_neg (by decide)]
      unfold fn_Md_isGreat_52
      rw [if_neg (by decide), show (0 : Int64) = lN 0 from rfl, G90 0 0 (by omega) (by omega) (.inr ⟨rfl, rfl⟩), if_neg (fun x => P2 (A.1 x))]
      have r2 : (16 < nI (u2 l (p + 4 + 34))) = (16 < u2 l (p + 4 + 34)) := by rw [show (16 : Int32) = nI 16 from rfl]; exact propext (bn_lt (by omega) (by omega))
      simp only [r2]
      grind
  rw [if_neg (show ¬ nI m = 81 from bn_e' (k := 81) h5 (by omega) m81), if_neg (show ¬ nI m = 81 from bn_e' (k := 81) h5 (by omega) m81)]
  unfold fn_Md_isGreat_160
  by_cases m82 : m = 82
  · subst m82
    have := LN.2.1 rfl
    rw [if_pos (show nI 82 = 82 from rfl), if_pos (show nI 82 = 82 from rfl), show fn_Sc_told2 Z w 2 = _ from T2 2 (by omega)]
    simp only [bn_a]
    have c := u2_lt h2 (p + 4 + 2)
    rw [md_u2 hs (by omega), Option.bind_some, if_neg (show ¬ nI 82 = 95 by decide)]
    simp only [show (255 : Int32) = nI 255 from rfl]
    simp (disch := omega) only [bn_lt, bn_le]
    grind
  rw [if_neg (show ¬ nI m = 82 from bn_e' (k := 82) h5 (by omega) m82), if_neg (show ¬ nI m = 82 from bn_e' (k := 82) h5 (by omega) m82)]
  by_cases m95 : m = 95
  · subst m95
    have := LN.2.2.2.2.2.2.1 rfl
    rw [if_pos (show nI 95 = 95 from rfl), if_pos (show nI 95 = 95 from rfl), h6]
    simp only [bn_a]
    rw [md_u2 hs (by omega), Option.bind_some, ← hn, show (2 : Int32) = nI 2 from rfl, bn_sub (by omega)]
    simp only [show (226 : Int32) = nI 226 from rfl, show (224 : Int32) = nI 224 from rfl]
    simp (disch := omega) only [bn_le]
    grind
  rw [if_neg (show ¬ nI m = 95 from bn_e' (k := 95) h5 (by omega) m95), if_neg (show ¬ nI m = 95 from bn_e' (k := 95) h5 (by omega) m95), if_neg (show ¬ nI m = 144 from bn_e' (k := 144) h5 (by omega) hm)]
def cmpP (l : List Nat) (d c : Nat) : Prop := u1 l (d + 36 + 3 * c) % 128 < 38 ∧ 0 < u1 l (d + 36 + 3 * c + 1) ∧ 0 < u1 l (d + 36 + 3 * c + 2)
theorem size_lp {F : Nat} {w w' : wd} {Z : zd} {l : List Nat} {p m n q : Nat} (hs : str w' l) (h : at_ w Z l p m n) (hq : q = u2 l (p + 38)) (hq1 : 1 ≤ q) (hn : p + 40 + 3 * q ≤ l.length) (g : Nat) : ∀ c, c ≤ q → q - c < g → ∃ b, fn_Md_isSize_27 F g w' (nI (p + 4)) true (nI c) = some b ∧ fn_Sc_hasComponents_9 F Z g w (nI q) (nI c) = some b := by
  have T : ∀ k, k < 100000 → fn_Sc_told Z w (nI k) = nI (u1 l (p + 4 + k)) := fun k hk => told h hk
  obtain ⟨h1, h2, h3, h4, h5, h6, h7, h8⟩ := id h
  have hl := h2.1
  induction g with
  | zero => intro c _ h; omega
  | succ g ih =>
    intro c hc1 hc2
    have hq2 := u2_lt h2 (p + 38)
    rw [fn_Md_isSize_27, fn_Sc_hasComponents_9]
    simp only [bn_a]
    rw [md_u2 hs (by omega), Option.bind_some, show p + 4 + 34 = p + 38 from rfl, ← hq]
    simp only [bn_le (show q < 2147483648 by omega) (show c < 2147483648 by omega)]
    by_cases hc : q ≤ c
    · rw [if_pos hc, if_pos hc, if_neg (by rw [show (1 : Int32) = nI 1 from rfl, bn_lt (by omega) (by omega)]; omega)]
      exact ⟨_, rfl, rfl⟩
    · rw [if_neg hc, if_neg hc, if_pos trivial]
      have e0 : (36 : Int32) + 3 * nI c = nI (36 + 3 * c) := by rw [show (3 : Int32) = nI 3 from rfl, bn_mul, show (36 : Int32) = nI 36 from rfl, bn_add]
      have e1 : nI (p + 4 + 36) + 3 * nI c = nI (p + 4 + 36 + 3 * c) := by rw [show (3 : Int32) = nI 3 from rfl, bn_mul, bn_add]
      simp only [e0, e1, bn_a]
      rw [T _ (by omega), T _ (by omega), T _ (by omega), md_u1 hs (by omega), md_u1 hs (by omega), md_u1 hs (by omega)]
      simp only [Option.bind_some]
      rw [show p + 4 + (36 + 3 * c) = p + 4 + 36 + 3 * c by omega, show p + 4 + (36 + 3 * c + 1) = p + 4 + 36 + 3 * c + 1 by omega, show p + 4 + (36 + 3 * c + 2) = p + 4 + 36 + 3 * c + 2 by omega]
      have a1 := u1_lt h2 (p + 4 + 36 + 3 * c)
      have a2 := u1_lt h2 (p + 4 + 36 + 3 * c + 1)
      have a3 := u1_lt h2 (p + 4 + 36 + 3 * c + 2)
      generalize u1 l (p + 4 + 36 + 3 * c) = x at *
      generalize u1 l (p + 4 + 36 + 3 * c + 1) = y at *
      generalize u1 l (p + 4 + 36 + 3 * c + 2) = z at *
      rw [an127 (show x < 2147483648 by omega)]
      unfold fn_Md_isSize_93 fn_Md_isSize_94
      simp only [bn_a]
      have R : fn_Ru_isComponent (nI (x % 128 + 1)) (nI y) (nI z) = decide (x % 128 < 38 ∧ 0 < y ∧ 0 < z) := by
        unfold fn_Ru_isComponent
        rw [bn_i (by omega), bn_i (by omega), bn_i (by omega)]
        rw [decide_eq_decide]
        omega
      rw [R]
      have Ff : fn_Md_isSize_27 F g w' (nI (p + 4)) false (nI (c + 1)) = some false := by
        obtain ⟨g', rfl⟩ : ∃ g', g = g' + 1 := ⟨g - 1, by omega⟩
        rw [fn_Md_isSize_27]
        simp only [bn_a]
        rw [md_u2 hs (by omega), Option.bind_some]
        simp
      simp only [show (38 : Int32) = nI 38 from rfl, show (0 : Int32) = nI 0 from rfl]
      simp (disch := omega) only [bn_le]
      rw [Ff]
      obtain ⟨b, b1, b2⟩ := ih (c + 1) (by omega) (by omega)
      rw [b1, b2]
      by_cases d1 : x % 128 < 38
      · by_cases d2 : 0 < y
        · by_cases d3 : 0 < z
          · rw [if_neg (by omega), if_neg (by omega), if_neg (by omega), if_pos (by simp; omega)]
            exact ⟨b, rfl, rfl⟩
          · rw [if_neg (by omega), if_neg (by omega), if_pos (by omega), if_neg (by simp; omega)]
            exact ⟨_, rfl, rfl⟩
        · rw [if_neg (by omega), if_pos (by omega), if_neg (by simp; omega)]
          exact ⟨_, rfl, rfl⟩
      · rw [if_pos (by omega), if_neg (by simp; omega)]
        exact ⟨_, rfl, rfl⟩
theorem md_size {F : Nat} (hF : 70000 ≤ F) {w w' : wd} {Z : zd} {l : List Nat} {p n : Nat} {x : Int32} (hs : str w' l) (h : at_ w Z l p 81 n) (hh : fn_Sc_hasLength Z w = true) : ∃ b, fn_Md_isValue F w' 81 (nI p) x = some b ∧ fn_Sc_hasValues F Z w = some b ∧ (b = true → picP l (p + 4) ∧ 1 ≤ u2 l (p + 38)) := by
  have LN := (len_of h (by decide) hh).1 rfl
  have T2 : ∀ k, p + 4 + k + 1 < l.length → fn_Sc_told2 Z w (nI k) = nI (u2 l (p + 4 + k)) := fun k hk => told2 h hk
  obtain ⟨h1, h2, h3, h4, h5, h6, h7, h8⟩ := id h
  have hl := h2.1
  have A := sc_area h (by omega)
  unfold fn_Md_isValue fn_Sc_hasValues fn_Md_isSize
  rw [h4, if_pos rfl, if_pos (show nI 81 = 81 from rfl)]
  simp only [bn_a]
  rcases md_pic (show 200 ≤ F by omega) hs (show p + 4 + 34 ≤ l.length by omega) with ⟨P1, P2⟩ | ⟨P1, P2⟩
  · rw [P1, Option.bind_some, if_pos rfl, md_u2 hs (by omega), Option.bind_some, if_pos (A.2 P2)]
    unfold fn_Sc_hasComponents
    rw [show (34 : Int32) = nI 34 from rfl, T2 34 (by omega), show p + 4 + 34 = p + 38 from rfl]
    have c := u2_lt h2 (p + 38)
    by_cases q1 : 1 ≤ u2 l (p + 38)
    · obtain ⟨b, b1, b2⟩ := size_lp (F := F) hs h rfl q1 (by omega) F 0 (by omega) (by omega)
      rw [if_neg (by rw [show (0 : Int32) = nI 0 from rfl, bn_le (by omega) (by omega)]; omega)]
      unfold fn_Md_isSize_24
      rw [show (0 : Int32) = nI 0 from rfl, b1, b2, Option.bind_some, Option.bind_some, obb]
      exact ⟨b, rfl, rfl, fun _ => ⟨P2, q1⟩⟩
    · have q0 : u2 l (p + 38) = 0 := by omega
      rw [q0, if_pos (by decide)]
      unfold fn_Md_isSize_23 fn_Md_isSize_24
      obtain ⟨g, hg⟩ : ∃ g, F = g + 1 := ⟨F - 1, by omega⟩
      have e1 : fn_Md_isSize_27 F F w' (nI (p + 4)) false 0 = some false := by
        have : fn_Md_isSize_27 F (g + 1) w' (nI (p + 4)) false 0 = some false := by
          rw [fn_Md_isSize_27]
          simp only [bn_a]
          rw [md_u2 hs (by omega), Option.bind_some]
          simp
        rw [← hg] at this; exact this
      have e2 : fn_Sc_hasComponents_9 F Z F w (nI 0) 0 = some false := by
        have : fn_Sc_hasComponents_9 F Z (g + 1) w (nI 0) 0 = some false := by
          rw [fn_Sc_hasComponents_9, if_pos (by decide), if_pos (by decide)]
        rw [← hg] at this; exact this
      rw [e1, e2, Option.bind_some, Option.bind_some]
      exact ⟨false, rfl, rfl, fun h => nomatch h⟩
  · rw [P1, Option.bind_some, if_neg (by decide), if_neg (fun x => P2 (A.1 x))]
    unfold fn_Md_isSize_23 fn_Md_isSize_24
    obtain ⟨g, hg⟩ : ∃ g, F = g + 1 := ⟨F - 1, by omega⟩
    have e1 : fn_Md_isSize_27 F F w' (nI (p + 4)) false 0 = some false := by
      have : fn_Md_isSize_27 F (g + 1) w' (nI (p + 4)) false 0 = some false := by
        rw [fn_Md_isSize_27]
        simp only [bn_a]
        rw [md_u2 hs (by omega), Option.bind_some]
        simp
      rw [← hg] at this; exact this
    rw [e1, Option.bind_some]
    exact ⟨false, rfl, rfl, fun h => nomatch h⟩
