/-! mathematics of both state tables, part 21; from wip/math -/
def picP (l : List Nat) (d : Nat) : Prop := (∀ j, j < 8 → u4 l (d + 2 + 4 * j) < 2147483648) ∧ u4 l (d + 10) < u4 l (d + 2) ∧ u4 l (d + 14) < u4 l (d + 6) ∧ 1 ≤ u4 l (d + 18) ∧ 1 ≤ u4 l (d + 22) ∧ u4 l (d + 26) ≤ u4 l (d + 10) ∧ u4 l (d + 30) ≤ u4 l (d + 14) ∧ u4 l (d + 10) < u4 l (d + 26) + u4 l (d + 18) ∧ u4 l (d + 14) < u4 l (d + 30) + u4 l (d + 22)
theorem picP_iff (l : List Nat) (d : Nat) : picP l d ↔ (u4 l (d + 2) < 2147483648 ∧ u4 l (d + 6) < 2147483648 ∧ u4 l (d + 10) < 2147483648 ∧ u4 l (d + 14) < 2147483648 ∧ u4 l (d + 18) < 2147483648 ∧ u4 l (d + 22) < 2147483648 ∧ u4 l (d + 26) < 2147483648 ∧ u4 l (d + 30) < 2147483648) ∧ u4 l (d + 10) < u4 l (d + 2) ∧ u4 l (d + 14) < u4 l (d + 6) ∧ 1 ≤ u4 l (d + 18) ∧ 1 ≤ u4 l (d + 22) ∧ u4 l (d + 26) ≤ u4 l (d + 10) ∧ u4 l (d + 30) ≤ u4 l (d + 14) ∧ u4 l (d + 10) < u4 l (d + 26) + u4 l (d + 18) ∧ u4 l (d + 14) < u4 l (d + 30) + u4 l (d + 22) := by
  unfold picP
  constructor
  · rintro ⟨h, r⟩
    exact ⟨⟨h 0 (by omega), h 1 (by omega), h 2 (by omega), h 3 (by omega), h 4 (by omega), h 5 (by omega), h 6 (by omega), h 7 (by omega)⟩, r⟩
  · rintro ⟨⟨h0, h1, h2, h3, h4, h5, h6, h7⟩, r⟩
    refine ⟨fun j hj => ?_, r⟩
    rcases (show j = 0 ∨ j = 1 ∨ j = 2 ∨ j = 3 ∨ j = 4 ∨ j = 5 ∨ j = 6 ∨ j = 7 by omega) with rfl | rfl | rfl | rfl | rfl | rfl | rfl | rfl <;> assumption
theorem lie_n {x0 y0 x y v h : Nat} (b0 : x0 < 4294967296) (b1 : y0 < 4294967296) (b2 : x < 4294967296) (b3 : y < 4294967296) (b4 : v < 4294967296) (b5 : h < 4294967296) : fn_Md_lie (lN x0) (lN y0) (lN x) (lN y) (lN v) (lN h) = true ↔ 1 ≤ v ∧ 1 ≤ h ∧ x ≤ x0 ∧ y ≤ y0 ∧ x0 < x + v ∧ y0 < y + h := by
  unfold fn_Md_lie
  simp only [show (0 : Int64) = lN 0 from rfl, show (1 : Int64) = lN 1 from rfl, bl_add]
  simp (disch := omega) only [bl_l, bl_e]
  grind (splits := 40)
theorem pic_f (F : Nat) {w' : wd} {x : Int32} (n : Nat) : ∀ k, k ≤ 8 → 8 - k < n → fn_Md_isPicture_4 F n w' x false (nI k) = some false := by
  induction n with
  | zero => intro k _ h; omega
  | succ n ih =>
    intro k h1 h2
    rw [fn_Md_isPicture_4]
    simp only [show (8 : Int32) = nI 8 from rfl, bn_le (show 8 < 2147483648 by omega) (show k < 2147483648 by omega), Bool.false_eq_true, if_false]
    by_cases hk : 8 ≤ k
    · rw [if_pos hk]
    · rw [if_neg hk]
      unfold fn_Md_isPicture_36 fn_Md_isPicture_37
      simp only [bn_a]
      exact ih (k + 1) (by omega) (by omega)
theorem pic_t (F : Nat) {w' : wd} {l : List Nat} {d : Nat} (hs : str w' l) (hd : d + 34 ≤ l.length) (n : Nat) : ∀ k, k ≤ 8 → 8 - k < n → (∀ j, j < k → u4 l (d + 2 + 4 * j) < 2147483648) → fn_Md_isPicture_4 F n w' (nI d) true (nI k) = some true ∧ picP l d ∨ fn_Md_isPicture_4 F n w' (nI d) true (nI k) = some false ∧ ¬ picP l d := by
  have hl := hs.1.1
  induction n with
  | zero => intro k _ h; omega
  | succ n ih =>
    intro k h1 h2 hj
    rw [fn_Md_isPicture_4]
    simp only [show (8 : Int32) = nI 8 from rfl, bn_le (show 8 < 2147483648 by omega) (show k < 2147483648 by omega), if_true]
    by_cases hk : 8 ≤ k
    · have hk8 : k = 8 := by omega
      subst hk8
      rw [if_pos hk]
      have B := u4_lt hs.1
      have E : ∀ a, (a = 2 ∨ a = 6 ∨ a = 10 ∨ a = 14 ∨ a = 18 ∨ a = 22 ∨ a = 26 ∨ a = 30) → fn_Md_u4 w' (nI d + nI a) = some (lN (u4 l (d + a))) := fun a ha => by rw [bn_add]; exact md_u4 hs (by omega)
      have e2 := E 2 (by omega)
      have e6 := E 6 (by omega)
      have e10 := E 10 (by omega)
      have e14 := E 14 (by omega)
      have e18 := E 18 (by omega)
      have e22 := E 22 (by omega)
      have e26 := E 26 (by omega)
      have e30 := E 30 (by omega)
      simp only [bn_lit, e2, e6, e10, e14, e18, e22, e26, e30, Option.bind_some]
      have L := lie_n (B (d + 10)) (B (d + 14)) (B (d + 26)) (B (d + 30)) (B (d + 18)) (B (d + 22))
      have b2 := B (d + 2)
      have b6 := B (d + 6)
      have b10 := B (d + 10)
      have b14 := B (d + 14)
      simp (disch := omega) only [bl_e]
      unfold picP
      by_cases c1 : u4 l (d + 2) ≤ u4 l (d + 10)
      · rw [if_pos c1]
        exact .inr ⟨rfl, fun x => by omega⟩
      · rw [if_neg c1]
        by_cases c2 : u4 l (d + 6) ≤ u4 l (d + 14)
        · rw [if_pos c2]
          exact .inr ⟨rfl, fun x => by omega⟩
        · rw [if_neg c2]
          by_cases c3 : fn_Md_lie (lN (u4 l (d + 10))) (lN (u4 l (d + 14))) (lN (u4 l (d + 26))) (lN (u4 l (d + 30))) (lN (u4 l (d + 18))) (lN (u4 l (d + 22))) = true
          · rw [if_pos c3]
            exact .inl ⟨rfl, hj, by omega, by omega, L.1 c3⟩
          · rw [if_neg c3]
            exact .inr ⟨rfl, fun x => c3 (L.2 x.2.2.2)⟩
    · rw [if_neg hk]
      unfold fn_Md_isPicture_36 fn_Md_isPicture_37
      have e : fn_Md_u4 w' (nI d + 2 + 4 * nI k) = some (lN (u4 l (d + 2 + 4 * k))) := by
        rw [show (4 : Int32) = nI 4 from rfl, bn_mul, show (2 : Int32) = nI 2 from rfl, bn_add, bn_add]
        exact md_u4 hs (by omega)
      have b := u4_lt hs.1 (d + 2 + 4 * k)
      rw [e, Option.bind_some]
      simp only [show (2147483648 : Int64) = lN 2147483648 from rfl, bl_e (show 2147483648 < 9223372036854775808 by omega) (show u4 l (d + 2 + 4 * k) < 9223372036854775808 by omega), bn_a]
      by_cases c : 2147483648 ≤ u4 l (d + 2 + 4 * k)
      · rw [if_pos c, pic_f F n (k + 1) (by omega) (by omega)]
        exact .inr ⟨rfl, fun x => by have := x.1 k (by omega); omega⟩
      · rw [if_neg c]
        exact ih (k + 1) (by omega) (by omega) (fun j hj2 => by
          by_cases e : j = k
          · subst e; omega
          · exact hj j (by omega))
theorem md_pic {F : Nat} (hF : 200 ≤ F) {w' : wd} {l : List Nat} {d : Nat} (hs : str w' l) (hd : d + 34 ≤ l.length) : fn_Md_isPicture F w' (nI d) = some true ∧ picP l d ∨ fn_Md_isPicture F w' (nI d) = some false ∧ ¬ picP l d :=
  pic_t F hs hd F 0 (by omega) (by omega) (fun j hj => by omega)
theorem sc_area {w : wd} {Z : zd} {l : List Nat} {p m n : Nat} (h : at_ w Z l p m n) (hp : p + 38 ≤ l.length) : fn_Sc_hasArea Z w = true ↔ picP l (p + 4) := by
  obtain ⟨h1, h2, h3, h4, h5, h6, h7, h8⟩ := h
  have hl := h2.1
  have B := u4_lt h2
  unfold fn_Sc_hasArea fn_Ru_isPicture fn_Ru_isTiling
  simp only [h1, h3, bn_a]
  have E : ∀ a, a + 3 < 38 → rw_u4 l (nI (p + a)) = u4 l (p + a) := fun a ha => ru4 hl (by omega)
  have e6 := E 6 (by omega)
  have e10 : rw_u4 l (nI p + 10) = u4 l (p + 10) := by rw [show (10 : Int32) = nI 10 from rfl, bn_add]; exact E 10 (by omega)
  have b := fun a => B (p + a)
  have b6 := b 6
  have b10 := b 10
  have b14 := b 14
  have b18 := b 18
  have b22 := b 22
  have b26 := b 26
  have b30 := b 30
  have b34 := b 34
  simp only [e6, e10, E 14 (by omega), E 18 (by omega), E 22 (by omega), E 26 (by omega), E 30 (by omega), E 34 (by omega), bl_add]
  simp (disch := omega) only [bl_i]
  rw [picP_iff]
  simp only [Nat.add_assoc p 4, Nat.reduceAdd]
  simp only [decide_eq_true_eq]
  grind (splits := 60)
