/-! mathematics of both state tables, part 20; from wip/math -/
theorem ob (c : Prop) [Decidable c] : (if c then some true else some false : Option Bool) = some (decide c) := by split <;> simp_all
theorem ob' (c : Prop) [Decidable c] : (if c then some false else some true : Option Bool) = some (decide (¬ c)) := by split <;> simp_all
theorem obb (b : Bool) : (if b = true then some true else some false : Option Bool) = some b := by cases b <;> rfl
theorem bb (c : Prop) [Decidable c] : (if c then true else false : Bool) = decide c := by split <;> simp_all
theorem bb' (c : Prop) [Decidable c] : (if c then false else true : Bool) = decide (¬ c) := by split <;> simp_all
theorem bn_ltz {n k : Nat} (h : n < k) (hk : k < 1000000) : ¬ (0 ≤ (nI n - nI k)) := by
  have : nI n - nI k = -(nI (k - n)) := by
    rw [← bn_sub (show n ≤ k by omega)]
    grind
  rw [this, bi_le, Int32.toInt_neg, bn_i (by omega)]
  simp only [i0, Int.bmod]
  split <;> omega
theorem fits_st {w w' : wd} {Z : zd} {l : List Nat} {p m n k : Nat} (hs : str w' l) (h : at_ w Z l p m n) (hk : k ≤ 1) (hc : 3 + k ≤ n) (hp4 : p + 4 + k < l.length) : fn_Sc_hasLengthOfSteps Z w (nI k) = fn_Md_fitsRows w' (nI n) (nI (3 + k)) (nI (u1 l (p + 4 + k) % 32)) := by
  have T := told h (show k < 100000 by omega)
  obtain ⟨h1, h2, h3, h4, h5, h6, h7, h8⟩ := h
  have a0 := u1_lt h2 (p + 4 + k)
  unfold fn_Sc_hasLengthOfSteps fn_Sc_isCountOfSteps fn_Md_fitsRows fn_Md_fitsRows_49 fn_Md_fitsRows_54 fn_Md_fitsRows_69
  rw [T, an31 (by omega), h6, show (3 : Int32) = nI 3 from rfl, bn_sub (show 3 ≤ n by omega), bn_sub (show k ≤ n - 3 by omega), bn_sub (show 3 + k ≤ n by omega), show n - (3 + k) = n - 3 - k by omega]
  have hq : u1 l (p + 4 + k) % 32 < 32 := Nat.mod_lt _ (by omega)
  generalize hb : n - 3 - k = b
  generalize u1 l (p + 4 + k) % 32 = q at *
  simp only [bn_lit]
  rw [bn_div (show b < 2147483648 by omega) (show 2 < 2147483648 by omega)]
  have d2 : b / 2 < 2147483648 := by omega
  rw [bn_rem (a := b) (b := 3) (by omega) (by omega), bn_rem (a := b / 2) (b := 3) (by omega) (by omega)]
  simp (disch := omega) only [bn_lt, bn_le, bn_eq]
  have e2 : nI b - nI (b / 2) * nI 2 = nI (b % 2) := by
    rw [bn_mul, bn_sub (by omega)]; congr 1; omega
  rw [e2]
  simp (disch := omega) only [bn_eq]
  grind (splits := 60)
theorem fits81 {w w' : wd} {Z : zd} {l : List Nat} {p n : Nat} (hs : str w' l) (h : at_ w Z l p 81 n) (hn : n = u2 l (p + 2)) (hp4 : p + 4 ≤ l.length) : fn_Md_fitsLength w' (nI 81) (nI p) = some (fn_Sc_hasLength Z w) := by
  have T2 : ∀ k, p + 4 + k + 1 < l.length → fn_Sc_told2 Z w (nI k) = nI (u2 l (p + 4 + k)) := fun k hk => told2 h hk
  obtain ⟨h1, h2, h3, h4, h5, h6, h7, h8⟩ := h
  have hl := h2.1
  have U := md_u2 hs (show p + 2 + 1 < l.length by omega)
  unfold fn_Md_fitsLength fn_Sc_hasLength
  rw [h4, h6]
  simp only [bn_a, U, Option.bind_some, ← hn]
  rw [if_pos (show nI 81 = 81 from rfl), if_pos (show nI 81 = 81 from rfl)]
  by_cases c : n < 38
  · rw [if_pos (by rw [show (38 : Int32) = nI 38 from rfl, bn_lt (by omega) (by omega)]; exact c), if_pos (by rw [show (38 : Int32) = nI 38 from rfl, bn_lt (by omega) (by omega)]; exact c)]
  · rw [if_neg (by rw [show (38 : Int32) = nI 38 from rfl, bn_lt (by omega) (by omega)]; exact c), if_neg (by rw [show (38 : Int32) = nI 38 from rfl, bn_lt (by omega) (by omega)]; exact c), show (34 : Int32) = nI 34 from rfl, T2 34 (by omega), md_u2 hs (by omega), Option.bind_some, ob, bb]
theorem fits_b {w w' : wd} {Z : zd} {l : List Nat} {p m n a b c : Nat} (hs : str w' l) (h : at_ w Z l p m n) (ha : a < 10) (hb : b < 10) (hc9 : 9 ≤ c) (hc12 : c ≤ 12) (hc : c ≤ n) (hpa : p + 4 + a < l.length) (hpb : p + 4 + b < l.length) : (fn_Md_fitsBody w' (nI n) (nI c) (decide (u1 l (p + 4 + a) % 2 = 1)) (nI (p + 4 + b))).bind (fun r => if r = true then some true else some false) = some (decide (nI n = nI c + fn_Sc_precinctBytes (fn_Sc_told Z w (nI a)) (fn_Sc_told Z w (nI b)))) := by
  rw [told h (by omega), told h (by omega)]
  obtain ⟨h1, h2, h3, h4, h5, h6, h7, h8⟩ := h
  have a0 := u1_lt h2 (p + 4 + a)
  unfold fn_Md_fitsBody fn_Sc_precinctBytes
  rw [an1 (by omega), if_neg (by rw [bn_lt (by omega) (by omega)]; omega), md_u1 hs hpb, Option.bind_some]
  by_cases f : u1 l (p + 4 + a) % 2 = 1
  · rw [show decide (u1 l (p + 4 + a) % 2 = 1) = true from decide_eq_true f, if_pos rfl, f, if_neg (show ¬ nI 1 = 0 by decide), ob, Option.bind_some, ob]
    simp
  · rw [show decide (u1 l (p + 4 + a) % 2 = 1) = false from decide_eq_false f, if_neg (by decide), show u1 l (p + 4 + a) % 2 = 0 by omega, if_pos (show nI 0 = 0 from rfl), ob, Option.bind_some, ob]
    simp
theorem md_fits {w w' : wd} {Z : zd} {l : List Nat} {p m n : Nat} (hs : str w' l) (h : at_ w Z l p m n) (hn : n = u2 l (p + 2)) (hp4 : p + 4 ≤ l.length) (hL : fn_Md_hasLength (nI m) = true) : fn_Md_fitsLength w' (nI m) (nI p) = some (fn_Sc_hasLength Z w) := by
  by_cases m81 : m = 81
  · subst m81; exact fits81 hs h hn hp4
  obtain ⟨h1, h2, h3, h4, h5, h6, h7, h8⟩ := id h
  have hl := h2.1
  have hsg := hasSeg m h5 Z h4
  have U := md_u2 hs (show p + 2 + 1 < l.length by omega)
  have E : ∀ k : Nat, k < 2147483648 → ((nI m = nI k) = (m = k)) := fun k hk => propext (bn_eq (by omega) hk)
  unfold fn_Md_fitsLength fn_Sc_hasLength
  rw [hsg, hL, h4, h6]
  simp only [bn_a, U, Option.bind_some, ← hn]
  rw [if_neg (show ¬ nI m = 81 by rw [show (81 : Int32) = nI 81 from rfl, E 81 (by omega)]; exact m81), if_neg (show ¬ nI m = 81 by rw [show (81 : Int32) = nI 81 from rfl, E 81 (by omega)]; exact m81)]
  by_cases m82 : m = 82
  · subst m82
    rw [if_pos (show nI 82 = 82 from rfl), if_pos (show nI 82 = 82 from rfl)]
    by_cases c : n < 12
    · rw [if_pos (by rw [show (12 : Int32) = nI 12 from rfl, bn_lt (by omega) (by omega)]; exact c), if_pos (by rw [show (12 : Int32) = nI 12 from rfl, bn_lt (by omega) (by omega)]; exact c)]
    · rw [if_neg (by rw [show (12 : Int32) = nI 12 from rfl, bn_lt (by omega) (by omega)]; exact c), if_neg (by rw [show (12 : Int32) = nI 12 from rfl, bn_lt (by omega) (by omega)]; exact c)]
      have := fits_b (c := 12) (a := 0) (b := 5) hs h (by omega) (by omega) (by omega) (by omega) (by omega) (by omega) (by omega)
      rw [md_u1 hs (by omega), Option.bind_some, an1 (by have := u1_lt h2 (p + 4); omega), show (1 : Int32) = nI 1 from rfl]
      unfold fn_Md_fitsLength_161
      simp only [bn_a]
      have e : ∀ A B : Option Bool, (if nI (u1 l (p + 4) % 2) = nI 1 then A else B) = if u1 l (p + 4) % 2 = 1 then A else B := fun A B => by
        simp only [bn_eq (show u1 l (p + 4) % 2 < 2147483648 by omega) (show 1 < 2147483648 by omega)]
      rw [e, bb]
      by_cases f : u1 l (p + 4) % 2 = 1
      · rw [if_pos f]
        rw [show decide (u1 l (p + 4 + 0) % 2 = 1) = true by simpa using f] at this
        exact this
      · rw [if_neg f]
        rw [show decide (u1 l (p + 4 + 0) % 2 = 1) = false by simpa using f] at this
        exact this
  rw [if_neg (show ¬ nI m = 82 by rw [show (82 : Int32) = nI 82 from rfl, E 82 (by omega)]; exact m82), if_neg (show ¬ nI m = 82 by rw [show (82 : Int32) = nI 82 from rfl, E 82 (by omega)]; exact m82)]
  by_cases m83 : m = 83
  · subst m83
    rw [if_pos (show nI 83 = 83 from rfl), if_pos (show nI 83 = 83 from rfl)]
    by_cases c : n < 9
    · rw [if_pos (by rw [show (9 : Int32) = nI 9 from rfl, bn_lt (by omega) (by omega)]; exact c), if_pos (by rw [show (9 : Int32) = nI 9 from rfl, bn_lt (by omega) (by omega)]; exact c)]
    · rw [if_neg (by rw [show (9 : Int32) = nI 9 from rfl, bn_lt (by omega) (by omega)]; exact c), if_neg (by rw [show (9 : Int32) = nI 9 from rfl, bn_lt (by omega) (by omega)]; exact c)]
      have := fits_b (c := 9) (a := 1) (b := 2) hs h (by omega) (by omega) (by omega) (by omega) (by omega) (by omega) (by omega)
      rw [md_u1 hs (by omega), Option.bind_some, an1 (by have := u1_lt h2 (p + 4 + 1); omega)]
      unfold fn_Md_fitsLength_206
      simp only [bn_a]
      have e : ∀ A B : Option Bool, (if nI (u1 l (p + 4 + 1) % 2) = 1 then A else B) = if u1 l (p + 4 + 1) % 2 = 1 then A else B := fun A B => by
        simp only [show (1 : Int32) = nI 1 from rfl, bn_eq (show u1 l (p + 4 + 1) % 2 < 2147483648 by omega) (show 1 < 2147483648 by omega)]
      rw [e, bb]
      by_cases f : u1 l (p + 4 + 1) % 2 = 1
      · rw [if_pos f]
        rw [show decide (u1 l (p + 4 + 1) % 2 = 1) = true by simpa using f] at this
        exact this
      · rw [if_neg f]
        rw [show decide (u1 l (p + 4 + 1) % 2 = 1) = false by simpa using f] at this
        exact this
  rw [if_neg (show ¬ nI m = 83 by rw [show (83 : Int32) = nI 83 from rfl, E 83 (by omega)]; exact m83), if_neg (show ¬ nI m = 83 by rw [show (83 : Int32) = nI 83 from rfl, E 83 (by omega)]; exact m83)]
  by_cases m92 : m = 92
  · subst m92
    rw [if_pos (show nI 92 = 92 from rfl), if_pos (show nI 92 = 92 from rfl)]
    by_cases c : n < 3
    · rw [if_pos (by rw [show (3 : Int32) = nI 3 from rfl, bn_lt (by omega) (by omega)]; exact c)]
      unfold fn_Sc_hasLengthOfSteps
      rw [h6, if_neg]
      rw [show (nI n - 3 - 0 : Int32) = nI n - nI 3 by rw [show (3 : Int32) = nI 3 from rfl]; grind]
      exact bn_ltz c (by omega)
    · rw [if_neg (by rw [show (3 : Int32) = nI 3 from rfl, bn_lt (by omega) (by omega)]; exact c)]
      have := fits_st (k := 0) hs h (by omega) (by omega) (by omega)
      rw [show (0 : Int32) = nI 0 from rfl, this, md_u1 hs (by omega), Option.bind_some, an31 (by have := u1_lt h2 (p + 4); omega), obb]
      rfl
  rw [if_neg (show ¬ nI m = 92 by rw [show (92 : Int32) = nI 92 from rfl, E 92 (by omega)]; exact m92), if_neg (show ¬ nI m = 92 by rw [show (92 : Int32) = nI 92 from rfl, E 92 (by omega)]; exact m92)]
  by_cases m93 : m = 93
  · subst m93
    rw [if_pos (show nI 93 = 93 from rfl), if_pos (show nI 93 = 93 from rfl)]
    by_cases c : n < 4
    · rw [if_pos (by rw [show (4 : Int32) = nI 4 from rfl, bn_lt (by omega) (by omega)]; exact c)]
      unfold fn_Sc_hasLengthOfSteps
      rw [h6, if_neg]
      rw [show (nI n - 3 - 1 : Int32) = nI n - nI 4 by rw [show (nI 4 : Int32) = 4 from rfl]; grind]
      exact bn_ltz c (by omega)
    · rw [if_neg (by rw [show (4 : Int32) = nI 4 from rfl, bn_lt (by omega) (by omega)]; exact c)]
      have := fits_st (k := 1) hs h (by omega) (by omega) (by omega)
      rw [show (1 : Int32) = nI 1 from rfl, this]
      rw [md_u1 hs (by omega), Option.bind_some, an31 (by have := u1_lt h2 (p + 4 + 1); omega), obb]
      rfl
  rw [if_neg (show ¬ nI m = 93 by rw [show (93 : Int32) = nI 93 from rfl, E 93 (by omega)]; exact m93), if_neg (show ¬ nI m = 93 by rw [show (93 : Int32) = nI 93 from rfl, E 93 (by omega)]; exact m93)]
  simp only [ob, ob', bb, bb']
  grind (splits := 40)
