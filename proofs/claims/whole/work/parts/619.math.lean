/-! mathematics of both state tables, part 19; from wip/math -/
def sam (w w1 : wd) : Prop := ∀ a j, ¬ (a = 105 ∧ (j = 7 ∨ j = 8)) → w1 a j = w a j
theorem rd {w w' : wd} {Z : zd} {l : List Nat} {p e : Nat} (hs : str w' l) (hz : Z.1.1 = l) (h5 : w 105 5 = nI p) (h6 : w 105 6 = nI e) (hpe : p ≤ e) (he : e ≤ l.length) :
   (fn_Md_isCut w' (nI p) (nI e) = some true ∧ ∃ w1, fn_Sc_readsCutMark Z w = (true, w1) ∧ sam w w1) ∨
   (fn_Md_isCut w' (nI p) (nI e) = some false ∧ fn_Md_markAt w' (nI p) = some (-1) ∧ p + 2 ≤ e ∧ ∃ w1, fn_Sc_readsCutMark Z w = (false, w1) ∧ sam w w1 ∧ w1 105 7 = -1) ∨
   (∃ m n w1, fn_Md_isCut w' (nI p) (nI e) = some false ∧ fn_Md_markAt w' (nI p) = some (nI m) ∧ m < 256 ∧ p + 2 ≤ e ∧ fn_Sc_readsCutMark Z w = (false, w1) ∧ sam w w1 ∧ w1 105 7 = nI m ∧ w1 105 8 = nI n ∧ u1 l p = 255 ∧ u1 l (p + 1) = m ∧ (fn_Md_hasLength (nI m) = true ∧ n = u2 l (p + 2) ∧ p + 4 ≤ e ∧ p + 2 + n ≤ e ∨ fn_Md_hasLength (nI m) = false ∧ n = 0)) := by
  have hl := hs.1.1
  unfold fn_Md_isCut fn_Sc_readsCutMark
  simp (disch := omega) only [u2n, u2e, h5, h6]
  rw [bn_sub hpe]
  simp only [bn_a]
  simp only [show (2 : Int32) = nI 2 from rfl, show (4 : Int32) = nI 4 from rfl]
  simp (disch := omega) only [bn_le, bn_lt]
  by_cases c1 : p + 2 ≤ e
  · have a1 : 2 ≤ e - p := by omega
    have q1 : p + 1 < l.length := by omega
    have U0 := md_u1 hs (show p < l.length by omega)
    have U1 := md_u1 hs q1
    unfold fn_Md_markAt
    simp only [if_pos c1, if_pos a1, U0, Option.bind_some, hz, bn_a, U1, ru1 l p (by omega), ru1 l (p + 1) (by omega)]
    by_cases c2 : nI (u1 l p) = 255
    · simp only [if_pos c2]
      have hm := u1_lt hs.1 (p + 1)
      have v1 : u1 l p = 255 := by
        rw [show (255 : Int32) = nI 255 from rfl, bn_eq (by have := u1_lt hs.1 p; omega) (by omega)] at c2
        exact c2
      have hsg : fn_Sc_hasSegment Z (up2 (up2 (up2 w 105 7 (-1)) 105 8 0) 105 7 (nI (u1 l (p + 1)))) = fn_Md_hasLength (nI (u1 l (p + 1))) := hasSeg _ hm Z (u2e rfl rfl)
      simp only [hsg]
      by_cases c3 : fn_Md_hasLength (nI (u1 l (p + 1))) = true
      · simp only [if_pos c3]
        by_cases c4 : p + 4 ≤ e
        · have hn := u2_lt hs.1 (p + 2)
          have U2 := md_u2 hs (show p + 2 + 1 < l.length by omega)
          simp only [if_neg (show ¬ e < p + 4 by omega), if_pos (show 4 ≤ e - p by omega), U2, Option.bind_some, ru2 hl (show p + 2 + 1 < l.length by omega), bn_sub (show 2 ≤ e - p by omega), bn_add]
          simp (disch := omega) only [bn_le]
          by_cases c5 : p + 2 + u2 l (p + 2) ≤ e
          · simp only [if_pos c5, if_pos (show u2 l (p + 2) ≤ e - p - 2 by omega)]
            refine .inr (.inr ⟨_, _, _, (by simp), rfl, hm, c1, rfl, fun a j h => ?_, ?_, ?_, v1, rfl, .inl ⟨c3, rfl, c4, c5⟩⟩)
            · simp (disch := omega) only [u2n]
            · simp (disch := omega) only [u2n, u2e]
            · simp (disch := omega) only [u2e]
          · simp only [if_neg c5, if_neg (show ¬ u2 l (p + 2) ≤ e - p - 2 by omega)]
            exact .inl ⟨(by simp), _, rfl, fun a j h => by simp (disch := omega) only [u2n]⟩
        · simp only [if_pos (show e < p + 4 by omega), if_neg (show ¬ 4 ≤ e - p by omega)]
          exact .inl ⟨(by simp), _, rfl, fun a j h => by simp (disch := omega) only [u2n]⟩
      · simp only [if_neg c3]
        refine .inr (.inr ⟨_, 0, _, (by simp), rfl, hm, c1, rfl, fun a j h => ?_, ?_, ?_, v1, rfl, .inr ⟨by simpa using c3, rfl⟩⟩)
        · simp (disch := omega) only [u2n]
        · simp (disch := omega) only [u2e]
        · simp (disch := omega) only [u2n, u2e]
          rfl
    · simp only [if_neg c2]
      refine .inr (.inl ⟨(by simp), (by simp), c1, _, rfl, fun a j h => ?_, ?_⟩)
      · simp (disch := omega) only [u2n]
      · simp (disch := omega) only [u2n, u2e]
  · simp only [if_neg c1, if_neg (show ¬ 2 ≤ e - p by omega)]
    exact .inl ⟨(by simp), _, rfl, fun a j h => by simp (disch := omega) only [u2n]⟩
theorem wrongM {m : Nat} (hm : m < 256) {Z : zd} {w : wd} (h4 : w 105 4 = 2) (h7 : w 105 7 = nI m) (h1 : m ≠ 144) (h2 : m ≠ 217) : fn_Sc_isWrong Z w = !(fn_Md_mayStand (nI m) (-1)) := by
  unfold fn_Sc_isWrong fn_Sc_isWrongAmongMain fn_Md_mayStand
  rw [h4, h7]
  have n1 : ¬ nI m = -1 := fun h => by
    rw [bi_eq, bn_i (by omega)] at h
    have : ((-1 : Int32)).toInt = -1 := by decide
    omega
  simp only [show ¬ ((2 : Int32) = 0) by decide, show ¬ ((2 : Int32) = 1) by decide, if_false, if_true, n1, false_or, show ¬ ((-1 : Int32) = 0) by decide, show ¬ ((0 : Int32) ≤ -1) by decide, show ((-1 : Int32) < 0) by decide]
  simp only [bn_lit]
  simp (disch := omega) only [bn_eq, bn_le]
  grind (splits := 40)
theorem wrongM2 {m : Nat} (hm : m = 144 ∨ m = 217) {Z : zd} {w : wd} (h4 : w 105 4 = 2 ∨ w 105 4 = 4) (h7 : w 105 7 = nI m) : fn_Sc_isWrong Z w = false := by
  unfold fn_Sc_isWrong fn_Sc_isWrongAmongMain
  rw [h7]
  rcases h4 with h | h <;> rw [h] <;> rcases hm with rfl | rfl <;> simp <;> decide
theorem wrongB {m : Nat} (hm : m < 256) (hn : ¬ (m = 144 ∨ m = 217)) {Z : zd} {w : wd} (h4 : w 105 4 = 4) (h7 : w 105 7 = nI m) : fn_Sc_isWrong Z w = true := by
  unfold fn_Sc_isWrong
  rw [h7, h4]
  simp only [show ¬ ((4 : Int32) = 0) by decide, show ¬ ((4 : Int32) = 1) by decide, show ¬ ((4 : Int32) = 2) by decide, show ¬ ((4 : Int32) = 3) by decide, if_false]
  simp only [bn_lit]
  simp (disch := omega) only [bn_eq]
  grind
theorem wrongP {m : Nat} (hm : m < 256) {Z : zd} {w : wd} {f : Bool} {k : Nat} (hk : k < 1000000) (h4 : w 105 4 = 3) (h7 : w 105 7 = nI m) (h13 : w 105 13 = bi f) (h11 : w 105 11 = nI k) (h1 : m ≠ 147) : fn_Sc_isWrong Z w = !(fn_Md_mayStand (nI m) (bi f) && !(decide (m = 97 ∧ 0 < k))) := by
  unfold fn_Sc_isWrong fn_Sc_isWrongInPart fn_Md_mayStand
  rw [h4, h7, h13, h11]
  have n1 : ¬ nI m = -1 := fun h => by
    rw [bi_eq, bn_i (by omega)] at h
    have : ((-1 : Int32)).toInt = -1 := by decide
    omega
  have k0 : (nI k ≤ 0) ↔ k = 0 := by rw [show (0 : Int32) = nI 0 from rfl, bn_le (by omega) (by omega)]; omega
  have b1 : ¬ (bi f < 0) := by cases f <;> decide
  have b2 : (0 : Int32) ≤ bi f := by cases f <;> decide
  simp only [show ¬ ((3 : Int32) = 0) by decide, show ¬ ((3 : Int32) = 1) by decide, show ¬ ((3 : Int32) = 2) by decide, if_false, if_true, n1, false_or, k0, b1, b2]
  have b3 : bi f = 0 ↔ f = false := by cases f <;> decide
  simp only [b3]
  simp only [bn_lit]
  simp (disch := omega) only [bn_eq, bn_le]
  grind (splits := 60)
theorem wrong1 {Z : zd} {w : wd} (h7 : w 105 7 = -1) (h4 : w 105 4 = 0 ∨ w 105 4 = 1 ∨ w 105 4 = 2 ∨ w 105 4 = 3 ∨ w 105 4 = 4) : fn_Sc_isWrong Z w = true := by
  unfold fn_Sc_isWrong fn_Sc_isWrongAmongMain fn_Sc_isWrongInPart
  rw [h7]
  rcases h4 with h | h | h | h | h <;> rw [h] <;> simp <;> decide
