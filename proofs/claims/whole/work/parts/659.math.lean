/-! mathematics of both state tables, part 59; from wip/math -/
theorem law_sub {n : Nat} (hn : n ≤ 3584) : (nI n - 7).toInt = (n : Int) - 7 := by
  rw [Int32.toInt_sub, bn_i (by omega), show (7 : Int32).toInt = 7 from rfl]
  rw [Int.bmod_eq_of_le (by omega) (by omega)]
theorem law_le {n c : Nat} (hn : n ≤ 3584) (hc : c ≤ 600) : nI n - 7 < nI (7 * c) ↔ n < 7 * c + 7 := by
  rw [Int32.lt_iff_toInt_lt, law_sub hn, bn_i (by omega)]; omega
theorem law_sw (t : Int32) (h : ¬ (t.toInt < 0 ∨ 22 < t.toInt)) : t.toInt = 0 ∨ t.toInt = 1 ∨ t.toInt = 2 ∨ t.toInt = 3 ∨ t.toInt = 4 ∨ t.toInt = 5 ∨ t.toInt = 6 ∨ t.toInt = 7 ∨ t.toInt = 8 ∨ t.toInt = 9 ∨ t.toInt = 10 ∨ t.toInt = 11 ∨ t.toInt = 12 ∨ t.toInt = 13 ∨ t.toInt = 14 ∨ t.toInt = 15 ∨ t.toInt = 16 ∨ t.toInt = 17 ∨ t.toInt = 18 ∨ t.toInt = 19 ∨ t.toInt = 20 ∨ t.toInt = 21 ∨ t.toInt = 22 := by omega
