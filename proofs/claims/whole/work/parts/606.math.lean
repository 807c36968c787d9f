/-! mathematics of both state tables, part 6; from wip/math -/
theorem md_turn {w' : wd} {k : Nat} (hk : w' 0 17 = nI k) (hk2 : k < 32) (x1 x2 x3 x4 x5 x6 : Int32) : fn_Md_turn w' x1 x2 x3 x4 x5 x6 = some (up2 (up2 (up2 (up2 (up2 (up2 (up2 w' 10 (6 * k) x1) 10 (6 * k + 1) x2) 10 (6 * k + 2) x3) 10 (6 * k + 3) x4) 10 (6 * k + 4) x5) 10 (6 * k + 5) x6) 0 17 (nI (k + 1))) := by
  unfold fn_Md_turn
  rw [hk]
  simp only [bn_lit, bn_mul, bn_add]
  simp (disch := omega) only [bn_i, Int.toNat_natCast]
  rw [if_pos (by omega), if_pos (by omega), if_pos (by omega), if_pos (by omega), if_pos (by omega), if_pos (by omega)]
  simp (disch := omega) only [u2n, hk, bn_add]
theorem pl_addChange {w : wd} {k : Nat} (hk : w 1 9 = nI k) (hk2 : k < 32) (x1 x2 x3 x4 x5 x6 : Int32) : fn_Pl_addChange w x1 x2 x3 x4 x5 x6 = some (up2 (up2 (up2 (up2 (up2 (up2 (up2 w 4 (6 * k) x1) 4 (6 * k + 1) x2) 4 (6 * k + 2) x3) 4 (6 * k + 3) x4) 4 (6 * k + 4) x5) 4 (6 * k + 5) x6) 1 9 (nI (k + 1))) := by
  unfold fn_Pl_addChange
  rw [hk]
  simp only [bn_lit, bn_mul, bn_add, bn_sub (show 6 ≤ 192 by omega)]
  simp (disch := omega) only [bn_lt, bn_i, Int.toNat_natCast]
  rw [if_neg (by omega), if_neg (by omega), if_pos (by omega), if_pos (by omega), if_pos (by omega), if_pos (by omega), if_pos (by omega), if_pos (by omega)]
  simp (disch := omega) only [u2n, hk, bn_add, Nat.mul_comm k 6]
theorem rch_add {w w' : wd} {k : Nat} (h : rch w w' k) (hk2 : k < 32) (x1 x2 x3 x4 x5 x6 : Int32) : rch (up2 (up2 (up2 (up2 (up2 (up2 (up2 w 4 (6 * k) x1) 4 (6 * k + 1) x2) 4 (6 * k + 2) x3) 4 (6 * k + 3) x4) 4 (6 * k + 4) x5) 4 (6 * k + 5) x6) 1 9 (nI (k + 1))) (up2 (up2 (up2 (up2 (up2 (up2 (up2 w' 10 (6 * k) x1) 10 (6 * k + 1) x2) 10 (6 * k + 2) x3) 10 (6 * k + 3) x4) 10 (6 * k + 4) x5) 10 (6 * k + 5) x6) 0 17 (nI (k + 1))) (k + 1) := by
  obtain ⟨a1, a2, a3, a4⟩ := h
  refine ⟨u2e rfl rfl, u2e rfl rfl, by omega, fun i hi => ?_⟩
  by_cases hik : i < 6 * k
  · simp (disch := omega) only [u2n]
    exact a4 i hik
  · rcases (show i = 6 * k ∨ i = 6 * k + 1 ∨ i = 6 * k + 2 ∨ i = 6 * k + 3 ∨ i = 6 * k + 4 ∨ i = 6 * k + 5 by omega) with rfl | rfl | rfl | rfl | rfl | rfl <;> simp (disch := omega) only [u2n, u2e]
theorem b_change (Z : zd) {w w' : wd} (h : rpl w w') (x1 x2 x3 x4 x5 x6 : Int32) :
   ∃ R v w1', fn_SM_change Z w x1 x2 x3 x4 x5 x6 = some R ∧ fn_Md_change w' x1 x2 x3 x4 x5 x6 = some (v, w1') ∧ pok Z w w' R w1' (cd2 "java/lang/IllegalArgumentException" R.1) ∧ ∀ u, R.1 = .inl u → u = v := by
  obtain ⟨g1, g2, g3, k, g4⟩ := id h
  obtain ⟨hk1, hk2, hk, hch⟩ := id g4
  have m2 := md_in0 x2 (a := 0) (b := 15) (c := 0) (d := 15) rfl rfl
  have m3 := md_in0 x3 (a := 1) (b := 255) (c := 1) (d := 255) rfl rfl
  have m6 := md_in0 x6 (a := 0) (b := 4) (c := 0) (d := 4) rfl rfl
  by_cases hp : (0 ≤ x1.toInt ∧ x1.toInt < x4.toInt ∧ x4.toInt ≤ 33 ∧ 0 ≤ x2.toInt ∧ x2.toInt < x5.toInt ∧ 1 ≤ x3.toInt ∧ 0 ≤ x6.toInt ∧ x6.toInt ≤ 4) ∧ x5.toInt ≤ 16 ∧ x3.toInt ≤ 255
  · have e1 : fn_SM_change Z w x1 x2 x3 x4 x5 x6 = (if k < 32 then ((fn_Pl_addChange w x1 x2 x3 x4 x5 x6).bind fun r5 => some (.inl (r5 1 9), r5, Z)) else some (.inr "java/lang/IllegalStateException", w, Z)) := by
      unfold fn_SM_change
      rw [if_pos (by unfold fn_Ru_isChange; simp only [decide_eq_true_eq]; omega), if_neg (by simp only [bi_lt, bi_l]; omega), if_pos (by simp only [bi_le, bi_l]; omega), hk1]
      simp only [show (32 : Int32) = nI 32 from rfl]
      simp (disch := omega) only [bn_lt]
    have e2 : fn_Md_change w' x1 x2 x3 x4 x5 x6 = fn_Md_change_72 w' x1 x2 x3 x4 x5 x6 true := by
      unfold fn_Md_change
      simp only [bi_lt, bi_le, bi_l]
      rw [if_neg (by omega), if_neg (by omega), if_neg (by omega), if_pos (m2.2 (by omega)), if_neg (by omega), if_neg (by omega), if_pos (m3.2 (by omega)), if_pos (m6.2 (by omega))]
    rw [e1, e2]
    unfold fn_Md_change_72 fn_Md_change_85
    rw [hk2]
    simp only [show (32 : Int32) = nI 32 from rfl, if_true]
    simp (disch := omega) only [bn_eq]
    by_cases h32 : k < 32
    · rw [if_pos h32, if_neg (by omega)]
      unfold fn_Md_change_99
      simp only [md_ref0, Bool.false_eq_true, if_false]
      have hk3 : up2 w' 0 0 0 0 17 = nI k := by simp (disch := omega) only [u2n]; exact hk2
      rw [pl_addChange hk1 h32, md_turn hk3 h32]
      simp only [Option.bind_some]
      refine ⟨_, _, _, rfl, rfl, ⟨rpl_rch (k := k + 1) h (rch_add ?_ h32 _ _ _ _ _ _) (fun a j h7 h8 => ?_) (fun a j h7 h8 => ?_), fun a j h7 => ?_, fun a j h7 => ?_, rfl, ?_⟩, fun u hu => ?_⟩
      · exact rch_fr g4 rfl (fun _ => rfl) (by simp (disch := omega) only [u2n]) (fun j => by simp (disch := omega) only [u2n])
      · simp (disch := omega) only [u2n]
      · simp (disch := omega) only [u2n]
      · simp (disch := omega) only [u2n]
      · simp (disch := omega) only [u2n]
      · simp (disch := omega) only [u2n, u2e, cd2]
      · have := Sum.inl.inj hu
        simp (disch := omega) only [u2e] at this ⊢
        exact this.symm
    · rw [if_neg h32, if_pos (by omega)]
      unfold fn_Md_change_99
      simp only [md_refF, if_true]
      exact ⟨_, _, _, rfl, rfl, pok_t h _ _, fun u hu => nomatch hu⟩
  · have e1 : fn_SM_change Z w x1 x2 x3 x4 x5 x6 = some (.inr "java/lang/IllegalArgumentException", w, Z) := by
      unfold fn_SM_change
      by_cases hr : fn_Ru_isChange x1 x2 x3 x4 x5 x6 = true
      · rw [if_pos hr]
        unfold fn_Ru_isChange at hr
        simp only [decide_eq_true_eq] at hr
        simp only [bi_lt, bi_le, bi_l]
        by_cases h5 : 16 < x5.toInt
        · rw [if_pos h5]
        · rw [if_neg h5, if_neg (by omega)]
      · rw [if_neg hr]
    have e2 : fn_Md_change w' x1 x2 x3 x4 x5 x6 = some (0, up2 w' 0 0 1) := by
      have : fn_Md_change w' x1 x2 x3 x4 x5 x6 = fn_Md_change_72 w' x1 x2 x3 x4 x5 x6 false := by
        unfold fn_Md_change fn_Md_change_71
        simp only [bi_lt, bi_le, bi_l]
        grind (splits := 40)
      rw [this]
      unfold fn_Md_change_72 fn_Md_change_85 fn_Md_change_99
      simp [md_refT]
    rw [e1]
    exact ⟨_, _, _, rfl, e2, pok_t h _ _, fun u hu => nomatch hu⟩
