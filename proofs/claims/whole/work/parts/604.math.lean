/-! mathematics of both state tables, part 4; from wip/math -/
theorem md_empty2 (F : Nat) (n : Nat) : ∀ (w : wd) (i : Nat), i ≤ 8 → 8 - i < n → ∃ w1, fn_Md_empty_2 F n w (nI i) = some w1 ∧ (∀ a j, w1 a j = if a = 1 ∧ i ≤ j ∧ j < 8 then 0 else if a = 0 ∧ (j = 2 ∨ j = 3 ∨ j = 8 ∨ j = 10 ∨ j = 11 ∨ j = 12 ∨ j = 17) then 0 else if a = 0 ∧ j = 9 then 1 else w a j) := by
  induction n with
  | zero => intro w i _ h; omega
  | succ n ih =>
    intro w i hi hn
    unfold fn_Md_empty_2
    simp only [bn_lit]
    simp (disch := omega) only [bn_le, bn_i, Int.toNat_natCast, bn_add]
    by_cases h : 8 ≤ i
    · rw [if_pos h]
      refine ⟨_, rfl, fun a j => ?_⟩
      simp only [← bn_lit]
      by_cases h1 : a = 1 ∧ i ≤ j ∧ j < 8
      · omega
      · rw [if_neg h1]
        by_cases ha : a = 0
        · subst ha; grind (splits := 40) [up2]
        · simp (disch := omega) only [u2n]
          rw [if_neg (by omega), if_neg (by omega)]
    · rw [if_neg h, if_pos (by omega)]
      obtain ⟨w1, e1, e2⟩ := ih (up2 w 1 i (nI 0)) (i + 1) (by omega) (by omega)
      refine ⟨w1, e1, fun a j => ?_⟩
      rw [e2]
      simp only [← bn_lit]
      grind (splits := 40) [up2]
theorem b_plan (F : Nat) (hF : 100 ≤ F) (Z : zd) {w w' : wd} (h : rpl w w') : ∃ w1', fn_Md_plan F w' = some w1' ∧ pok Z w w' (fn_SM_plan Z w) w1' 0 := by
  obtain ⟨w1, e1, e2⟩ := md_empty2 F F (up2 w' 0 0 0) 0 (by omega) (by omega)
  have e3 : fn_Md_plan F w' = some w1 := by
    unfold fn_Md_plan fn_Md_empty
    have : fn_Md_empty_2 F F (up2 w' 0 0 0) 0 = some w1 := e1
    rw [this]; rfl
  refine ⟨_, e3, ?_⟩
  unfold fn_SM_plan fn_Pl_reset fn_Pl_setGeneral
  have z0 : nI 0 = 0 := rfl
  refine ⟨⟨?_, ?_, ⟨0, ?_⟩, 0, ?_⟩, fun a j h7 => ?_, fun a j h7 => ?_, rfl, ?_⟩
  · unfold ra
    refine ⟨fun i hi => ?_, .inr ⟨?_, ?_⟩⟩
    · rw [e2, if_pos (by omega)]
      simp (disch := omega) only [u2n, f2e]
    · rw [e2]; simp
    · rw [e2]; simp
  · unfold rg
    simp only [e2]
    simp (disch := omega) only [u2n, u2e]
    simp [bi]
  · unfold rcs
    simp only [e2]
    simp (disch := omega) only [u2n, u2e]
    refine ⟨rfl, rfl, by omega, fun c hc => by omega⟩
  · unfold rch
    simp only [e2]
    simp (disch := omega) only [u2n, u2e]
    refine ⟨rfl, rfl, by omega, fun c hc => by omega⟩
  · simp (disch := omega) only [u2n, f2n]
  · rw [e2, if_neg (by omega), if_neg (by omega), if_neg (by omega)]
    simp (disch := omega) only [u2n]
  · rw [e2]
    simp [up2]
theorem b_tiles (Z : zd) {w w' : wd} (h : rpl w w') (x1 x2 x3 x4 : Int32) :
   ∃ w1', fn_Md_tiles w' x1 x2 x3 x4 = some w1' ∧ pok Z w w' (fn_SM_tiles Z w x1 x2 x3 x4) w1' (cd2 "java/lang/IllegalStateException" (fn_SM_tiles Z w x1 x2 x3 x4).1) := by
  obtain ⟨g1, g2, g3, g4⟩ := id h
  unfold ra at g1
  obtain ⟨ga, hpic⟩ := g1
  have z1 : ¬ ((1 : Int32) = 0) := by decide
  rcases hpic with ⟨p1, p2, p3, p4, p5⟩ | ⟨p1, p2⟩
  · have hp : fn_Pl_hasPicture w = true := by
      unfold fn_Pl_hasPicture
      rw [ga 2 (by omega)]
      grind
    have q0 : 0 ≤ (w' 1 0).toInt := by rw [bi_le] at p2; exact p2
    have q1 : 0 ≤ (w' 1 1).toInt := by rw [bi_le] at p4; exact p4
    rw [bi_lt] at p3 p5
    obtain ⟨a0, ha0, ea0⟩ := bn_ex q0
    obtain ⟨a1, ha1, ea1⟩ := bn_ex q1
    obtain ⟨a2, ha2, ea2⟩ := bn_ex (x := w' 1 2) (by omega)
    obtain ⟨a3, ha3, ea3⟩ := bn_ex (x := w' 1 3) (by omega)
    rw [ea0, ea2, bn_i ha0, bn_i ha2] at p3
    rw [ea1, ea3, bn_i ha1, bn_i ha3] at p5
    have hL : fn_Md_lie ((w' 1 0).toInt64) ((w' 1 1).toInt64) x1.toInt64 x2.toInt64 x3.toInt64 x4.toInt64 = fn_Ru_isTiling x1.toInt64 x2.toInt64 x3.toInt64 x4.toInt64 ((w' 1 0).toInt64) ((w' 1 1).toInt64) := by
      unfold fn_Md_lie fn_Ru_isTiling
      have b1 := x3.toInt_lt
      have b2 := x4.toInt_lt
      simp only [bl_lt, bl_le, Int32.toInt_toInt64, show (0 : Int64).toInt = 0 from rfl, show (1 : Int64).toInt = 1 from rfl]
      grind (splits := 40)
    by_cases ht : fn_Ru_isTiling x1.toInt64 x2.toInt64 x3.toInt64 x4.toInt64 ((w' 1 0).toInt64) ((w' 1 1).toInt64) = true
    · have ht2 := ht
      unfold fn_Ru_isTiling at ht2
      simp only [decide_eq_true_eq, Int32.toInt_toInt64] at ht2
      obtain ⟨⟨r1, r2, r3, r4, r5⟩, ⟨r6, r7, r8, r9, r10⟩⟩ := ht2
      obtain ⟨y1, hy1, rfl⟩ := bn_ex r1
      obtain ⟨y2, hy2, rfl⟩ := bn_ex r6
      obtain ⟨y3, hy3, rfl⟩ := bn_ex (x := x3) (by omega)
      obtain ⟨y4, hy4, rfl⟩ := bn_ex (x := x4) (by omega)
      rw [ea0, bn_i hy1, bn_i ha0] at r2
      rw [ea1, bn_i hy2, bn_i ha1] at r7
      rw [bn_i hy3] at r3
      rw [bn_i hy4] at r8
      have c1 : fn_Md_across (nI y1).toInt64 ((w' 1 2).toInt64) (nI y3).toInt64 = some (lN ((a2 - y1 + y3 - 1) / y3)) := by
        rw [ea2, bl_of hy1, bl_of ha2, bl_of hy3]
        exact bl_acr (by omega) (by omega) (by omega) (by omega)
      have c2 : fn_Md_across (nI y2).toInt64 ((w' 1 3).toInt64) (nI y4).toInt64 = some (lN ((a3 - y2 + y4 - 1) / y4)) := by
        rw [ea3, bl_of hy2, bl_of ha3, bl_of hy4]
        exact bl_acr (by omega) (by omega) (by omega) (by omega)
      have c3 : fn_Ru_countTiles (nI y1).toInt64 (nI y2).toInt64 (nI y3).toInt64 (nI y4).toInt64 ((w' 1 2).toInt64) ((w' 1 3).toInt64) = lN ((a2 - y1 + y3 - 1) / y3 * ((a3 - y2 + y4 - 1) / y4)) := by
        rw [ea2, ea3, bl_of hy1, bl_of ha2, bl_of hy3, bl_of hy2, bl_of ha3, bl_of hy4]
        exact bl_ct (by omega) (by omega) (by omega) (by omega) (by omega) (by omega) (by omega) (by omega)
      obtain ⟨d1, d2⟩ := bl_cb (x := y1) (y := a2) (v := y3) (by omega) (by omega)
      obtain ⟨d3, d4⟩ := bl_cb (x := y2) (y := a3) (v := y4) (by omega) (by omega)
      have hM : fn_Md_tiles w' (nI y1) (nI y2) (nI y3) (nI y4) = fn_Md_tiles_41 w' (nI y1) (nI y2) (nI y3) (nI y4) true := by
        unfold fn_Md_tiles
        rw [p1, if_neg z1, if_pos (by rw [hL]; exact ht)]
      have hM2 : fn_Md_tiles_41 w' (nI y1) (nI y2) (nI y3) (nI y4) true = fn_Md_tiles_133 w' (nI y1) (nI y2) (nI y3) (nI y4) true (decide (64 < (a2 - y1 + y3 - 1) / y3 * ((a3 - y2 + y4 - 1) / y4))) := by
        unfold fn_Md_tiles_41 fn_Md_tiles_128 fn_Md_tiles_132
        simp only [c1, c2, Option.bind_some, if_true]
        generalize hA : (a2 - y1 + y3 - 1) / y3 = A at *
        generalize hB : (a3 - y2 + y4 - 1) / y4 = B at *
        have hAB : A * B ≤ 2147483647 * 2147483647 := Nat.mul_le_mul (by omega) (by omega)
        have hA1 : A * 1 ≤ A * B := Nat.mul_le_mul_left A d3
        have hB1 : 1 * B ≤ A * B := Nat.mul_le_mul_right B d1
        have hAB2 : A ≤ 64 → B ≤ 64 → A * B ≤ 64 * 64 := fun u v => Nat.mul_le_mul u v
        simp only [bl_mul, show (64 : Int64) = lN 64 from rfl]
        simp (disch := omega) only [bl_l, bl_e]
        by_cases u1 : 64 < A
        · rw [if_pos u1, show decide (64 < A * B) = true from decide_eq_true (by omega)]
        · rw [if_neg u1]
          by_cases u2 : 64 < B
          · rw [if_pos u2, show decide (64 < A * B) = true from decide_eq_true (by omega)]
          · rw [if_neg u2]
            by_cases u3 : A * B ≤ 64
            · rw [if_pos u3, show decide (64 < A * B) = false from decide_eq_false (by omega)]
            · rw [if_neg u3, show decide (64 < A * B) = true from decide_eq_true (by omega)]
      have hAB : (a2 - y1 + y3 - 1) / y3 * ((a3 - y2 + y4 - 1) / y4) ≤ 2147483647 * 2147483647 := Nat.mul_le_mul (by omega) (by omega)
      have hS : fn_SM_tiles Z w (nI y1) (nI y2) (nI y3) (nI y4) = if (a2 - y1 + y3 - 1) / y3 * ((a3 - y2 + y4 - 1) / y4) ≤ 64 then (.inl (), (fn_Pl_setTiles w (nI y1) (nI y2) (nI y3) (nI y4)), Z) else (.inr "java/lang/IllegalArgumentException", w, Z) := by
        unfold fn_SM_tiles
        rw [if_pos hp, ga 0 (by omega), ga 1 (by omega), ga 2 (by omega), ga 3 (by omega), if_pos ht, c3]
        generalize (a2 - y1 + y3 - 1) / y3 * ((a3 - y2 + y4 - 1) / y4) = P at *
        simp only [show (64 : Int64) = lN 64 from rfl]
        simp only [bl_e (show P < 9223372036854775808 by omega) (show 64 < 9223372036854775808 by omega)]
      rw [hM, hM2, hS]
      unfold fn_Md_tiles_133
      rw [p1, if_neg z1]
      unfold fn_Md_tiles_148 fn_Md_tiles_158 fn_Md_tiles_163
      by_cases u3 : (a2 - y1 + y3 - 1) / y3 * ((a3 - y2 + y4 - 1) / y4) ≤ 64
      · rw [if_pos u3, show decide (64 < (a2 - y1 + y3 - 1) / y3 * ((a3 - y2 + y4 - 1) / y4)) = false from decide_eq_false (by omega)]
        simp only [md_ref0, if_true, Bool.false_eq_true, if_false, fn_Pl_setTiles, cd2]
        refine ⟨_, rfl, rpl_ra h ?_ (fun a j h7 => ?_) (fun a j h7 h8 => ?_), fun a j h7 => ?_, fun a j h7 => ?_, rfl, ?_⟩
        rotate_left
        · simp (disch := omega) only [u2n]
        · simp (disch := omega) only [u2n]
        · simp (disch := omega) only [u2n]
        · simp (disch := omega) only [u2n]
        · simp (disch := omega) only [u2n, u2e]
        · have h1 := h.1
          unfold ra at *
          simp (disch := omega) only [u2n]
          refine ⟨fun i hi => ?_, h1.2⟩
          have := ga i hi
          grind [up2]
      · rw [if_neg u3, show decide (64 < (a2 - y1 + y3 - 1) / y3 * ((a3 - y2 + y4 - 1) / y4)) = true from decide_eq_true (by omega)]
        simp only [md_refF, if_true]
        exact ⟨_, rfl, pok_t h _ _⟩
    · have e1 : fn_SM_tiles Z w x1 x2 x3 x4 = (.inr "java/lang/IllegalArgumentException", w, Z) := by
        unfold fn_SM_tiles
        rw [if_pos hp, ga 0 (by omega), ga 1 (by omega), if_neg ht]
      have e2 : fn_Md_tiles w' x1 x2 x3 x4 = some (up2 w' 0 0 2) := by
        unfold fn_Md_tiles fn_Md_tiles_40
        rw [p1, if_neg z1, if_neg (by rw [hL]; exact ht)]
        unfold fn_Md_tiles_41
        simp only [Bool.false_eq_true, if_false]
        unfold fn_Md_tiles_132 fn_Md_tiles_133
        rw [p1, if_neg z1]
        simp [fn_Md_tiles_148, fn_Md_tiles_158, fn_Md_tiles_163, md_refF]
      rw [e1]
      exact ⟨_, e2, pok_t h _ _⟩
  · have e1 : fn_SM_tiles Z w x1 x2 x3 x4 = (.inr "java/lang/IllegalStateException", w, Z) := by
      unfold fn_SM_tiles
      rw [if_neg]
      unfold fn_Pl_hasPicture
      rw [ga 2 (by omega), p2]
      simp
    have e2 : fn_Md_tiles w' x1 x2 x3 x4 = some (up2 w' 0 0 1) := by
      unfold fn_Md_tiles fn_Md_tiles_40
      rw [p1, if_pos rfl]
      unfold fn_Md_tiles_41
      simp only [Bool.false_eq_true, if_false]
      unfold fn_Md_tiles_132 fn_Md_tiles_133
      rw [p1, if_pos rfl]
      simp [fn_Md_tiles_148, fn_Md_tiles_158, fn_Md_tiles_163, md_refT]
    rw [e1]
    exact ⟨_, e2, pok_t h _ _⟩
theorem md_fr102 (F c : Nat) (hc : c < 16) (n : Nat) : ∀ (w : wd) (i : Nat), i ≤ 97 → 97 - i < n → ∃ w1, fn_Md_fresh_102 F n w (nI c) (nI i) = some w1 ∧ (∀ a j, w1 a j = if a = 9 ∧ 97 * c + i ≤ j ∧ j < 97 * c + 97 then 0 else w a j) := by
  induction n with
  | zero => intro w i _ h; omega
  | succ n ih =>
    intro w i hi hn
    unfold fn_Md_fresh_102
    simp only [bn_lit]
    simp (disch := omega) only [bn_le, bn_i, Int.toNat_natCast, bn_add, bn_mul]
    by_cases h : 97 ≤ i
    · rw [if_pos h]
      refine ⟨_, rfl, fun a j => ?_⟩
      rw [if_neg (by omega)]
    · rw [if_neg h, if_pos (by omega)]
      obtain ⟨w1, e1, e2⟩ := ih (up2 w 9 (97 * c + i) (nI 0)) (i + 1) (by omega) (by omega)
      refine ⟨w1, e1, fun a j => ?_⟩
      rw [e2]
      simp only [← bn_lit]
      grind (splits := 40) [up2]
theorem md_fr62 (F c : Nat) (hc : c < 16) (hF : 200 ≤ F) (n : Nat) : ∀ (w : wd) (i : Nat), i ≤ 33 → 33 - i < n → ∃ w1, fn_Md_fresh_62 F n w (nI c) (nI i) = some w1 ∧ (∀ a j, w1 a j = if a = 9 ∧ 97 * c ≤ j ∧ j < 97 * c + 97 then 0 else if (a = 7 ∨ a = 8) ∧ 33 * c + i ≤ j ∧ j < 33 * c + 33 then 15 else w a j) := by
  induction n with
  | zero => intro w i _ h; omega
  | succ n ih =>
    intro w i hi hn
    unfold fn_Md_fresh_62
    simp only [bn_lit]
    simp (disch := omega) only [bn_le, bn_i, Int.toNat_natCast, bn_add, bn_mul]
    by_cases h : 33 ≤ i
    · rw [if_pos h]
      obtain ⟨w1, e1, e2⟩ := md_fr102 F c hc F w 0 (by omega) (by omega)
      refine ⟨_, e1, fun a j => ?_⟩
      rw [e2]
      simp only [← bn_lit]
      grind (splits := 40)
    · rw [if_neg h, if_pos (by omega), if_pos (by omega)]
      obtain ⟨w1, e1, e2⟩ := ih (up2 (up2 w 7 (33 * c + i) (nI 15)) 8 (33 * c + i) (nI 15)) (i + 1) (by omega) (by omega)
      refine ⟨w1, e1, fun a j => ?_⟩
      rw [e2]
      simp only [← bn_lit]
      grind (splits := 40) [up2]
theorem md_fr2 (F c : Nat) (hc : c < 16) (hF : 200 ≤ F) (n : Nat) : ∀ (w : wd) (i : Nat), i ≤ 8 → 8 - i < n → ∃ w1, fn_Md_fresh_2 F n w (nI c) (nI i) = some w1 ∧ (∀ a j, w1 a j = if a = 9 ∧ 97 * c ≤ j ∧ j < 97 * c + 97 then 0 else if (a = 7 ∨ a = 8) ∧ 33 * c ≤ j ∧ j < 33 * c + 33 then 15 else if a = 6 ∧ 8 * c + i ≤ j ∧ j < 8 * c + 8 then (if j = 8 * c + 1 ∨ j = 8 * c + 2 then 6 else if j = 8 * c + 4 then 1 else if j = 8 * c + 6 then 2 else 0) else w a j) := by
  induction n with
  | zero => intro w i _ h; omega
  | succ n ih =>
    intro w i hi hn
    unfold fn_Md_fresh_2 fn_Md_fresh_28 fn_Md_fresh_53
    simp only [bn_lit]
    simp (disch := omega) only [bn_le, bn_eq, bn_i, Int.toNat_natCast, bn_add, bn_mul]
    by_cases h : 8 ≤ i
    · rw [if_pos h]
      obtain ⟨w1, e1, e2⟩ := md_fr62 F c hc hF F w 0 (by omega) (by omega)
      refine ⟨_, e1, fun a j => ?_⟩
      rw [e2]
      simp only [← bn_lit]
      grind (splits := 40)
    · rw [if_neg h]
      simp only [← bn_lit]
      have key : ∀ v : Nat, (v = if i = 1 ∨ i = 2 then 6 else if i = 4 then 1 else if i = 6 then 2 else 0) → ∃ w1, fn_Md_fresh_2 F n (up2 w 6 (8 * c + i) (nI v)) (nI c) (nI (i + 1)) = some w1 ∧ (∀ a j, w1 a j = if a = 9 ∧ 97 * c ≤ j ∧ j < 97 * c + 97 then 0 else if (a = 7 ∨ a = 8) ∧ 33 * c ≤ j ∧ j < 33 * c + 33 then 15 else if a = 6 ∧ 8 * c + i ≤ j ∧ j < 8 * c + 8 then (if j = 8 * c + 1 ∨ j = 8 * c + 2 then 6 else if j = 8 * c + 4 then 1 else if j = 8 * c + 6 then 2 else 0) else w a j) := by
        intro v hv
        obtain ⟨w1, e1, e2⟩ := ih (up2 w 6 (8 * c + i) (nI v)) (i + 1) (by omega) (by omega)
        refine ⟨w1, e1, fun a j => ?_⟩
        rw [e2]
        by_cases hj : a = 6 ∧ j = 8 * c + i
        · obtain ⟨rfl, rfl⟩ := hj
          rw [if_neg (by omega), if_neg (by omega), if_neg (by omega), if_neg (by omega), if_neg (by omega), if_pos (by omega), u2e rfl rfl]
          subst hv
          rcases (show i = 0 ∨ i = 1 ∨ i = 2 ∨ i = 3 ∨ i = 4 ∨ i = 5 ∨ i = 6 ∨ i = 7 by omega) with rfl | rfl | rfl | rfl | rfl | rfl | rfl | rfl <;> (try simp) <;> (try rfl)
        · rw [u2n (by omega)]
          by_cases k0 : a = 6 ∧ 8 * c + i ≤ j ∧ j < 8 * c + 8
          · rw [if_neg (by omega), if_neg (by omega), if_pos (show a = 6 ∧ 8 * c + (i + 1) ≤ j ∧ j < 8 * c + 8 by omega), if_neg (show ¬ (a = 9 ∧ 97 * c ≤ j ∧ j < 97 * c + 97) by omega), if_neg (show ¬ ((a = 7 ∨ a = 8) ∧ 33 * c ≤ j ∧ j < 33 * c + 33) by omega), if_pos k0]
          · rw [if_neg (show ¬ (a = 6 ∧ 8 * c + (i + 1) ≤ j ∧ j < 8 * c + 8) by omega), if_neg k0]
      by_cases k1 : i = 1
      · rw [if_pos k1, if_pos (by omega)]; exact key 6 (by rw [if_pos (by omega)])
      · rw [if_neg k1]
        by_cases k2 : i = 2
        · rw [if_pos k2, if_pos (by omega)]; exact key 6 (by rw [if_pos (by omega)])
        · rw [if_neg k2]
          by_cases k3 : i = 4
          · rw [if_pos k3, if_pos (by omega)]; exact key 1 (by rw [if_neg (by omega), if_pos k3])
          · rw [if_neg k3]
            by_cases k4 : i = 6
            · rw [if_pos k4, if_pos (by omega)]; exact key 2 (by rw [if_neg (by omega), if_neg (by omega), if_pos k4])
            · rw [if_neg k4, if_pos (by omega)]; exact key 0 (by rw [if_neg (by omega), if_neg (by omega), if_neg (by omega)])
theorem md_fresh (F c : Nat) (hc : c < 16) (hF : 200 ≤ F) (w : wd) : ∃ w1, fn_Md_fresh F w (nI c) = some w1 ∧ (∀ a j, w1 a j = if a = 9 ∧ 97 * c ≤ j ∧ j < 97 * c + 97 then 0 else if (a = 7 ∨ a = 8) ∧ 33 * c ≤ j ∧ j < 33 * c + 33 then 15 else if a = 6 ∧ 8 * c ≤ j ∧ j < 8 * c + 8 then (if j = 8 * c + 1 ∨ j = 8 * c + 2 then 6 else if j = 8 * c + 4 then 1 else if j = 8 * c + 6 then 2 else 0) else w a j) := by
  obtain ⟨w1, e1, e2⟩ := md_fr2 F c hc hF F w 0 (by omega) (by omega)
  exact ⟨w1, e1, e2⟩
