/-! mathematics of both state tables, part 15; from wip/math -/
theorem ocs_l {F : Nat} (hF : 200 ≤ F) {w : wd} {n : Nat} (hn0 : 1 ≤ n) (m : Nat) : ∀ w' c cu, rcs w w' n → w' 0 36 = nI cu → cu + 200 * (n - c) < 600000 → c ≤ n → n - c < m → ∃ bs w1, fn_Md_addCodings_164 F m w' (nI c) = some w1 ∧ wrs w' w1 cu bs ∧ bs.length ≤ 200 * (n - c) ∧ fn_Wr_writeOtherSteps_2 F m w 0 (nI c) = some bs := by
  induction m with
  | zero => intro w' r cu _ _ _ _ h; omega
  | succ m ih =>
    intro w' c cu hrc hcu hcu2 hcn hm
    obtain ⟨n1, n2, n3, n4⟩ := id hrc
    rw [fn_Md_addCodings_164, fn_Wr_writeOtherSteps_2, n1, n2]
    simp only [bn_le (show n < 2147483648 by omega) (show c < 2147483648 by omega)]
    by_cases hc : n ≤ c
    · rw [if_pos hc, if_pos hc]
      exact ⟨[], w', rfl, wrs_nil hcu, by simp, rfl⟩
    · have hcn' : c < n := by omega
      have hF1 : 100 ≤ F := by omega
      have hrcc := n4 c hcn'
      obtain ⟨b, hb1, hb2⟩ := otherSteps hF (by omega) hrcc (n4 0 (by omega))
      rw [if_neg hc, if_neg hc, if_pos (in_n n3 hcn' rfl), bn_nn c (by omega), hb1, hb2, Option.bind_some, Option.bind_some]
      unfold fn_Md_addCodings_204 fn_Wr_writeOtherSteps_55
      cases b with
      | true =>
        simp only [Bool.not_true, Bool.false_eq_true, if_false, if_true, show (1 : Int32) = nI 1 from rfl, bn_add]
        obtain ⟨bs, w1, q1, q2, q3, q4⟩ := ih w' (c + 1) cu hrc hcu (by omega) (by omega) (by omega)
        exact ⟨bs, w1, q1, q2, by omega, q4⟩
      | false =>
        simp only [Bool.not_false, Bool.false_eq_true, if_false, if_true]
        rw [rowsLength (by omega) hrcc, Option.bind_some]
        obtain ⟨w1, s1, r1⟩ := md_seg hF1 hcu (by omega) 93 (3 + fn_Wr_stepBytes w c)
        obtain ⟨w2, s2, r2⟩ := md_add1 hF1 r1.1 (by simp [l_bs]; omega) (nI c)
        have z2 := wrs_app r1 r2
        obtain ⟨bs, w3, t3, s3, r3, l3⟩ := rows hF (show c < 16 by omega) ((wrs_rcs hrc z2).2.2.2 c hcn') z2.1 (by simp [l_bs]; omega)
        have z3 := wrs_app z2 r3
        obtain ⟨bs4, w4, s4, r4, l4, t4⟩ := ih w3 (c + 1) _ (wrs_rcs hrc z3) z3.1 (by simp [l_bs]; omega) (by omega) (by omega)
        rw [s1, Option.bind_some, s2, Option.bind_some, s3, Option.bind_some, show (1 : Int32) = nI 1 from rfl, bn_add, s4, t3, t4]
        refine ⟨_, _, rfl, wrs_app z3 r4, by simp [l_bs]; omega, ?_⟩
        simp only [List.append_assoc]
        rfl
theorem occ_l {F : Nat} (hF : 200 ≤ F) {w : wd} {n : Nat} (hn0 : 1 ≤ n) (m : Nat) : ∀ w' c cu, rcs w w' n → w' 0 36 = nI cu → cu + 200 * (n - c) < 600000 → c ≤ n → n - c < m → ∃ bs w1, fn_Md_addCodings_98 F m w' (nI c) = fn_Md_addCodings_164 F F w1 1 ∧ wrs w' w1 cu bs ∧ bs.length ≤ 50 * (n - c) ∧ fn_Wr_writeOtherCodings_2 F m w 0 (nI c) = some bs := by
  induction m with
  | zero => intro w' r cu _ _ _ _ h; omega
  | succ m ih =>
    intro w' c cu hrc hcu hcu2 hcn hm
    obtain ⟨n1, n2, n3, n4⟩ := id hrc
    rw [fn_Md_addCodings_98, fn_Wr_writeOtherCodings_2, n1, n2]
    simp only [bn_le (show n < 2147483648 by omega) (show c < 2147483648 by omega)]
    by_cases hc : n ≤ c
    · rw [if_pos hc, if_pos hc]
      exact ⟨[], w', rfl, wrs_nil hcu, by simp, rfl⟩
    · have hcn' : c < n := by omega
      have hF1 : 100 ≤ F := by omega
      have hrcc := n4 c hcn'
      obtain ⟨b, hb1, hb2⟩ := otherCoding hF (by omega) hrcc (n4 0 (by omega))
      rw [if_neg hc, if_neg hc, if_pos (in_n n3 hcn' rfl), bn_nn c (by omega), hb1, hb2, Option.bind_some, Option.bind_some]
      unfold fn_Md_addCodings_147 fn_Md_addCodings_156 fn_Wr_writeOtherCodings_75 fn_Wr_writeOtherCodings_87
      cases b with
      | true =>
        simp only [Bool.not_true, Bool.false_eq_true, if_false, if_true]
        rw [show (1 : Int32) = nI 1 from rfl, bn_add]
        obtain ⟨bs, w1, q1, q2, q3, q4⟩ := ih w' (c + 1) cu hrc hcu (by omega) (by omega) (by omega)
        exact ⟨bs, w1, q1, q2, by omega, q4⟩
      | false =>
        simp only [Bool.not_false, Bool.false_eq_true, if_false, if_true]
        obtain ⟨v, v1, v2⟩ := bodyLength hF (show c < 16 by omega) hrcc
        rw [v1, v2, Option.bind_some, Option.bind_some]
        obtain ⟨w1, s1, r1⟩ := md_seg hF1 hcu (by omega) 83 (4 + v)
        obtain ⟨w2, s2, r2⟩ := md_add1 hF1 r1.1 (by simp [l_bs]; omega) (nI c)
        have z2 := wrs_app r1 r2
        have hrc2 := (wrs_rcs hrc z2).2.2.2 c hcn'
        obtain ⟨t, t1, t2⟩ := tells hF (show c < 16 by omega) hrc2
        obtain ⟨w3, s3, r3⟩ := md_add1 hF1 z2.1 (by simp [l_bs]; omega) (bi t)
        have z3 := wrs_app z2 r3
        obtain ⟨bs, w4, t4, s4, r4, l4⟩ := body hF (show c < 16 by omega) ((wrs_rcs hrc z3).2.2.2 c hcn') z3.1 (by simp [l_bs]; omega)
        have z4 := wrs_app z3 r4
        obtain ⟨bs5, w5, s5, r5, l5, t5⟩ := ih w4 (c + 1) _ (wrs_rcs hrc z4) z4.1 (by simp [l_bs]; omega) (by omega) (by omega)
        rw [s1, Option.bind_some, s2, Option.bind_some, t1, t2, Option.bind_some, Option.bind_some, show (1 : Int32) = nI 1 from rfl, bn_add, t4, t5]
        have e3 : (if t = true then (fn_Md_add F w2 (bi true) (nI 1)).bind fun r75 => (fn_Md_body F r75 (nI c)).bind fun r79 => fn_Md_addCodings_98 F m r79 (nI (c + 1)) else (fn_Md_add F w2 (bi false) (nI 1)).bind fun r75 => (fn_Md_body F r75 (nI c)).bind fun r79 => fn_Md_addCodings_98 F m r79 (nI (c + 1))) = fn_Md_addCodings_164 F F w5 (nI 1) := by
          have : (fn_Md_add F w2 (bi t) (nI 1)).bind (fun r75 => (fn_Md_body F r75 (nI c)).bind fun r79 => fn_Md_addCodings_98 F m r79 (nI (c + 1))) = fn_Md_addCodings_164 F F w5 (nI 1) := by
            rw [show nI 1 = (1 : Int32) from rfl, s3, Option.bind_some, s4, Option.bind_some, s5]
          cases t with
          | true => rw [if_pos rfl]; exact this
          | false => rw [if_neg (by decide)]; exact this
        rw [e3]
        refine ⟨_, _, rfl, wrs_app z4 r5, by simp [l_bs]; omega, ?_⟩
        simp only [List.append_assoc]
        cases t <;> rfl
theorem codings_w {F : Nat} (hF : 200 ≤ F) {w w' : wd} {n : Nat} (hn0 : 1 ≤ n) (hg : rg w w') (hrc : rcs w w' n) {cu : Nat} (hcu : w' 0 36 = nI cu) (hcu2 : cu < 500000) : ∃ b1 b2 b3 b4 w1, fn_Wr_writeCodingOfAll F w 0 = some b1 ∧ fn_Wr_writeSteps F w 0 = some b2 ∧ fn_Wr_writeOtherCodings F w 0 = some b3 ∧ fn_Wr_writeOtherSteps F w 0 = some b4 ∧ fn_Md_addCodings F w' = some w1 ∧ wrs w' w1 cu (b1 ++ (rw_bs 92 (2 + fn_Wr_stepBytes w 0) ++ (b2 ++ (b3 ++ b4)))) ∧ (b1 ++ (rw_bs 92 (2 + fn_Wr_stepBytes w 0) ++ (b2 ++ (b3 ++ b4)))).length ≤ 5000 := by
  have hF1 : 100 ≤ F := by omega
  obtain ⟨n1, n2, n3, n4⟩ := id hrc
  have h0 := n4 0 (by omega)
  obtain ⟨v, v1, v2⟩ := bodyLength hF (show 0 < 16 by omega) h0
  obtain ⟨⟨g1, g2, g3, g4, g5⟩, g6, g7, g8⟩ := id hg
  obtain ⟨t, t1, _⟩ := tells hF (show 0 < 16 by omega) h0
  obtain ⟨w1, s1, r1⟩ := md_seg hF1 hcu (by omega) 82 (7 + v)
  obtain ⟨t', t1', t2⟩ := tells hF (show 0 < 16 by omega) ((wrs_rcs hrc r1).2.2.2 0 (by omega))
  rw [t1] at t1'
  cases t1'
  obtain ⟨w2, s2, r2⟩ := md_add1 hF1 r1.1 (by simp [l_bs]; omega) (bi t + 2 * w 1 6 + 4 * w 1 7)
  have z2 := wrs_app r1 r2
  obtain ⟨w3, s3, r3⟩ := md_add1 hF1 z2.1 (by simp [l_bs]; omega) (w 1 3)
  have z3 := wrs_app z2 r3
  obtain ⟨w4, s4, r4⟩ := md_add2 hF1 z3.1 (by simp [l_bs]; omega) (w 1 4)
  have z4 := wrs_app z3 r4
  obtain ⟨w5, s5, r5⟩ := md_add1 hF1 z4.1 (by simp [l_bs, l_b2]; omega) (w 1 5)
  have z5 := wrs_app z4 r5
  obtain ⟨b6, w6, t6, s6, r6, l6⟩ := body hF (show 0 < 16 by omega) ((wrs_rcs hrc z5).2.2.2 0 (by omega)) z5.1 (by simp [l_bs, l_b2]; omega)
  have z6 := wrs_app z5 r6
  obtain ⟨w7, s7, r7⟩ := md_seg hF1 z6.1 (by simp [l_bs, l_b2]; omega) 92 (2 + fn_Wr_stepBytes w 0)
  have z7 := wrs_app z6 r7
  obtain ⟨b8, w8, t8, s8, r8, l8⟩ := rows hF (show 0 < 16 by omega) ((wrs_rcs hrc z7).2.2.2 0 (by omega)) z7.1 (by simp [l_bs, l_b2]; omega)
  have z8 := wrs_app z7 r8
  obtain ⟨b9, w9, s9, r9, l9, t9⟩ := occ_l hF hn0 F w8 1 _ (wrs_rcs hrc z8) z8.1 (by simp [l_bs, l_b2]; omega) (by omega) (by omega)
  have z9 := wrs_app z8 r9
  obtain ⟨b10, w10, s10, r10, l10, t10⟩ := ocs_l hF hn0 F w9 1 _ (wrs_rcs hrc z9) z9.1 (by simp [l_bs, l_b2]; omega) (by omega) (by omega)
  have z10 := wrs_app z9 r10
  have G : ∀ {v bs}, wrs w' v cu bs → v 0 8 = w 1 3 ∧ v 0 9 = w 1 4 ∧ v 0 10 = w 1 5 ∧ v 0 11 = w 1 6 ∧ v 0 12 = w 1 7 := fun h => by
    rw [h.2.2.1 _ _ (by omega) (by omega), h.2.2.1 _ _ (by omega) (by omega), h.2.2.1 _ _ (by omega) (by omega), h.2.2.1 _ _ (by omega) (by omega), h.2.2.1 _ _ (by omega) (by omega)]
    exact ⟨g1.symm, g2.symm, g3.symm, g4.symm, g5.symm⟩
  have eM : fn_Md_addCodings_28 F w1 t = some w10 := by
    unfold fn_Md_addCodings_28
    rw [(G r1).2.2.2.1, (G r1).2.2.2.2, s2, Option.bind_some, (G z2).1, s3, Option.bind_some, (G z3).2.1, s4, Option.bind_some, (G z4).2.2.1, s5, Option.bind_some, show (0 : Int32) = nI 0 from rfl, s6, Option.bind_some, rowsLength (by omega) ((wrs_rcs hrc z6).2.2.2 0 (by omega)), Option.bind_some, s7, Option.bind_some, s8, Option.bind_some]
    have : fn_Md_addCodings_98 F F w8 1 = fn_Md_addCodings_164 F F w9 1 := s9
    rw [this]
    exact s10
  refine ⟨rw_bs 82 (7 + v) ++ ([by8 (bi t + 2 * w 1 6 + 4 * w 1 7)] ++ ([by8 (w 1 3)] ++ (rw_b2 (w 1 4) ++ ([by8 (w 1 5)] ++ b6)))), b8, b9, b10, w10, ?_, t8, t9, t10, ?_, ?_, ?_⟩
  · have e0 : fn_Wr_writeCodingOfAll F w 0 = fn_Wr_writeCodingOfAll_12 F w 0 t := by
      unfold fn_Wr_writeCodingOfAll
      rw [t1, Option.bind_some]
      cases t <;> rfl
    have e37 : ∀ x y : Int32, fn_Wr_writeCodingOfAll_37 F w 0 y x = some (rw_bs 82 (7 + v) ++ ([by8 (x + y)] ++ ([by8 (w 1 3)] ++ (rw_b2 (w 1 4) ++ ([by8 (w 1 5)] ++ b6))))) := by
      intro x y
      unfold fn_Wr_writeCodingOfAll_37
      rw [v2, Option.bind_some, t6, Option.bind_some]
      rcases g6 with h | h
      · rw [h, if_pos rfl]
        simp
      · rw [h, if_neg (by decide)]
        simp
    rw [e0]
    unfold fn_Wr_writeCodingOfAll_12 fn_Wr_writeCodingOfAll_24
    rcases g7 with h | h
    · rcases g8 with h' | h'
      · rw [h, h', if_pos rfl, if_pos rfl, e37]; rfl
      · rw [h, h', if_pos rfl, if_neg (by decide), e37]; rfl
    · rcases g8 with h' | h'
      · rw [h, h', if_neg (by decide), if_pos rfl, e37]; rfl
      · rw [h, h', if_neg (by decide), if_neg (by decide), e37]; rfl
  · unfold fn_Md_addCodings
    rw [show (0 : Int32) = nI 0 from rfl, v1, Option.bind_some, s1, Option.bind_some, t2, Option.bind_some]
    cases t with
    | true => exact eM
    | false => exact eM
  · simp only [List.append_assoc] at z10
    simp only [List.append_assoc]
    exact z10
  · simp only [List.length_append, l_bs, l_b2, List.length_cons, List.length_nil]
    omega
