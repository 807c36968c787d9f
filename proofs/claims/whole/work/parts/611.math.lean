/-! mathematics of both state tables, part 11; from wip/math -/
theorem b_part {F : Nat} (hF : 100 ≤ F) {Z : zd} {w w' : wd} (h : rpl w w') (hs : rst w Z w') (x1 x2 x3 x4 : Int32) : ∃ R w1', fn_SM_part Z w x1 x2 x3 x4 = some R ∧ fn_Md_part F w' x1 x2 x3 x4 = some w1' ∧ sok Z w w' R w1' (cd2 "java/lang/IllegalArgumentException" R.1) := by
  obtain ⟨h1, h2, h3, h4, h5, h6, h7⟩ := id hs
  have m1 := md_in0 x1 (a := 0) (b := 65535) (c := 0) (d := 65535) rfl rfl
  have m2 := md_in0 x2 (a := 0) (b := 255) (c := 0) (d := 255) rfl rfl
  have m3 := md_in0 x3 (a := 0) (b := 255) (c := 0) (d := 255) rfl rfl
  have m4 := md_in0 x4 (a := 0) (b := 65536) (c := 0) (d := 65536) rfl rfl
  by_cases hp : 0 ≤ x1.toInt ∧ x1.toInt ≤ 65535 ∧ 0 ≤ x2.toInt ∧ x2.toInt ≤ 255 ∧ 0 ≤ x3.toInt ∧ x3.toInt ≤ 255 ∧ 0 ≤ x4.toInt ∧ x4.toInt ≤ 65536
  · have e2 : fn_Md_part F w' x1 x2 x3 x4 = fn_Md_part_84 F w' x1 x2 x3 x4 (decide (¬ Z.1.1.length + 14 ≤ 65536)) false := by
      unfold fn_Md_part fn_Md_part_54 fn_Md_part_67
      rw [if_pos (m1.2 (by omega)), if_pos (m2.2 (by omega)), if_pos (m3.2 (by omega)), if_pos (m4.2 (by omega)), if_pos rfl, h1, show (14 : Int32) = nI 14 from rfl, bn_add]
      simp only [show (65536 : Int32) = nI 65536 from rfl]
      simp (disch := omega) only [bn_le]
      by_cases hr : Z.1.1.length + 14 ≤ 65536
      · rw [if_pos hr, decide_eq_false (by omega)]
      · rw [if_neg hr, decide_eq_true (by omega)]
    rw [e2]
    have l2 : ∀ x : Int32, (rw_b2 x).length = 2 := fun _ => rfl
    have l4 : ∀ x : Int32, (rw_b4 x).length = 4 := fun _ => rfl
    have ls : ∀ x y : Int32, (rw_bs x y).length = 4 := fun _ _ => rfl
    have lm : ∀ x : Int32, (rw_bm x).length = 2 := fun _ => rfl
    by_cases hr : Z.1.1.length + 14 ≤ 65536
    · have hd : fn_SM_demandRoom Z w 14 = .inl () := by rw [show (14 : Int32) = nI 14 from rfl, dr_ok h2 (by omega), if_pos hr]
      have e1 : ∃ cap, fn_SM_part Z w x1 x2 x3 x4 = some (.inl (), (up2 w 0 5 (0 : Int32)), (zs1 Z (((((((Z.1.1 ++ (rw_bs 144 10)) ++ rw_b2 x1) ++ rw_b4 (14 + x4)) ++ [by8 x2]) ++ [by8 x3]) ++ rw_bm 147), cap))) := by
        unfold fn_SM_part
        rw [if_neg (by rw [bi_lt]; simp only [i0]; omega), if_neg (by rw [bi_lt]; show ¬ (65535 : Int) < _; omega), if_neg (by rw [bi_lt]; simp only [i0]; omega), if_neg (by rw [bi_lt]; show ¬ (255 : Int) < _; omega), if_neg (by rw [bi_lt]; simp only [i0]; omega), if_neg (by rw [bi_lt]; show ¬ (255 : Int) < _; omega), if_neg (by rw [bi_lt]; simp only [i0]; omega), if_pos (by rw [bi_le]; show _ ≤ (65536 : Int); omega), hd]
        refine ⟨_, ap1 ?_ (ap1 ?_ (ap1 ?_ (ap1 ?_ (ap1 ?_ (ap1 ?_ rfl ?_) ?_) ?_) ?_) ?_) ?_⟩
        · rw [ls]; omega
        · simp only [zs1_1, List.length_append, ls, l2]; omega
        · simp only [zs1_1, List.length_append, ls, l2, l4]; omega
        · simp only [zs1_1, List.length_append, ls, l2, l4, List.length_cons, List.length_nil]; omega
        · simp only [zs1_1, List.length_append, ls, l2, l4, List.length_cons, List.length_nil]; omega
        · simp only [zs1_1, List.length_append, ls, l2, l4, lm, List.length_cons, List.length_nil]; omega
        · exact Nat.le_refl _
        · exact zc_s1 _ _
        · exact Nat.le_trans (zc_s1 _ _) (zc_s1 _ _)
        · exact Nat.le_trans (zc_s1 _ _) (Nat.le_trans (zc_s1 _ _) (zc_s1 _ _))
        · exact Nat.le_trans (zc_s1 _ _) (Nat.le_trans (zc_s1 _ _) (Nat.le_trans (zc_s1 _ _) (zc_s1 _ _)))
        · exact Nat.le_trans (zc_s1 _ _) (Nat.le_trans (zc_s1 _ _) (Nat.le_trans (zc_s1 _ _) (Nat.le_trans (zc_s1 _ _) (zc_s1 _ _))))
      obtain ⟨cap, e1⟩ := e1
      rw [e1, decide_eq_false (by omega)]
      unfold fn_Md_part_84
      simp only [md_ref0, Bool.false_eq_true, if_false]
      rw [wrs_st h1]
      have hc : (up2 (up2 w' 0 0 0) 0 36 (nI Z.1.1.length)) 0 36 = nI Z.1.1.length := u2e rfl rfl
      obtain ⟨w1, q1, r1⟩ := md_seg hF hc (by omega) 144 10
      obtain ⟨w2, q2, r2⟩ := md_add2 hF r1.1 (by rw [ls]; omega) x1
      obtain ⟨w3, q3, r3⟩ := md_add4 hF r2.1 (by rw [ls, l2]; omega) (14 + x4)
      obtain ⟨w4, q4, r4⟩ := md_add1 hF r3.1 (by rw [ls, l2, l4]; omega) x2
      obtain ⟨w5, q5, r5⟩ := md_add1 hF r4.1 (by rw [ls, l2, l4]; simp; omega) x3
      obtain ⟨w6, q6, r6⟩ := md_add1 hF r5.1 (by rw [ls, l2, l4]; simp; omega) 255
      obtain ⟨w7, q7, r7⟩ := md_add1 hF r6.1 (by rw [ls, l2, l4]; simp; omega) 147
      rw [q1, Option.bind_some, q2, Option.bind_some, q3, Option.bind_some, q4, Option.bind_some, q5, Option.bind_some, q6, Option.bind_some, q7, Option.bind_some]
      refine ⟨_, _, rfl, rfl, sok_app h hs (wrs_app r1 (wrs_app r2 (wrs_app r3 (wrs_app r4 (wrs_app r5 (wrs_app r6 r7)))))) ?_ _ ?_⟩
      · simp only [List.length_append, ls, l2, l4, List.length_cons, List.length_nil]; omega
      · simp only [List.append_assoc]
        rfl
    · have hd : fn_SM_demandRoom Z w 14 = .inr "java/lang/UnsupportedOperationException" := by rw [show (14 : Int32) = nI 14 from rfl, dr_ok h2 (by omega), if_neg hr]
      have e1 : fn_SM_part Z w x1 x2 x3 x4 = some (.inr "java/lang/UnsupportedOperationException", w, Z) := by
        unfold fn_SM_part
        rw [if_neg (by rw [bi_lt]; simp only [i0]; omega), if_neg (by rw [bi_lt]; show ¬ (65535 : Int) < _; omega), if_neg (by rw [bi_lt]; simp only [i0]; omega), if_neg (by rw [bi_lt]; show ¬ (255 : Int) < _; omega), if_neg (by rw [bi_lt]; simp only [i0]; omega), if_neg (by rw [bi_lt]; show ¬ (255 : Int) < _; omega), if_neg (by rw [bi_lt]; simp only [i0]; omega), if_pos (by rw [bi_le]; show _ ≤ (65536 : Int); omega), hd]
      rw [e1, decide_eq_true (by omega)]
      unfold fn_Md_part_84
      simp only [md_refF, if_true]
      exact ⟨_, _, rfl, rfl, sok_t h hs _ _⟩
  · have e1 : fn_SM_part Z w x1 x2 x3 x4 = some (.inr "java/lang/IllegalArgumentException", w, Z) := by
      unfold fn_SM_part
      generalize fn_SM_demandRoom Z w 14 = D
      simp only [bi_lt, bi_le, bi_l]
      by_cases a1 : x1.toInt < 0
      · rw [if_pos a1]
      · rw [if_neg a1]
        by_cases a2 : 65535 < x1.toInt
        · rw [if_pos a2]
        · rw [if_neg a2]
          by_cases a3 : x2.toInt < 0
          · rw [if_pos a3]
          · rw [if_neg a3]
            by_cases a4 : 255 < x2.toInt
            · rw [if_pos a4]
            · rw [if_neg a4]
              by_cases a5 : x3.toInt < 0
              · rw [if_pos a5]
              · rw [if_neg a5]
                by_cases a6 : 255 < x3.toInt
                · rw [if_pos a6]
                · rw [if_neg a6]
                  by_cases a7 : x4.toInt < 0
                  · rw [if_pos a7]
                  · rw [if_neg a7, if_neg (by omega)]
    have e2 : fn_Md_part F w' x1 x2 x3 x4 = some (up2 w' 0 0 1) := by
      have : fn_Md_part F w' x1 x2 x3 x4 = fn_Md_part_54 F w' x1 x2 x3 x4 false := by
        unfold fn_Md_part fn_Md_part_53
        grind (splits := 40)
      rw [this]
      unfold fn_Md_part_54 fn_Md_part_67
      simp only [Bool.false_eq_true, if_false]
      unfold fn_Md_part_84
      simp only [md_refT, if_true, ite_self]
    rw [e1]
    exact ⟨_, _, rfl, e2, sok_t h hs _ _⟩
