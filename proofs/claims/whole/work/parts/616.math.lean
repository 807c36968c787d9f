/-! mathematics of both state tables, part 16; from wip/math -/
theorem shift_l {F : Nat} (hF : 200 ≤ F) {w : wd} {n : Nat} (m : Nat) : ∀ w' c cu, rcs w w' n → w' 0 36 = nI cu → cu + 7 * (n - c) < 600000 → c ≤ n → n - c < m → ∃ bs w1, fn_Md_addRest_2 F m w' (nI c) = (if (w1 0 17) ≤ 0 then fn_Md_addRest_89 F w1 else ((fn_Md_beginSegment F w1 (95 : Int32) ((2 : Int32) + ((7 : Int32) * (w1 0 17)))).bind fun r34 => fn_Md_addRest_89 F r34)) ∧ wrs w' w1 cu bs ∧ bs.length ≤ 7 * (n - c) ∧ fn_Wr_writeShifts_2 F m w (nI c) = some bs := by
  induction m with
  | zero => intro w' r cu _ _ _ _ h; omega
  | succ m ih =>
    intro w' c cu hrc hcu hcu2 hcn hm
    obtain ⟨n1, n2, n3, n4⟩ := id hrc
    rw [fn_Md_addRest_2, fn_Wr_writeShifts_2, n1, n2]
    simp only [bn_le (show n < 2147483648 by omega) (show c < 2147483648 by omega)]
    by_cases hc : n ≤ c
    · rw [if_pos hc, if_pos hc]
      exact ⟨[], w', rfl, wrs_nil hcu, by simp, rfl⟩
    · have hcn' : c < n := by omega
      have hF1 : 100 ≤ F := by omega
      obtain ⟨⟨a1, a2, a3, a4, a5⟩, _⟩ := n4 c hcn'
      have hc16 : c < 16 := by omega
      rw [if_neg hc, if_neg hc, if_pos (in_n n3 hcn' rfl), bn_nn c (by omega)]
      unfold fn_Md_addRest_61 fn_Wr_writeShifts_52
      have E7 : (8 : Int32) * nI c + 7 = nI (8 * c + 7) := by rw [show (8 : Int32) = nI 8 from rfl, bn_mul]; exact bn_add _ 7
      have R := i8 hc16 (show 7 < 8 by omega)
      rw [E7]
      simp only [if_pos R.1, R.2]
      rw [← a5]
      by_cases h0 : w (5 + 6 * c) 4 = 0
      · rw [if_pos h0, if_pos h0, show (1 : Int32) = nI 1 from rfl, bn_add]
        obtain ⟨bs, w1, q1, q2, q3, q4⟩ := ih w' (c + 1) cu hrc hcu (by omega) (by omega) (by omega)
        exact ⟨bs, w1, q1, q2, by omega, q4⟩
      · rw [if_neg h0, if_neg h0]
        obtain ⟨w1, s1, r1⟩ := md_seg hF1 hcu (by omega) 94 5
        obtain ⟨w2, s2, r2⟩ := md_add1 hF1 r1.1 (by simp [l_bs]; omega) (nI c)
        have z2 := wrs_app r1 r2
        obtain ⟨w3, s3, r3⟩ := md_add1 hF1 z2.1 (by simp [l_bs]; omega) 0
        have z3 := wrs_app z2 r3
        obtain ⟨w4, s4, r4⟩ := md_add1 hF1 z3.1 (by simp [l_bs]; omega) (w (5 + 6 * c) 4)
        have z4 := wrs_app z3 r4
        obtain ⟨bs, w5, s5, r5, l5, t5⟩ := ih w4 (c + 1) _ (wrs_rcs hrc z4) z4.1 (by simp [l_bs]; omega) (by omega) (by omega)
        rw [s1, Option.bind_some, s2, Option.bind_some, s3, Option.bind_some, z3.2.2.1 _ _ (by omega) (by omega), ← a5, s4, Option.bind_some, show (1 : Int32) = nI 1 from rfl, bn_add, s5, t5]
        refine ⟨_, _, rfl, wrs_app z4 r5, by simp [l_bs]; omega, ?_⟩
        simp only [List.append_assoc]
        rfl
theorem ch_of {w w' : wd} {k i j : Nat} (h : rch w w' k) (hi : i < k) (hj : j < 6) : fn_Pl_numberOfChange w (nI i) (nI j) = w' 10 (6 * i + j) ∧ (0 ≤ (nI (6 * i + j)).toInt ∧ (nI (6 * i + j)).toInt < 192) ∧ (nI (6 * i + j)).toInt.toNat = 6 * i + j := by
  obtain ⟨_, _, hk, hc⟩ := h
  unfold fn_Pl_numberOfChange
  simp only [show (6 : Int32) = nI 6 from rfl, show (192 : Int32) = nI 192 from rfl, show (0 : Int32) = nI 0 from rfl, bn_mul, bn_add]
  rw [if_neg (by rw [bn_lt (by omega) (by omega)]; omega), if_neg (by rw [bn_le (by omega) (by omega)]; omega), bn_nn _ (by omega), hc _ (by omega), bn_i (by omega), Nat.mul_comm i 6]
  refine ⟨rfl, by omega, by omega⟩
theorem change_l {F : Nat} (hF : 200 ≤ F) {w : wd} {k : Nat} (m : Nat) : ∀ w' c cu, rch w w' k → w' 0 36 = nI cu → cu + 7 * (k - c) < 600000 → c ≤ k → k - c < m → ∃ bs w1, fn_Md_addRest_91 F m w' (nI c) = some w1 ∧ wrs w' w1 cu bs ∧ bs.length ≤ 7 * (k - c) ∧ fn_Wr_writeChanges_25 F m w (nI c) = some bs := by
  induction m with
  | zero => intro w' r cu _ _ _ _ h; omega
  | succ m ih =>
    intro w' c cu hrc hcu hcu2 hcn hm
    obtain ⟨n1, n2, n3, n4⟩ := id hrc
    rw [fn_Md_addRest_91, fn_Wr_writeChanges_25, n1, n2]
    simp only [bn_le (show k < 2147483648 by omega) (show c < 2147483648 by omega)]
    by_cases hc : k ≤ c
    · rw [if_pos hc, if_pos hc]
      exact ⟨[], w', rfl, wrs_nil hcu, by simp, rfl⟩
    · have hck : c < k := by omega
      have hF1 : 100 ≤ F := by omega
      have e0 := ch_of hrc hck (show 0 < 6 by omega)
      have e1 := ch_of hrc hck (show 1 < 6 by omega)
      have e2 := ch_of hrc hck (show 2 < 6 by omega)
      have e3 := ch_of hrc hck (show 3 < 6 by omega)
      have e4 := ch_of hrc hck (show 4 < 6 by omega)
      have e5 := ch_of hrc hck (show 5 < 6 by omega)
      rw [show 6 * c + 0 = 6 * c from rfl] at e0
      rw [if_neg hc, if_neg hc]
      obtain ⟨w1, s1, r1⟩ := md_add1 hF1 hcu (by omega) (w' 10 (6 * c))
      obtain ⟨w2, s2, r2⟩ := md_add1 hF1 r1.1 (by simp; omega) (w' 10 (6 * c + 1))
      have z2 := wrs_app r1 r2
      obtain ⟨w3, s3, r3⟩ := md_add2 hF1 z2.1 (by simp; omega) (w' 10 (6 * c + 2))
      have z3 := wrs_app z2 r3
      obtain ⟨w4, s4, r4⟩ := md_add1 hF1 z3.1 (by simp [l_b2]; omega) (w' 10 (6 * c + 3))
      have z4 := wrs_app z3 r4
      obtain ⟨w5, s5, r5⟩ := md_add1 hF1 z4.1 (by simp [l_b2]; omega) (w' 10 (6 * c + 4))
      have z5 := wrs_app z4 r5
      obtain ⟨w6, s6, r6⟩ := md_add1 hF1 z5.1 (by simp [l_b2]; omega) (w' 10 (6 * c + 5))
      have z6 := wrs_app z5 r6
      obtain ⟨bs, w7, s7, r7, l7, t7⟩ := ih w6 (c + 1) _ (wrs_rch hrc z6) z6.1 (by simp [l_b2]; omega) (by omega) (by omega)
      have em : ∀ x : Int32, x = 6 * nI c → ∀ y, y = x → True := fun _ _ _ _ => trivial
      have E0 : (6 : Int32) * nI c = nI (6 * c) := bn_mul 6 c
      have E1 : (6 : Int32) * nI c + 1 = nI (6 * c + 1) := by rw [E0]; exact bn_add _ 1
      have E2 : (6 : Int32) * nI c + 2 = nI (6 * c + 2) := by rw [E0]; exact bn_add _ 2
      have E3 : (6 : Int32) * nI c + 3 = nI (6 * c + 3) := by rw [E0]; exact bn_add _ 3
      have E4 : (6 : Int32) * nI c + 4 = nI (6 * c + 4) := by rw [E0]; exact bn_add _ 4
      have E5 : (6 : Int32) * nI c + 5 = nI (6 * c + 5) := by rw [E0]; exact bn_add _ 5
      rw [E1, E2, E3, E4, E5, E0, if_pos e0.2.1, e0.2.2, s1, Option.bind_some, if_pos e1.2.1, e1.2.2, r1.2.2.1 _ _ (by omega) (by omega), s2, Option.bind_some, if_pos e2.2.1, e2.2.2, z2.2.2.1 _ _ (by omega) (by omega), s3, Option.bind_some, if_pos e3.2.1, e3.2.2, z3.2.2.1 _ _ (by omega) (by omega), s4, Option.bind_some, if_pos e4.2.1, e4.2.2, z4.2.2.1 _ _ (by omega) (by omega), s5, Option.bind_some, if_pos e5.2.1, e5.2.2, z5.2.2.1 _ _ (by omega) (by omega), s6, Option.bind_some, show (1 : Int32) = nI 1 from rfl, bn_add, s7, t7, show (0 : Int32) = nI 0 from rfl, e0.1, e1.1, show (2 : Int32) = nI 2 from rfl, e2.1, show (3 : Int32) = nI 3 from rfl, e3.1, show (4 : Int32) = nI 4 from rfl, e4.1, show (5 : Int32) = nI 5 from rfl, e5.1]
      refine ⟨_, _, rfl, wrs_app z6 r7, by simp [l_b2]; omega, ?_⟩
      simp only [List.append_assoc]
      rfl
theorem rest_w {F : Nat} (hF : 200 ≤ F) {w w' : wd} {n k : Nat} (hrc : rcs w w' n) (hch : rch w w' k) {cu : Nat} (hcu : w' 0 36 = nI cu) (hcu2 : cu < 500000) : ∃ b1 b2 w1, fn_Wr_writeShifts F w = some b1 ∧ fn_Wr_writeChanges F w = some b2 ∧ fn_Md_addRest F w' = some w1 ∧ wrs w' w1 cu (b1 ++ b2) ∧ (b1 ++ b2).length ≤ 1000 := by
  have hF1 : 100 ≤ F := by omega
  have hn := hrc.2.2.1
  obtain ⟨k1, k2, k3, k4⟩ := id hch
  obtain ⟨b1, w1, s1, r1, l1, t1⟩ := shift_l hF F w' 0 cu hrc hcu (by omega) (by omega) (by omega)
  have k17 : w1 0 17 = nI k := (wrs_rch hch r1).2.1
  by_cases hk : k = 0
  · subst hk
    refine ⟨b1, [], w1, t1, ?_, ?_, by simp only [List.append_nil]; exact r1, by simp; omega⟩
    · unfold fn_Wr_writeChanges
      rw [k1, if_pos (show nI 0 = 0 from rfl)]
    · unfold fn_Md_addRest
      have : fn_Md_addRest_2 F F w' 0 = _ := s1
      rw [this, k17, if_pos (by decide)]
      unfold fn_Md_addRest_89
      obtain ⟨F', hF'⟩ : ∃ F', F = F' + 1 := ⟨F - 1, by omega⟩
      have : fn_Md_addRest_91 F (F' + 1) w1 0 = some w1 := by rw [fn_Md_addRest_91, k17, if_pos (by decide)]
      rw [← hF'] at this
      exact this
  · obtain ⟨w2, s2, r2⟩ := md_seg hF1 r1.1 (by omega) 95 (2 + 7 * nI k)
    have z2 := wrs_app r1 r2
    obtain ⟨b3, w3, s3, r3, l3, t3⟩ := change_l hF F w2 0 _ (wrs_rch hch z2) z2.1 (by simp [l_bs]; omega) (by omega) (by omega)
    refine ⟨b1, rw_bs 95 (2 + 7 * nI k) ++ b3, w3, t1, ?_, ?_, ?_, by simp [l_bs]; omega⟩
    · unfold fn_Wr_writeChanges
      rw [k1, if_neg (by rw [show (0 : Int32) = nI 0 from rfl, bn_eq (by omega) (by omega)]; exact hk), show fn_Wr_writeChanges_25 F F w 0 = some b3 from t3]
      rfl
    · unfold fn_Md_addRest
      have : fn_Md_addRest_2 F F w' 0 = _ := s1
      rw [this, k17, if_neg (by rw [show (0 : Int32) = nI 0 from rfl, bn_le (by omega) (by omega)]; omega), s2, Option.bind_some]
      exact s3
    · have := wrs_app z2 r3
      simp only [List.append_assoc] at this
      exact this
