/-! mathematics of both state tables, part 14; from wip/math -/
theorem os_63f {F : Nat} {w w' : wd} {c : Nat} (hc : c < 16) (h : rc w w' c) (n : Nat) (k : Nat) : fn_Md_otherSteps_63 F (n + 1) w' (nI c) false (nI k) = some true := by
  obtain ⟨q, q1, q2, q3, q4⟩ := cw_of hc h
  rw [fn_Md_otherSteps_63, q4, Option.bind_some]
  simp
theorem os_63 {F : Nat} {w w' : wd} {c : Nat} (hc : c < 16) (h : rc w w' c) (h0 : rc w w' 0) {q : Nat} (hq1 : q ≤ 97) (hq : fn_Md_valuesOf w' (nI c) = some (nI q)) (n : Nat) : ∀ k, k ≤ q → q - k < n → ∃ b, fn_Cp_writesStepsLike_71 F n w c 0 (nI q) (nI k) = some b ∧ fn_Md_otherSteps_63 F n w' (nI c) true (nI k) = some (!b) := by
  induction n with
  | zero => intro r _ h; omega
  | succ n ih =>
    intro k h1 h2
    rw [fn_Md_otherSteps_63, fn_Cp_writesStepsLike_71, hq, Option.bind_some]
    simp only [bn_le (show q < 2147483648 by omega) (show k < 2147483648 by omega)]
    by_cases hk : q ≤ k
    · rw [if_pos hk, if_pos hk]
      exact ⟨_, rfl, rfl⟩
    · rw [if_neg hk, if_neg hk, if_pos trivial, wv_of hc h (by omega), Option.bind_some, show (0 : Int32) = nI 0 from rfl, wv_of (by omega) h0 (by omega), Option.bind_some]
      unfold fn_Md_otherSteps_96
      rw [show (1 : Int32) = nI 1 from rfl, bn_add]
      obtain ⟨n', rfl⟩ : ∃ n', n = n' + 1 := ⟨n - 1, by omega⟩
      rw [os_63f hc h]
      by_cases he : fn_St_written w c (nI k) = fn_St_written w 0 (nI k)
      · rw [if_pos he, if_pos he]
        exact ih (k + 1) (by omega) (by omega)
      · rw [if_neg he, if_neg he]
        exact ⟨_, rfl, rfl⟩
theorem otherSteps {F : Nat} (hF : 200 ≤ F) {w w' : wd} {c : Nat} (hc : c < 16) (h : rc w w' c) (h0 : rc w w' 0) : ∃ b, fn_Cp_writesStepsLike F w c 0 = some b ∧ fn_Md_otherSteps F w' (nI c) = some (!b) := by
  obtain ⟨q, q1, q2, q3, q4⟩ := cw_of hc h
  obtain ⟨p, p1, p2, p3, p4⟩ := cw_of (by omega) h0
  obtain ⟨_, _, ⟨c1, c2⟩, _⟩ := id h
  obtain ⟨_, _, ⟨a1, a2⟩, _⟩ := id h0
  rw [Nat.mul_zero, Nat.zero_add] at a1 a2
  obtain ⟨b, hb1, hb2⟩ := os_63 (F := F) hc h h0 q2 q4 F 0 (by omega) (by omega)
  obtain ⟨F', hF'⟩ : ∃ F', F = F' + 1 := ⟨F - 1, by omega⟩
  have hf : fn_Md_otherSteps_63 F F w' (nI c) false 0 = some true := by
    have := os_63f (F := F) hc h F' 0
    rw [← hF'] at this
    exact this
  rw [Nat.mul_zero] at p3
  unfold fn_Cp_writesStepsLike fn_Md_otherSteps fn_Md_otherSteps_59 fn_Md_otherSteps_60
  rw [Nat.mul_zero, q3, p3, c1, c2, a1, a2, q4, hf]
  simp only [show (8 : Int32) = nI 8 from rfl, show (5 : Int32) = nI 5 from rfl, show (6 : Int32) = nI 6 from rfl, bn_mul, bn_add, show (0 : Int32) = nI 0 from rfl, p4, Option.bind_some, hb1, hb2]
  rw [if_pos (i8 hc (by omega)).1, (i8 hc (by omega)).2, if_pos (i8 hc (by omega)).1, (i8 hc (by omega)).2]
  by_cases e1 : w' 6 (8 * c + 5) = w' 6 5
  · rw [if_pos e1, if_pos e1]
    by_cases e2 : w' 6 (8 * c + 6) = w' 6 6
    · rw [if_pos e2, if_pos e2]
      by_cases e3 : nI q = nI p
      · rw [if_pos e3, if_pos e3]; exact ⟨b, rfl, rfl⟩
      · rw [if_neg e3, if_neg e3]; exact ⟨_, rfl, rfl⟩
    · rw [if_neg e2, if_neg e2]; exact ⟨_, rfl, rfl⟩
  · rw [if_neg e1, if_neg e1]; exact ⟨_, rfl, rfl⟩
theorem wrs_rcs {w w' w1 : wd} {n cu : Nat} {bs : List Nat} (h : rcs w w' n) (h1 : wrs w' w1 cu bs) : rcs w w1 n :=
  rcs_fr h rfl (fun _ _ _ _ => rfl) (h1.2.2.1 _ _ (by omega) (by omega)) (fun a j _ _ => h1.2.2.1 _ _ (by omega) (by omega))
theorem wrs_rch {w w' w1 : wd} {k cu : Nat} {bs : List Nat} (h : rch w w' k) (h1 : wrs w' w1 cu bs) : rch w w1 k :=
  rch_fr h rfl (fun _ => rfl) (h1.2.2.1 _ _ (by omega) (by omega)) (fun j => h1.2.2.1 _ _ (by omega) (by omega))
theorem in_n {n c : Nat} (hn : n ≤ 16) (hc : c < n) {x : Int32} (hx : x = nI n) : (0 ≤ (nI c).toInt ∧ (nI c).toInt < x.toInt) ∧ (nI c).toInt < 16 := by
  rw [hx, bn_i (by omega), bn_i (by omega)]; omega
theorem l_b2 (x : Int32) : (rw_b2 x).length = 2 := rfl
theorem l_b4 (x : Int32) : (rw_b4 x).length = 4 := rfl
theorem l_bs (x y : Int32) : (rw_bs x y).length = 4 := rfl
theorem l_bm (x : Int32) : (rw_bm x).length = 2 := rfl
theorem size_l {F : Nat} (hF : 200 ≤ F) {w : wd} {n : Nat} (m : Nat) : ∀ w' c cu, rcs w w' n → w' 0 36 = nI cu → cu + 3 * (n - c) < 800000 → c ≤ n → n - c < m → ∃ bs w1, fn_Md_addSize_137 F m w' (nI c) = some w1 ∧ wrs w' w1 cu bs ∧ bs.length ≤ 3 * (n - c) ∧ fn_Wr_writeSize_112 F m w (nI c) = some bs := by
  induction m with
  | zero => intro w' r cu _ _ _ _ h; omega
  | succ m ih =>
    intro w' c cu hrc hcu hcu2 hcn hm
    obtain ⟨n1, n2, n3, n4⟩ := id hrc
    rw [fn_Md_addSize_137, fn_Wr_writeSize_112, n1, n2]
    simp only [bn_le (show n < 2147483648 by omega) (show c < 2147483648 by omega)]
    by_cases hc : n ≤ c
    · rw [if_pos hc, if_pos hc]
      exact ⟨[], w', rfl, wrs_nil hcu, by simp, rfl⟩
    · have hcn' : c < n := by omega
      have hF1 : 100 ≤ F := by omega
      have R : 0 ≤ (nI c).toInt ∧ (nI c).toInt < 16 := by rw [bn_i (by omega)]; omega
      have R2 := bn_nn c (by omega)
      rw [if_neg hc, if_neg hc, if_pos (in_n n3 hcn' rfl)]
      simp only [if_pos R, R2]
      obtain ⟨⟨a1, a2, a3, a4, a5⟩, _, _, ⟨d1, _⟩, _⟩ := n4 c hcn'
      obtain ⟨w1, s1, r1⟩ := md_add1 hF1 hcu (by omega) (w (5 + 6 * c) 0 - 1 + 128 * w (5 + 6 * c) 1)
      obtain ⟨w2, s2, r2⟩ := md_add1 hF1 r1.1 (by simp; omega) (w (5 + 6 * c) 2)
      obtain ⟨w3, s3, r3⟩ := md_add1 hF1 r2.1 (by simp; omega) (w (5 + 6 * c) 3)
      have rr := wrs_app r1 (wrs_app r2 r3)
      obtain ⟨bs, w4, s4, r4, l4, t4⟩ := ih w3 (c + 1) _ (wrs_rcs hrc rr) rr.1 (by simp; omega) (by omega) (by omega)
      rw [← a1, ← a2, s1, Option.bind_some, r1.2.2.1 _ _ (by omega) (by omega), ← a3, s2, Option.bind_some, r2.2.2.1 _ _ (by omega) (by omega), r1.2.2.1 _ _ (by omega) (by omega), ← a4, s3, Option.bind_some, show (1 : Int32) = nI 1 from rfl, bn_add, s4]
      refine ⟨_, _, rfl, wrs_app rr r4, by simp; omega, ?_⟩
      unfold fn_Wr_writeSize_151 fn_Wr_writeSize_171
      rw [show (1 : Int32) = nI 1 from rfl, bn_add, t4]
      rcases d1 with d | d
      · rw [d]; rfl
      · rw [d]; rfl
theorem size_w {F : Nat} (hF : 200 ≤ F) {w w' : wd} {n : Nat} (ha : ra w w') (hrc : rcs w w' n) {cu : Nat} (hcu : w' 0 36 = nI cu) (hcu2 : cu < 700000) : ∃ bs w1, fn_Wr_writeSize F w = some bs ∧ fn_Md_addSize F w' = some w1 ∧ wrs w' w1 cu (rw_bm 79 ++ bs) ∧ bs.length ≤ 88 := by
  have hF1 : 100 ≤ F := by omega
  obtain ⟨n1, n2, n3, n4⟩ := id hrc
  have g := ha.1
  obtain ⟨w1, s1, r1⟩ := md_add1 hF1 hcu (by omega) 255
  obtain ⟨w2, s2, r2⟩ := md_add1 hF1 r1.1 (by simp; omega) 79
  have z2 := wrs_app r1 r2
  have z2 : wrs w' w2 cu (rw_bm 79) := z2
  obtain ⟨w3, s3, r3⟩ := md_seg hF1 z2.1 (by simp [l_bm]; omega) 81 (38 + 3 * nI n)
  have z3 := wrs_app z2 r3
  obtain ⟨w4, s4, r4⟩ := md_add2 hF1 z3.1 (by simp [l_bm, l_bs]; omega) 0
  have z4 := wrs_app z3 r4
  obtain ⟨w5, s5, r5⟩ := md_add4 hF1 z4.1 (by simp [l_bm, l_bs, l_b2]; omega) (w 2 2)
  have z5 := wrs_app z4 r5
  obtain ⟨w6, s6, r6⟩ := md_add4 hF1 z5.1 (by simp [l_bm, l_bs, l_b2, l_b4]; omega) (w 2 3)
  have z6 := wrs_app z5 r6
  obtain ⟨w7, s7, r7⟩ := md_add4 hF1 z6.1 (by simp [l_bm, l_bs, l_b2, l_b4]; omega) (w 2 0)
  have z7 := wrs_app z6 r7
  obtain ⟨w8, s8, r8⟩ := md_add4 hF1 z7.1 (by simp [l_bm, l_bs, l_b2, l_b4]; omega) (w 2 1)
  have z8 := wrs_app z7 r8
  obtain ⟨w9, s9, r9⟩ := md_add4 hF1 z8.1 (by simp [l_bm, l_bs, l_b2, l_b4]; omega) (w 2 6)
  have z9 := wrs_app z8 r9
  obtain ⟨w10, s10, r10⟩ := md_add4 hF1 z9.1 (by simp [l_bm, l_bs, l_b2, l_b4]; omega) (w 2 7)
  have z10 := wrs_app z9 r10
  obtain ⟨w11, s11, r11⟩ := md_add4 hF1 z10.1 (by simp [l_bm, l_bs, l_b2, l_b4]; omega) (w 2 4)
  have z11 := wrs_app z10 r11
  obtain ⟨w12, s12, r12⟩ := md_add4 hF1 z11.1 (by simp [l_bm, l_bs, l_b2, l_b4]; omega) (w 2 5)
  have z12 := wrs_app z11 r12
  obtain ⟨w13, s13, r13⟩ := md_add2 hF1 z12.1 (by simp [l_bm, l_bs, l_b2, l_b4]; omega) (nI n)
  have z13 := wrs_app z12 r13
  obtain ⟨bs, w14, s14, r14, l14, t14⟩ := size_l hF F w13 0 _ (wrs_rcs hrc z13) z13.1 (by simp [l_bm, l_bs, l_b2, l_b4]; omega) (by omega) (by omega)
  have z14 := wrs_app z13 r14
  have A : ∀ {v bs}, wrs w' v cu bs → ∀ i, i < 8 → v 1 i = w 2 i := fun h i hi => by rw [h.2.2.1 _ _ (by omega) (by omega)]; exact (g i hi).symm
  have B : ∀ {v bs}, wrs w' v cu bs → v 0 3 = nI n := fun h => by rw [h.2.2.1 _ _ (by omega) (by omega)]; exact n2
  refine ⟨rw_bs 81 (38 + 3 * nI n) ++ (rw_b2 0 ++ (rw_b4 (w 2 2) ++ (rw_b4 (w 2 3) ++ (rw_b4 (w 2 0) ++ (rw_b4 (w 2 1) ++ (rw_b4 (w 2 6) ++ (rw_b4 (w 2 7) ++ (rw_b4 (w 2 4) ++ (rw_b4 (w 2 5) ++ (rw_b2 (nI n) ++ bs)))))))))), w14, ?_, ?_, ?_, ?_⟩
  · unfold fn_Wr_writeSize
    rw [show fn_Wr_writeSize_112 F F w (0 : Int32) = some bs from t14, n1]
    rfl
  · unfold fn_Md_addSize
    rw [s1, Option.bind_some, s2, Option.bind_some, B z2, s3, Option.bind_some, s4, Option.bind_some, A z4 2 (by omega), s5, Option.bind_some, A z5 3 (by omega), s6, Option.bind_some, A z6 0 (by omega), s7, Option.bind_some, A z7 1 (by omega), s8, Option.bind_some, A z8 6 (by omega), s9, Option.bind_some, A z9 7 (by omega), s10, Option.bind_some, A z10 4 (by omega), s11, Option.bind_some, A z11 5 (by omega), s12, Option.bind_some, B z12, s13, Option.bind_some]
    exact s14
  · simp only [List.append_assoc] at z14
    exact z14
  · simp only [List.length_append, l_bs, l_b2, l_b4]
    omega
