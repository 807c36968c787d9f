/-! mathematics of both state tables, part 7; from wip/math -/
theorem md_get0 {w w' : wd} {n k : Nat} (g3 : rcs w w' n) (g4 : rch w w' k) (x1 x2 x3 : Int32) (one two three : Prop) [Decidable one] [Decidable two] [Decidable three] (h1 : one ↔ 0 ≤ x1.toInt ∧ x1.toInt ≤ 14) (h2 : two ↔ (20 ≤ x1.toInt ∧ x1.toInt ≤ 34) ∧ (0 ≤ x2.toInt ∧ x2.toInt < n) ∧ (x1.toInt < 32 ∨ (0 ≤ x3.toInt ∧ x3.toInt ≤ if x1.toInt = 34 then 96 else 32))) (h3 : three ↔ (40 ≤ x1.toInt ∧ x1.toInt ≤ 45) ∧ 0 ≤ x2.toInt ∧ x2.toInt < k) :
    fn_Md_get w' x1 x2 x3 = fn_Md_get_124 w' x1 x2 x3 (decide two) (decide three) (decide (¬ one ∧ ¬ two ∧ ¬ three)) := by
  have i1 := (isC g3 x2).1
  have m1 := md_in0 x1 (a := 0) (b := 14) (c := 0) (d := 14) rfl rfl
  have m2 := md_in0 x1 (a := 20) (b := 34) (c := 20) (d := 34) rfl rfl
  have m3 := md_in0 x1 (a := 40) (b := 45) (c := 40) (d := 45) rfl rfl
  have m4 := md_in0 x3 (a := 0) (b := 96) (c := 0) (d := 96) rfl rfl
  have m5 := md_in0 x3 (a := 0) (b := 32) (c := 0) (d := 32) rfl rfl
  have hk : (w' 0 17).toInt = k := by rw [g4.2.1]; exact bn_i (by have := g4.2.2.1; omega)
  have s1 : fn_Md_get w' x1 x2 x3 = fn_Md_get_68 w' x1 x2 x3 (decide one) (decide two) := by
    unfold fn_Md_get fn_Md_get_57 fn_Md_get_63 fn_Md_get_67
    simp only [bi_lt, bi_eq, bi_l]
    have : fn_Md_in x1.toInt64 0 14 = decide one := by
      rw [Bool.eq_iff_iff, m1, h1.symm, decide_eq_true_eq]
    rw [this]
    by_cases t2 : two
    · rw [decide_eq_true t2]
      have t2' := h2.1 t2
      grind (splits := 40)
    · rw [decide_eq_false t2]
      have t2' : ¬ _ := fun x => t2 (h2.2 x)
      grind (splits := 40)
  rw [s1]
  unfold fn_Md_get_68 fn_Md_get_100 fn_Md_get_101 fn_Md_get_123
  simp only [bi_lt, bi_le, i0, hk, m3]
  by_cases t3 : three
  · have t3' := h3.1 t3
    rw [if_pos (by omega), if_neg (by omega), if_neg (by omega)]
    simp [t3]
  · have t3' : ¬ _ := fun x => t3 (h3.2 x)
    have : ∀ (A B : Option (Int32 × wd)), (if 40 ≤ x1.toInt ∧ x1.toInt ≤ 45 then if x2.toInt < 0 then A else if (k : Int) ≤ x2.toInt then A else B else A) = A := by
      intro A B
      grind
    rw [this]
    by_cases t1 : one <;> by_cases t2 : two <;> simp [t1, t2, t3]
theorem b_get (Z : zd) {w w' : wd} (h : rpl w w') (x1 x2 x3 : Int32) :
   ∃ v, fn_Md_get w' x1 x2 x3 = some (v, up2 w' 0 0 (cd1 (fn_SM_get Z w x1 x2 x3))) ∧ ∀ u, fn_SM_get Z w x1 x2 x3 = .inl u → u = v := by
  obtain ⟨g1, g2, ⟨n, g3⟩, k, g4⟩ := id h
  obtain ⟨hn1, hn2, hn, hcs⟩ := id g3
  obtain ⟨hk1, hk2, hk, hch⟩ := id g4
  obtain ⟨i1, i2⟩ := isC g3 x2
  have hk3 : (w 1 9).toInt = k := by rw [hk1]; exact bn_i (by omega)
  have G := md_get0 g3 g4 x1 x2 x3 _ _ _ Iff.rfl Iff.rfl Iff.rfl
  by_cases h1 : 0 ≤ x1.toInt ∧ x1.toInt ≤ 14
  · have e1 : fn_SM_get Z w x1 x2 x3 = .inl (fn_Pl_number w x1) := by
      unfold fn_SM_get
      simp only [bi_lt, bi_l]
      rw [if_neg (by omega), if_neg (by omega)]
    rw [G, e1, decide_eq_false (by omega), decide_eq_false (by omega), decide_eq_false (by omega)]
    unfold fn_Md_get_124
    simp only [md_ref0, Bool.false_eq_true, if_false, cd1]
    obtain ⟨i, hi2, rfl⟩ := bn_ex h1.1
    rw [bn_i hi2] at h1
    have b1 := g2.2.1
    have b2 := g2.2.2.1
    have b3 := g2.2.2.2
    obtain ⟨c1, c2, c3, c4, c5⟩ := g2.1
    unfold fn_Pl_number fn_Pl_number_20
    simp only [bn_lit]
    simp (disch := omega) only [bn_lt, bn_le, bn_eq, bn_i, Int.toNat_natCast]
    simp only [← bn_lit]
    simp (disch := omega) only [u2n]
    rw [if_neg (show ¬ i < 0 by omega)]
    by_cases h8 : 8 ≤ i
    · rw [if_pos h8, if_pos h8]
      rcases (show i = 8 ∨ i = 9 ∨ i = 10 ∨ i = 11 ∨ i = 12 ∨ i = 13 ∨ i = 14 by omega) with rfl | rfl | rfl | rfl | rfl | rfl | rfl <;> simp <;> grind
    · rw [if_neg h8, if_neg h8, if_pos (by omega)]
      refine ⟨_, rfl, fun u hu => ?_⟩
      rw [← Sum.inl.inj hu]
      exact g1.1 i (by omega)
  · by_cases h2 : 20 ≤ x1.toInt ∧ x1.toInt ≤ 34
    · have e1 : fn_SM_get Z w x1 x2 x3 = fn_SM_numberOfComponent Z w x1 x2 x3 := by
        unfold fn_SM_get fn_SM_get_19
        simp only [bi_lt, bi_l]
        rw [if_neg (by omega), if_pos (by omega), if_neg (by omega), if_neg (by omega)]
        split <;> simp_all
      by_cases h3 : (0 ≤ x2.toInt ∧ x2.toInt < n) ∧ (x1.toInt < 32 ∨ (0 ≤ x3.toInt ∧ x3.toInt ≤ if x1.toInt = 34 then 96 else 32))
      · rw [G, e1, decide_eq_true (show (20 ≤ x1.toInt ∧ x1.toInt ≤ 34) ∧ _ from ⟨h2, h3⟩), decide_eq_false (by omega), decide_eq_false (fun x => x.2.1 ⟨h2, h3⟩)]
        unfold fn_Md_get_124
        simp only [md_ref0, Bool.false_eq_true, if_false, if_true]
        have e2 : fn_SM_numberOfComponent Z w x1 x2 x3 = .inl (fn_Cp_number w x2.toInt.toNat x1 x3) := by
          unfold fn_SM_numberOfComponent fn_SM_numberOfComponent_19 fn_SM_numberOfComponent_24 fn_SM_numberOfComponent_52
          simp only [bi_lt, bi_le, bi_eq, bi_l]
          rw [if_pos (i2.2 h3.1)]
          grind (splits := 40)
        rw [e2]
        obtain ⟨i, hi2, rfl⟩ := bn_ex (x := x1) (by omega)
        obtain ⟨c, hc2, rfl⟩ := bn_ex h3.1.1
        rw [bn_i hi2] at h2 h3
        rw [bn_i hc2] at h3
        have hc : c < n := by omega
        rw [bn_nn _ hc2]
        have hr := hcs c hc
        unfold fn_Md_ofComponent fn_Cp_number
        simp only [bn_lit]
        have E : ∀ m : Nat, m < 2147483648 → ((nI i = nI m) = (i = m)) := fun m hm => propext (bn_eq hi2 hm)
        simp only [cd1]
        simp only [E 20 (by omega), E 21 (by omega), E 22 (by omega), E 23 (by omega), E 24 (by omega), E 25 (by omega), E 26 (by omega), E 27 (by omega), E 28 (by omega), E 29 (by omega), E 30 (by omega), E 31 (by omega), E 32 (by omega), E 33 (by omega), E 34 (by omega)]
        obtain ⟨⟨a1, a2, a3, a4, a5⟩, ⟨b1, b2, b3, b4, b5⟩, ⟨c1, c2⟩, ⟨d1, d2, d3, d4⟩, f1, f2, f3⟩ := hr
        have hcI : (nI c).toInt = c := bn_i hc2
        have z0 : nI 0 = 0 := rfl
        have z1 : nI 1 = 1 := rfl
        by_cases h32 : i < 32
        · clear f1 f2 f3 G e1 e2 i1 i2
          by_cases h24 : i < 24
          · simp only [hcI, Int.toNat_natCast, z0, z1]
            rcases (show i = 20 ∨ i = 21 ∨ i = 22 ∨ i = 23 by omega) with rfl | rfl | rfl | rfl <;> simp [up2] <;> grind
          · have K : nI 8 * nI c + nI i - nI 24 = nI (8 * c + (i - 24)) := by
              rw [bn_mul, bn_add, bn_sub (by omega)]; congr 1; omega
            have K2 : (nI (8 * c + (i - 24))).toInt = (8 * c + (i - 24) : Nat) := bn_i (by omega)
            simp only [K, K2, Int.toNat_natCast, z0, z1]
            rcases (show i = 24 ∨ i = 25 ∨ i = 26 ∨ i = 27 ∨ i = 28 ∨ i = 29 ∨ i = 30 ∨ i = 31 by omega) with rfl | rfl | rfl | rfl | rfl | rfl | rfl | rfl <;> simp [up2] <;> grind
        · have h3' := h3.2.resolve_left (by omega)
          obtain ⟨r, hr2, rfl⟩ := bn_ex h3'.1
          rw [bn_i hr2] at h3'
          have hr97 : r ≤ if (i : Int) = 34 then 96 else 32 := by
            by_cases hi : (i : Int) = 34
            · rw [if_pos hi] at *; omega
            · rw [if_neg hi] at *; omega
          have hr98 : r < 97 := by
            by_cases hi : (i : Int) = 34
            · rw [if_pos hi] at hr97; omega
            · rw [if_neg hi] at hr97; omega
          have K1 : (nI (33 * c + r)).toInt = (33 * c + r : Nat) := bn_i (by omega)
          have K2 : (nI (97 * c + r)).toInt = (97 * c + r : Nat) := bn_i (by omega)
          have K3 : (nI r).toInt = r := bn_i (by omega)
          clear G e1 e2 i1 i2
          simp only [bn_mul, bn_add, K1, K2, Int.toNat_natCast, z0, z1]
          unfold fn_Cd_pwOf fn_Cd_phOf fn_St_valueOf
          simp only [bi_lt, bi_le, bi_l, K3, Int.toNat_natCast]
          rcases (show i = 32 ∨ i = 33 ∨ i = 34 by omega) with rfl | rfl | rfl
          · have hr33 : r < 33 := by
              simp at hr97; omega
            have := f1 r hr33
            simp [up2]
            grind
          · have hr33 : r < 33 := by
              simp at hr97; omega
            have := f2 r hr33
            simp [up2]
            grind
          · have := f3 r hr98
            simp [up2]
            grind
      · rw [G, e1, decide_eq_false (fun x : (20 ≤ x1.toInt ∧ x1.toInt ≤ 34) ∧ _ => h3 x.2), decide_eq_false (by omega), decide_eq_true (show ¬ _ ∧ ¬ _ ∧ ¬ _ from ⟨h1, fun x => h3 x.2, by omega⟩)]
        have e2 : fn_SM_numberOfComponent Z w x1 x2 x3 = .inr "java/util/NoSuchElementException" := by
          unfold fn_SM_numberOfComponent fn_SM_numberOfComponent_19 fn_SM_numberOfComponent_24 fn_SM_numberOfComponent_52
          simp only [bi_lt, bi_le, bi_eq, bi_l]
          by_cases hc : 0 ≤ x2.toInt ∧ x2.toInt < n
          · rw [if_pos (i2.2 hc)]
            have : ¬ (x1.toInt < 32 ∨ (0 ≤ x3.toInt ∧ x3.toInt ≤ if x1.toInt = 34 then 96 else 32)) := fun x => h3 ⟨hc, x⟩
            grind (splits := 40)
          · rw [if_neg (fun x => hc (i2.1 x))]
        rw [e2]
        unfold fn_Md_get_124
        simp only [md_refT, if_true, cd1]
        exact ⟨_, rfl, fun u hu => nomatch hu⟩
    · by_cases h3 : (40 ≤ x1.toInt ∧ x1.toInt ≤ 45) ∧ 0 ≤ x2.toInt ∧ x2.toInt < k
      · have e1 : fn_SM_get Z w x1 x2 x3 = .inl (fn_Pl_numberOfChange w x2 (x1 - 40)) := by
          unfold fn_SM_get fn_SM_get_19 fn_SM_get_39
          simp only [bi_lt, bi_le, bi_l, hk3]
          rw [if_neg (by omega), if_pos (by omega), if_neg (by omega), if_pos (by omega), if_neg (by omega), if_neg (by omega), if_neg (by omega), if_neg (by omega)]
        rw [G, e1, decide_eq_false (fun x : (20 ≤ x1.toInt ∧ x1.toInt ≤ 34) ∧ _ => h2 x.1), decide_eq_true h3, decide_eq_false (fun x => x.2.2 h3)]
        unfold fn_Md_get_124
        simp only [md_ref0, Bool.false_eq_true, if_false, if_true, cd1]
        obtain ⟨i, hi2, rfl⟩ := bn_ex (x := x1) (by omega)
        obtain ⟨c, hc2, rfl⟩ := bn_ex h3.2.1
        rw [bn_i hi2, bn_i hc2] at h3
        unfold fn_Pl_numberOfChange
        simp only [bn_lit, bn_mul, bn_add]
        rw [bn_sub (show 40 ≤ 6 * c + i by omega), bn_sub (show 40 ≤ i by omega)]
        simp only [bn_add]
        simp (disch := omega) only [bn_lt, bn_le, bn_i, Int.toNat_natCast]
        rw [if_pos (by omega), if_neg (by omega), if_neg (by omega)]
        simp only [← bn_lit]
        simp (disch := omega) only [u2n]
        refine ⟨_, rfl, fun u hu => ?_⟩
        rw [← Sum.inl.inj hu, show 6 * c + i - 40 = c * 6 + (i - 40) by omega]
        exact hch _ (by omega)
      · have e1 : fn_SM_get Z w x1 x2 x3 = .inr "java/util/NoSuchElementException" := by
          unfold fn_SM_get fn_SM_get_19 fn_SM_get_39
          simp only [bi_lt, bi_le, bi_l, hk3]
          grind (splits := 40)
        rw [G, e1, decide_eq_false (fun x : (20 ≤ x1.toInt ∧ x1.toInt ≤ 34) ∧ _ => h2 x.1), decide_eq_false h3, decide_eq_true (show ¬ _ ∧ ¬ _ ∧ ¬ _ from ⟨h1, fun x => h2 x.1, h3⟩)]
        unfold fn_Md_get_124
        simp only [md_refT, if_true, cd1]
        exact ⟨_, rfl, fun u hu => nomatch hu⟩
