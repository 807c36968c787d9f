/-! mathematics of both state tables, part 50; from wip/math -/
theorem rstC (w : wd) (c : Nat) (b : Int32) (s : Bool) (dx dy : Int32) : (fn_Cp_reset w c b s dx dy (5 + 6 * c) 0 = b ∧ fn_Cp_reset w c b s dx dy (5 + 6 * c) 1 = bi s ∧ fn_Cp_reset w c b s dx dy (5 + 6 * c) 2 = dx ∧ fn_Cp_reset w c b s dx dy (5 + 6 * c) 3 = dy ∧ fn_Cp_reset w c b s dx dy (5 + 6 * c) 4 = 0) ∧ (fn_Cp_reset w c b s dx dy (6 + 6 * c) 0 = 0 ∧ fn_Cp_reset w c b s dx dy (6 + 6 * c) 1 = 6 ∧ fn_Cp_reset w c b s dx dy (6 + 6 * c) 2 = 6 ∧ fn_Cp_reset w c b s dx dy (6 + 6 * c) 3 = 0 ∧ fn_Cp_reset w c b s dx dy (6 + 6 * c) 4 = 1) ∧ (fn_Cp_reset w c b s dx dy (9 + 6 * c) 0 = 0 ∧ fn_Cp_reset w c b s dx dy (9 + 6 * c) 1 = 2) ∧ (∀ r, r < 33 → fn_Cp_reset w c b s dx dy (7 + 6 * c) r = 15 ∧ fn_Cp_reset w c b s dx dy (8 + 6 * c) r = 15) ∧ (∀ k, k < 97 → fn_Cp_reset w c b s dx dy (10 + 6 * c) k = 0) ∧ ∀ a j, ¬ (5 + 6 * c ≤ a ∧ a < 11 + 6 * c) → fn_Cp_reset w c b s dx dy a j = w a j := by
  unfold fn_Cp_reset fn_St_reset fn_St_resetValues fn_Cd_reset fn_Cd_resetPrecincts fn_Cd_setBlocks
  refine ⟨?_, ?_, ?_, fun r hr => ?_, fun k hk => ?_, fun a j q => ?_⟩
  · simp (disch := omega) only [f2n, u2n, u2e]
    exact ⟨trivial, trivial, trivial, trivial, trivial⟩
  · simp (disch := omega) only [f2n, u2n, u2e]
    exact ⟨trivial, trivial, trivial, trivial, rfl⟩
  · simp (disch := omega) only [f2n, u2n, u2e]
    exact ⟨trivial, trivial⟩
  · simp (disch := omega) only [f2n, f2e, u2n]
    exact ⟨trivial, trivial⟩
  · simp (disch := omega) only [f2e]
  · simp (disch := omega) only [f2n, u2n]
theorem sz91 {F : Nat} (hF : 70000 ≤ F) {Z : zd} {l : List Nat} {cn : Nat} (hz : Z.1.1 = l) (hb : byt l) (hcn : cn ≤ 16) (hlen : 42 + 3 * cn ≤ l.length) (x1 : Int32) (g : Nat) : ∀ (w w' : wd) (c : Nat), str w' l → w' 0 35 = nI cn → w 1 2 = nI c → (∀ x, x < c → rc w w' x) → c ≤ cn → cn - c < g → ∃ W w1', fn_Ld_loadSize_91 F Z g w (nI 6) (nI cn) (nI c) = some W ∧ fn_Md_make_125 F g w' x1 (nI c) = ((fn_Md_take F w1' (-1 : Int32)).bind fun r42 => (if x1 < 0 then some r42 else ((fn_Md_take F r42 x1).bind fun r47 => some r47))) ∧ W 1 2 = nI cn ∧ (∀ x, x < cn → rc W w1' x) ∧ (∀ a j, ¬ (a = 1 ∧ j = 2) → ¬ (5 ≤ a ∧ a < 101) → W a j = w a j) ∧ (∀ a j, ¬ (2 ≤ a ∧ a ≤ 9) → w1' a j = w' a j) := by
  have hl := hb.1
  induction g with
  | zero => intro w w' c _ _ _ _ _ h; omega
  | succ g ih =>
    intro w w' c hs h35 h12 hrc h1 h2
    rw [fn_Ld_loadSize_91, fn_Md_make_125, h35]
    simp only [bn_le (show cn < 2147483648 by omega) (show c < 2147483648 by omega)]
    by_cases d : cn ≤ c
    · have : c = cn := by omega
      subst this
      rw [if_pos d, if_pos d]
      exact ⟨w, w', rfl, rfl, h12, hrc, fun _ _ _ _ => rfl, fun _ _ _ => rfl⟩
    · have e3 : (3 : Int32) * nI c = nI (3 * c) := bn_mul 3 c
      have e42 : (nI 6 + (36 : Int32)) + nI (3 * c) = nI (42 + 3 * c) := by rw [(bn_a 6).2.2.2.2.2.2.2.2.2.2.2.2.2.2, bn_add]
      have u0 := u1_lt hb (42 + 3 * c)
      have u1' := u1_lt hb (42 + 3 * c + 1)
      have u2' := u1_lt hb (42 + 3 * c + 2)
      have key : (if (nI (rw_u1 Z.1.1 ((nI 6 + (36 : Int32)) + ((3 : Int32) * nI c)).toInt)) < (128 : Int32) then fn_Ld_loadSize_141 (fn_Ld_loadSize_91 F Z g) F Z w (nI 6) (nI cn) (nI c) ((nI 6 + (36 : Int32)) + ((3 : Int32) * nI c)) false (((nI (rw_u1 Z.1.1 ((nI 6 + (36 : Int32)) + ((3 : Int32) * nI c)).toInt)) &&& (127 : Int32)) + (1 : Int32)) else fn_Ld_loadSize_141 (fn_Ld_loadSize_91 F Z g) F Z w (nI 6) (nI cn) (nI c) ((nI 6 + (36 : Int32)) + ((3 : Int32) * nI c)) true (((nI (rw_u1 Z.1.1 ((nI 6 + (36 : Int32)) + ((3 : Int32) * nI c)).toInt)) &&& (127 : Int32)) + (1 : Int32))) = fn_Ld_loadSize_91 F Z g (up2 (fn_Cp_reset w c (nI (u1 l (42 + 3 * c) % 128 + 1)) (decide (128 ≤ u1 l (42 + 3 * c))) (nI (u1 l (42 + 3 * c + 1))) (nI (u1 l (42 + 3 * c + 2)))) 1 2 (nI (c + 1))) (nI 6) (nI cn) (nI (c + 1)) := by
        have ac : ∀ (s : Bool) (b dx dy : Int32), (fn_Pl_addComponent w b s dx dy).2 = up2 (fn_Cp_reset w c b s dx dy) 1 2 (nI (c + 1)) := by
          intro s b dx dy
          unfold fn_Pl_addComponent
          rw [h12, if_neg (by rw [show (0 : Int32) = nI 0 from rfl, bn_lt (by omega) (by omega)]; omega), if_neg (by rw [show (16 : Int32) = nI 16 from rfl, bn_le (by omega) (by omega)]; omega), bn_nn _ (by omega), (bn_a c).1]
        unfold fn_Ld_loadSize_141
        rw [e3, e42, hz]
        simp only [ac, bn_a]
        rw [ru1 _ _ (by omega), ru1 _ _ (by omega), ru1 _ _ (by omega), an127 (by omega), (bn_a _).1]
        have q : (nI (u1 l (42 + 3 * c)) < 128) = (u1 l (42 + 3 * c) < 128) := propext (bn_lt (b := 128) (by omega) (by omega))
        simp only [q]
        by_cases z : u1 l (42 + 3 * c) < 128
        · rw [if_pos z, decide_eq_false (by omega)]
        · rw [if_neg z, decide_eq_true (by omega)]
      rw [if_neg d, if_neg d, key]
      obtain ⟨wf, f1, f2⟩ := md_fresh F c (by omega) (by omega) w'
      have sf : str wf l := ⟨hs.1, fun i hi => by rw [f2, if_neg (by omega), if_neg (by omega), if_neg (by omega)]; exact hs.2 i hi⟩
      have su : ∀ (v : wd) (a j : Nat) (x : Int32), a ≠ 11 → str v l → str (up2 v a j x) l := fun v a j x ha h => ⟨h.1, fun i hi => by rw [u2n (by omega)]; exact h.2 i hi⟩
      have R : 0 ≤ (nI c).toInt ∧ (nI c).toInt < 16 := by rw [bn_i (by omega)]; omega
      have e42' : (42 : Int32) + nI (3 * c) = nI (42 + 3 * c) := bn_add 42 _
      have e43 : (43 : Int32) + nI (3 * c) = nI (42 + 3 * c + 1) := by rw [show (43 : Int32) = nI 43 from rfl, bn_add]; congr 1; omega
      have e44 : (44 : Int32) + nI (3 * c) = nI (42 + 3 * c + 2) := by rw [show (44 : Int32) = nI 44 from rfl, bn_add]; congr 1; omega
      have mk : ((fn_Md_fresh F w' (nI c)).bind fun r51 => ((fn_Md_u1 r51 ((42 : Int32) + ((3 : Int32) * nI c))).bind fun r55 => (if 0 ≤ (nI c).toInt ∧ (nI c).toInt < 16 then ((fn_Md_u1 (up2 r51 2 (nI c).toInt.toNat ((r55 &&& (127 : Int32)) + (1 : Int32))) ((42 : Int32) + ((3 : Int32) * nI c))).bind fun r60 => (if 0 ≤ (nI c).toInt ∧ (nI c).toInt < 16 then ((fn_Md_u1 (up2 (up2 r51 2 (nI c).toInt.toNat ((r55 &&& (127 : Int32)) + (1 : Int32))) 3 (nI c).toInt.toNat (r60 >>> ((7 : Int32) &&& 31))) ((43 : Int32) + ((3 : Int32) * nI c))).bind fun r65 => (if 0 ≤ (nI c).toInt ∧ (nI c).toInt < 16 then ((fn_Md_u1 (up2 (up2 (up2 r51 2 (nI c).toInt.toNat ((r55 &&& (127 : Int32)) + (1 : Int32))) 3 (nI c).toInt.toNat (r60 >>> ((7 : Int32) &&& 31))) 4 (nI c).toInt.toNat r65) ((44 : Int32) + ((3 : Int32) * nI c))).bind fun r70 => (if 0 ≤ (nI c).toInt ∧ (nI c).toInt < 16 then fn_Md_make_125 F g (up2 (up2 (up2 (up2 r51 2 (nI c).toInt.toNat ((r55 &&& (127 : Int32)) + (1 : Int32))) 3 (nI c).toInt.toNat (r60 >>> ((7 : Int32) &&& 31))) 4 (nI c).toInt.toNat r65) 5 (nI c).toInt.toNat r70) x1 (nI c + 1) else none)) else none)) else none)) else none))) = fn_Md_make_125 F g (up2 (up2 (up2 (up2 wf 2 c (nI (u1 l (42 + 3 * c) % 128 + 1))) 3 c (nI (u1 l (42 + 3 * c) / 128))) 4 c (nI (u1 l (42 + 3 * c + 1)))) 5 c (nI (u1 l (42 + 3 * c + 2)))) x1 (nI (c + 1)) := by
        rw [f1, Option.bind_some, e3, e42', e43, e44]
        simp only [if_pos R, bn_nn c (show c < 2147483648 by omega)]
        rw [md_u1 sf (by omega), Option.bind_some, an127 (by omega), (bn_a _).1, md_u1 (su _ _ _ _ (by omega) sf) (by omega), Option.bind_some, show (nI (u1 l (42 + 3 * c)) >>> ((7 : Int32) &&& 31)) = nI (u1 l (42 + 3 * c) / 128) from bn_shr (k := 7) (by omega) (by omega), md_u1 (su _ _ _ _ (by omega) (su _ _ _ _ (by omega) sf)) (by omega), Option.bind_some, md_u1 (su _ _ _ _ (by omega) (su _ _ _ _ (by omega) (su _ _ _ _ (by omega) sf))) (by omega), Option.bind_some, (bn_a c).1]
      rw [mk]
      obtain ⟨⟨r1, r2, r3, r4, r5⟩, ⟨r6, r7, r8, r9, r10⟩, ⟨r11, r12⟩, r13, r14, r15⟩ := rstC w c (nI (u1 l (42 + 3 * c) % 128 + 1)) (decide (128 ≤ u1 l (42 + 3 * c))) (nI (u1 l (42 + 3 * c + 1))) (nI (u1 l (42 + 3 * c + 2)))
      have hbi : bi (decide (128 ≤ u1 l (42 + 3 * c))) = nI (u1 l (42 + 3 * c) / 128) := by
        by_cases z : 128 ≤ u1 l (42 + 3 * c)
        · rw [decide_eq_true z, show u1 l (42 + 3 * c) / 128 = 1 by omega]; rfl
        · rw [decide_eq_false z, show u1 l (42 + 3 * c) / 128 = 0 by omega]; rfl
      have M6 : ∀ j, 8 * c ≤ j → j < 8 * c + 8 → (up2 (up2 (up2 (up2 wf 2 c (nI (u1 l (42 + 3 * c) % 128 + 1))) 3 c (nI (u1 l (42 + 3 * c) / 128))) 4 c (nI (u1 l (42 + 3 * c + 1)))) 5 c (nI (u1 l (42 + 3 * c + 2)))) 6 j = (if j = 8 * c + 1 ∨ j = 8 * c + 2 then 6 else if j = 8 * c + 4 then 1 else if j = 8 * c + 6 then 2 else 0) := fun j j1 j2 => by
        simp (disch := omega) only [u2n]
        rw [f2, if_neg (by omega), if_neg (by omega), if_pos ⟨rfl, j1, j2⟩]
      have m0 := M6 (8 * c) (by omega) (by omega)
      have m1 := M6 (8 * c + 1) (by omega) (by omega)
      have m2 := M6 (8 * c + 2) (by omega) (by omega)
      have m3 := M6 (8 * c + 3) (by omega) (by omega)
      have m4 := M6 (8 * c + 4) (by omega) (by omega)
      have m5 := M6 (8 * c + 5) (by omega) (by omega)
      have m6 := M6 (8 * c + 6) (by omega) (by omega)
      have m7 := M6 (8 * c + 7) (by omega) (by omega)
      simp only [Nat.add_right_inj, Nat.reduceEqDiff, or_self, or_true, true_or, or_false, false_or, if_true, if_false] at m1 m2 m3 m4 m5 m6 m7
      rw [if_neg (by omega), if_neg (by omega), if_neg (by omega)] at m0
      have newrc : rc (up2 (fn_Cp_reset w c (nI (u1 l (42 + 3 * c) % 128 + 1)) (decide (128 ≤ u1 l (42 + 3 * c))) (nI (u1 l (42 + 3 * c + 1))) (nI (u1 l (42 + 3 * c + 2)))) 1 2 (nI (c + 1))) (up2 (up2 (up2 (up2 wf 2 c (nI (u1 l (42 + 3 * c) % 128 + 1))) 3 c (nI (u1 l (42 + 3 * c) / 128))) 4 c (nI (u1 l (42 + 3 * c + 1)))) 5 c (nI (u1 l (42 + 3 * c + 2)))) c := by
        unfold rc
        rw [m0, m1, m2, m3, m4, m5, m6, m7]
        simp (disch := omega) only [u2n, u2e]
        rw [r1, r2, r3, r4, r5, r6, r7, r8, r9, r10, r11, r12, hbi]
        refine ⟨⟨rfl, rfl, rfl, rfl, rfl⟩, ⟨rfl, rfl, rfl, rfl, rfl⟩, ⟨rfl, rfl⟩, ⟨nI01 (by omega), .inr rfl, by decide, by decide⟩, fun r hr => ?_, fun r hr => ?_, fun k hk => ?_⟩
        · rw [(r13 r hr).1, f2, if_neg (by omega), if_pos (by omega)]
        · rw [(r13 r hr).2, f2, if_neg (by omega), if_pos (by omega)]
        · rw [r14 k hk, f2, if_pos (by omega)]
          decide
      have FR' : ∀ a j, ¬ (2 ≤ a ∧ a ≤ 9 ∧ inc c a j) → (up2 (up2 (up2 (up2 wf 2 c (nI (u1 l (42 + 3 * c) % 128 + 1))) 3 c (nI (u1 l (42 + 3 * c) / 128))) 4 c (nI (u1 l (42 + 3 * c + 1)))) 5 c (nI (u1 l (42 + 3 * c + 2)))) a j = w' a j := fun a j q => by
        unfold inc at q
        simp (disch := omega) only [u2n]
        rw [f2, if_neg (by omega), if_neg (by omega), if_neg (by omega)]
      have FR : ∀ a j, ¬ (a = 1 ∧ j = 2) → ¬ (5 + 6 * c ≤ a ∧ a < 11 + 6 * c) → (up2 (fn_Cp_reset w c (nI (u1 l (42 + 3 * c) % 128 + 1)) (decide (128 ≤ u1 l (42 + 3 * c))) (nI (u1 l (42 + 3 * c + 1))) (nI (u1 l (42 + 3 * c + 2)))) 1 2 (nI (c + 1))) a j = w a j := fun a j q q2 => by
        rw [u2n (by omega)]; exact r15 a j q2
      have F12 : (up2 (fn_Cp_reset w c (nI (u1 l (42 + 3 * c) % 128 + 1)) (decide (128 ≤ u1 l (42 + 3 * c))) (nI (u1 l (42 + 3 * c + 1))) (nI (u1 l (42 + 3 * c + 2)))) 1 2 (nI (c + 1))) 1 2 = nI (c + 1) := by simp [up2]
      generalize up2 (fn_Cp_reset w c (nI (u1 l (42 + 3 * c) % 128 + 1)) (decide (128 ≤ u1 l (42 + 3 * c))) (nI (u1 l (42 + 3 * c + 1))) (nI (u1 l (42 + 3 * c + 2)))) 1 2 (nI (c + 1)) = w1 at *
      generalize up2 (up2 (up2 (up2 wf 2 c (nI (u1 l (42 + 3 * c) % 128 + 1))) 3 c (nI (u1 l (42 + 3 * c) / 128))) 4 c (nI (u1 l (42 + 3 * c + 1)))) 5 c (nI (u1 l (42 + 3 * c + 2))) = w1' at *
      clear mk key m0 m1 m2 m3 m4 m5 m6 m7 M6
      obtain ⟨W, W', p1, p2, p3, p4, p5, p6⟩ := ih w1 w1' (c + 1) ⟨hs.1, fun i hi => by rw [FR' _ _ (by omega)]; exact hs.2 i hi⟩ (by rw [FR' _ _ (by omega)]; exact h35) F12 (fun x hx => by
        rcases (show x = c ∨ x < c by omega) with rfl | hx
        · exact newrc
        · exact rc_fr (by omega) (hrc x hx) (fun a j g1 g2 => FR a j (by omega) (by omega)) (fun a j g1 g2 g3 g4 g5 g6 => FR' a j (by unfold inc; omega))) (by omega) (by omega)
      exact ⟨W, W', p1, p2, p3, p4, fun a j g1 g2 => by rw [p5 a j g1 g2]; exact FR a j g1 (by omega), fun a j g1 => by rw [p6 a j g1]; exact FR' a j (by omega)⟩
