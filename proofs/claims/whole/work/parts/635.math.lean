/-! mathematics of both state tables, part 35; from wip/math -/
theorem forget_l {F o : Nat} (ho : o ≤ 64) (n : Nat) : ∀ (w : wd) (k : Nat), 51 * o ≤ k → k ≤ 51 * o + 51 → 51 * o + 51 - k < n → ∃ w1, fn_Ps_forget_18 F n w (nI (51 * o)) (nI k) = some w1 ∧ ∀ a j, w1 a j = if a = 109 ∧ k ≤ j ∧ j < 51 * o + 51 then 0 else w a j := by
  induction n with
  | zero => intro w k _ _ h; omega
  | succ n ih =>
    intro w k h1 h2 h3
    rw [fn_Ps_forget_18, show nI (51 * o) + 51 = nI (51 * o + 51) from bn_add _ 51]
    simp only [bn_le (show 51 * o + 51 < 2147483648 by omega) (show k < 2147483648 by omega)]
    by_cases c : 51 * o + 51 ≤ k
    · rw [if_pos c]
      exact ⟨w, rfl, fun a j => by rw [if_neg (by omega)]⟩
    · have R : 0 ≤ (nI k).toInt ∧ (nI k).toInt < 3315 := by rw [bn_i (by omega)]; omega
      rw [if_neg c, if_neg (by rw [show (3315 : Int32) = nI 3315 from rfl, bn_le (by omega) (by omega)]; omega), if_pos R, bn_nn _ (by omega), (bn_a k).1]
      obtain ⟨w1, e1, e2⟩ := ih (up2 w 109 k 0) (k + 1) (by omega) (by omega) (by omega)
      refine ⟨w1, e1, fun a j => ?_⟩
      rw [e2]
      by_cases d : a = 109 ∧ j = k
      · obtain ⟨rfl, rfl⟩ := d
        rw [if_neg (by omega), if_pos (by omega), u2e rfl rfl]
      · rw [u2n d]
        by_cases d2 : a = 109 ∧ k ≤ j ∧ j < 51 * o + 51
        · rw [if_pos d2, if_pos (by omega)]
        · rw [if_neg d2, if_neg (by omega)]
theorem forget {F o : Nat} (hF : 200 ≤ F) (ho : o ≤ 64) (w : wd) : ∃ w1, fn_Ps_forget F w (nI o) = some w1 ∧ ∀ a j, w1 a j = if a = 109 ∧ 51 * o ≤ j ∧ j < 51 * o + 51 then 0 else w a j := by
  obtain ⟨w1, e1, e2⟩ := forget_l (F := F) ho F w (51 * o) (by omega) (by omega) (by omega)
  refine ⟨w1, ?_, e2⟩
  unfold fn_Ps_forget
  rw [if_neg (by rw [show (0 : Int32) = nI 0 from rfl, bn_lt (by omega) (by omega)]; omega), if_pos (by rw [show (64 : Int32) = nI 64 from rfl, bn_le (by omega) (by omega)]; omega), show nI o * 51 = nI (51 * o) by rw [show (51 : Int32) = nI 51 from rfl, bn_mul, Nat.mul_comm]]
  exact e1
theorem pt_add {w : wd} {k t a said : Nat} {x2 x4 : Int32} (hk : w 110 1 = nI k) (hk2 : k < 256) (ht : t < 64) (h112 : w 112 t = nI a) (hs : said < 256) : fn_Pt_add w (nI t) x2 (nI said) x4 = some (if said = 0 then (up2 (up2 (up2 (up2 (up2 (up2 (up2 w 111 (7 * k + 0) (nI t)) 111 (7 * k + 1) x2) 111 (7 * k + 2) (nI said)) 111 (7 * k + 5) x4) 111 (7 * k + 6) 0) 110 1 (nI (k + 1))) 112 t (nI (a + 1))) else up2 (up2 (up2 (up2 (up2 (up2 (up2 (up2 w 111 (7 * k + 0) (nI t)) 111 (7 * k + 1) x2) 111 (7 * k + 2) (nI said)) 111 (7 * k + 5) x4) 111 (7 * k + 6) 0) 110 1 (nI (k + 1))) 112 t (nI (a + 1))) 113 t (nI said)) := by
  have R : 0 ≤ (nI t).toInt ∧ (nI t).toInt < 64 := by rw [bn_i (by omega)]; omega
  have iT : fn_Pt_isTile (nI t) = true := by
    unfold fn_Pt_isTile
    rw [if_neg (by rw [show (0 : Int32) = nI 0 from rfl, bn_lt (by omega) (by omega)]; omega), if_neg (by rw [show (64 : Int32) = nI 64 from rfl, bn_le (by omega) (by omega)]; omega)]
  have s0 : ∀ w v, fn_Pt_setNumber w (nI k) 0 v = up2 w 111 (7 * k + 0) v := fun w v => snum (j := 0) hk2 (by omega) v
  have s1 : ∀ w v, fn_Pt_setNumber w (nI k) 1 v = up2 w 111 (7 * k + 1) v := fun w v => snum (j := 1) hk2 (by omega) v
  have s2 : ∀ w v, fn_Pt_setNumber w (nI k) 2 v = up2 w 111 (7 * k + 2) v := fun w v => snum (j := 2) hk2 (by omega) v
  have s5 : ∀ w v, fn_Pt_setNumber w (nI k) 5 v = up2 w 111 (7 * k + 5) v := fun w v => snum (j := 5) hk2 (by omega) v
  have s6 : ∀ w v, fn_Pt_setNumber w (nI k) 6 v = up2 w 111 (7 * k + 6) v := fun w v => snum (j := 6) hk2 (by omega) v
  have hlt : nI k < 256 := by rw [show (256 : Int32) = nI 256 from rfl, bn_lt (by omega) (by omega)]; exact hk2
  have z0 : (nI said = 0) = (said = 0) := propext (bn_eq (b := 0) (by omega) (by omega))
  unfold fn_Pt_add
  simp (disch := omega) only [hk, s0, s1, s2, s5, s6, u2n, if_pos iT, if_pos hlt, if_pos R, bn_nn t (show t < 2147483648 by omega), h112, z0, (bn_a k).1, (bn_a a).1]
  by_cases c : said = 0
  · simp only [if_pos c]
  · simp only [if_neg c]
theorem take_part {F : Nat} (hF : 70000 ≤ F) {w w' : wd} {Z : zd} {l : List Nat} {S : List sg} {Q : List pt} {cn T p e : Nat} (hI : inv w w' Z l S Q Q.length cn T p) (h : at_ w Z l p 144 10) (ht : u2 l (p + 4) < T) (hnum : u1 l (p + 10) = Q.countP (isT (u2 l (p + 4)))) (hQ : Q.length < 256) (he : (u4 l (p + 6) = 0 ∧ e = l.length - 2) ∨ (u4 l (p + 6) ≠ 0 ∧ e = p + u4 l (p + 6))) :
    ∃ w2, fn_Sc_takeMark F Z w = some (w2, Z) ∧ inv w2 w' Z l S (Q ++ [(u2 l (p + 4), u1 l (p + 10), u1 l (p + 11), 0, 0, Z.2.2.1.length, 0)]) Q.length cn T (p + 12) ∧ w2 105 4 = 3 ∧ w2 105 5 = nI (p + 12) ∧ w2 105 6 = nI e ∧ w2 105 12 = nI (u2 l (p + 4)) ∧ w2 105 13 = bi (decide (Q.countP (isT (u2 l (p + 4))) = 0)) ∧ (∀ a j, a ≤ 104 → w2 a j = w a j) := by
  obtain ⟨g1, g2, g3, g4, g5, g6, g7, g8⟩ := id h
  obtain ⟨i1, i2, i3, i4, i5, i6⟩ := id hI
  obtain ⟨c1, c2, c3, c4, c5, c6, c7⟩ := id i3
  obtain ⟨⟨a1, a2⟩, ⟨b1, b2, b3⟩, cq, dq⟩ := i5
  obtain ⟨e1, e2, e3, e4, e5⟩ := i6
  have hl := g2.1
  have u10 := u1_lt g2 (p + 10)
  have u11 := u1_lt g2 (p + 11)
  have u6 := u4_lt g2 (p + 6)
  have t64 : u2 l (p + 4) < 64 := by omega
  have t0 : fn_Sc_told2 Z w 0 = nI (u2 l (p + 4)) := told2 h (k := 0) (by omega)
  have hA : ∀ (v1 v2 : Int32), at_ (up2 (up2 w 105 12 v1) 105 13 v2) Z l p 144 10 := fun v1 v2 => ⟨g1, g2, by simp (disch := omega) only [u2n]; exact g3, by simp (disch := omega) only [u2n]; exact g4, g5, by simp (disch := omega) only [u2n]; exact g6, g7, g8⟩
  have hA1 : ∀ (v1 : Int32), at_ (up2 w 105 12 v1) Z l p 144 10 := fun v1 => ⟨g1, g2, by simp (disch := omega) only [u2n]; exact g3, by simp (disch := omega) only [u2n]; exact g4, g5, by simp (disch := omega) only [u2n]; exact g6, g7, g8⟩
  have cle := cnt_le dq (isT (u2 l (p + 4)))
  have z10 : (nI (u1 l (p + 10)) = 0) = (Q.countP (isT (u2 l (p + 4))) = 0) := by rw [hnum]; exact propext (bn_eq (b := 0) (by omega) (by omega))
  generalize hcf : decide (Q.countP (isT (u2 l (p + 4))) = 0) = f
  have tP : fn_Sc_takePart F Z w = fn_Sc_takePart_24 F Z (up2 w 105 12 (nI (u2 l (p + 4)))) f := by
    unfold fn_Sc_takePart
    have : fn_Sc_told Z (up2 w 105 12 (nI (u2 l (p + 4)))) 6 = nI (u1 l (p + 10)) := told (hA1 _) (k := 6) (by omega)
    rw [t0, this]
    simp only [z10]
    rw [← hcf]
    by_cases k : Q.countP (isT (u2 l (p + 4))) = 0
    · rw [if_pos k, decide_eq_true k]
    · rw [if_neg k, decide_eq_false k]
  have sp : ∀ v : wd, v 105 5 = nI p → fn_Sc_takePart_78 F Z v = some (up2 (up2 v 105 6 (nI e)) 105 4 3) := by
    intro v hv
    have s0 : fn_Sc_span Z v = lN (u4 l (p + 6)) := by
      unfold fn_Sc_span
      rw [g1, hv, (bn_a p).2.2.2.2.2.1, ru4 hl (by omega)]
    have z0 : (lN (u4 l (p + 6)) = (0 : Int64)) = (u4 l (p + 6) = 0) := propext (bl_q (b := 0) (by omega) (by omega))
    unfold fn_Sc_takePart_78
    rw [s0, g1, hv]
    simp only [z0]
    rcases he with ⟨k, k2⟩ | ⟨k, k2⟩
    · rw [if_pos k, k2, show (2 : Int32) = nI 2 from rfl, bn_sub (by omega)]
    · rw [if_neg k, k2, bl_to, bn_add]
  have eadd := pt_add (w := up2 (up2 w 105 12 (nI (u2 l (p + 4)))) 105 13 (bi f)) (k := Q.length) (t := u2 l (p + 4)) (a := Q.countP (isT (u2 l (p + 4)))) (said := u1 l (p + 11)) (x2 := nI (u1 l (p + 10))) (x4 := nI Z.2.2.1.length) (by simp (disch := omega) only [u2n]; exact a1) hQ t64 (by simp (disch := omega) only [u2n]; exact (cq _ t64).1) u11
  generalize hw3 : (if u1 l (p + 11) = 0 then (up2 (up2 (up2 (up2 (up2 (up2 (up2 (up2 (up2 w 105 12 (nI (u2 l (p + 4)))) 105 13 (bi f)) 111 (7 * Q.length + 0) (nI (u2 l (p + 4)))) 111 (7 * Q.length + 1) (nI (u1 l (p + 10)))) 111 (7 * Q.length + 2) (nI (u1 l (p + 11)))) 111 (7 * Q.length + 5) (nI Z.2.2.1.length)) 111 (7 * Q.length + 6) 0) 110 1 (nI (Q.length + 1))) 112 (u2 l (p + 4)) (nI (Q.countP (isT (u2 l (p + 4))) + 1))) else up2 (up2 (up2 (up2 (up2 (up2 (up2 (up2 (up2 (up2 w 105 12 (nI (u2 l (p + 4)))) 105 13 (bi f)) 111 (7 * Q.length + 0) (nI (u2 l (p + 4)))) 111 (7 * Q.length + 1) (nI (u1 l (p + 10)))) 111 (7 * Q.length + 2) (nI (u1 l (p + 11)))) 111 (7 * Q.length + 5) (nI Z.2.2.1.length)) 111 (7 * Q.length + 6) 0) 110 1 (nI (Q.length + 1))) 112 (u2 l (p + 4)) (nI (Q.countP (isT (u2 l (p + 4))) + 1))) 113 (u2 l (p + 4)) (nI (u1 l (p + 11)))) = w3 at eadd
  have fr3 : ∀ a j, ¬ (a = 105 ∧ (j = 12 ∨ j = 13)) → ¬ (a = 110 ∧ j = 1) → ¬ (a = 111 ∧ 7 * Q.length ≤ j) → ¬ ((a = 112 ∨ a = 113) ∧ j = u2 l (p + 4)) → w3 a j = w a j := by
    intro a j q1 q2 q3 q4
    rw [← hw3]
    by_cases k : u1 l (p + 11) = 0
    · rw [if_pos k]; simp (disch := omega) only [u2n]
    · rw [if_neg k]; simp (disch := omega) only [u2n]
  have w12 : w3 105 12 = nI (u2 l (p + 4)) ∧ w3 105 13 = bi f ∧ w3 110 1 = nI (Q.length + 1) ∧ w3 112 (u2 l (p + 4)) = nI (Q.countP (isT (u2 l (p + 4))) + 1) ∧ w3 113 (u2 l (p + 4)) = (if u1 l (p + 11) = 0 then w 113 (u2 l (p + 4)) else nI (u1 l (p + 11))) ∧ w3 111 (7 * Q.length + 0) = nI (u2 l (p + 4)) ∧ w3 111 (7 * Q.length + 1) = nI (u1 l (p + 10)) ∧ w3 111 (7 * Q.length + 2) = nI (u1 l (p + 11)) ∧ w3 111 (7 * Q.length + 5) = nI Z.2.2.1.length ∧ w3 111 (7 * Q.length + 6) = nI 0 := by
    rw [← hw3]
    by_cases k : u1 l (p + 11) = 0
    · simp only [if_pos k]; simp (disch := omega) only [u2n, u2e]; simp; rfl
    · simp only [if_neg k]; simp (disch := omega) only [u2n, u2e]; simp; rfl
  clear hw3
  have t24 : ∃ w4, fn_Sc_takePart F Z w = some (up2 (up2 w4 105 6 (nI e)) 105 4 3) ∧ (∀ a j, a ≠ 109 → w4 a j = w3 a j) ∧ (f = false → ∀ j, w4 109 j = w3 109 j) ∧ (f = true → ∀ j, w4 109 j = if 51 * (u2 l (p + 4) + 1) ≤ j ∧ j < 51 * (u2 l (p + 4) + 1) + 51 then 0 else w3 109 j) := by
    rw [tP]
    unfold fn_Sc_takePart_24
    have q6 : fn_Sc_told Z (up2 (up2 w 105 12 (nI (u2 l (p + 4)))) 105 13 (bi f)) 6 = nI (u1 l (p + 10)) := told (hA _ _) (k := 6) (by omega)
    have q7 : fn_Sc_told Z (up2 (up2 w 105 12 (nI (u2 l (p + 4)))) 105 13 (bi f)) 7 = nI (u1 l (p + 11)) := told (hA _ _) (k := 7) (by omega)
    have q12 : (up2 (up2 w 105 12 (nI (u2 l (p + 4)))) 105 13 (bi f)) 105 12 = nI (u2 l (p + 4)) := by simp (disch := omega) only [u2n, u2e]
    rw [q6, q7, q12, eadd, Option.bind_some, w12.1, w12.2.1]
    have w35 : w3 105 5 = nI p := by rw [fr3 _ _ (by omega) (by omega) (by omega) (by omega)]; exact g3
    cases f with
    | false =>
      rw [if_pos (by decide), sp _ w35]
      exact ⟨w3, rfl, fun _ _ _ => rfl, fun _ _ => rfl, fun h => nomatch h⟩
    | true =>
      rw [if_neg (by decide)]
      obtain ⟨w4, f1, f2⟩ := forget (F := F) (by omega) (show u2 l (p + 4) + 1 ≤ 64 by omega) w3
      have : fn_Ps_ownerOf (nI (u2 l (p + 4))) = nI (u2 l (p + 4) + 1) := by
        unfold fn_Ps_ownerOf
        rw [show (1 : Int32) = nI 1 from rfl, bn_add, Nat.add_comm]
      rw [this, f1, Option.bind_some, sp _ (by rw [f2, if_neg (by omega)]; exact w35)]
      refine ⟨w4, rfl, fun a j ha => by rw [f2, if_neg (by omega)], (fun h => nomatch h), fun _ j => ?_⟩
      rw [f2]
      by_cases k : 51 * (u2 l (p + 4) + 1) ≤ j ∧ j < 51 * (u2 l (p + 4) + 1) + 51
      · rw [if_pos k, if_pos ⟨rfl, k⟩]
      · rw [if_neg k, if_neg (fun x => k x.2)]
  obtain ⟨w4, t1, t2, t3, t4⟩ := t24
  have tm : fn_Sc_takeMark F Z w = some (up2 (up2 (up2 w4 105 6 (nI e)) 105 4 3) 105 5 (nI (p + 12)), Z) := by
    unfold fn_Sc_takeMark
    rw [g4, if_neg (by decide), if_neg (by decide), if_pos (show nI 144 = 144 from rfl), t1, Option.bind_some, g3, g6, (bn_a p).2.1, bn_add]
  have FR : ∀ a j, ¬ (a = 105 ∧ (j = 4 ∨ j = 5 ∨ j = 6)) → a ≠ 109 → (up2 (up2 (up2 w4 105 6 (nI e)) 105 4 3) 105 5 (nI (p + 12))) a j = w3 a j := fun a j q1 q2 => by
    simp (disch := omega) only [u2n]
    exact t2 a j q2
  have F9 : ∀ j, (up2 (up2 (up2 w4 105 6 (nI e)) 105 4 3) 105 5 (nI (p + 12))) 109 j = w4 109 j := fun j => by simp (disch := omega) only [u2n]
  generalize hw5 : up2 (up2 (up2 w4 105 6 (nI e)) 105 4 3) 105 5 (nI (p + 12)) = w5 at *
  have cPt : ∀ u, (Q ++ [(u2 l (p + 4), u1 l (p + 10), u1 l (p + 11), 0, 0, Z.2.2.1.length, 0)]).countP (isT u) = Q.countP (isT u) + if u = u2 l (p + 4) then 1 else 0 := fun u => by
    rw [cQ_app]
    by_cases k : u = u2 l (p + 4)
    · rw [if_pos k, if_pos (by unfold isT; simp [k])]
    · rw [if_neg k, if_neg (by unfold isT; simp; omega)]
  refine ⟨w5, tm, ⟨i1, ⟨i2.1, by have := i2.2.1; omega, i2.2.2⟩, ?_, ?_, ⟨⟨?_, fun k hk j hj hd => ?_⟩, ⟨b1, ?_, fun k hk j hj => ?_⟩, fun u hu => ?_, ?_⟩, ?_⟩, ?_, ?_, ?_, ?_, ?_, fun a j ha => ?_⟩
  · refine ⟨?_, c2, c3, ?_, c5, c6, ?_⟩
    · rw [FR _ _ (by omega) (by omega), fr3 _ _ (by omega) (by omega) (by omega) (by omega)]; exact c1
    · rw [FR _ _ (by omega) (by omega), fr3 _ _ (by omega) (by omega) (by omega) (by omega)]; exact c4
    · rw [FR _ _ (by omega) (by omega), fr3 _ _ (by omega) (by omega) (by omega) (by omega)]; exact c7
  · have K : ∀ o', o' ≠ u2 l (p + 4) + 1 → plcs w l S o' → plcs w5 l S o' := by
      intro o' ho' hp m c hc hk
      have x1 := ix_lt (m := m) hc
      rw [F9]
      cases f with
      | false => rw [t3 rfl, fr3 _ _ (by omega) (by omega) (by omega) (by omega)]; exact hp m c hc hk
      | true => rw [t4 rfl, if_neg (by omega), fr3 _ _ (by omega) (by omega) (by omega) (by omega)]; exact hp m c hc hk
    refine ⟨K 0 (by omega) i4.1, fun u hu hq => ?_, fun s hs hs0 => ?_⟩
    · rw [cPt] at hq
      by_cases k : u = u2 l (p + 4)
      · subst k
        intro m c hc hk
        have x1 := ix_lt (m := m) hc
        rw [F9]
        cases f with
        | false =>
          have hne : ¬ Q.countP (isT (u2 l (p + 4))) = 0 := of_decide_eq_false hcf
          rw [t3 rfl, fr3 _ _ (by omega) (by omega) (by omega) (by omega)]
          exact i4.2.1 _ hu (by omega) m c hc hk
        | true =>
          have hz : Q.countP (isT (u2 l (p + 4))) = 0 := of_decide_eq_true hcf
          rw [t4 rfl, if_pos (by omega)]
          have : plf S (pr l m (u2 l (p + 4) + 1) c) = 0 := by
            rw [plf_0 (fun s hs => by have := (i2.2.2 s hs).1; omega), List.any_eq_false]
            intro s hs hpr
            unfold pr at hpr
            have hpr := of_decide_eq_true hpr
            have := i4.2.2 s hs (by omega)
            rw [hpr.2.1, Nat.add_sub_cancel] at this
            omega
          rw [this]
          rfl
      · rw [if_neg k] at hq
        exact K (u + 1) (by omega) (i4.2.1 u hu (by omega))
    · rw [cPt]
      have := i4.2.2 s hs hs0
      omega
  · rw [FR _ _ (by omega) (by omega), w12.2.2.1, List.length_append]
    rfl
  · rw [List.length_append] at hk
    simp only [List.length_cons, List.length_nil] at hk
    rw [FR _ _ (by omega) (by omega)]
    by_cases hk2 : k < Q.length
    · rw [fr3 _ _ (by omega) (by omega) (by omega) (by omega), gd_l hk2]
      exact a2 k hk2 j hj (fun _ => hk2)
    · have hkl : k = Q.length := by omega
      subst hkl
      rw [gd_e]
      rcases (show j = 0 ∨ j = 1 ∨ j = 2 ∨ j = 5 ∨ j = 6 by omega) with rfl | rfl | rfl | rfl | rfl
      · exact w12.2.2.2.2.2.1
      · exact w12.2.2.2.2.2.2.1
      · exact w12.2.2.2.2.2.2.2.1
      · exact w12.2.2.2.2.2.2.2.2.1
      · exact w12.2.2.2.2.2.2.2.2.2
  · rw [List.length_append]; simp
  · rw [gd_l hk]
    exact b3 k hk j hj
  · rw [FR _ _ (by omega) (by omega), FR _ _ (by omega) (by omega), cPt, tld_app]
    unfold tstep
    by_cases k : u = u2 l (p + 4)
    · subst k
      rw [w12.2.2.2.1, w12.2.2.2.2.1, if_pos rfl]
      refine ⟨rfl, ?_⟩
      by_cases k2 : u1 l (p + 11) = 0
      · rw [if_pos k2, if_neg (by show ¬ (_ ∧ 0 < u1 l (p + 11)); omega)]
        exact (cq _ hu).2
      · rw [if_neg k2, if_pos (by show (_ ∧ 0 < u1 l (p + 11)); exact ⟨rfl, by omega⟩)]
    · rw [fr3 _ _ (by omega) (by omega) (by omega) (by omega), fr3 _ _ (by omega) (by omega) (by omega) (by omega), if_neg k, if_neg (by show ¬ (u2 l (p + 4) = u ∧ _); omega)]
      exact cq u hu
  · refine ⟨by rw [List.length_append]; simp; omega, fun q hq => ?_⟩
    rcases List.mem_append.1 hq with x | x
    · exact dq.2 q x
    · simp at x
      rw [x]
      refine ⟨t64, fun j => ?_⟩
      match j with
      | 0 => show u2 l (p + 4) ≤ 65536; omega
      | 1 => show u1 l (p + 10) ≤ 65536; omega
      | 2 => show u1 l (p + 11) ≤ 65536; omega
      | 3 => show 0 ≤ 65536; omega
      | 4 => show 0 ≤ 65536; omega
      | 5 => show Z.2.2.1.length ≤ 65536; omega
      | _ + 6 => show 0 ≤ 65536; omega
  · refine ⟨e1, by omega, fun q hq => ?_, fun u hu => ?_, fun u => ?_⟩
    · rcases List.mem_append.1 hq with x | x
      · exact e3 q x
      · simp at x
        rw [x]
        show Z.2.2.1.length + 0 ≤ _
        omega
    · rw [FR _ _ (by omega) (by omega), fr3 _ _ (by omega) (by omega) (by omega) (by omega)]
      exact e4 u hu
    · rw [← e5 u]
      unfold hdQ
      rw [List.filter_append, List.flatMap_append]
      have : (List.filter (isT u) [((u2 l (p + 4), u1 l (p + 10), u1 l (p + 11), 0, 0, Z.2.2.1.length, 0) : pt)]).flatMap (qhd Z.2.2.1) = [] := by
        rw [List.filter_cons]
        split
        · simp [qhd, fld]
        · simp
      rw [this, List.append_nil]
  · rw [← hw5]; simp (disch := omega) only [u2n, u2e]
  · rw [← hw5]; simp (disch := omega) only [u2e]
  · rw [← hw5]; simp (disch := omega) only [u2n, u2e]
  · rw [FR _ _ (by omega) (by omega)]; exact w12.1
  · rw [FR _ _ (by omega) (by omega)]; exact w12.2.1
  · rw [FR _ _ (by omega) (by omega), fr3 _ _ (by omega) (by omega) (by omega) (by omega)]
