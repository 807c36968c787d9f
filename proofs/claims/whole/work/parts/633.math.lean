/-! mathematics of both state tables, part 33; from wip/math -/
def sethb (q : pt) (x : Nat) : pt := (q.1, q.2.1, q.2.2.1, q.2.2.2.1, q.2.2.2.2.1, q.2.2.2.2.2.1, x)
theorem gd_l {α : Type} {Q : List α} {q d : α} {k : Nat} (hk : k < Q.length) : (Q ++ [q]).getD k d = Q.getD k d := by
  simp only [List.getD_eq_getElem?_getD]
  rw [List.getElem?_append_left hk]
theorem gd_e {α : Type} {Q : List α} {q d : α} : (Q ++ [q]).getD Q.length d = q := by
  simp only [List.getD_eq_getElem?_getD]
  rw [List.getElem?_append_right (by omega)]
  simp
theorem cQ_app {Q : List pt} {f : pt → Bool} {s : pt} : (Q ++ [s]).countP f = Q.countP f + if f s = true then 1 else 0 := by
  rw [List.countP_append, List.countP_cons, List.countP_nil, Nat.zero_add]
theorem tld_app {Q : List pt} {q : pt} {t : Nat} : tld (Q ++ [q]) t = tstep t (tld Q t) q := by
  unfold tld
  rw [List.foldl_append]
  rfl
theorem take_97 {F : Nat} {w w' w2' : wd} {Z : zd} {l : List Nat} {S : List sg} {Q : List pt} {cur : pt} {cn T p n t : Nat} (hI : inv w w' Z l S (Q ++ [cur]) Q.length cn T p) (h : at_ w Z l p 97 n) (hT2 : tabS w2' (S ++ [(97, p, n, t + 1)])) (hfr : mfr w' w2' S.length) (hseg : segok l cn (97, p, n, t + 1)) (ht : t < 64) (hcur : cur.1 = t) (hH : fld cur 5 + fld cur 6 = Z.2.2.1.length) :
    ∃ w2 Z2, fn_Sc_takeMark F Z w = some (w2, Z2) ∧ zc Z ≤ zc Z2 ∧ Z2.1 = Z.1 ∧ Z2.2.1 = Z.2.1 ∧ inv w2 w2' Z2 l (S ++ [(97, p, n, t + 1)]) (Q ++ [sethb cur (fld cur 6 + (n - 3))]) Q.length cn T (p + 2 + n) ∧ fld cur 5 + (fld cur 6 + (n - 3)) = Z2.2.2.1.length ∧ w2 105 5 = nI (p + 2 + n) ∧ (∀ a j, ¬ (a = 105 ∧ j = 5) → a ≠ 111 → a ≠ 114 → w2 a j = w a j) := by
  obtain ⟨g1, g2, g3, g4, g5, g6, g7, g8⟩ := id h
  obtain ⟨i1, i2, i3, i4, i5, i6⟩ := hI
  have hl := g2.1
  have hS1 : ∀ s ∈ S, 1 ≤ s.2.1 := fun s hs => by have := (i2.2.2 s hs).1; omega
  have hn3 : 3 ≤ n := hseg.2.2.2.2.2.2.2.2.2.2.2.2.2.2 (.inr rfl)
  have i1' := md_seg2 (S := S) i1 hfr
  have i2' : inv2 w2' l (S ++ [(97, p, n, t + 1)]) cn (p + 2 + n) := ⟨hT2, by have := i2.2.1; rw [List.length_append]; simp; omega, fun s hs => by
    rcases List.mem_append.1 hs with q | q
    · exact i2.2.2 s q
    · simp at q; rw [q]; exact hseg⟩
  obtain ⟨c1, c2, c3, c4, c5, c6, c7⟩ := i3
  obtain ⟨⟨a1, a2⟩, ⟨b1, b2, b3⟩, cq, dq⟩ := i5
  obtain ⟨e1, e2, e3, e4, e5⟩ := i6
  have hQl : Q.length < 256 := by have := dq.1; rw [List.length_append] at this; simp at this; omega
  have hcm : cur ∈ Q ++ [cur] := List.mem_append_right _ List.mem_cons_self
  have hb6 : fld cur 6 ≤ 65536 := (dq.2 cur hcm).2 6
  have hb : rw_rg Z.1.1 ((w 105 5) + 5) 0 ((w 105 8) - 3).toInt.toNat = (l.drop (p + 5)).take (n - 3) := by
    rw [g1, g3, g6, (bn_a p).2.2.2.2.1, show (3 : Int32) = nI 3 from rfl, bn_sub hn3, bn_nn _ (by omega)]
    exact rg_eq l (p + 5) (by omega) (n - 3) 0 (by omega)
  have hbl : ((l.drop (p + 5)).take (n - 3)).length = n - 3 := by rw [List.length_take, List.length_drop]; omega
  have a0 : w 111 (7 * Q.length + 0) = nI t := by
    rw [a2 Q.length (by rw [List.length_append]; simp) 0 (by omega) (by omega), gd_e, ← hcur]; rfl
  have a6 : w 111 (7 * Q.length + 6) = nI (fld cur 6) := by
    rw [a2 Q.length (by rw [List.length_append]; simp) 6 (by omega) (by omega), gd_e]
  have hcnt : w 110 1 - 1 = nI Q.length := by
    rw [a1, List.length_append, show (1 : Int32) = nI 1 from rfl]
    rw [bn_sub (by simp)]
    simp
  have e114 := e4 t ht
  have ah : fn_Pt_addHeadsToLast w (nI (n - 3)) = some (up2 (up2 w 111 (7 * Q.length + 6) (nI (fld cur 6 + (n - 3)))) 114 t (nI (S.countP (mo 97 (t + 1)) + 1))) := by
    have n0 : fn_Pt_number w (nI Q.length) 0 = nI t := by rw [show (0 : Int32) = nI 0 from rfl, gnum hQl (by omega)]; exact a0
    have n6 : fn_Pt_number w (nI Q.length) 6 = nI (fld cur 6) := by rw [show (6 : Int32) = nI 6 from rfl, gnum hQl (by omega)]; exact a6
    have R : 0 ≤ (nI t).toInt ∧ (nI t).toInt < 64 := by rw [bn_i (by omega)]; omega
    have iT : fn_Pt_isTile (nI t) = true := by
      unfold fn_Pt_isTile
      rw [if_neg (by rw [show (0 : Int32) = nI 0 from rfl, bn_lt (by omega) (by omega)]; omega), if_neg (by rw [show (64 : Int32) = nI 64 from rfl, bn_le (by omega) (by omega)]; omega)]
    unfold fn_Pt_addHeadsToLast
    rw [hcnt, n0, n6, if_pos iT, if_pos R, if_pos R, bn_nn _ (by omega), bn_add, show (6 : Int32) = nI 6 from rfl, snum hQl (by omega), u2n (by omega), e114, (bn_a _).1]
  have ts : fn_Sc_takeSegment Z w = some (up2 (up2 w 111 (7 * Q.length + 6) (nI (fld cur 6 + (n - 3)))) 114 t (nI (S.countP (mo 97 (t + 1)) + 1)), zs3 Z (rwp Z.2.2 ((l.drop (p + 5)).take (n - 3)))) := by
    unfold fn_Sc_takeSegment
    rw [hb, g4, if_neg (show ¬ nI 97 = 96 by decide), if_pos (show nI 97 = 97 from rfl), if_pos (by rw [hbl]; omega), g6, show (3 : Int32) = nI 3 from rfl, bn_sub hn3, ah, Option.bind_some]
    exact mchk_eq rfl (Nat.le_refl _)
  have hZ : (zs3 Z (rwp Z.2.2 ((l.drop (p + 5)).take (n - 3)))).2.2.1 = Z.2.2.1 ++ ((l.drop (p + 5)).take (n - 3)) := rfl
  have cP : ∀ u, (Q ++ [sethb cur (fld cur 6 + (n - 3))]).countP (isT u) = (Q ++ [cur]).countP (isT u) := fun u => by rw [cQ_app, cQ_app]; rfl
  have tP : ∀ u, tld (Q ++ [sethb cur (fld cur 6 + (n - 3))]) u = tld (Q ++ [cur]) u := fun u => by rw [tld_app, tld_app]; rfl
  refine ⟨_, _, tm_seg g4 g5 g3 g6 (by omega) (by omega) (by omega) (by omega) (by omega) ts (zc_s3 _ _), zc_s3 _ _, rfl, rfl, ⟨i1', i2', ?_, ?_, ⟨⟨?_, fun k hk j hj hd => ?_⟩, ⟨?_, ?_, fun k hk j hj => ?_⟩, fun u hu => ?_, ?_⟩, ?_⟩, ?_, u2e rfl rfl, fun a j q1 q2 q3 => by simp (disch := omega) only [u2n]⟩
  · refine ⟨?_, ?_, c3, ?_, ?_, c6, ?_⟩
    · simp (disch := omega) only [u2n]; exact c1
    · rw [hfr _ _ (by omega) (by omega)]; exact c2
    · simp (disch := omega) only [u2n]; exact c4
    · rw [hfr _ _ (by omega) (by omega)]; exact c5
    · simp (disch := omega) only [u2n]
      rw [cP_n (by omega)]; exact c7
  · have nk : ¬ kmk 97 := by unfold kmk; omega
    refine ⟨fun m c hc hk => ?_, fun u hu hq m c hc hk => ?_, fun s hs hs0 => ?_⟩
    · simp (disch := omega) only [u2n]; exact plcs_no hS1 i4.1 nk m c hc hk
    · rw [cP] at hq
      simp (disch := omega) only [u2n]; exact plcs_no hS1 (i4.2.1 u hu hq) nk m c hc hk
    · rw [cP]
      rcases List.mem_append.1 hs with q | q
      · exact i4.2.2 s q hs0
      · simp at q
        rw [q]
        show 0 < (Q ++ [cur]).countP (isT (t + 1 - 1))
        rw [Nat.add_sub_cancel, cQ_app, if_pos (by unfold isT; simpa using hcur)]
        omega
  · simp (disch := omega) only [u2n]
    rw [a1]; simp
  · rw [List.length_append] at hk
    simp only [List.length_cons, List.length_nil] at hk
    by_cases hk2 : k < Q.length
    · simp (disch := omega) only [u2n]
      rw [a2 k (by rw [List.length_append]; simp; omega) j hj hd, gd_l hk2, gd_l hk2]
    · have : k = Q.length := by omega
      subst this
      rw [gd_e]
      by_cases j6 : j = 6
      · subst j6
        simp (disch := omega) only [u2n, u2e]
        rfl
      · simp (disch := omega) only [u2n]
        rw [a2 Q.length (by rw [List.length_append]; simp) j hj hd, gd_e]
        rcases (show j = 0 ∨ j = 1 ∨ j = 2 ∨ j = 3 ∨ j = 4 ∨ j = 5 by omega) with rfl | rfl | rfl | rfl | rfl | rfl <;> rfl
  · rw [hfr _ _ (by omega) (by omega)]; exact b1
  · rw [List.length_append] at *; simp
  · rw [hfr _ _ (by omega) (by omega), b3 k hk j hj, gd_l hk, gd_l hk]
  · simp (disch := omega) only [u2n]
    rw [cP, tP]
    exact cq u hu
  · refine ⟨by have := dq.1; rw [List.length_append] at *; exact this, fun q hq => ?_⟩
    rcases List.mem_append.1 hq with x | x
    · exact dq.2 q (List.mem_append_left _ x)
    · simp at x
      have hc2 := dq.2 cur hcm
      rw [x]
      refine ⟨hc2.1, fun j => ?_⟩
      have h6 : fld (sethb cur (fld cur 6 + (n - 3))) 6 ≤ 65536 := by
        show fld cur 6 + (n - 3) ≤ 65536
        omega
      match j with
      | 0 => exact hc2.2 0
      | 1 => exact hc2.2 1
      | 2 => exact hc2.2 2
      | 3 => exact hc2.2 3
      | 4 => exact hc2.2 4
      | 5 => exact hc2.2 5
      | _ + 6 => exact h6
  · refine ⟨?_, ?_, fun q hq => ?_, fun u hu => ?_, fun u => ?_⟩
    · rw [hZ, hdl_app, ← e1]; rfl
    · rw [hZ, List.length_append, hbl]; omega
    · rw [hZ, List.length_append, hbl]
      rcases List.mem_append.1 hq with x | x
      · have := e3 q (List.mem_append_left _ x); omega
      · simp at x
        rw [x]
        show fld cur 5 + (fld cur 6 + (n - 3)) ≤ _
        omega
    · by_cases hut : u = t
      · subst hut
        simp (disch := omega) only [u2n, u2e]
        rw [cP_app, if_pos (by simp [mo])]
      · simp (disch := omega) only [u2n]
        rw [cP_app, if_neg (by simp [mo]; omega)]
        exact e4 u hu
    · have E := e5 u
      have E0 : ∀ q ∈ Q, fld q 5 + fld q 6 ≤ Z.2.2.1.length := fun q hq => e3 q (List.mem_append_left _ hq)
      rw [hZ]
      unfold hdQ hdS at *
      rw [List.filter_append, List.flatMap_append] at E ⊢
      rw [List.filter_append, List.flatMap_append]
      have Eq0 := hdQ_app (X := (l.drop (p + 5)).take (n - 3)) E0 u
      unfold hdQ at Eq0
      rw [Eq0, ← E]
      by_cases hut : u = t
      · subst hut
        have f1 : [cur].filter (isT u) = [cur] := by simp [isT, hcur]
        have f2 : [sethb cur (fld cur 6 + (n - 3))].filter (isT u) = [sethb cur (fld cur 6 + (n - 3))] := by simp [isT, sethb, hcur]
        have f3 : [(97, p, n, u + 1)].filter (mo 97 (u + 1)) = [(97, p, n, u + 1)] := by simp [mo]
        rw [f1, f2, f3, List.append_assoc]
        congr 1
        simp only [List.flatMap_cons, List.flatMap_nil, List.append_nil]
        unfold qhd hbs
        rw [if_pos (.inr rfl)]
        show ((Z.2.2.1 ++ (l.drop (p + 5)).take (n - 3)).drop (fld cur 5)).take (fld cur 6 + (n - 3)) = _
        rw [List.drop_append_of_le_length (by omega)]
        have ld : (Z.2.2.1.drop (fld cur 5)).length = fld cur 6 := by rw [List.length_drop]; omega
        rw [List.take_of_length_le (show (Z.2.2.1.drop (fld cur 5)).length ≤ fld cur 6 by omega), List.take_of_length_le]
        rw [List.length_append, ld, hbl]
        omega
      · have f1 : [cur].filter (isT u) = [] := by simp [isT, hcur]; omega
        have f2 : [sethb cur (fld cur 6 + (n - 3))].filter (isT u) = [] := by simp [isT, sethb, hcur]; omega
        have f3 : [(97, p, n, t + 1)].filter (mo 97 (u + 1)) = [] := by simp [mo]; omega
        rw [f1, f2, f3]
        simp
  · rw [hZ, List.length_append, hbl]; omega
