/-! mathematics of both state tables, part 32; from wip/math -/
theorem inv_cl {w w1 w' : wd} {Z : zd} {l : List Nat} {S : List sg} {Q : List pt} {dn cn T p : Nat} (h : inv w w' Z l S Q dn cn T p) (hw : ∀ a j, (a = 105 ∧ (j = 9 ∨ j = 10 ∨ j = 11)) ∨ (109 ≤ a ∧ a ≤ 114) → w1 a j = w a j) : inv w1 w' Z l S Q dn cn T p := by
  obtain ⟨i1, i2, i3, i4, i5, i6⟩ := h
  refine ⟨i1, i2, ?_, ?_, ?_, ?_⟩
  · unfold inv3 at *
    rw [hw _ _ (by omega), hw _ _ (by omega), hw _ _ (by omega)]
    exact i3
  · obtain ⟨a, b, c⟩ := i4
    refine ⟨fun m c hc hk => ?_, fun t ht hq m c hc hk => ?_, c⟩
    · rw [hw _ _ (by omega)]; exact a m c hc hk
    · rw [hw _ _ (by omega)]; exact b t ht hq m c hc hk
  · obtain ⟨⟨a1, a2⟩, b, c, d⟩ := i5
    refine ⟨⟨?_, fun k hk j hj hd => ?_⟩, b, fun t ht => ?_, d⟩
    · rw [hw _ _ (by omega)]; exact a1
    · rw [hw _ _ (by omega)]; exact a2 k hk j hj hd
    · rw [hw _ _ (by omega), hw _ _ (by omega)]; exact c t ht
  · obtain ⟨a, b, c, d, e⟩ := i6
    exact ⟨a, b, c, fun t ht => by rw [hw _ _ (by omega)]; exact d t ht, e⟩
theorem inv_md {w w' w1' : wd} {Z : zd} {l : List Nat} {S : List sg} {Q : List pt} {dn cn T p : Nat} (h : inv w w' Z l S Q dn cn T p) (hw : ∀ a j, (a = 0 ∧ (j = 20 ∨ j = 23 ∨ j = 28 ∨ j = 34 ∨ j = 35)) ∨ (11 ≤ a ∧ a ≤ 20) → w1' a j = w' a j) : inv w w1' Z l S Q dn cn T p := by
  obtain ⟨⟨⟨a1, a2⟩, a3, a4⟩, ⟨⟨b1, b2, b3, b4⟩, b5, b6⟩, ⟨c1, c2, c3, c4, c5, c6, c7⟩, i4, ⟨d1, ⟨d2, d3, d4⟩, d5⟩, i6⟩ := h
  refine ⟨⟨⟨a1, fun i hi => ?_⟩, a3, ?_⟩, ⟨⟨?_, b2, fun k hk => ?_, b4⟩, b5, b6⟩, ⟨c1, ?_, c3, c4, ?_, c6, c7⟩, i4, ⟨d1, ⟨?_, d3, fun k hk j hj => ?_⟩, d5⟩, i6⟩
  · rw [hw _ _ (by omega)]; exact a2 i hi
  · rw [hw _ _ (by omega)]; exact a4
  · rw [hw _ _ (by omega)]; exact b1
  · rw [hw _ _ (by omega), hw _ _ (by omega), hw _ _ (by omega), hw _ _ (by omega)]; exact b3 k hk
  · rw [hw _ _ (by omega)]; exact c2
  · rw [hw _ _ (by omega)]; exact c5
  · rw [hw _ _ (by omega)]; exact d2
  · rw [hw _ _ (by omega)]; exact d4 k hk j hj
theorem inv_p {w w' : wd} {Z : zd} {l : List Nat} {S : List sg} {Q : List pt} {dn cn T p p' : Nat} (h : inv w w' Z l S Q dn cn T p) (hp : p ≤ p') : inv w w' Z l S Q dn cn T p' := by
  obtain ⟨i1, ⟨a1, a2, a3⟩, i3, i4, i5, ⟨b1, b2, b3⟩⟩ := h
  exact ⟨i1, ⟨a1, by omega, a3⟩, i3, i4, i5, ⟨b1, by omega, b3⟩⟩
theorem md_seg2 {w' w2' : wd} {l : List Nat} {S : List sg} {Z : zd} {k : Nat} (h1 : inv1 w' Z l) (hm : mfr w' w2' k) : inv1 w2' Z l := by
  obtain ⟨⟨a, b⟩, c, d⟩ := h1
  exact ⟨⟨a, fun i hi => by rw [hm _ _ (by omega) (by omega)]; exact b i hi⟩, c, by rw [hm _ _ (by omega) (by omega)]; exact d⟩
theorem take_n {F : Nat} {w w' w2' : wd} {Z : zd} {l : List Nat} {S : List sg} {Q : List pt} {dn cn T p m n o c : Nat} (hI : inv w w' Z l S Q dn cn T p) (h : at_ w Z l p m n) (hT2 : tabS w2' (S ++ [(m, p, n, o)])) (hfr : mfr w' w2' S.length) (hseg : segok l cn (m, p, n, o)) (ho : o ≤ 64) (hQ : o ≠ 0 → 0 < Q.countP (isT (o - 1))) (hown : fn_Sc_owner Z w = nI o) (h96 : m = 96 → o = 0) (hm97 : m ≠ 97) (n1 : m ≠ 79) (n2 : m ≠ 81) (n3 : m ≠ 144) (n4 : m ≠ 147) (n5 : m ≠ 217) (hc : c < 16) (htc : fn_Sc_toldComponent Z w = nI c) (hcc : (m = 83 ∨ m = 93 ∨ m = 94) → u1 l (p + 4) = c) (h0 : kmk m → plf S (pr l m o c) = 0) :
    ∃ w2 Z2, fn_Sc_takeMark F Z w = some (w2, Z2) ∧ zc Z ≤ zc Z2 ∧ Z2.1 = Z.1 ∧ Z2.2.1 = Z.2.1 ∧ inv w2 w2' Z2 l (S ++ [(m, p, n, o)]) Q dn cn T (p + 2 + n) ∧ w2 105 5 = nI (p + 2 + n) ∧ (∀ a j, ¬ (a = 105 ∧ (j = 5 ∨ j = 11)) → a ≠ 109 → w2 a j = w a j) := by
  obtain ⟨g1, g2, g3, g4, g5, g6, g7, g8⟩ := id h
  obtain ⟨i1, i2, i3, i4, i5, i6⟩ := hI
  have hl := g2.1
  have hS1 : ∀ s ∈ S, 1 ≤ s.2.1 := fun s hs => by have := (i2.2.2 s hs).1; omega
  have hn2 : 2 ≤ n := hseg.2.2.2.1
  have i1' := md_seg2 (S := S) i1 hfr
  have i2' : inv2 w2' l (S ++ [(m, p, n, o)]) cn (p + 2 + n) := ⟨hT2, by have := i2.2.1; rw [List.length_append]; simp; omega, fun s hs => by
    rcases List.mem_append.1 hs with q | q
    · exact i2.2.2 s q
    · simp at q; rw [q]; exact hseg⟩
  have i5' : ∀ w2 : wd, (∀ a j, 110 ≤ a → a ≤ 113 → w2 a j = w a j) → inv5 w2 w2' Q dn := by
    intro w2 hw2
    obtain ⟨⟨a1, a2⟩, ⟨b1, b2, b3⟩, cq, d⟩ := i5
    refine ⟨⟨?_, fun k hk j hj hd => ?_⟩, ⟨?_, b2, fun k hk j hj => ?_⟩, fun t ht => ?_, d⟩
    · rw [hw2 _ _ (by omega) (by omega)]; exact a1
    · rw [hw2 _ _ (by omega) (by omega)]; exact a2 k hk j hj hd
    · rw [hfr _ _ (by omega) (by omega)]; exact b1
    · rw [hfr _ _ (by omega) (by omega)]; exact b3 k hk j hj
    · rw [hw2 _ _ (by omega) (by omega), hw2 _ _ (by omega) (by omega)]; exact cq t ht
  have hSo : ∀ s ∈ (S ++ [(m, p, n, o)]), s.2.2.2 ≠ 0 → 0 < Q.countP (isT (s.2.2.2 - 1)) := fun s hs => by
    rcases List.mem_append.1 hs with q | q
    · exact i4.2.2 s q
    · simp at q; rw [q]; exact hQ
  obtain ⟨c1, c2, c3, c4, c5, c6, c7⟩ := i3
  obtain ⟨e1, e2, e3, e4, e5⟩ := i6
  by_cases m96 : m = 96
  · subst m96
    have ho0 := h96 rfl
    subst ho0
    have hn3 : 3 ≤ n := hseg.2.2.2.2.2.2.2.2.2.2.2.2.2.2 (.inl rfl)
    have hb : rw_rg Z.1.1 ((w 105 5) + 5) 0 ((w 105 8) - 3).toInt.toNat = (l.drop (p + 5)).take (n - 3) := by
      rw [g1, g3, g6, (bn_a p).2.2.2.2.1, show (3 : Int32) = nI 3 from rfl, bn_sub hn3, bn_nn _ (by omega)]
      exact rg_eq l (p + 5) (by omega) (n - 3) 0 (by omega)
    have hbl : ((l.drop (p + 5)).take (n - 3)).length = n - 3 := by rw [List.length_take, List.length_drop]; omega
    have ts : fn_Sc_takeSegment Z w = some (up2 w 105 11 (nI (S.countP (mo 96 0) + 1)), zs3 Z (rwp Z.2.2 ((l.drop (p + 5)).take (n - 3)))) := by
      unfold fn_Sc_takeSegment
      rw [hb, g4, if_pos (show nI 96 = 96 from rfl), if_pos (by rw [hbl]; omega), c7, (bn_a _).1]
      exact mchk_eq rfl (Nat.le_refl _)
    refine ⟨_, _, tm_seg g4 g5 g3 g6 n1 n2 n3 n4 n5 ts (zc_s3 _ _), zc_s3 _ _, rfl, rfl, ⟨i1', i2', ?_, ?_, i5' _ (fun a j _ _ => by simp (disch := omega) only [u2n]), ?_⟩, u2e rfl rfl, fun a j q1 q2 => by simp (disch := omega) only [u2n]⟩
    · refine ⟨?_, ?_, c3, ?_, ?_, c6, ?_⟩
      · simp (disch := omega) only [u2n]; exact c1
      · rw [hfr _ _ (by omega) (by omega)]; exact c2
      · simp (disch := omega) only [u2n]; exact c4
      · rw [hfr _ _ (by omega) (by omega)]; exact c5
      · simp (disch := omega) only [u2n, u2e]
        rw [cP_app, if_pos (by simp [mo])]
    · have nk : ¬ kmk 96 := by unfold kmk; omega
      refine ⟨fun m c hc hk => ?_, fun t ht hq m c hc hk => ?_, hSo⟩
      · simp (disch := omega) only [u2n]; exact plcs_no hS1 i4.1 nk m c hc hk
      · simp (disch := omega) only [u2n]; exact plcs_no hS1 (i4.2.1 t ht hq) nk m c hc hk
    · have hH : (zs3 Z (rwp Z.2.2 ((l.drop (p + 5)).take (n - 3)))).2.2.1 = Z.2.2.1 ++ ((l.drop (p + 5)).take (n - 3)) := rfl
      refine ⟨?_, ?_, fun q hq => ?_, fun t ht => ?_, fun t => ?_⟩
      · rw [hH, hdl_app, ← e1]; rfl
      · rw [hH, List.length_append, hbl]; omega
      · rw [hH, List.length_append]; have := e3 q hq; omega
      · simp (disch := omega) only [u2n]; rw [cP_n (by omega)]; exact e4 t ht
      · rw [hH, hdQ_app e3, hdS_n (by omega)]; exact e5 t
  · have hH2 : hbs l (m, p, n, o) = [] := by
      unfold hbs
      rw [if_neg]
      show ¬ (m = 96 ∨ m = 97)
      omega
    have ts : fn_Sc_takeSegment Z w = some (fn_Ps_keep w (nI o) (nI m) (nI c) (nI p), Z) := by
      unfold fn_Sc_takeSegment
      rw [hown, htc, g3, g4, if_neg (show ¬ nI m = 96 from bn_e' (k := 96) g5 (by omega) m96), if_neg (show ¬ nI m = 97 from bn_e' (k := 97) g5 (by omega) hm97)]
    have tm := tm_seg (F := F) g4 g5 g3 g6 n1 n2 n3 n4 n5 ts (Nat.le_refl _)
    have G6 : ∀ w2 : wd, (∀ j, w2 114 j = w 114 j) → inv6 w2 l Z.2.2.1 (S ++ [(m, p, n, o)]) Q (p + 2 + n) := by
      intro w2 hw2
      refine ⟨by rw [hdl_app, hH2, List.append_nil]; exact e1, by omega, e3, fun t ht => by rw [hw2, cP_n (by omega)]; exact e4 t ht, fun t => by rw [hdS_n (by omega)]; exact e5 t⟩
    rw [kpOf _ ho g5 hc] at tm
    by_cases k : m = 82 ∨ m = 92 ∨ m = 95 ∨ m = 83 ∨ m = 93 ∨ m = 94
    · rw [if_pos k] at tm
      have hk : kmk m := k
      refine ⟨_, _, tm, Nat.le_refl _, rfl, rfl, ⟨i1', i2', ?_, ?_, i5' _ (fun a j _ _ => by simp (disch := omega) only [u2n]), G6 _ (fun j => by simp (disch := omega) only [u2n])⟩, u2e rfl rfl, fun a j q1 q2 => by simp (disch := omega) only [u2n]⟩
      · refine ⟨?_, ?_, c3, ?_, ?_, c6, ?_⟩
        · simp (disch := omega) only [u2n]; exact c1
        · rw [hfr _ _ (by omega) (by omega)]; exact c2
        · simp (disch := omega) only [u2n]; exact c4
        · rw [hfr _ _ (by omega) (by omega)]; exact c5
        · simp (disch := omega) only [u2n]
          rw [cP_n (by omega)]; exact c7
      · have P : ∀ o', o' ≤ 64 → plcs w l S o' → plcs (up2 (up2 w 109 (51 * o + ix m c) (nI p)) 105 5 (nI (p + 2 + n))) l (S ++ [(m, p, n, o)]) o' := by
          intro o' ho' hp m' c' hc' hk'
          rw [u2n (by omega)]
          exact plcs_kp hS1 hp ho' hc hk (h0 hk) hcc m' c' hc' hk'
        exact ⟨P 0 (by omega) i4.1, fun t ht hq => P (t + 1) (by omega) (i4.2.1 t ht hq), hSo⟩
    · rw [if_neg k] at tm
      refine ⟨_, _, tm, Nat.le_refl _, rfl, rfl, ⟨i1', i2', ?_, ?_, i5' _ (fun a j _ _ => by simp (disch := omega) only [u2n]), G6 _ (fun j => by simp (disch := omega) only [u2n])⟩, u2e rfl rfl, fun a j q1 q2 => by simp (disch := omega) only [u2n]⟩
      · refine ⟨?_, ?_, c3, ?_, ?_, c6, ?_⟩
        · simp (disch := omega) only [u2n]; exact c1
        · rw [hfr _ _ (by omega) (by omega)]; exact c2
        · simp (disch := omega) only [u2n]; exact c4
        · rw [hfr _ _ (by omega) (by omega)]; exact c5
        · simp (disch := omega) only [u2n]
          rw [cP_n (by omega)]; exact c7
      · have P : ∀ o', plcs w l S o' → plcs (up2 w 105 5 (nI (p + 2 + n))) l (S ++ [(m, p, n, o)]) o' := by
          intro o' hp m' c' hc' hk'
          rw [u2n (by omega)]
          exact plcs_no hS1 hp k m' c' hc' hk'
        exact ⟨P 0 i4.1, fun t ht hq => P (t + 1) (i4.2.1 t ht hq), hSo⟩
