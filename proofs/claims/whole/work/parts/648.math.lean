/-! mathematics of both state tables, part 48; from wip/math -/
def st2 (w2' wp : wd) (l : List Nat) (S : List sg) (o n k : Nat) : Prop :=
  (∀ x, x < n → ((snn l S o 83 x k = true → bodyM w2' x l (plf S (pr l 83 o x) + 6) (decide (u1 l (plf S (pr l 83 o x) + 5) % 2 = 1))) ∧ (snn l S o 83 x k = false → sameC w2' wp x)) ∧ ((snn l S o 93 x k = true → rowsM w2' x l (plf S (pr l 93 o x) + 5) (u2 l (plf S (pr l 93 o x) + 2) - 4)) ∧ (snn l S o 93 x k = false → sameS w2' wp x)) ∧ ((snn l S o 94 x k = true → w2' 6 (8 * x + 7) = nI (u1 l (plf S (pr l 94 o x) + 6))) ∧ (snn l S o 94 x k = false → w2' 6 (8 * x + 7) = wp 6 (8 * x + 7)))) ∧
  ((snn l S o 95 0 k = true → chgM w2' l (plf S (pr l 95 o 0)) ((u2 l (plf S (pr l 95 o 0) + 2) - 2) / 7)) ∧ (snn l S o 95 0 k = false → w2' 0 17 = wp 0 17 ∧ ∀ j, w2' 10 j = wp 10 j)) ∧
  (∀ a j, ¬ (a = 0 ∧ j = 17) → a ≠ 10 → ¬ inM n a j → w2' a j = wp a j)
theorem sameC_rf (w : wd) (x : Nat) : sameC w w x := ⟨fun _ _ => rfl, fun _ _ => ⟨rfl, rfl⟩⟩
theorem sameS_rf (w : wd) (x : Nat) : sameS w w x := ⟨rfl, rfl, fun _ _ => rfl⟩
set_option maxHeartbeats 4000000 in
theorem tk109 {F : Nat} (hF : 70000 ≤ F) {l : List Nat} {S : List sg} {o n : Nat} {wp : wd} (hs : str wp l) (hT : tabS wp S) (hok : ∀ s ∈ S, segok l n s) (hu : uq l S) (ho : o ≤ 64) (hn : n ≤ 16) (g : Nat) : ∀ (w2' : wd) (k : Nat), st2 w2' wp l S o n k → k ≤ S.length → S.length - k < g → ∃ w3', fn_Md_take_109 F g w2' (ow o) (nI k) = some w3' ∧ st2 w3' wp l S o n S.length := by
  induction g with
  | zero => intro w2' k _ _ h; omega
  | succ g ih =>
    intro w2' k hst h1 h2
    obtain ⟨A, ⟨B1, B2⟩, C1⟩ := id hst
    have fr : ∀ a j, 11 ≤ a ∨ (a = 0 ∧ j ≠ 17) → w2' a j = wp a j := fun a j q => C1 a j (by omega) (by omega) (by unfold inM; omega)
    have hs1 : str w2' l := ⟨hs.1, fun i hi => by rw [fr _ _ (by omega)]; exact hs.2 i hi⟩
    have hT1 : tabS w2' S := ⟨by rw [fr _ _ (by omega)]; exact hT.1, hT.2.1, fun k hk => by rw [fr _ _ (by omega), fr _ _ (by omega), fr _ _ (by omega), fr _ _ (by omega)]; exact hT.2.2.1 k hk, hT.2.2.2⟩
    have hl := hs.1.1
    have hS := hT.2.1
    rw [fn_Md_take_109, hT1.1]
    simp only [bn_le (show S.length < 2147483648 by omega) (show k < 2147483648 by omega)]
    by_cases d : S.length ≤ k
    · rw [if_pos d]
      have : k = S.length := by omega
      subst this
      exact ⟨w2', rfl, hst⟩
    · have hk : k < S.length := by omega
      obtain ⟨q1, q2, q3, q4⟩ := hT1.2.2.1 k hk
      have hmem := gd_mem (d := sg0) hk
      have hsg := hok _ hmem
      have hb4 := hT.2.2.2 _ hmem
      have R : 0 ≤ (nI k).toInt ∧ (nI k).toInt < 16500 := by rw [bn_i (by omega)]; omega
      simp only [if_neg d, if_pos R, bn_nn k (show k < 2147483648 by omega), q1, q2, q3, q4]
      unfold fn_Md_take_212 fn_Md_take_280
      rw [(bn_a k).1]
      have e2 : (ow (S.getD k sg0).2.2.2 = ow o) = ((S.getD k sg0).2.2.2 = o) := propext (ow_inj hb4.2 (by omega))
      have em : ∀ v : Nat, v < 256 → (nI (S.getD k sg0).1 = nI v) = ((S.getD k sg0).1 = v) := fun v hv => propext (bn_eq (by omega) (by omega))
      simp only [e2, show (83 : Int32) = nI 83 from rfl, show (93 : Int32) = nI 93 from rfl, show (94 : Int32) = nI 94 from rfl, show (95 : Int32) = nI 95 from rfl, em 83 (by omega), em 93 (by omega), em 94 (by omega), em 95 (by omega), bn_a]
      have ss : ∀ m c, snn l S o m c (k + 1) = (snn l S o m c k || pr l m o c (S.getD k sg0)) := fun m c => snn_s hk
      have prn : ∀ m c, ¬ ((S.getD k sg0).1 = m ∧ (S.getD k sg0).2.2.2 = o) → pr l m o c (S.getD k sg0) = false := fun m c hm => by
        unfold pr
        exact decide_eq_false (fun ⟨a, b, _⟩ => hm ⟨a, b⟩)
      have prc : ∀ m c, (m = 83 ∨ m = 93 ∨ m = 94) → u1 l ((S.getD k sg0).2.1 + 4) ≠ c → pr l m o c (S.getD k sg0) = false := fun m c hm hc => by
        unfold pr
        exact decide_eq_false (fun ⟨_, _, x⟩ => hc (x hm))
      have pry : ∀ m c, (S.getD k sg0).1 = m → (S.getD k sg0).2.2.2 = o → ((m = 83 ∨ m = 93 ∨ m = 94) → u1 l ((S.getD k sg0).2.1 + 4) = c) → pr l m o c (S.getD k sg0) = true := fun m c a b e => by
        unfold pr
        exact decide_eq_true ⟨a, b, e⟩
      have none4 : (∀ m c, kmk m → ¬ (m = 82 ∨ m = 92) → pr l m o c (S.getD k sg0) = false) → st2 w2' wp l S o n (k + 1) := by
        intro hno
        have e : ∀ m c, kmk m → ¬ (m = 82 ∨ m = 92) → snn l S o m c (k + 1) = snn l S o m c k := fun m c h h' => by rw [ss, hno m c h h', Bool.or_false]
        refine ⟨fun x hx => ?_, ?_, C1⟩
        · rw [e 83 x (by unfold kmk; omega) (by omega), e 93 x (by unfold kmk; omega) (by omega), e 94 x (by unfold kmk; omega) (by omega)]
          exact A x hx
        · rw [e 95 0 (by unfold kmk; omega) (by omega)]
          exact ⟨B1, B2⟩
      by_cases d1 : (S.getD k sg0).2.2.2 = o
      · simp only [if_pos d1]
        by_cases m83 : (S.getD k sg0).1 = 83
        · simp only [if_pos m83]
          obtain ⟨cc, cl⟩ := hsg.2.2.2.2.2.2.2.1 (.inl m83)
          have hpl := uq_pl hu (show kmk 83 by unfold kmk; omega) hmem (pry 83 _ m83 d1 (fun _ => rfl))
          have kv := hsg.2.2.2.2.2.2.2.2.2.1 m83
          have k3 := hsg.2.2.1
          have hlen := hsg.2.2.2.2.1
          have hc16 : u1 l ((S.getD k sg0).2.1 + 4) < 16 := by omega
          have hfl := kv.2.1
          obtain ⟨w3, x1, x2, x3⟩ := takeBody (show 200 ≤ F by omega) hs1 hc16 (decide (u1 l ((S.getD k sg0).2.1 + 5) % 2 = 1)) (b := (S.getD k sg0).2.1 + 6) (by omega) (fun t => by have := kv.2.2.2.2 (of_decide_eq_true t); omega) kv.2.2.1
          rw [md_u1 hs1 cl, Option.bind_some, md_u1 hs1 (by omega), Option.bind_some]
          have key : (if nI (u1 l ((S.getD k sg0).2.1 + 5)) = 1 then (fn_Md_takeBody F w2' (nI (u1 l ((S.getD k sg0).2.1 + 4))) (nI ((S.getD k sg0).2.1 + 6)) true).bind fun r13 => fn_Md_take_109 F g r13 (ow o) (nI (k + 1)) else (fn_Md_takeBody F w2' (nI (u1 l ((S.getD k sg0).2.1 + 4))) (nI ((S.getD k sg0).2.1 + 6)) false).bind fun r13 => fn_Md_take_109 F g r13 (ow o) (nI (k + 1))) = fn_Md_take_109 F g w3 (ow o) (nI (k + 1)) := by
            by_cases q : u1 l ((S.getD k sg0).2.1 + 5) = 1
            · rw [decide_eq_true (show u1 l ((S.getD k sg0).2.1 + 5) % 2 = 1 by omega)] at x1
              rw [q, if_pos (show nI 1 = 1 from rfl), x1, Option.bind_some]
            · rw [decide_eq_false (show ¬ u1 l ((S.getD k sg0).2.1 + 5) % 2 = 1 by omega)] at x1
              rw [show u1 l ((S.getD k sg0).2.1 + 5) = 0 by omega, if_neg (show ¬ nI 0 = 1 by decide), x1, Option.bind_some]
          rw [key]
          generalize hcv : u1 l ((S.getD k sg0).2.1 + 4) = c at *
          refine ih w3 (k + 1) ⟨fun x hx => ⟨⟨fun h => ?_, fun h => ?_⟩, ⟨fun h => ?_, fun h => ?_⟩, fun h => ?_, fun h => ?_⟩, ⟨fun h => ?_, fun h => ?_⟩, fun a j z1 z2 z3 => ?_⟩ (by omega) (by omega)
          · by_cases e : x = c
            · rw [e, ← hpl]; exact x2
            · rw [ss, prc 83 x (by omega) (by omega), Bool.or_false] at h
              exact bodyM_fr ((A x hx).1.1 h) ⟨fun j hj => x3 _ _ (by omega) (by omega), fun r hr => ⟨x3 _ _ (by omega) (by omega), x3 _ _ (by omega) (by omega)⟩⟩
          · by_cases e : x = c
            · rw [ss, pry 83 x m83 d1 (fun _ => by omega)] at h; simp at h
            · rw [ss, prc 83 x (by omega) (by omega), Bool.or_false] at h
              exact sameC_tr ⟨fun j hj => x3 _ _ (by omega) (by omega), fun r hr => ⟨x3 _ _ (by omega) (by omega), x3 _ _ (by omega) (by omega)⟩⟩ ((A x hx).1.2 h)
          · rw [ss, prn 93 x (by omega), Bool.or_false] at h
            exact rowsM_fr ((A x hx).2.1.1 h) ⟨x3 _ _ (by omega) (by omega), x3 _ _ (by omega) (by omega), fun k hk => x3 _ _ (by omega) (by omega)⟩
          · rw [ss, prn 93 x (by omega), Bool.or_false] at h
            exact sameS_tr ⟨x3 _ _ (by omega) (by omega), x3 _ _ (by omega) (by omega), fun k hk => x3 _ _ (by omega) (by omega)⟩ ((A x hx).2.1.2 h)
          · rw [ss, prn 94 x (by omega), Bool.or_false] at h
            rw [x3 _ _ (by omega) (by omega)]; exact (A x hx).2.2.1 h
          · rw [ss, prn 94 x (by omega), Bool.or_false] at h
            rw [x3 _ _ (by omega) (by omega)]; exact (A x hx).2.2.2 h
          · rw [ss, prn 95 0 (by omega), Bool.or_false] at h
            exact ⟨by rw [x3 _ _ (by omega) (by omega)]; exact (B1 h).1, fun i hi => by rw [x3 _ _ (by omega) (by omega)]; exact (B1 h).2 i hi⟩
          · rw [ss, prn 95 0 (by omega), Bool.or_false] at h
            exact ⟨by rw [x3 _ _ (by omega) (by omega)]; exact (B2 h).1, fun j => by rw [x3 _ _ (by omega) (by omega)]; exact (B2 h).2 j⟩
          · rw [x3 a j (fun q => z3 (.inl ⟨q.1, by omega⟩)) (fun q => z3 (.inr (.inl ⟨q.1, by omega⟩)))]
            exact C1 a j z1 z2 z3
        · simp only [if_neg m83]
          by_cases m93 : (S.getD k sg0).1 = 93
          · simp only [if_pos m93]
            obtain ⟨cc, cl⟩ := hsg.2.2.2.2.2.2.2.1 (.inr (.inl m93))
            have hpl := uq_pl hu (show kmk 93 by unfold kmk; omega) hmem (pry 93 _ m93 d1 (fun _ => rfl))
            have kv := hsg.2.2.2.2.2.2.2.2.2.2.2.1 m93
            have k3 := hsg.2.2.1
            have hlen := hsg.2.2.2.2.1
            have hul := u2_lt hs.1 ((S.getD k sg0).2.1 + 2)
            rw [hlen] at k3 kv
            obtain ⟨w3, x1, x2, x3⟩ := takeRows (show 200 ≤ F by omega) hs1 (c := u1 l ((S.getD k sg0).2.1 + 4)) (b := (S.getD k sg0).2.1 + 5) (n0 := u2 l ((S.getD k sg0).2.1 + 2) - 4) (by omega) (by omega) (by omega)
            rw [md_u1 hs1 cl, Option.bind_some, hlen, show (4 : Int32) = nI 4 from rfl, bn_sub kv, x1, Option.bind_some]
            generalize hcv : u1 l ((S.getD k sg0).2.1 + 4) = c at *
            refine ih w3 (k + 1) ⟨fun x hx => ⟨⟨fun h => ?_, fun h => ?_⟩, ⟨fun h => ?_, fun h => ?_⟩, fun h => ?_, fun h => ?_⟩, ⟨fun h => ?_, fun h => ?_⟩, fun a j z1 z2 z3 => ?_⟩ (by omega) (by omega)
            · rw [ss, prn 83 x (by omega), Bool.or_false] at h
              exact bodyM_fr ((A x hx).1.1 h) ⟨fun j hj => x3 _ _ (by omega) (by omega), fun r hr => ⟨x3 _ _ (by omega) (by omega), x3 _ _ (by omega) (by omega)⟩⟩
            · rw [ss, prn 83 x (by omega), Bool.or_false] at h
              exact sameC_tr ⟨fun j hj => x3 _ _ (by omega) (by omega), fun r hr => ⟨x3 _ _ (by omega) (by omega), x3 _ _ (by omega) (by omega)⟩⟩ ((A x hx).1.2 h)
            · by_cases e : x = c
              · rw [e, ← hpl]; exact x2
              · rw [ss, prc 93 x (by omega) (by omega), Bool.or_false] at h
                exact rowsM_fr ((A x hx).2.1.1 h) ⟨x3 _ _ (by omega) (by omega), x3 _ _ (by omega) (by omega), fun k hk => x3 _ _ (by omega) (by omega)⟩
            · by_cases e : x = c
              · rw [ss, pry 93 x m93 d1 (fun _ => by omega)] at h; simp at h
              · rw [ss, prc 93 x (by omega) (by omega), Bool.or_false] at h
                exact sameS_tr ⟨x3 _ _ (by omega) (by omega), x3 _ _ (by omega) (by omega), fun k hk => x3 _ _ (by omega) (by omega)⟩ ((A x hx).2.1.2 h)
            · rw [ss, prn 94 x (by omega), Bool.or_false] at h
              rw [x3 _ _ (by omega) (by omega)]; exact (A x hx).2.2.1 h
            · rw [ss, prn 94 x (by omega), Bool.or_false] at h
              rw [x3 _ _ (by omega) (by omega)]; exact (A x hx).2.2.2 h
            · rw [ss, prn 95 0 (by omega), Bool.or_false] at h
              exact ⟨by rw [x3 _ _ (by omega) (by omega)]; exact (B1 h).1, fun i hi => by rw [x3 _ _ (by omega) (by omega)]; exact (B1 h).2 i hi⟩
            · rw [ss, prn 95 0 (by omega), Bool.or_false] at h
              exact ⟨by rw [x3 _ _ (by omega) (by omega)]; exact (B2 h).1, fun j => by rw [x3 _ _ (by omega) (by omega)]; exact (B2 h).2 j⟩
            · rw [x3 a j (fun q => z3 (.inl ⟨q.1, by omega⟩)) (fun q => z3 (.inr (.inr ⟨q.1, by omega⟩)))]
              exact C1 a j z1 z2 z3
          · simp only [if_neg m93]
            by_cases m94 : (S.getD k sg0).1 = 94
            · simp only [if_pos m94]
              obtain ⟨cc, cl⟩ := hsg.2.2.2.2.2.2.2.1 (.inr (.inr m94))
              have hpl := uq_pl hu (show kmk 94 by unfold kmk; omega) hmem (pry 94 _ m94 d1 (fun _ => rfl))
              have kv := hsg.2.2.2.2.2.2.2.2.2.2.2.2.1 m94
              have k3 := hsg.2.2.1
              have hc16 : u1 l ((S.getD k sg0).2.1 + 4) < 16 := by omega
              rw [md_u1 hs1 cl, Option.bind_some, md_u1 hs1 (by omega), Option.bind_some, show (8 : Int32) = nI 8 from rfl, bn_mul, (bn_a _).2.2.2.2.2.2.1, if_pos (i8 hc16 (by omega)).1, (i8 hc16 (by omega)).2]
              generalize hcv : u1 l ((S.getD k sg0).2.1 + 4) = c at *
              have x3 : ∀ a j, ¬ (a = 6 ∧ j = 8 * c + 7) → (up2 w2' 6 (8 * c + 7) (nI (u1 l ((S.getD k sg0).2.1 + 6)))) a j = w2' a j := fun a j q => u2n q
              have x2 : (up2 w2' 6 (8 * c + 7) (nI (u1 l ((S.getD k sg0).2.1 + 6)))) 6 (8 * c + 7) = nI (u1 l ((S.getD k sg0).2.1 + 6)) := u2e rfl rfl
              generalize up2 w2' 6 (8 * c + 7) (nI (u1 l ((S.getD k sg0).2.1 + 6))) = w3 at *
              refine ih w3 (k + 1) ⟨fun x hx => ⟨⟨fun h => ?_, fun h => ?_⟩, ⟨fun h => ?_, fun h => ?_⟩, fun h => ?_, fun h => ?_⟩, ⟨fun h => ?_, fun h => ?_⟩, fun a j z1 z2 z3 => ?_⟩ (by omega) (by omega)
              · rw [ss, prn 83 x (by omega), Bool.or_false] at h
                exact bodyM_fr ((A x hx).1.1 h) ⟨fun j hj => x3 _ _ (by omega), fun r hr => ⟨x3 _ _ (by omega), x3 _ _ (by omega)⟩⟩
              · rw [ss, prn 83 x (by omega), Bool.or_false] at h
                exact sameC_tr ⟨fun j hj => x3 _ _ (by omega), fun r hr => ⟨x3 _ _ (by omega), x3 _ _ (by omega)⟩⟩ ((A x hx).1.2 h)
              · rw [ss, prn 93 x (by omega), Bool.or_false] at h
                exact rowsM_fr ((A x hx).2.1.1 h) ⟨x3 _ _ (by omega), x3 _ _ (by omega), fun k hk => x3 _ _ (by omega)⟩
              · rw [ss, prn 93 x (by omega), Bool.or_false] at h
                exact sameS_tr ⟨x3 _ _ (by omega), x3 _ _ (by omega), fun k hk => x3 _ _ (by omega)⟩ ((A x hx).2.1.2 h)
              · by_cases e : x = c
                · rw [e, ← hpl]; exact x2
                · rw [ss, prc 94 x (by omega) (by omega), Bool.or_false] at h
                  rw [x3 _ _ (by omega)]; exact (A x hx).2.2.1 h
              · by_cases e : x = c
                · rw [ss, pry 94 x m94 d1 (fun _ => by omega)] at h; simp at h
                · rw [ss, prc 94 x (by omega) (by omega), Bool.or_false] at h
                  rw [x3 _ _ (by omega)]; exact (A x hx).2.2.2 h
              · rw [ss, prn 95 0 (by omega), Bool.or_false] at h
                exact ⟨by rw [x3 _ _ (by omega)]; exact (B1 h).1, fun i hi => by rw [x3 _ _ (by omega)]; exact (B1 h).2 i hi⟩
              · rw [ss, prn 95 0 (by omega), Bool.or_false] at h
                exact ⟨by rw [x3 _ _ (by omega)]; exact (B2 h).1, fun j => by rw [x3 _ _ (by omega)]; exact (B2 h).2 j⟩
              · rw [x3 a j (fun q => z3 (.inl ⟨q.1, by omega⟩))]
                exact C1 a j z1 z2 z3
            · simp only [if_neg m94]
              by_cases m95 : (S.getD k sg0).1 = 95
              · simp only [if_pos m95]
                have hpl := uq_pl hu (show kmk 95 by unfold kmk; omega) hmem (pry 95 0 m95 d1 (fun x => by omega))
                have kv := hsg.2.2.2.2.2.2.2.2.2.2.2.2.2.1 m95
                have k3 := hsg.2.2.1
                have hlen := hsg.2.2.2.2.1
                rw [hlen] at k3 kv
                have hs2 : str (up2 w2' 0 17 0) l := ⟨hs.1, fun i hi => by rw [u2n (by omega)]; exact hs1.2 i hi⟩
                obtain ⟨w3, x1, x2, x3⟩ := tc20 (F := F) (p := (S.getD k sg0).2.1) (q := (u2 l ((S.getD k sg0).2.1 + 2) - 2) / 7) (by omega) (by omega) F (up2 w2' 0 17 0) 0 hs2 ⟨u2e rfl rfl, fun i hi => by omega⟩ (by omega) (by omega)
                have tC : fn_Md_takeChanges F w2' (nI (S.getD k sg0).2.1) = some w3 := by
                  unfold fn_Md_takeChanges
                  rw [(bn_a _).2.1, md_u2 hs2 (by omega), Option.bind_some, show (2 : Int32) = nI 2 from rfl, bn_sub (by omega), show (7 : Int32) = nI 7 from rfl, bn_div (by omega) (by omega)]
                  exact x1
                rw [tC, Option.bind_some]
                have x4 : ∀ a j, ¬ (a = 0 ∧ j = 17) → a ≠ 10 → w3 a j = w2' a j := fun a j q1 q2 => by rw [x3 a j q1 q2, u2n q1]
                rw [hpl] at x2
                refine ih w3 (k + 1) ⟨fun x hx => ⟨⟨fun h => ?_, fun h => ?_⟩, ⟨fun h => ?_, fun h => ?_⟩, fun h => ?_, fun h => ?_⟩, ⟨fun _ => x2, fun h => ?_⟩, fun a j z1 z2 z3 => by rw [x4 a j z1 z2]; exact C1 a j z1 z2 z3⟩ (by omega) (by omega)
                · rw [ss, prn 83 x (by omega), Bool.or_false] at h
                  exact bodyM_fr ((A x hx).1.1 h) ⟨fun j hj => x4 _ _ (by omega) (by omega), fun r hr => ⟨x4 _ _ (by omega) (by omega), x4 _ _ (by omega) (by omega)⟩⟩
                · rw [ss, prn 83 x (by omega), Bool.or_false] at h
                  exact sameC_tr ⟨fun j hj => x4 _ _ (by omega) (by omega), fun r hr => ⟨x4 _ _ (by omega) (by omega), x4 _ _ (by omega) (by omega)⟩⟩ ((A x hx).1.2 h)
                · rw [ss, prn 93 x (by omega), Bool.or_false] at h
                  exact rowsM_fr ((A x hx).2.1.1 h) ⟨x4 _ _ (by omega) (by omega), x4 _ _ (by omega) (by omega), fun k hk => x4 _ _ (by omega) (by omega)⟩
                · rw [ss, prn 93 x (by omega), Bool.or_false] at h
                  exact sameS_tr ⟨x4 _ _ (by omega) (by omega), x4 _ _ (by omega) (by omega), fun k hk => x4 _ _ (by omega) (by omega)⟩ ((A x hx).2.1.2 h)
                · rw [ss, prn 94 x (by omega), Bool.or_false] at h
                  rw [x4 _ _ (by omega) (by omega)]; exact (A x hx).2.2.1 h
                · rw [ss, prn 94 x (by omega), Bool.or_false] at h
                  rw [x4 _ _ (by omega) (by omega)]; exact (A x hx).2.2.2 h
                · rw [ss, pry 95 0 m95 d1 (fun x => by omega)] at h; simp at h
              · simp only [if_neg m95]
                exact ih w2' (k + 1) (none4 (fun m c hm h' => prn m c (fun q => by unfold kmk at hm; omega))) (by omega) (by omega)
      · simp only [if_neg d1]
        exact ih w2' (k + 1) (none4 (fun m c hm h' => prn m c (fun q => d1 q.2))) (by omega) (by omega)
