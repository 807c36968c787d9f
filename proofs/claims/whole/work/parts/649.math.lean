/-! mathematics of both state tables, part 49; from wip/math -/
theorem bw_le {l : List Nat} (hb : byt l) (b : Nat) (t : Bool) (r : Nat) : bw l b t r ≤ 15 ∧ bh l b t r ≤ 15 := by
  have := u1_lt hb (b + 5 + r)
  unfold bw bh
  split <;> omega
theorem rv_le {l : List Nat} (hb : byt l) (b n k : Nat) : rv l b n k ≤ 65535 := by
  have h1 := u1_lt hb (b + 1 + k)
  have h2 := u2_lt hb (b + 1 + 2 * k)
  unfold rv
  split
  · split <;> omega
  · split <;> omega
theorem nI01 {x : Nat} (h : x ≤ 1) : nI x = 0 ∨ nI x = 1 := by
  rcases (show x = 0 ∨ x = 1 by omega) with rfl | rfl
  · exact .inl rfl
  · exact .inr rfl
theorem own_take {F : Nat} (hF : 70000 ≤ F) {Z : zd} {l : List Nat} {S : List sg} {o n : Nat} {w w' : wd} (hz : Z.1.1 = l) (hs : str w' l) (hT : tabS w' S) (hok : ∀ s ∈ S, segok l n s) (hu : uq l S) (ho : o ≤ 64) (hp : plcs w l S o) (ha : ra w w') (hg : rg w w') (hc : rcs w w' n) (hh : ∃ k, rch w w' k) : ∃ W w1', fn_Ld_loadOwner F Z w (nI o) = some W ∧ fn_Md_take F w' (ow o) = some w1' ∧ ra W w1' ∧ rg W w1' ∧ rcs W w1' n ∧ (∃ k, rch W w1' k) ∧ pfr w W ∧ pfr' w' w1' ∧ w1' 0 0 = w' 0 0 := by
  have hb := hs.1
  have hl := hb.1
  obtain ⟨c1, c2, c3, c4⟩ := id hc
  obtain ⟨W, x1, x2, x3, x4, x5⟩ := loadOwner hF hz hb hok ho c3 w hp c1
  have hS1 : ∀ s ∈ S, 1 ≤ s.2.1 := fun s hs => by have := (hok s hs).1; omega
  obtain ⟨wp, y1, y2⟩ := tk2 hF hs hT hok hu ho c3 c2 F w' 0 ⟨⟨fun h => by rw [snn_0] at h; exact absurd h (by decide), fun _ => ⟨fun _ _ _ => rfl, fun x _ => sameC_rf w' x⟩⟩, ⟨fun h => by rw [snn_0] at h; exact absurd h (by decide), fun _ x _ => sameS_rf w' x⟩, fun _ _ _ _ => rfl, fun _ _ => rfl⟩ (by omega) (by have := hT.2.1; omega)
  obtain ⟨⟨A1, A2⟩, ⟨B1, B2⟩, C1, C2⟩ := y2
  have fr : ∀ a j, 11 ≤ a ∨ (a = 0 ∧ ¬ (8 ≤ j ∧ j ≤ 12)) ∨ (1 ≤ a ∧ a ≤ 5) ∨ a = 10 → wp a j = w' a j := fun a j q => C1 a j (by omega) (by unfold inM; omega)
  have hsp : str wp l := ⟨hs.1, fun i hi => by rw [fr _ _ (by omega)]; exact hs.2 i hi⟩
  have hTp : tabS wp S := ⟨by rw [fr _ _ (by omega)]; exact hT.1, hT.2.1, fun k hk => by rw [fr _ _ (by omega), fr _ _ (by omega), fr _ _ (by omega), fr _ _ (by omega)]; exact hT.2.2.1 k hk, hT.2.2.2⟩
  obtain ⟨wm, z1, z2⟩ := tk109 hF hsp hTp hok hu ho c3 F wp 0 ⟨fun x _ => ⟨⟨fun h => by rw [snn_0] at h; exact absurd h (by decide), fun _ => sameC_rf wp x⟩, ⟨fun h => by rw [snn_0] at h; exact absurd h (by decide), fun _ => sameS_rf wp x⟩, ⟨fun h => by rw [snn_0] at h; exact absurd h (by decide), fun _ => rfl⟩⟩, ⟨fun h => by rw [snn_0] at h; exact absurd h (by decide), fun _ => ⟨rfl, fun _ => rfl⟩⟩, fun _ _ _ _ _ => rfl⟩ (by omega) (by have := hT.2.1; omega)
  obtain ⟨D, ⟨E1, E2⟩, G1⟩ := z2
  have fm : ∀ a j, 11 ≤ a ∨ (a = 0 ∧ j ≠ 17) ∨ (1 ≤ a ∧ a ≤ 5) → wm a j = wp a j := fun a j q => G1 a j (by omega) (by omega) (by unfold inM; omega)
  have tk : fn_Md_take F w' (ow o) = some wm := by
    unfold fn_Md_take
    rw [show (0 : Int32) = nI 0 from rfl, y1]
    exact z1
  have sT : ∀ {m c}, plf S (pr l m o c) ≠ 0 → snn l S o m c S.length = true := fun {m c} h => by
    cases e : snn l S o m c S.length with
    | true => rfl
    | false => exact absurd ((snn_l hS1).1 e) h
  have sF : ∀ {m c}, plf S (pr l m o c) = 0 → snn l S o m c S.length = false := fun {m c} h => (snn_l hS1).2 h
  have wm0 : ∀ j, j ≠ 17 → wm 0 j = wp 0 j := fun j hj => fm _ _ (by omega)
  refine ⟨W, wm, x1, tk, ?_, ?_, ⟨?_, ?_, c3, fun x hx => ?_⟩, ?_, fun a j q => x5 a j (by omega) (by omega) (by omega), fun a j q => ?_, ?_⟩
  · exact ra_fr ha (fun j => x5 _ _ (by omega) (by omega) (by omega)) (by rw [fm _ _ (by omega), fr _ _ (by omega)]) (fun j => by rw [fm _ _ (by omega), fr _ _ (by omega)])
  · by_cases d : plf S (pr l 82 o 0) = 0
    · have g0 := (A2 (sF d)).1
      exact rg_fr hg (fun j j1 j2 => x4.2 d j j1 j2) (fun j j1 j2 => by rw [wm0 _ (by omega), g0 j j1 j2])
    · obtain ⟨p1, p2, p3, p4, p5⟩ := x4.1 d
      obtain ⟨q1, q2, q3, q4, q5⟩ := (A1 (sT d)).1
      have kv := (sgk hok d).1.2.2.2.2.2.2.2.2.1 rfl
      unfold rg
      rw [p1, p2, p3, p4, p5, wm0 _ (by omega), wm0 _ (by omega), wm0 _ (by omega), wm0 _ (by omega), wm0 _ (by omega), q1, q2, q3, q4, q5]
      exact ⟨⟨rfl, rfl, rfl, rfl, rfl⟩, nI01 kv.2.1, nI01 (by omega), nI01 (by omega)⟩
  · rw [x5 _ _ (by omega) (by omega) (by omega)]; exact c1
  · rw [fm _ _ (by omega), fr _ _ (by omega)]; exact c2
  · obtain ⟨⟨a1, a2, a3, a4, a5⟩, ⟨b1, b2, b3, b4, b5⟩, ⟨s1, s2⟩, ⟨d1, d2, d3, d4⟩, e1, e2, e3⟩ := c4 x hx
    obtain ⟨⟨u1', u2', u3'⟩, ⟨v1, v2, v3⟩, ⟨t1, t2⟩, k1⟩ := x2 x hx
    obtain ⟨⟨m1, m2⟩, ⟨m3, m4⟩, m5, m6⟩ := D x hx
    have BC : ∀ b t, bodyC W x l b t → bodyM wm x l b t → u1 l b ≤ 32 → u1 l (b + 4) ≤ 1 → (W (6 + 6 * x) 0 = wm 6 (8 * x) ∧ W (6 + 6 * x) 1 = wm 6 (8 * x + 1) ∧ W (6 + 6 * x) 2 = wm 6 (8 * x + 2) ∧ W (6 + 6 * x) 3 = wm 6 (8 * x + 3) ∧ W (6 + 6 * x) 4 = wm 6 (8 * x + 4)) ∧ ((W (6 + 6 * x) 4 = 0 ∨ W (6 + 6 * x) 4 = 1) ∧ 0 ≤ W (6 + 6 * x) 0 ∧ W (6 + 6 * x) 0 ≤ 32) ∧ (∀ r, r < 33 → W (7 + 6 * x) r = wm 7 (33 * x + r)) ∧ (∀ r, r < 33 → W (8 + 6 * x) r = wm 8 (33 * x + r)) := by
      intro b t h1 h2 h3 h4
      obtain ⟨f1, f2, f3, f4, f5, f6⟩ := h1
      obtain ⟨g1, g2, g3, g4, g5, g6⟩ := h2
      rw [f1, f2, f3, f4, f5, g1, g2, g3, g4, g5]
      refine ⟨⟨rfl, rfl, rfl, rfl, rfl⟩, ⟨nI01 h4, ?_, ?_⟩, fun r hr => ?_, fun r hr => ?_⟩
      · rw [show (0 : Int32) = nI 0 from rfl, bn_le (by omega) (by omega)]; omega
      · rw [show (32 : Int32) = nI 32 from rfl, bn_le (by omega) (by omega)]; exact h3
      · rw [(f6 r hr).1, (g6 r hr).1]
      · rw [(f6 r hr).2, (g6 r hr).2]
    have C : (W (6 + 6 * x) 0 = wm 6 (8 * x) ∧ W (6 + 6 * x) 1 = wm 6 (8 * x + 1) ∧ W (6 + 6 * x) 2 = wm 6 (8 * x + 2) ∧ W (6 + 6 * x) 3 = wm 6 (8 * x + 3) ∧ W (6 + 6 * x) 4 = wm 6 (8 * x + 4)) ∧ ((W (6 + 6 * x) 4 = 0 ∨ W (6 + 6 * x) 4 = 1) ∧ 0 ≤ W (6 + 6 * x) 0 ∧ W (6 + 6 * x) 0 ≤ 32) ∧ (∀ r, r < 33 → W (7 + 6 * x) r = wm 7 (33 * x + r)) ∧ (∀ r, r < 33 → W (8 + 6 * x) r = wm 8 (33 * x + r)) := by
      by_cases d83 : plf S (pr l 83 o x) = 0
      · have sc := m2 (sF d83)
        by_cases d82 : plf S (pr l 82 o 0) = 0
        · have sc2 := sameC_tr sc ((A2 (sF d82)).2 x hx)
          have w6 := u3' d83 d82
          rw [w6 _ _ (by omega) (by omega), w6 _ _ (by omega) (by omega), w6 _ _ (by omega) (by omega), w6 _ _ (by omega) (by omega), w6 _ _ (by omega) (by omega), show wm 6 (8 * x) = w' 6 (8 * x) from sc2.1 0 (by omega), sc2.1 1 (by omega), sc2.1 2 (by omega), sc2.1 3 (by omega), sc2.1 4 (by omega)]
          exact ⟨⟨b1, b2, b3, b4, b5⟩, ⟨d2, d3, d4⟩, fun r hr => by rw [w6 _ _ (by omega) (by omega), (sc2.2 r hr).1]; exact e1 r hr, fun r hr => by rw [w6 _ _ (by omega) (by omega), (sc2.2 r hr).2]; exact e2 r hr⟩
        · have kv := (sgk hok d82).1.2.2.2.2.2.2.2.2.1 rfl
          exact BC _ _ (u2' d83 d82) (bodyM_fr ((A1 (sT d82)).2 x hx) sc) kv.2.2.1 kv.2.2.2.1
      · have kv := (sgk hok d83).1.2.2.2.2.2.2.2.2.2.1 rfl
        exact BC _ _ (u1' d83) (m1 (sT d83)) kv.2.2.1 kv.2.2.2.1
    have SS : ∀ b k, rowsC W x l b k → rowsM wm x l b k → (W (9 + 6 * x) 0 = wm 6 (8 * x + 5) ∧ W (9 + 6 * x) 1 = wm 6 (8 * x + 6)) ∧ ∀ k, k < 97 → W (10 + 6 * x) k = wm 9 (97 * x + k) ∧ 0 ≤ W (10 + 6 * x) k ∧ W (10 + 6 * x) k ≤ 65535 := by
      intro b k h1 h2
      rw [h1.1, h1.2.1, h2.1, h2.2.1]
      refine ⟨⟨rfl, rfl⟩, fun i hi => ?_⟩
      have := rv_le hb b k i
      rw [h1.2.2 i hi, h2.2.2 i hi]
      refine ⟨rfl, ?_, ?_⟩
      · rw [show (0 : Int32) = nI 0 from rfl, bn_le (by omega) (by omega)]; omega
      · rw [show (65535 : Int32) = nI 65535 from rfl, bn_le (by omega) (by omega)]; exact this
    have ST : (W (9 + 6 * x) 0 = wm 6 (8 * x + 5) ∧ W (9 + 6 * x) 1 = wm 6 (8 * x + 6)) ∧ ∀ k, k < 97 → W (10 + 6 * x) k = wm 9 (97 * x + k) ∧ 0 ≤ W (10 + 6 * x) k ∧ W (10 + 6 * x) k ≤ 65535 := by
      by_cases d93 : plf S (pr l 93 o x) = 0
      · have sc := m4 (sF d93)
        by_cases d92 : plf S (pr l 92 o 0) = 0
        · have sc2 := sameS_tr sc (B2 (sF d92) x hx)
          have w6 := v3 d93 d92
          rw [w6 _ _ (by omega) (by omega), w6 _ _ (by omega) (by omega), sc2.1, sc2.2.1]
          exact ⟨⟨s1, s2⟩, fun k hk => by rw [w6 _ _ (by omega) (by omega), sc2.2.2 k hk]; exact e3 k hk⟩
        · exact SS _ _ (v2 d93 d92) (rowsM_fr (B1 (sT d92) x hx) sc)
      · exact SS _ _ (v1 d93) (m3 (sT d93))
    have SH : W (5 + 6 * x) 4 = wm 6 (8 * x + 7) := by
      by_cases d94 : plf S (pr l 94 o x) = 0
      · rw [t2 d94, m6 (sF d94), C2 x hx]; exact a5
      · rw [t1 d94, m5 (sT d94)]
    refine ⟨⟨?_, ?_, ?_, ?_, SH⟩, C.1, ST.1, ⟨?_, C.2.1⟩, C.2.2.1, C.2.2.2, ST.2⟩
    · rw [k1 0 (by omega), fm _ _ (by omega), fr _ _ (by omega)]; exact a1
    · rw [k1 1 (by omega), fm _ _ (by omega), fr _ _ (by omega)]; exact a2
    · rw [k1 2 (by omega), fm _ _ (by omega), fr _ _ (by omega)]; exact a3
    · rw [k1 3 (by omega), fm _ _ (by omega), fr _ _ (by omega)]; exact a4
    · rw [k1 1 (by omega)]; exact d1
  · by_cases d : plf S (pr l 95 o 0) = 0
    · obtain ⟨k, hk⟩ := hh
      obtain ⟨e1, e2⟩ := x3.2 d
      obtain ⟨f1, f2⟩ := E2 (sF d)
      exact ⟨k, rch_fr hk e1 e2 (by rw [f1, fr _ _ (by omega)]) (fun j => by rw [f2, fr _ _ (by omega)])⟩
    · have kv := (sgk hok d).1.2.2.2.2.2.2.2.2.2.2.2.2.2.1 rfl
      have kv2 : u2 l (plf S (pr l 95 o 0) + 2) ≤ 226 := kv.2
      obtain ⟨p1, p2⟩ := x3.1 d
      obtain ⟨q1, q2⟩ := E1 (sT d)
      exact ⟨_, p1, q1, by omega, fun i hi => by rw [p2 i hi, q2 i hi]⟩
  · rw [fm _ _ (by omega), fr _ _ (by omega)]
  · rw [fm _ _ (by omega), fr _ _ (by omega)]
