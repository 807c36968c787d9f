/-! mathematics of both state tables, part 45; from wip/math -/
theorem sgk {l : List Nat} {S : List sg} {cn m o c : Nat} (hok : ∀ s ∈ S, segok l cn s) (h : plf S (pr l m o c) ≠ 0) : segok l cn (m, plf S (pr l m o c), u2 l (plf S (pr l m o c) + 2), o) ∧ ((m = 83 ∨ m = 93 ∨ m = 94) → u1 l (plf S (pr l m o c) + 4) = c) := by
  unfold plf at *
  cases e : S.find? (pr l m o c) with
  | none => rw [e] at h; exact absurd rfl h
  | some s =>
    have h1 := List.mem_of_find?_eq_some e
    have h2 := List.find?_some e
    have h3 := hok s h1
    unfold pr at h2
    obtain ⟨a, b, d⟩ := of_decide_eq_true h2
    have hl : s.2.2.1 = u2 l (s.2.1 + 2) := h3.2.2.2.2.1
    simp only
    refine ⟨?_, d⟩
    obtain ⟨s1, s2, s3, s4⟩ := s
    have a : s1 = m := a
    have b : s4 = o := b
    have hl : s3 = u2 l (s2 + 2) := hl
    subst a b hl
    exact h3
def compC (W w : wd) (l : List Nat) (S : List sg) (o x : Nat) : Prop :=
  ((plf S (pr l 83 o x) ≠ 0 → bodyC W x l (plf S (pr l 83 o x) + 6) (decide (u1 l (plf S (pr l 83 o x) + 5) % 2 = 1))) ∧ (plf S (pr l 83 o x) = 0 → plf S (pr l 82 o 0) ≠ 0 → bodyC W x l (plf S (pr l 82 o 0) + 9) (decide (u1 l (plf S (pr l 82 o 0) + 4) % 2 = 1))) ∧ (plf S (pr l 83 o x) = 0 → plf S (pr l 82 o 0) = 0 → ∀ a j, 6 + 6 * x ≤ a → a ≤ 8 + 6 * x → W a j = w a j)) ∧
  ((plf S (pr l 93 o x) ≠ 0 → rowsC W x l (plf S (pr l 93 o x) + 5) (u2 l (plf S (pr l 93 o x) + 2) - 4)) ∧ (plf S (pr l 93 o x) = 0 → plf S (pr l 92 o 0) ≠ 0 → rowsC W x l (plf S (pr l 92 o 0) + 4) (u2 l (plf S (pr l 92 o 0) + 2) - 3)) ∧ (plf S (pr l 93 o x) = 0 → plf S (pr l 92 o 0) = 0 → ∀ a j, 9 + 6 * x ≤ a → a ≤ 10 + 6 * x → W a j = w a j)) ∧
  ((plf S (pr l 94 o x) ≠ 0 → W (5 + 6 * x) 4 = nI (u1 l (plf S (pr l 94 o x) + 6))) ∧ (plf S (pr l 94 o x) = 0 → W (5 + 6 * x) 4 = w (5 + 6 * x) 4)) ∧ ∀ j, j ≠ 4 → W (5 + 6 * x) j = w (5 + 6 * x) j
def chgW (W w : wd) (l : List Nat) (S : List sg) (o : Nat) : Prop := (plf S (pr l 95 o 0) ≠ 0 → chgC W l (plf S (pr l 95 o 0)) ((u2 l (plf S (pr l 95 o 0) + 2) - 2) / 7)) ∧ (plf S (pr l 95 o 0) = 0 → W 1 9 = w 1 9 ∧ ∀ j, W 4 j = w 4 j)
set_option maxHeartbeats 2000000 in
theorem ldComp {F : Nat} (hF : 70000 ≤ F) {Z : zd} {l : List Nat} (hz : Z.1.1 = l) (hb : byt l) {S : List sg} {cn o x : Nat} (hok : ∀ s ∈ S, segok l cn s) (ho : o ≤ 64) (hx : x < 16) (w : wd) (hp : plcs w l S o) : ∃ w1 w2 w3, fn_Ld_loadCoding F Z w x (nI (plf S (pr l 82 o 0))) (fn_Ps_startOf w (nI o) 83 (nI x)) = some w1 ∧ fn_Ld_loadSteps F Z w1 x (fn_Ps_startOf w1 (nI o) 92 0) (fn_Ps_startOf w1 (nI o) 93 (nI x)) = some w2 ∧ fn_Ld_loadShift Z w2 x (fn_Ps_startOf w2 (nI o) 94 (nI x)) = w3 ∧ compC w3 w l S o x ∧ ∀ a j, ¬ (5 + 6 * x ≤ a ∧ a < 11 + 6 * x) → w3 a j = w a j := by
  have hl := hb.1
  have hle : ∀ m c, plf S (pr l m o c) ≤ 65536 := fun m c => plf_le (fun s hs => by have := (hok s hs).2.1; omega)
  have z0 : ∀ m c, (nI (plf S (pr l m o c)) = 0) = (plf S (pr l m o c) = 0) := fun m c => propext (bn_eq (b := 0) (by have := hle m c; omega) (by omega))
  have SO : ∀ (v : wd), plcs v l S o → ∀ m c, m < 256 → c < 16 → kmk m → fn_Ps_startOf v (nI o) (nI m) (nI c) = nI (plf S (pr l m o c)) := fun v hv m c hm hc hk => by
    rw [stOf ho hm hc, if_pos (show m = 82 ∨ m = 92 ∨ m = 95 ∨ m = 83 ∨ m = 93 ∨ m = 94 from hk)]; exact hv m c hc hk
  have pf : ∀ v : wd, (∀ j, v 109 j = w 109 j) → plcs v l S o := fun v hv m c hc hk => by rw [hv]; exact hp m c hc hk
  have C : ∃ w1, fn_Ld_loadCoding F Z w x (nI (plf S (pr l 82 o 0))) (nI (plf S (pr l 83 o x))) = some w1 ∧ (plf S (pr l 83 o x) ≠ 0 → bodyC w1 x l (plf S (pr l 83 o x) + 6) (decide (u1 l (plf S (pr l 83 o x) + 5) % 2 = 1))) ∧ (plf S (pr l 83 o x) = 0 → plf S (pr l 82 o 0) ≠ 0 → bodyC w1 x l (plf S (pr l 82 o 0) + 9) (decide (u1 l (plf S (pr l 82 o 0) + 4) % 2 = 1))) ∧ (plf S (pr l 83 o x) = 0 → plf S (pr l 82 o 0) = 0 → w1 = w) ∧ ∀ a j, ¬ (6 + 6 * x ≤ a ∧ a ≤ 8 + 6 * x) → w1 a j = w a j := by
    unfold fn_Ld_loadCoding
    simp only [z0]
    by_cases d1 : plf S (pr l 83 o x) = 0
    · rw [if_pos d1]
      by_cases d2 : plf S (pr l 82 o 0) = 0
      · rw [if_pos d2]
        exact ⟨w, rfl, fun h => absurd d1 h, fun _ h => absurd d2 h, fun _ _ => rfl, fun _ _ _ => rfl⟩
      · obtain ⟨k1, _⟩ := sgk hok d2
        have kv := k1.2.2.2.2.2.2.2.2.1 rfl
        have hle := hle 82 0
        generalize plf S (pr l 82 o 0) = P at *
        have k3 : P + 2 + u2 l (P + 2) ≤ l.length := k1.2.2.1
        obtain ⟨v1, v2, v3, v4, v5⟩ := kv
        have v1 : 12 ≤ u2 l (P + 2) := v1
        have v3 : u1 l (P + 9) ≤ 32 := v3
        have v4 : u1 l (P + 13) ≤ 1 := v4
        have u := u1_lt hb (P + 4)
        obtain ⟨w1, x1, x2, x3⟩ := loadBody (show 200 ≤ F by omega) hz hb w (c := x) (b := P + 9) (fl := u1 l (P + 4)) (by omega) u v3 v4
        rw [if_neg d2, show nI P + 9 = nI (P + 9) from bn_add P 9, (bn_a P).2.2.2.1, hz, ru1 _ _ (by omega), x1, Option.bind_some]
        exact ⟨w1, rfl, fun h => absurd d1 h, fun _ _ => x2, fun _ h => absurd h d2, x3⟩
    · obtain ⟨k1, _⟩ := sgk hok d1
      have kv := k1.2.2.2.2.2.2.2.2.2.1 rfl
      have hle := hle 83 x
      generalize plf S (pr l 83 o x) = P at *
      have k3 : P + 2 + u2 l (P + 2) ≤ l.length := k1.2.2.1
      obtain ⟨v1, v2, v3, v4, v5⟩ := kv
      have v1 : 9 ≤ u2 l (P + 2) := v1
      have v3 : u1 l (P + 6) ≤ 32 := v3
      have v4 : u1 l (P + 10) ≤ 1 := v4
      have u := u1_lt hb (P + 5)
      obtain ⟨w1, x1, x2, x3⟩ := loadBody (show 200 ≤ F by omega) hz hb w (c := x) (b := P + 6) (fl := u1 l (P + 5)) (by omega) u v3 v4
      rw [if_neg d1, (bn_a P).2.2.2.2.2.1, (bn_a P).2.2.2.2.1, hz, ru1 _ _ (by omega), x1, Option.bind_some]
      exact ⟨w1, rfl, fun _ => x2, fun h => absurd h d1, fun h => absurd h d1, x3⟩
  obtain ⟨w1, c1, c2, c3, c4, c5⟩ := C
  have ST : ∃ w2, fn_Ld_loadSteps F Z w1 x (nI (plf S (pr l 92 o 0))) (nI (plf S (pr l 93 o x))) = some w2 ∧ (plf S (pr l 93 o x) ≠ 0 → rowsC w2 x l (plf S (pr l 93 o x) + 5) (u2 l (plf S (pr l 93 o x) + 2) - 4)) ∧ (plf S (pr l 93 o x) = 0 → plf S (pr l 92 o 0) ≠ 0 → rowsC w2 x l (plf S (pr l 92 o 0) + 4) (u2 l (plf S (pr l 92 o 0) + 2) - 3)) ∧ (plf S (pr l 93 o x) = 0 → plf S (pr l 92 o 0) = 0 → w2 = w1) ∧ ∀ a j, ¬ (9 + 6 * x ≤ a ∧ a ≤ 10 + 6 * x) → w2 a j = w1 a j := by
    unfold fn_Ld_loadSteps
    simp only [z0]
    by_cases d1 : plf S (pr l 93 o x) = 0
    · rw [if_pos d1]
      by_cases d2 : plf S (pr l 92 o 0) = 0
      · rw [if_pos d2]
        exact ⟨w1, rfl, fun h => absurd d1 h, fun _ h => absurd d2 h, fun _ _ => rfl, fun _ _ _ => rfl⟩
      · obtain ⟨k1, _⟩ := sgk hok d2
        have kv : 3 ≤ u2 l (plf S (pr l 92 o 0) + 2) := k1.2.2.2.2.2.2.2.2.2.2.1 rfl
        have hle := hle 92 0
        generalize plf S (pr l 92 o 0) = P at *
        have k3 : P + 2 + u2 l (P + 2) ≤ l.length := k1.2.2.1
        have u := u2_lt hb (P + 2)
        obtain ⟨w2, x1, x2, x3⟩ := loadValues hF hz hb w1 (c := x) (b := P + 4) (n0 := u2 l (P + 2) - 3) (by omega) (by omega)
        rw [if_neg d2, (bn_a P).2.2.2.1, (bn_a P).2.1, hz, ru2 hl (by omega), show (3 : Int32) = nI 3 from rfl, bn_sub kv, x1, Option.bind_some]
        exact ⟨w2, rfl, fun h => absurd d1 h, fun _ _ => x2, fun _ h => absurd h d2, x3⟩
    · obtain ⟨k1, _⟩ := sgk hok d1
      have kv : 4 ≤ u2 l (plf S (pr l 93 o x) + 2) := k1.2.2.2.2.2.2.2.2.2.2.2.1 rfl
      have hle := hle 93 x
      generalize plf S (pr l 93 o x) = P at *
      have k3 : P + 2 + u2 l (P + 2) ≤ l.length := k1.2.2.1
      have u := u2_lt hb (P + 2)
      obtain ⟨w2, x1, x2, x3⟩ := loadValues hF hz hb w1 (c := x) (b := P + 5) (n0 := u2 l (P + 2) - 4) (by omega) (by omega)
      rw [if_neg d1, (bn_a P).2.2.2.2.1, (bn_a P).2.1, hz, ru2 hl (by omega), show (4 : Int32) = nI 4 from rfl, bn_sub kv, x1, Option.bind_some]
      exact ⟨w2, rfl, fun _ => x2, fun h => absurd h d1, fun h => absurd h d1, x3⟩
  obtain ⟨w2, s1, s2, s3, s4, s5⟩ := ST
  have p1 := pf w1 (fun j => c5 _ _ (by omega))
  have p2 := pf w2 (fun j => by rw [s5 _ _ (by omega)]; exact c5 _ _ (by omega))
  have SH : ∀ a j, fn_Ld_loadShift Z w2 x (nI (plf S (pr l 94 o x))) a j = if plf S (pr l 94 o x) ≠ 0 ∧ a = 5 + 6 * x ∧ j = 4 then nI (u1 l (plf S (pr l 94 o x) + 6)) else w2 a j := by
    intro a j
    unfold fn_Ld_loadShift
    simp only [z0]
    by_cases d : plf S (pr l 94 o x) = 0
    · rw [if_pos d, if_neg (fun h => h.1 d)]
    · have hle := hle 94 x
      rw [if_neg d, (bn_a _).2.2.2.2.2.1, hz, ru1 _ _ (by omega)]
      unfold up2
      by_cases e : a = 5 + 6 * x ∧ j = 4
      · rw [if_pos e, if_pos ⟨d, e⟩]
      · rw [if_neg e, if_neg (fun h => e h.2)]
  refine ⟨w1, w2, _, ?_, ?_, rfl, ?_, fun a j q => ?_⟩
  · rw [show fn_Ps_startOf w (nI o) 83 (nI x) = _ from SO w hp 83 x (by omega) hx (by unfold kmk; omega)]; exact c1
  · rw [show fn_Ps_startOf w1 (nI o) 92 0 = _ from SO w1 p1 92 0 (by omega) (by omega) (by unfold kmk; omega), show fn_Ps_startOf w1 (nI o) 93 (nI x) = _ from SO w1 p1 93 x (by omega) hx (by unfold kmk; omega)]; exact s1
  · rw [show fn_Ps_startOf w2 (nI o) 94 (nI x) = _ from SO w2 p2 94 x (by omega) hx (by unfold kmk; omega)]
    generalize fn_Ld_loadShift Z w2 x (nI (plf S (pr l 94 o x))) = w3 at *
    have A : ∀ a j, ¬ (a = 5 + 6 * x ∧ j = 4) → w3 a j = w2 a j := fun a j q => by rw [SH, if_neg (fun h => q h.2)]
    have bodyT : ∀ b t, bodyC w1 x l b t → bodyC w3 x l b t := fun b t h => by
      obtain ⟨h1, h2, h3, h4, h5, h6⟩ := h
      have E : ∀ a j, 6 + 6 * x ≤ a → a ≤ 8 + 6 * x → w3 a j = w1 a j := fun a j q1 q2 => by rw [A _ _ (by omega), s5 _ _ (by omega)]
      exact ⟨by rw [E _ _ (by omega) (by omega)]; exact h1, by rw [E _ _ (by omega) (by omega)]; exact h2, by rw [E _ _ (by omega) (by omega)]; exact h3, by rw [E _ _ (by omega) (by omega)]; exact h4, by rw [E _ _ (by omega) (by omega)]; exact h5, fun r hr => by rw [E _ _ (by omega) (by omega), E _ _ (by omega) (by omega)]; exact h6 r hr⟩
    have rowsT : ∀ b n, rowsC w2 x l b n → rowsC w3 x l b n := fun b n h => by
      obtain ⟨h1, h2, h3⟩ := h
      exact ⟨by rw [A _ _ (by omega)]; exact h1, by rw [A _ _ (by omega)]; exact h2, fun k hk => by rw [A _ _ (by omega)]; exact h3 k hk⟩
    refine ⟨⟨fun h => bodyT _ _ (c2 h), fun h h' => bodyT _ _ (c3 h h'), fun h h' a j q1 q2 => ?_⟩, ⟨fun h => rowsT _ _ (s2 h), fun h h' => rowsT _ _ (s3 h h'), fun h h' a j q1 q2 => ?_⟩, ⟨fun h => by rw [SH, if_pos ⟨h, rfl, rfl⟩], fun h => ?_⟩, fun j hj => ?_⟩
    · rw [A _ _ (by omega), s5 _ _ (by omega), c4 h h']
    · rw [A _ _ (by omega), s4 h h', c5 _ _ (by omega)]
    · rw [SH, if_neg (fun q => q.1 h), s5 _ _ (by omega), c5 _ _ (by omega)]
    · rw [A _ _ (by omega), s5 _ _ (by omega), c5 _ _ (by omega)]
  · rw [show fn_Ps_startOf w2 (nI o) 94 (nI x) = _ from SO w2 p2 94 x (by omega) hx (by unfold kmk; omega), SH, if_neg (by omega), s5 _ _ (by omega), c5 _ _ (by omega)]
theorem compC_fr {W1 W w w0 : wd} {l : List Nat} {S : List sg} {o x : Nat} (h : compC W w l S o x) (h1 : ∀ a j, 5 + 6 * x ≤ a → a < 11 + 6 * x → W1 a j = W a j) (h2 : ∀ a j, 5 + 6 * x ≤ a → a < 11 + 6 * x → w a j = w0 a j) : compC W1 w0 l S o x := by
  obtain ⟨⟨a1, a2, a3⟩, ⟨b1, b2, b3⟩, ⟨c1, c2⟩, d1⟩ := h
  have bT : ∀ b t, bodyC W x l b t → bodyC W1 x l b t := fun b t h => by
    obtain ⟨h1', h2', h3, h4, h5, h6⟩ := h
    exact ⟨by rw [h1 _ _ (by omega) (by omega)]; exact h1', by rw [h1 _ _ (by omega) (by omega)]; exact h2', by rw [h1 _ _ (by omega) (by omega)]; exact h3, by rw [h1 _ _ (by omega) (by omega)]; exact h4, by rw [h1 _ _ (by omega) (by omega)]; exact h5, fun r hr => by rw [h1 _ _ (by omega) (by omega), h1 _ _ (by omega) (by omega)]; exact h6 r hr⟩
  have rT : ∀ b n, rowsC W x l b n → rowsC W1 x l b n := fun b n h => by
    obtain ⟨h1', h2', h3⟩ := h
    exact ⟨by rw [h1 _ _ (by omega) (by omega)]; exact h1', by rw [h1 _ _ (by omega) (by omega)]; exact h2', fun k hk => by rw [h1 _ _ (by omega) (by omega)]; exact h3 k hk⟩
  refine ⟨⟨fun h => bT _ _ (a1 h), fun h h' => bT _ _ (a2 h h'), fun h h' a j q1 q2 => ?_⟩, ⟨fun h => rT _ _ (b1 h), fun h h' => rT _ _ (b2 h h'), fun h h' a j q1 q2 => ?_⟩, ⟨fun h => ?_, fun h => ?_⟩, fun j hj => ?_⟩
  · rw [h1 _ _ (by omega) (by omega), a3 h h' a j q1 q2, h2 _ _ (by omega) (by omega)]
  · rw [h1 _ _ (by omega) (by omega), b3 h h' a j q1 q2, h2 _ _ (by omega) (by omega)]
  · rw [h1 _ _ (by omega) (by omega)]; exact c1 h
  · rw [h1 _ _ (by omega) (by omega), c2 h, h2 _ _ (by omega) (by omega)]
  · rw [h1 _ _ (by omega) (by omega), d1 j hj, h2 _ _ (by omega) (by omega)]
theorem lo25 {F : Nat} (hF : 70000 ≤ F) {Z : zd} {l : List Nat} (hz : Z.1.1 = l) (hb : byt l) {S : List sg} {cn o n : Nat} (hok : ∀ s ∈ S, segok l cn s) (ho : o ≤ 64) (hn : n ≤ 16) (g : Nat) : ∀ (w : wd) (c : Nat), plcs w l S o → w 1 2 = nI n → c ≤ n → n - c < g → ∃ W, fn_Ld_loadOwner_25 F Z g w (nI o) (nI (plf S (pr l 82 o 0))) (nI c) = some W ∧ (∀ x, c ≤ x → x < n → compC W w l S o x) ∧ chgW W w l S o ∧ ∀ a j, a ≠ 4 → ¬ (a = 1 ∧ j = 9) → ¬ (5 + 6 * c ≤ a ∧ a < 5 + 6 * n) → W a j = w a j := by
  have hl := hb.1
  induction g with
  | zero => intro w c _ _ _ h; omega
  | succ g ih =>
    intro w c hp h3 h1 h2
    rw [fn_Ld_loadOwner_25, h3]
    simp only [bn_le (show n < 2147483648 by omega) (show c < 2147483648 by omega)]
    by_cases k : n ≤ c
    · rw [if_pos k]
      have so : fn_Ps_startOf w (nI o) 95 0 = nI (plf S (pr l 95 o 0)) := by
        rw [show fn_Ps_startOf w (nI o) 95 0 = _ from stOf (m := 95) (c := 0) ho (by omega) (by omega), if_pos (by omega)]
        exact hp 95 0 (by omega) (by unfold kmk; omega)
      have hle : plf S (pr l 95 o 0) ≤ 65536 := plf_le (fun s hs => by have := (hok s hs).2.1; omega)
      have z0 : (nI (plf S (pr l 95 o 0)) = 0) = (plf S (pr l 95 o 0) = 0) := propext (bn_eq (b := 0) (by omega) (by omega))
      rw [so]
      unfold fn_Ld_loadChanges
      simp only [z0]
      by_cases d : plf S (pr l 95 o 0) = 0
      · rw [if_pos d, Option.bind_some]
        exact ⟨w, rfl, fun x q1 q2 => by omega, ⟨fun h => absurd d h, fun _ => ⟨rfl, fun _ => rfl⟩⟩, fun _ _ _ _ _ => rfl⟩
      · obtain ⟨k1, _⟩ := sgk hok d
        have kv := k1.2.2.2.2.2.2.2.2.2.2.2.2.2.1 rfl
        unfold chgW
        generalize plf S (pr l 95 o 0) = P at *
        have k3 : P + 2 + u2 l (P + 2) ≤ l.length := k1.2.2.1
        have v1 : 2 ≤ u2 l (P + 2) := kv.1
        have v2 : u2 l (P + 2) ≤ 226 := kv.2
        obtain ⟨w1, x1, x2, x3⟩ := lc31 (F := F) (p := P) (q := (u2 l (P + 2) - 2) / 7) hz hb (by omega) (by omega) F (up2 w 1 9 0) 0 ⟨u2e rfl rfl, fun i hi => by omega⟩ (by omega) (by omega)
        rw [if_neg d, (bn_a P).2.1, hz, ru2 hl (by omega), show (2 : Int32) = nI 2 from rfl, bn_sub v1, show (7 : Int32) = nI 7 from rfl, bn_div (by omega) (by omega), show fn_Ld_loadChanges_31 F Z F (up2 w 1 9 0) (nI P) (nI ((u2 l (P + 2) - 2) / 7)) 0 = some w1 from x1, Option.bind_some]
        exact ⟨w1, rfl, fun x q1 q2 => by omega, ⟨fun _ => x2, fun h => absurd h d⟩, fun a j q1 q2 q3 => by rw [x3 a j q2 q1, u2n (by omega)]⟩
    · obtain ⟨w1, w2, w3, y1, y2, y3, y4, y5⟩ := ldComp hF hz hb (x := c) hok ho (by omega) w hp
      rw [if_neg k, if_pos (in_n hn (by omega) rfl), bn_nn c (by omega), y1, Option.bind_some, y2, Option.bind_some]
      unfold fn_Ld_loadOwner_120
      rw [y3, (bn_a c).1]
      obtain ⟨W, z1, z2, z3, z4⟩ := ih w3 (c + 1) (fun m c' hc' hk' => by rw [y5 _ _ (by omega)]; exact hp m c' hc' hk') (by rw [y5 _ _ (by omega)]; exact h3) (by omega) (by omega)
      refine ⟨W, z1, fun x q1 q2 => ?_, ⟨z3.1, fun h => ?_⟩, fun a j q1 q2 q3 => ?_⟩
      · by_cases e : x = c
        · subst e
          exact compC_fr y4 (fun a j r1 r2 => z4 a j (by omega) (by omega) (by omega)) (fun _ _ _ _ => rfl)
        · exact compC_fr (z2 x (by omega) q2) (fun _ _ _ _ => rfl) (fun a j r1 r2 => y5 a j (by omega))
      · obtain ⟨e1, e2⟩ := z3.2 h
        exact ⟨by rw [e1, y5 _ _ (by omega)], fun j => by rw [e2, y5 _ _ (by omega)]⟩
      · rw [z4 a j q1 q2 (by omega), y5 a j (by omega)]
