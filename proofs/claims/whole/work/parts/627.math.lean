/-! mathematics of both state tables, part 27; from wip/math -/
def cmk (m : Nat) : Prop := m = 83 ∨ m = 93 ∨ m = 94
def kmk (m : Nat) : Prop := m = 82 ∨ m = 92 ∨ m = 95 ∨ m = 83 ∨ m = 93 ∨ m = 94
def ix (m c : Nat) : Nat := if m = 82 then 0 else if m = 92 then 1 else if m = 95 then 2 else if m = 83 then 3 + c else if m = 93 then 19 + c else 35 + c
def pr (l : List Nat) (m o c : Nat) (s : sg) : Bool := decide (s.1 = m ∧ s.2.2.2 = o ∧ ((m = 83 ∨ m = 93 ∨ m = 94) → u1 l (s.2.1 + 4) = c))
def plf (S : List sg) (f : sg → Bool) : Nat := match S.find? f with
  | some s => s.2.1
  | none => 0
def plcs (w : wd) (l : List Nat) (S : List sg) (o : Nat) : Prop := ∀ m c, c < 16 → kmk m → w 109 (51 * o + ix m c) = nI (plf S (pr l m o c))
theorem plf_0 {S : List sg} {f : sg → Bool} (h : ∀ s ∈ S, 1 ≤ s.2.1) : plf S f = 0 ↔ S.any f = false := by
  unfold plf
  cases e : S.find? f with
  | none =>
    simp
    rw [List.find?_eq_none] at e
    intro a b c d hs
    simpa using e _ hs
  | some s =>
    have h1 := List.mem_of_find?_eq_some e
    have h2 := List.find?_some e
    have := h s h1
    simp
    constructor
    · omega
    · intro hh
      have := hh _ _ _ _ h1
      exact absurd h2 (by simp [this])
theorem plf_app {S : List sg} {f : sg → Bool} {s : sg} (h : ∀ s ∈ S, 1 ≤ s.2.1) : plf (S ++ [s]) f = if plf S f = 0 then (if f s = true then s.2.1 else 0) else plf S f := by
  unfold plf
  rw [List.find?_append]
  cases e : S.find? f with
  | none =>
    simp [List.find?_cons]
    cases f s <;> simp
  | some t =>
    have := h t (List.mem_of_find?_eq_some e)
    simp
    omega
theorem plf_le {S : List sg} {f : sg → Bool} {n : Nat} (h : ∀ s ∈ S, s.2.1 ≤ n) : plf S f ≤ n := by
  unfold plf
  cases e : S.find? f with
  | none => simp
  | some s => exact h s (List.mem_of_find?_eq_some e)
theorem ixof {o m c : Nat} (ho : o ≤ 64) (hm : m < 256) (hc : c < 16) : fn_Ps_indexOf (nI o) (nI m) (nI c) = if m = 82 ∨ m = 92 ∨ m = 95 ∨ m = 83 ∨ m = 93 ∨ m = 94 then nI (51 * o + ix m c) else -1 := by
  unfold fn_Ps_indexOf ix
  have e51 : nI o * 51 = nI (51 * o) := by rw [show (51 : Int32) = nI 51 from rfl, bn_mul, Nat.mul_comm]
  have e16 : nI (51 * o) + 3 + 16 + nI c = nI (51 * o + (19 + c)) := by simp only [bn_a]; rw [show (16 : Int32) = nI 16 from rfl, bn_add, bn_add]; congr 1; omega
  have e32 : nI (51 * o) + 3 + 32 + nI c = nI (51 * o + (35 + c)) := by simp only [bn_a]; rw [show (32 : Int32) = nI 32 from rfl, bn_add, bn_add]; congr 1; omega
  have e3 : nI (51 * o) + 3 + nI c = nI (51 * o + (3 + c)) := by simp only [bn_a]; rw [bn_add]; congr 1; omega
  rw [e51, e16, e32, e3]
  simp only [bn_a]
  rw [if_neg (by rw [show (0 : Int32) = nI 0 from rfl, bn_lt (by omega) (by omega)]; omega), if_neg (by rw [show (64 : Int32) = nI 64 from rfl, bn_lt (by omega) (by omega)]; omega), if_neg (by rw [show (0 : Int32) = nI 0 from rfl, bn_lt (by omega) (by omega)]; omega), if_pos (by rw [show (16 : Int32) = nI 16 from rfl, bn_lt (by omega) (by omega)]; omega)]
  have E : ∀ k : Nat, k < 256 → (nI m = nI k) = (m = k) := fun k hk => propext (bn_eq (by omega) (by omega))
  simp only [show (82 : Int32) = nI 82 from rfl, show (83 : Int32) = nI 83 from rfl, show (84 : Int32) = nI 84 from rfl, show (85 : Int32) = nI 85 from rfl, show (86 : Int32) = nI 86 from rfl, show (87 : Int32) = nI 87 from rfl, show (88 : Int32) = nI 88 from rfl, show (89 : Int32) = nI 89 from rfl, show (90 : Int32) = nI 90 from rfl, show (91 : Int32) = nI 91 from rfl, show (92 : Int32) = nI 92 from rfl, show (93 : Int32) = nI 93 from rfl, show (94 : Int32) = nI 94 from rfl, show (95 : Int32) = nI 95 from rfl]
  simp only [E 82 (by omega), E 83 (by omega), E 84 (by omega), E 85 (by omega), E 86 (by omega), E 87 (by omega), E 88 (by omega), E 89 (by omega), E 90 (by omega), E 91 (by omega), E 92 (by omega), E 93 (by omega), E 94 (by omega), E 95 (by omega)]
  by_cases k1 : m = 82
  · simp [k1]
  by_cases k2 : m = 83
  · simp [k2]
  by_cases k3 : m = 92
  · simp [k3]
  by_cases k4 : m = 93
  · simp [k4]
  by_cases k5 : m = 94
  · simp [k5]
  by_cases k6 : m = 95
  · simp [k6]
  simp [k1, k2, k3, k4, k5, k6]
theorem ix_lt {m c : Nat} (hc : c < 16) : ix m c < 51 := by unfold ix; grind
theorem ix_inj {m m' c c' : Nat} (hc : c < 16) (hc' : c' < 16) (hm : kmk m) (hm' : kmk m') (h : ix m c = ix m' c') : m = m' ∧ ((m = 83 ∨ m = 93 ∨ m = 94) → c = c') := by
  unfold ix kmk at *
  rcases hm with rfl | rfl | rfl | rfl | rfl | rfl <;> rcases hm' with rfl | rfl | rfl | rfl | rfl | rfl <;> simp at h ⊢ <;> omega
theorem stOf {w : wd} {o m c : Nat} (ho : o ≤ 64) (hm : m < 256) (hc : c < 16) : fn_Ps_startOf w (nI o) (nI m) (nI c) = if m = 82 ∨ m = 92 ∨ m = 95 ∨ m = 83 ∨ m = 93 ∨ m = 94 then w 109 (51 * o + ix m c) else 0 := by
  have hx := ix_lt (m := m) hc
  unfold fn_Ps_startOf
  rw [ixof ho hm hc]
  by_cases k : m = 82 ∨ m = 92 ∨ m = 95 ∨ m = 83 ∨ m = 93 ∨ m = 94
  · rw [if_pos k, if_pos k, if_neg (by rw [show (0 : Int32) = nI 0 from rfl, bn_lt (by omega) (by omega)]; omega), if_neg (by rw [show (3315 : Int32) = nI 3315 from rfl, bn_le (by omega) (by omega)]; omega), bn_nn _ (by omega)]
  · rw [if_neg k, if_neg k, if_pos (by decide)]
theorem kpOf {w : wd} {o m c : Nat} (v : Int32) (ho : o ≤ 64) (hm : m < 256) (hc : c < 16) : fn_Ps_keep w (nI o) (nI m) (nI c) v = if m = 82 ∨ m = 92 ∨ m = 95 ∨ m = 83 ∨ m = 93 ∨ m = 94 then up2 w 109 (51 * o + ix m c) v else w := by
  have hx := ix_lt (m := m) hc
  unfold fn_Ps_keep
  rw [ixof ho hm hc]
  by_cases k : m = 82 ∨ m = 92 ∨ m = 95 ∨ m = 83 ∨ m = 93 ∨ m = 94
  · rw [if_pos k, if_pos k, if_neg (by rw [show (0 : Int32) = nI 0 from rfl, bn_lt (by omega) (by omega)]; omega), if_neg (by rw [show (3315 : Int32) = nI 3315 from rfl, bn_le (by omega) (by omega)]; omega), bn_nn _ (by omega)]
  · rw [if_neg k, if_neg k, if_pos (by decide)]
theorem plcs_kp {w : wd} {l : List Nat} {S : List sg} {o m c p n o' : Nat} (hS : ∀ s ∈ S, 1 ≤ s.2.1) (hp : plcs w l S o') (ho' : o' ≤ 64) (hc : c < 16) (hk : kmk m) (h0 : plf S (pr l m o c) = 0) (hcc : (m = 83 ∨ m = 93 ∨ m = 94) → u1 l (p + 4) = c) : plcs (up2 w 109 (51 * o + ix m c) (nI p)) l (S ++ [(m, p, n, o)]) o' := by
  intro m' c' hc' hk'
  have x1 := ix_lt (m := m) hc
  have x2 := ix_lt (m := m') hc'
  rw [plf_app hS]
  by_cases e : 51 * o' + ix m' c' = 51 * o + ix m c
  · have eo : o' = o := by omega
    subst eo
    have := ix_inj hc' hc hk' hk (by omega)
    obtain ⟨rfl, e2⟩ := this
    rw [u2e rfl e]
    have e3 : pr l m' o' c' = pr l m' o' c := by
      funext s
      unfold pr
      rw [decide_eq_decide]
      constructor
      · rintro ⟨a, b, d⟩
        exact ⟨a, b, fun x => by rw [d x]; exact e2 x⟩
      · rintro ⟨a, b, d⟩
        exact ⟨a, b, fun x => by rw [d x]; exact (e2 x).symm⟩
    rw [e3, if_pos h0, if_pos]
    unfold pr
    rw [decide_eq_true_eq]
    exact ⟨rfl, rfl, hcc⟩
  · rw [u2n (by omega), hp m' c' hc' hk']
    by_cases z : plf S (pr l m' o' c') = 0
    · rw [if_pos z, z, if_neg]
      unfold pr
      rw [decide_eq_true_eq]
      rintro ⟨a, b, d⟩
      have a : m = m' := a
      have b : o = o' := b
      subst a b
      by_cases cm : m = 83 ∨ m = 93 ∨ m = 94
      · apply e
        have : u1 l (p + 4) = c' := d cm
        rw [← this, hcc cm]
      · apply e
        have : ix m c' = ix m c := by
          unfold ix
          unfold kmk at hk
          grind
        rw [this]
    · rw [if_neg z]
theorem plcs_no {w : wd} {l : List Nat} {S : List sg} {m p n o o' : Nat} (hS : ∀ s ∈ S, 1 ≤ s.2.1) (hp : plcs w l S o') (hk : ¬ kmk m) : plcs w l (S ++ [(m, p, n, o)]) o' := by
  intro m' c' hc' hk'
  rw [plf_app hS, hp m' c' hc' hk']
  by_cases z : plf S (pr l m' o' c') = 0
  · rw [if_pos z, z, if_neg]
    unfold pr
    simp
    intro a
    subst a
    exact absurd hk' hk
  · rw [if_neg z]
