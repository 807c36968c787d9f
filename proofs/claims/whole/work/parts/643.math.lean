/-! mathematics of both state tables, part 43; from wip/math -/
theorem lv50 {F : Nat} {Z : zd} {l : List Nat} (hz : Z.1.1 = l) (hb : byt l) {c b q n0 : Nat} (hb2 : b < 65536) (hq : q < 65536) (hk0 : u1 l b % 32 = 0 → q = n0) (hk1 : u1 l b % 32 ≠ 0 → q = n0 / 2 ∧ b + 1 + n0 ≤ l.length) (n : Nat) : ∀ (w : wd) (k : Nat), w (9 + 6 * c) 0 = nI (u1 l b % 32) → k ≤ q → q - k < n → ∃ w1, fn_Ld_loadValues_50 F Z n w c (nI b) (nI q) (nI k) = some w1 ∧ ∀ a j, w1 a j = if a = 10 + 6 * c ∧ k ≤ j ∧ j < q ∧ j < 97 then nI (rv l b n0 j) else w a j := by
  have hl := hb.1
  induction n with
  | zero => intro w k _ _ h; omega
  | succ n ih =>
    intro w k hw h1 h2
    rw [fn_Ld_loadValues_50]
    simp only [bn_le (show q < 2147483648 by omega) (show k < 2147483648 by omega)]
    by_cases d : q ≤ k
    · rw [if_pos d]
      exact ⟨w, rfl, fun a j => by rw [if_neg (by omega)]⟩
    · rw [if_neg d, hw]
      have key : (if nI (u1 l b % 32) = 0 then fn_Ld_loadValues_99 (fn_Ld_loadValues_50 F Z n) F Z w c (nI b) (nI q) (nI k) ((nI (rw_u1 Z.1.1 ((nI b + (1 : Int32)) + nI k).toInt)) * (256 : Int32)) else fn_Ld_loadValues_99 (fn_Ld_loadValues_50 F Z n) F Z w c (nI b) (nI q) (nI k) (nI (rw_u2 Z.1.1 ((nI b + (1 : Int32)) + ((2 : Int32) * nI k)).toInt))) = fn_Ld_loadValues_50 F Z n (fn_St_setValue w c (nI k) (nI (rv l b n0 k))) c (nI b) (nI q) (nI (k + 1)) := by
        have e0 : (nI (u1 l b % 32) = 0) = (u1 l b % 32 = 0) := propext (bn_eq (b := 0) (by omega) (by omega))
        simp only [e0]
        unfold fn_Ld_loadValues_99 rv
        by_cases z : u1 l b % 32 = 0
        · rw [if_pos z, if_pos z, if_pos (by have := hk0 z; omega), (bn_a b).1, bn_add, hz, ru1 _ _ (by omega), show (256 : Int32) = nI 256 from rfl, bn_mul, Nat.mul_comm, (bn_a k).1]
        · have := hk1 z
          rw [if_neg z, if_neg z, if_pos (by omega), (bn_a b).1, show (2 : Int32) = nI 2 from rfl, bn_mul, bn_add, hz, ru2 hl (by omega), (bn_a k).1]
      rw [key]
      have sv : ∀ a j, (fn_St_setValue w c (nI k) (nI (rv l b n0 k))) a j = if a = 10 + 6 * c ∧ j = k ∧ k < 97 then nI (rv l b n0 k) else w a j := by
        intro a j
        unfold fn_St_setValue
        simp only [show (0 : Int32) = nI 0 from rfl, show (97 : Int32) = nI 97 from rfl]
        rw [if_neg (by rw [bn_lt (by omega) (by omega)]; omega)]
        by_cases e : 97 ≤ k
        · rw [if_pos (by rw [bn_le (by omega) (by omega)]; exact e), if_neg (by omega)]
        · rw [if_neg (by rw [bn_le (by omega) (by omega)]; exact e), bn_nn _ (by omega)]
          unfold up2
          by_cases e2 : a = 10 + 6 * c ∧ j = k
          · rw [if_pos e2, if_pos (by omega)]
          · rw [if_neg e2, if_neg (by omega)]
      obtain ⟨w1, x1, x2⟩ := ih (fn_St_setValue w c (nI k) (nI (rv l b n0 k))) (k + 1) (by rw [sv, if_neg (by omega)]; exact hw) (by omega) (by omega)
      refine ⟨w1, x1, fun a j => ?_⟩
      rw [x2, sv]
      by_cases d1 : a = 10 + 6 * c ∧ k ≤ j ∧ j < q ∧ j < 97
      · rw [if_pos d1]
        by_cases e : j = k
        · subst e
          rw [if_neg (by omega), if_pos (by omega)]
        · rw [if_pos (by omega)]
      · rw [if_neg d1, if_neg (by omega), if_neg (by omega)]
theorem loadValues {F : Nat} (hF : 70000 ≤ F) {Z : zd} {l : List Nat} (hz : Z.1.1 = l) (hb : byt l) (w : wd) {c b n0 : Nat} (hb2 : b + 1 + n0 ≤ l.length) (hn : n0 < 65536) : ∃ w1, fn_Ld_loadValues F Z w c (nI b) (nI n0) = some w1 ∧ rowsC w1 c l b n0 ∧ ∀ a j, ¬ (9 + 6 * c ≤ a ∧ a ≤ 10 + 6 * c) → w1 a j = w a j := by
  have hl := hb.1
  have u := u1_lt hb b
  unfold fn_Ld_loadValues fn_Ld_loadValues_45
  rw [hz, ru1 _ _ (by omega), an31 (by omega), show (5 : Int32) = nI 5 from rfl, bn_shr (by omega) (by omega)]
  generalize hw0 : fn_St_resetValues (up2 (up2 w (9 + 6 * c) 0 (nI (u1 l b % 32))) (9 + 6 * c) 1 (nI (u1 l b / 2 ^ 5))) c = w0
  have F0 : ∀ a j, ¬ (9 + 6 * c ≤ a ∧ a ≤ 10 + 6 * c) → w0 a j = w a j := fun a j q => by
    rw [← hw0]; unfold fn_St_resetValues
    simp (disch := omega) only [f2n, u2n]
  have F9 : w0 (9 + 6 * c) 0 = nI (u1 l b % 32) ∧ w0 (9 + 6 * c) 1 = nI (u1 l b / 32) := by
    rw [← hw0]; unfold fn_St_resetValues
    simp (disch := omega) only [f2n, u2n, u2e]
    exact ⟨trivial, trivial⟩
  have F10 : ∀ k, k < 97 → w0 (10 + 6 * c) k = nI 0 := fun k hk => by
    rw [← hw0]; unfold fn_St_resetValues
    rw [f2e rfl hk]; rfl
  clear hw0
  rw [F9.1]
  have e0 : (nI (u1 l b % 32) = 0) = (u1 l b % 32 = 0) := propext (bn_eq (b := 0) (by omega) (by omega))
  simp only [e0]
  have fin : ∀ q, q ≤ n0 → (u1 l b % 32 = 0 → q = n0) → (u1 l b % 32 ≠ 0 → q = n0 / 2) → ∃ w1, fn_Ld_loadValues_50 F Z F w0 c (nI b) (nI q) 0 = some w1 ∧ rowsC w1 c l b n0 ∧ ∀ a j, ¬ (9 + 6 * c ≤ a ∧ a ≤ 10 + 6 * c) → w1 a j = w a j := by
    intro q hq q0 q1
    obtain ⟨w1, x1, x2⟩ := lv50 (F := F) (c := c) (b := b) (q := q) (n0 := n0) hz hb (by omega) (by omega) q0 (fun h => ⟨q1 h, hb2⟩) F w0 0 F9.1 (by omega) (by omega)
    refine ⟨w1, x1, ⟨?_, ?_, fun k hk => ?_⟩, fun a j qq => ?_⟩
    · rw [x2, if_neg (by omega)]; exact F9.1
    · rw [x2, if_neg (by omega)]; exact F9.2
    · rw [x2]
      by_cases d : k < q
      · rw [if_pos (by omega)]
      · rw [if_neg (by omega), F10 k hk]
        unfold rv
        by_cases z : u1 l b % 32 = 0
        · rw [if_pos z, if_neg (by have := q0 z; omega)]
        · rw [if_neg z, if_neg (by have := q1 z; omega)]
    · rw [x2, if_neg (by omega)]; exact F0 a j qq
  by_cases z : u1 l b % 32 = 0
  · rw [if_pos z]
    exact fin n0 (by omega) (fun _ => rfl) (fun h => absurd z h)
  · rw [if_neg z, show (2 : Int32) = nI 2 from rfl, bn_div (by omega) (by omega)]
    exact fin (n0 / 2) (by omega) (fun h => absurd h z) (fun _ => rfl)
theorem tr45 {F : Nat} {l : List Nat} {c b n0 : Nat} (hc : c < 16) (hb2 : b + 1 + n0 ≤ l.length) (hn : n0 < 65536) (n : Nat) : ∀ (w' : wd) (k : Nat), str w' l → k ≤ 97 → 97 - k < n → ∃ w1', fn_Md_takeRows_45 F n w' (nI c) (nI b) (nI n0) (nI (u1 l b % 32)) (nI k) = some w1' ∧ ∀ a j, w1' a j = if a = 9 ∧ 97 * c + k ≤ j ∧ j < 97 * c + 97 then nI (rv l b n0 (j - 97 * c)) else w' a j := by
  induction n with
  | zero => intro w' k _ _ h; omega
  | succ n ih =>
    intro w' k hs h1 h2
    have hl := hs.1.1
    have u := u1_lt hs.1 b
    rw [fn_Md_takeRows_45]
    simp only [show (97 : Int32) = nI 97 from rfl, bn_le (show 97 < 2147483648 by omega) (show k < 2147483648 by omega)]
    by_cases d : 97 ≤ k
    · rw [if_pos d]
      exact ⟨w', rfl, fun a j => by rw [if_neg (by omega)]⟩
    · have R := i97 hc (show k < 97 by omega)
      have e0 : (nI (u1 l b % 32) = 0) = (u1 l b % 32 = 0) := propext (bn_eq (b := 0) (by omega) (by omega))
      have h86 : ∀ s : Bool, fn_Md_takeRows_86 (fn_Md_takeRows_45 F n) F w' (nI c) (nI b) (nI n0) (nI (u1 l b % 32)) (nI k) s = (if s = true then (if u1 l b % 32 = 0 then ((fn_Md_u1 w' ((nI b + (1 : Int32)) + nI k)).bind fun r21 => fn_Md_takeRows_45 F n (up2 w' 9 (97 * c + k) ((256 : Int32) * r21)) (nI c) (nI b) (nI n0) (nI (u1 l b % 32)) (nI (k + 1))) else ((fn_Md_u2 w' ((nI b + (1 : Int32)) + ((2 : Int32) * nI k))).bind fun r16 => fn_Md_takeRows_45 F n (up2 w' 9 (97 * c + k) r16) (nI c) (nI b) (nI n0) (nI (u1 l b % 32)) (nI (k + 1)))) else fn_Md_takeRows_45 F n (up2 w' 9 (97 * c + k) (nI 0)) (nI c) (nI b) (nI n0) (nI (u1 l b % 32)) (nI (k + 1))) := by
        intro s
        unfold fn_Md_takeRows_86 fn_Md_takeRows_142
        simp only [e0]
        rw [show (97 : Int32) = nI 97 from rfl, bn_mul, bn_add, (bn_a k).1, R.2]
        simp only [if_pos R.1]
        rfl
      have key : (if nI (u1 l b % 32) = 0 then (if nI n0 ≤ nI k then fn_Md_takeRows_86 (fn_Md_takeRows_45 F n) F w' (nI c) (nI b) (nI n0) (nI (u1 l b % 32)) (nI k) false else fn_Md_takeRows_86 (fn_Md_takeRows_45 F n) F w' (nI c) (nI b) (nI n0) (nI (u1 l b % 32)) (nI k) true) else (if nI n0 ≤ (((2 : Int32) * nI k) + (1 : Int32)) then fn_Md_takeRows_86 (fn_Md_takeRows_45 F n) F w' (nI c) (nI b) (nI n0) (nI (u1 l b % 32)) (nI k) false else fn_Md_takeRows_86 (fn_Md_takeRows_45 F n) F w' (nI c) (nI b) (nI n0) (nI (u1 l b % 32)) (nI k) true)) = fn_Md_takeRows_45 F n (up2 w' 9 (97 * c + k) (nI (rv l b n0 k))) (nI c) (nI b) (nI n0) (nI (u1 l b % 32)) (nI (k + 1)) := by
        simp only [h86, e0, Bool.false_eq_true, if_false, if_true]
        have e1 : (nI n0 ≤ nI k) = (n0 ≤ k) := propext (bn_le (by omega) (by omega))
        have e2 : (nI n0 ≤ 2 * nI k + 1) = (n0 ≤ 2 * k + 1) := by
          rw [show (2 : Int32) = nI 2 from rfl, bn_mul, (bn_a _).1]
          exact propext (bn_le (by omega) (by omega))
        simp only [e1, e2]
        unfold rv
        by_cases z : u1 l b % 32 = 0
        · rw [if_pos z, if_pos z, if_pos z]
          by_cases q : n0 ≤ k
          · rw [if_pos q, if_neg (by omega)]
          · rw [if_neg q, if_pos (by omega), (bn_a b).1, bn_add, md_u1 hs (by omega), Option.bind_some, show (256 : Int32) = nI 256 from rfl, bn_mul]
        · rw [if_neg z, if_neg z, if_neg z]
          by_cases q : n0 ≤ 2 * k + 1
          · rw [if_pos q, if_neg (by omega)]
          · rw [if_neg q, if_pos (by omega), (bn_a b).1, show (2 : Int32) = nI 2 from rfl, bn_mul, bn_add, md_u2 hs (by omega), Option.bind_some]
      rw [if_neg d, key]
      obtain ⟨w1, x1, x2⟩ := ih (up2 w' 9 (97 * c + k) (nI (rv l b n0 k))) (k + 1) ⟨hs.1, fun i hi => by rw [u2n (by omega)]; exact hs.2 i hi⟩ (by omega) (by omega)
      refine ⟨w1, x1, fun a j => ?_⟩
      rw [x2]
      by_cases d1 : a = 9 ∧ 97 * c + k ≤ j ∧ j < 97 * c + 97
      · rw [if_pos d1]
        by_cases e : j = 97 * c + k
        · subst e
          rw [if_neg (by omega), u2e d1.1 rfl, Nat.add_sub_cancel_left]
        · rw [if_pos (by omega)]
      · rw [if_neg d1, if_neg (by omega), u2n (by omega)]
theorem takeRows {F : Nat} (hF : 200 ≤ F) {w' : wd} {l : List Nat} (hs : str w' l) {c b n0 : Nat} (hc : c < 16) (hb2 : b + 1 + n0 ≤ l.length) (hn : n0 < 65536) : ∃ w1', fn_Md_takeRows F w' (nI c) (nI b) (nI n0) = some w1' ∧ rowsM w1' c l b n0 ∧ (∀ a j, ¬ (a = 6 ∧ (j = 8 * c + 5 ∨ j = 8 * c + 6)) → ¬ (a = 9 ∧ 97 * c ≤ j ∧ j < 97 * c + 97) → w1' a j = w' a j) := by
  have u := u1_lt hs.1 b
  have e8 : (8 : Int32) * nI c = nI (8 * c) := bn_mul 8 c
  have s1 : ∀ (v : wd) (j : Nat) (x : Int32), str v l → str (up2 v 6 j x) l := fun v j x h => ⟨h.1, fun i hi => by rw [u2n (by omega)]; exact h.2 i hi⟩
  have eT : fn_Md_takeRows F w' (nI c) (nI b) (nI n0) = fn_Md_takeRows_45 F F (up2 (up2 w' 6 (8 * c + 5) (nI (u1 l b % 32))) 6 (8 * c + 6) (nI (u1 l b / 32))) (nI c) (nI b) (nI n0) (nI (u1 l b % 32)) (nI 0) := by
    unfold fn_Md_takeRows
    rw [md_u1 hs (by omega), Option.bind_some, an31 (by omega), e8, (bn_a _).2.2.2.2.1, if_pos (i8 hc (by omega)).1, (i8 hc (by omega)).2, md_u1 (s1 _ _ _ hs) (by omega), Option.bind_some, (bn_a _).2.2.2.2.2.1, if_pos (i8 hc (by omega)).1, (i8 hc (by omega)).2, show (5 : Int32) = nI 5 from rfl, bn_shr (by omega) (by omega)]
    rfl
  rw [eT]
  obtain ⟨w1, x1, x2⟩ := tr45 (F := F) hc hb2 hn F _ 0 (s1 _ _ _ (s1 _ _ _ hs)) (by omega) (by omega)
  refine ⟨w1, x1, ⟨?_, ?_, fun k hk => ?_⟩, fun a j q1 q2 => ?_⟩
  · rw [x2, if_neg (by omega)]; simp (disch := omega) only [u2n, u2e]
  · rw [x2, if_neg (by omega)]; simp (disch := omega) only [u2e]
  · rw [x2, if_pos (by omega), Nat.add_sub_cancel_left]
  · rw [x2, if_neg (by omega)]; simp (disch := omega) only [u2n]
