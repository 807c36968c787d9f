/-! mathematics of both state tables, part 13; from wip/math -/
theorem bn_div {a b : Nat} (ha : a < 2147483648) (hb : b < 2147483648) : nI a / nI b = nI (a / b) := by
  have := Nat.lt_of_le_of_lt (Nat.div_le_self a b) ha
  rw [← Int32.toInt_inj, Int32.toInt_div, bn_i ha, bn_i hb, bn_i this]
  rw [← Int.ofNat_tdiv]
  generalize a / b = q at *
  simp only [Int.bmod]
  split <;> omega
theorem bn_shr8 {a : Nat} (ha : a < 2147483648) : nI a >>> ((8 : Int32) &&& 31) = nI (a / 256) := by
  rw [← Int32.toBitVec_inj]
  show (nI a).toBitVec.sshiftRight 8 = (nI (a / 256)).toBitVec
  have hm : (nI a).toBitVec = BitVec.ofNat 32 a := rfl
  have hm2 : (nI (a / 256)).toBitVec = BitVec.ofNat 32 (a / 256) := rfl
  rw [hm, hm2, BitVec.sshiftRight_eq_of_msb_false]
  · apply BitVec.eq_of_toNat_eq
    rw [BitVec.toNat_ushiftRight, BitVec.toNat_ofNat, BitVec.toNat_ofNat, Nat.shiftRight_eq_div_pow]
    omega
  · rw [BitVec.msb_eq_false_iff_two_mul_lt, BitVec.toNat_ofNat]
    omega
theorem cw_of {w w' : wd} {c : Nat} (hc : c < 16) (h : rc w w' c) : ∃ q, 1 ≤ q ∧ q ≤ 97 ∧ fn_St_countWritten w c (w (6 + 6 * c) 0) = nI q ∧ fn_Md_valuesOf w' (nI c) = some (nI q) := by
  obtain ⟨L, hL, hv, hv'⟩ := rc_lv h
  obtain ⟨_, _, ⟨c1, c2⟩, _⟩ := h
  unfold fn_St_countWritten fn_Md_valuesOf
  simp only [show (8 : Int32) = nI 8 from rfl, show (5 : Int32) = nI 5 from rfl, bn_mul, bn_add]
  rw [if_pos (i8 hc (by omega)).1, (i8 hc (by omega)).2, ← c1, if_pos (i80 hc).1, (i80 hc).2, hv, hv']
  by_cases hk : w (9 + 6 * c) 0 = 1
  · rw [if_pos hk, if_pos hk]
    exact ⟨1, by omega, by omega, rfl, rfl⟩
  · rw [if_neg hk, if_neg hk, show (3 : Int32) = nI 3 from rfl, show (1 : Int32) = nI 1 from rfl, bn_mul, bn_add]
    exact ⟨_, by omega, by omega, rfl, rfl⟩
theorem wv_of {w w' : wd} {c k : Nat} (hc : c < 16) (h : rc w w' c) (hk : k < 97) : fn_Md_valueOf w' (nI c) (nI k) = some (fn_St_written w c (nI k)) := by
  obtain ⟨_, _, ⟨c1, c2⟩, _, _, _, e3⟩ := h
  obtain ⟨f1, f2, f3⟩ := e3 k hk
  unfold fn_St_written fn_St_valueOf fn_Md_valueOf
  simp only [show (0 : Int32) = nI 0 from rfl, show (97 : Int32) = nI 97 from rfl]
  rw [if_neg (show ¬ nI k < nI 0 by rw [bn_lt (by omega) (by omega)]; omega), if_neg (show ¬ nI 97 ≤ nI k by rw [bn_le (by omega) (by omega)]; omega), bn_nn _ (by omega)]
  simp only [show (8 : Int32) = nI 8 from rfl, show (5 : Int32) = nI 5 from rfl, bn_mul, bn_add]
  rw [if_pos (i8 hc (by omega)).1, (i8 hc (by omega)).2, ← c1, if_pos (i97 hc hk).1, (i97 hc hk).2, if_pos (i97 hc hk).1, ← f1]
  by_cases hk : w (9 + 6 * c) 0 = nI 0
  · rw [if_pos hk, if_pos hk]
    rw [bi_le] at f2 f3
    obtain ⟨v, hv, ev⟩ := bn_ex f2
    have := bn_shr8 hv
    rw [ev, show (256 : Int32) = nI 256 from rfl, bn_div hv (by omega)]
    rw [show ((8 : Int32)) = nI 8 from rfl] at this
    rw [this]
  · rw [if_neg hk, if_neg hk]
theorem rows_34 {F : Nat} (hF : 200 ≤ F) {w : wd} {c : Nat} (hc : c < 16) {q : Nat} (hq : q ≤ 97) (hqw : fn_St_countWritten w c (w (6 + 6 * c) 0) = nI q) (m : Nat) : ∀ w' k cu, rc w w' c → w' 0 36 = nI cu → cu + 2 * (q - k) < 800000 → k ≤ q → q - k < m → ∃ bs w1, fn_Md_rows_34 F m w' (nI c) (nI k) = some w1 ∧ wrs w' w1 cu bs ∧ bs.length ≤ 2 * (q - k) ∧ fn_Wr_writeSteps_36 F m w c (nI q) (nI k) = some bs := by
  induction m with
  | zero => intro w' r cu _ _ _ _ h; omega
  | succ m ih =>
    intro w' k cu hrc hcu hcu2 hkq hm
    obtain ⟨q', q1, q2, q3, q4⟩ := cw_of hc hrc
    rw [hqw] at q3
    have : q' = q := by rw [bn_eq (by omega) (by omega)] at q3; exact q3.symm
    subst this
    rw [fn_Md_rows_34, fn_Wr_writeSteps_36, q4, Option.bind_some]
    simp only [bn_le (show q' < 2147483648 by omega) (show k < 2147483648 by omega)]
    by_cases hk : q' ≤ k
    · rw [if_pos hk, if_pos hk]
      exact ⟨[], w', rfl, wrs_nil hcu, by simp, rfl⟩
    · rw [if_neg hk, if_neg hk, wv_of hc hrc (by omega), Option.bind_some]
      unfold fn_Md_rows_69 fn_Wr_writeSteps_72
      simp only [show (8 : Int32) = nI 8 from rfl, show (5 : Int32) = nI 5 from rfl, bn_mul, bn_add]
      obtain ⟨_, _, ⟨c1, c2⟩, _⟩ := id hrc
      rw [if_pos (i8 hc (by omega)).1, (i8 hc (by omega)).2, ← c1]
      by_cases h0 : w (9 + 6 * c) 0 = 0
      · rw [if_pos h0, if_pos h0]
        obtain ⟨w1, a1, r1⟩ := md_add1 (show 100 ≤ F by omega) hcu (by omega) (fn_St_written w c (nI k))
        rw [a1, Option.bind_some, show (1 : Int32) = nI 1 from rfl, bn_add]
        obtain ⟨bs, w2, a2, r2, l2, t2⟩ := ih w1 (k + 1) _ (wrs_rc hc hrc r1) r1.1 (by simp; omega) (by omega) (by omega)
        rw [a2, t2]
        exact ⟨_, _, rfl, wrs_app r1 r2, by simp; omega, rfl⟩
      · rw [if_neg h0, if_neg h0]
        obtain ⟨w1, a1, r1⟩ := md_add2 (show 100 ≤ F by omega) hcu (by omega) (fn_St_written w c (nI k))
        rw [a1, Option.bind_some, show (1 : Int32) = nI 1 from rfl, bn_add]
        obtain ⟨bs, w2, a2, r2, l2, t2⟩ := ih w1 (k + 1) _ (wrs_rc hc hrc r1) r1.1 (by simp [rw_b2]; omega) (by omega) (by omega)
        rw [a2, t2]
        exact ⟨_, _, rfl, wrs_app r1 r2, by simp [rw_b2]; omega, rfl⟩
theorem rows {F : Nat} (hF : 200 ≤ F) {w w' : wd} {c : Nat} (hc : c < 16) (hrc : rc w w' c) {cu : Nat} (hcu : w' 0 36 = nI cu) (hcu2 : cu < 700000) : ∃ bs w1, fn_Wr_writeSteps F w c = some bs ∧ fn_Md_rows F w' (nI c) = some w1 ∧ wrs w' w1 cu bs ∧ bs.length ≤ 195 := by
  obtain ⟨q, q1, q2, q3, q4⟩ := cw_of hc hrc
  obtain ⟨_, _, ⟨c1, c2⟩, _⟩ := id hrc
  obtain ⟨w1, a1, r1⟩ := md_add1 (show 100 ≤ F by omega) hcu (by omega) (w (9 + 6 * c) 0 + 32 * w (9 + 6 * c) 1)
  obtain ⟨bs, w2, a2, r2, l2, t2⟩ := rows_34 hF hc q2 q3 F w1 0 _ (wrs_rc hc hrc r1) r1.1 (by simp; omega) (by omega) (by omega)
  refine ⟨_, _, ?_, ?_, wrs_app r1 r2, by simp; omega⟩
  · unfold fn_Wr_writeSteps
    rw [q3, show (0 : Int32) = nI 0 from rfl, t2]
    rfl
  · unfold fn_Md_rows
    simp only [show (8 : Int32) = nI 8 from rfl, show (5 : Int32) = nI 5 from rfl, show (6 : Int32) = nI 6 from rfl, bn_mul, bn_add]
    rw [if_pos (i8 hc (by omega)).1, (i8 hc (by omega)).2, ← c1, if_pos (i8 hc (by omega)).1, (i8 hc (by omega)).2, ← c2, a1, Option.bind_some, show (0 : Int32) = nI 0 from rfl, a2]
theorem rowsLength {w w' : wd} {c : Nat} (hc : c < 16) (hrc : rc w w' c) : fn_Md_rowsLength w' (nI c) = some (fn_Wr_stepBytes w c) := by
  obtain ⟨q, q1, q2, q3, q4⟩ := cw_of hc hrc
  obtain ⟨_, _, ⟨c1, c2⟩, _⟩ := id hrc
  unfold fn_Md_rowsLength fn_Wr_stepBytes
  rw [q3, q4, Option.bind_some]
  simp only [show (8 : Int32) = nI 8 from rfl, show (5 : Int32) = nI 5 from rfl, bn_mul, bn_add]
  rw [if_pos (i8 hc (by omega)).1, (i8 hc (by omega)).2, ← c1]
  simp only [show (1 : Int32) = nI 1 from rfl, show (2 : Int32) = nI 2 from rfl, bn_mul, bn_add]
  by_cases h0 : w (9 + 6 * c) 0 = 0
  · rw [if_pos h0, if_pos h0, Nat.mul_one, Nat.add_comm]
  · rw [if_neg h0, if_neg h0, Nat.mul_comm, Nat.add_comm]
theorem bodyLength {F : Nat} (hF : 200 ≤ F) {w w' : wd} {c : Nat} (hc : c < 16) (hrc : rc w w' c) : ∃ v, fn_Md_bodyLength F w' (nI c) = some v ∧ fn_Wr_bodyBytes F w c = some v := by
  obtain ⟨b, hb1, hb2⟩ := tells hF hc hrc
  obtain ⟨L, hL, hv, hv'⟩ := rc_lv hrc
  unfold fn_Md_bodyLength fn_Wr_bodyBytes
  rw [hb1, hb2, Option.bind_some, Option.bind_some]
  simp only [show (8 : Int32) = nI 8 from rfl, bn_mul]
  rw [if_pos (i80 hc).1, (i80 hc).2, hv, hv']
  cases b with
  | true => exact ⟨_, rfl, rfl⟩
  | false => exact ⟨_, rfl, rfl⟩
theorem oc_47f (F : Nat) {w' : wd} {c : Nat} (hc : c < 16) (n : Nat) (r : Nat) {L : Nat} (hL : L ≤ 32) (hv : w' 6 (8 * c) = nI L) : fn_Md_otherCoding_47 F (n + 1) w' (nI c) false (nI r) = some true := by
  rw [fn_Md_otherCoding_47]
  simp only [show (8 : Int32) = nI 8 from rfl, bn_mul]
  rw [if_pos (i80 hc).1, (i80 hc).2, hv]
  simp
theorem oc_47 (F : Nat) {w w' : wd} {c : Nat} (hc : c < 16) (h : rc w w' c) (h0 : rc w w' 0) {L : Nat} (hL : L ≤ 32) (hv : w (6 + 6 * c) 0 = nI L) (hv' : w' 6 (8 * c) = nI L) (n : Nat) : ∀ r, r ≤ L + 1 → L + 1 - r < n → ∃ b, fn_Cd_isLike_59 F n w c 0 (nI r) = some b ∧ fn_Md_otherCoding_47 F n w' (nI c) true (nI r) = some (!b) := by
  induction n with
  | zero => intro r _ h; omega
  | succ n ih =>
    intro r h1 h2
    rw [fn_Md_otherCoding_47, fn_Cd_isLike_59]
    simp only [show (8 : Int32) = nI 8 from rfl, show (33 : Int32) = nI 33 from rfl, bn_mul, bn_add]
    rw [if_pos (i80 hc).1, (i80 hc).2, hv, hv']
    simp only [bn_lt (show L < 2147483648 by omega) (show r < 2147483648 by omega)]
    by_cases hr : L < r
    · rw [if_pos hr, if_pos hr]
      exact ⟨_, rfl, rfl⟩
    · have hr33 : r < 33 := by omega
      have p0 := pw_of h0 hr33
      rw [Nat.mul_zero, Nat.zero_add] at p0
      rw [if_neg hr, if_neg hr, (pw_of h hr33).1, (pw_of h hr33).2, p0.1, p0.2]
      simp only [if_true]
      have R : 0 ≤ (nI r).toInt ∧ (nI r).toInt < 528 := by rw [bn_i (by omega)]; omega
      have R2 := bn_nn r (by omega)
      simp only [if_pos (i33 hc hr33).1, (i33 hc hr33).2, if_pos R, R2]
      unfold fn_Md_otherCoding_108 fn_Md_otherCoding_109
      rw [show (1 : Int32) = nI 1 from rfl, bn_add]
      obtain ⟨n', rfl⟩ : ∃ n', n = n' + 1 := ⟨n - 1, by omega⟩
      rw [oc_47f F hc n' (r + 1) hL hv']
      by_cases p1 : w' 7 (33 * c + r) = w' 7 r
      · rw [if_pos p1, if_pos p1]
        by_cases p2 : w' 8 (33 * c + r) = w' 8 r
        · rw [if_pos p2, if_pos p2]
          exact ih (r + 1) (by omega) (by omega)
        · rw [if_neg p2, if_neg p2]
          exact ⟨_, rfl, rfl⟩
      · rw [if_neg p1, if_neg p1]
        exact ⟨_, rfl, rfl⟩
theorem oc_4f {F : Nat} (hF : 200 ≤ F) {w' : wd} {c : Nat} (hc : c < 16) {L : Nat} (hL : L ≤ 32) (hv : w' 6 (8 * c) = nI L) (n : Nat) : ∀ k, k ≤ 5 → 5 - k < n → fn_Md_otherCoding_4 F n w' (nI c) false (nI k) = some true := by
  induction n with
  | zero => intro r _ h; omega
  | succ n ih =>
    intro k h1 h2
    rw [fn_Md_otherCoding_4]
    simp only [show (5 : Int32) = nI 5 from rfl]
    simp only [bn_le (show 5 < 2147483648 by omega) (show k < 2147483648 by omega)]
    by_cases hk : 5 ≤ k
    · rw [if_pos hk]
      obtain ⟨F', rfl⟩ : ∃ F', F = F' + 1 := ⟨F - 1, by omega⟩
      exact oc_47f _ hc _ 0 hL hv
    · rw [if_neg hk]
      simp only [Bool.false_eq_true, if_false]
      unfold fn_Md_otherCoding_37 fn_Md_otherCoding_38
      rw [show (1 : Int32) = nI 1 from rfl, bn_add]
      exact ih (k + 1) (by omega) (by omega)
theorem oc_4 {F : Nat} (hF : 200 ≤ F) {w' : wd} {c : Nat} (hc : c < 16) {L : Nat} (hL : L ≤ 32) (hv : w' 6 (8 * c) = nI L) {k : Nat} (hk : k < 5) {n : Nat} (hn : 5 - k < n + 1) : fn_Md_otherCoding_4 F (n + 1) w' (nI c) true (nI k) = if w' 6 (8 * c + k) = w' 6 k then fn_Md_otherCoding_4 F n w' (nI c) true (nI (k + 1)) else some true := by
  rw [fn_Md_otherCoding_4]
  simp only [show (5 : Int32) = nI 5 from rfl, show (8 : Int32) = nI 8 from rfl, bn_mul, bn_add]
  rw [if_neg (by rw [bn_le (by omega) (by omega)]; omega), if_pos trivial, if_pos (i8 hc (by omega)).1, (i8 hc (by omega)).2, bn_i (by omega), if_pos (by omega), Int.toNat_natCast]
  unfold fn_Md_otherCoding_37 fn_Md_otherCoding_38
  rw [show (1 : Int32) = nI 1 from rfl, bn_add, oc_4f hF hc hL hv n (k + 1) (by omega) (by omega)]
theorem otherCoding {F : Nat} (hF : 200 ≤ F) {w w' : wd} {c : Nat} (hc : c < 16) (h : rc w w' c) (h0 : rc w w' 0) : ∃ b, fn_Cd_isLike F w c 0 = some b ∧ fn_Md_otherCoding F w' (nI c) = some (!b) := by
  obtain ⟨L, hL, hv, hv'⟩ := rc_lv h
  obtain ⟨b, hb1, hb2⟩ := oc_47 F hc h h0 hL hv hv' F 0 (by omega) (by omega)
  obtain ⟨_, ⟨b1, b2, b3, b4, b5⟩, _⟩ := id h
  obtain ⟨_, ⟨a1, a2, a3, a4, a5⟩, _⟩ := id h0
  rw [Nat.mul_zero] at a1 a2 a3 a4 a5
  rw [Nat.zero_add] at a2 a3 a4 a5
  unfold fn_Cd_isLike fn_Md_otherCoding
  rw [Nat.mul_zero, b1, b2, b3, b4, b5, a1, a2, a3, a4, a5]
  obtain ⟨m, hm⟩ : ∃ m, F = m + 1 + 1 + 1 + 1 + 1 + 1 := ⟨F - 6, by omega⟩
  have s0 := oc_4 hF hc hL hv' (k := 0) (by omega) (n := m + 1 + 1 + 1 + 1 + 1) (by omega)
  rw [show 8 * c + 0 = 8 * c from rfl] at s0
  have s1 := oc_4 hF hc hL hv' (k := 1) (by omega) (n := m + 1 + 1 + 1 + 1) (by omega)
  have s2 := oc_4 hF hc hL hv' (k := 2) (by omega) (n := m + 1 + 1 + 1) (by omega)
  have s3 := oc_4 hF hc hL hv' (k := 3) (by omega) (n := m + 1 + 1) (by omega)
  have s4 := oc_4 hF hc hL hv' (k := 4) (by omega) (n := m + 1) (by omega)
  have s5 : fn_Md_otherCoding_4 F (m + 1) w' (nI c) true (nI 5) = fn_Md_otherCoding_47 F F w' (nI c) true (nI 0) := by
    rw [fn_Md_otherCoding_4, if_pos (by decide)]
    rfl
  have e : fn_Md_otherCoding_4 F F w' (nI c) true 0 = fn_Md_otherCoding_4 F (m + 1 + 1 + 1 + 1 + 1 + 1) w' (nI c) true (nI 0) := by rw [← hm]; rfl
  rw [e, s0, s1, s2, s3, s4, s5, hb2, show (0 : Int32) = nI 0 from rfl, hb1]
  by_cases p0 : w' 6 (8 * c) = w' 6 0
  · rw [if_pos p0, if_pos p0]
    by_cases p1 : w' 6 (8 * c + 1) = w' 6 1
    · rw [if_pos p1, if_pos p1]
      by_cases p2 : w' 6 (8 * c + 2) = w' 6 2
      · rw [if_pos p2, if_pos p2]
        by_cases p3 : w' 6 (8 * c + 3) = w' 6 3
        · rw [if_pos p3, if_pos p3]
          by_cases p4 : w' 6 (8 * c + 4) = w' 6 4
          · rw [if_pos p4, if_pos p4]
            exact ⟨b, rfl, rfl⟩
          · rw [if_neg p4, if_neg p4]; exact ⟨_, rfl, rfl⟩
        · rw [if_neg p3, if_neg p3]; exact ⟨_, rfl, rfl⟩
      · rw [if_neg p2, if_neg p2]; exact ⟨_, rfl, rfl⟩
    · rw [if_neg p1, if_neg p1]; exact ⟨_, rfl, rfl⟩
  · rw [if_neg p0, if_neg p0]; exact ⟨_, rfl, rfl⟩
