/-! mathematics of both state tables, part 12; from wip/math -/
theorem rc_lv {w w' : wd} {c : Nat} (h : rc w w' c) : ∃ L, L ≤ 32 ∧ w (6 + 6 * c) 0 = nI L ∧ w' 6 (8 * c) = nI L := by
  obtain ⟨_, ⟨b1, _⟩, _, ⟨_, _, d3, d4⟩, _⟩ := h
  rw [bi_le] at d3 d4
  obtain ⟨L, h1, h2⟩ := bn_ex (x := w (6 + 6 * c) 0) d3
  rw [h2, bn_i h1] at d4
  exact ⟨L, by have : (L : Int) ≤ 32 := d4; omega, h2, by rw [← b1, h2]⟩
theorem pw_of {w w' : wd} {c : Nat} (h : rc w w' c) {r : Nat} (hr : r < 33) : fn_Cd_pwOf w c (nI r) = w' 7 (33 * c + r) ∧ fn_Cd_phOf w c (nI r) = w' 8 (33 * c + r) := by
  obtain ⟨_, _, _, _, e1, e2, _⟩ := h
  unfold fn_Cd_pwOf fn_Cd_phOf
  simp only [show (0 : Int32) = nI 0 from rfl, show (33 : Int32) = nI 33 from rfl]
  rw [if_neg (by rw [bn_lt (by omega) (by omega)]; omega), if_neg (by rw [bn_le (by omega) (by omega)]; omega), if_neg (by rw [bn_lt (by omega) (by omega)]; omega), if_neg (by rw [bn_le (by omega) (by omega)]; omega), bn_nn _ (by omega)]
  exact ⟨e1 r hr, e2 r hr⟩
theorem i8 {c k : Nat} (hc : c < 16) (hk : k < 8) : (0 ≤ (nI (8 * c + k)).toInt ∧ (nI (8 * c + k)).toInt < 128) ∧ (nI (8 * c + k)).toInt.toNat = 8 * c + k := by
  rw [bn_i (by omega)]; omega
theorem i80 {c : Nat} (hc : c < 16) : (0 ≤ (nI (8 * c)).toInt ∧ (nI (8 * c)).toInt < 128) ∧ (nI (8 * c)).toInt.toNat = 8 * c := by
  rw [bn_i (by omega)]; omega
theorem i33 {c k : Nat} (hc : c < 16) (hk : k < 33) : (0 ≤ (nI (33 * c + k)).toInt ∧ (nI (33 * c + k)).toInt < 528) ∧ (nI (33 * c + k)).toInt.toNat = 33 * c + k := by
  rw [bn_i (by omega)]; omega
theorem i97 {c k : Nat} (hc : c < 16) (hk : k < 97) : (0 ≤ (nI (97 * c + k)).toInt ∧ (nI (97 * c + k)).toInt < 1552) ∧ (nI (97 * c + k)).toInt.toNat = 97 * c + k := by
  rw [bn_i (by omega)]; omega
theorem tells_t (F : Nat) {w w' : wd} {c : Nat} (hc : c < 16) {L : Nat} (hL : L ≤ 32) (hv : w' 6 (8 * c) = nI L) (n : Nat) : ∀ r, r ≤ L + 1 → L + 1 - r < n → fn_Md_tells_4 F n w' (nI c) true (nI r) = some true := by
  induction n with
  | zero => intro r _ h; omega
  | succ n ih =>
    intro r h1 h2
    rw [fn_Md_tells_4]
    simp only [bn_lit, bn_mul]
    rw [if_pos (i80 hc).1, (i80 hc).2, hv]
    simp only [bn_lt (show L < 2147483648 by omega) (show r < 2147483648 by omega)]
    by_cases hr : L < r
    · rw [if_pos hr]
    · rw [if_neg hr, if_pos trivial]
      unfold fn_Md_tells_53 fn_Md_tells_58
      rw [show (1 : Int32) = nI 1 from rfl, bn_add]
      exact ih (r + 1) (by omega) (by omega)
theorem tells_2 (F : Nat) {w w' : wd} {c : Nat} (hc : c < 16) (h : rc w w' c) {L : Nat} (hL : L ≤ 32) (hv : w (6 + 6 * c) 0 = nI L) (hv' : w' 6 (8 * c) = nI L) (n : Nat) : ∀ r, r ≤ L + 1 → L + 1 - r < n → ∃ b, fn_Cd_tellsPrecincts_2 F n w c (nI r) = some b ∧ fn_Md_tells_4 F n w' (nI c) false (nI r) = some b := by
  induction n with
  | zero => intro r _ h; omega
  | succ n ih =>
    intro r h1 h2
    rw [fn_Md_tells_4, fn_Cd_tellsPrecincts_2]
    simp only [show (8 : Int32) = nI 8 from rfl, show (33 : Int32) = nI 33 from rfl, bn_mul, bn_add]
    rw [if_pos (i80 hc).1, (i80 hc).2, hv, hv']
    simp only [bn_lt (show L < 2147483648 by omega) (show r < 2147483648 by omega)]
    by_cases hr : L < r
    · rw [if_pos hr, if_pos hr]
      exact ⟨_, rfl, rfl⟩
    · have hr33 : r < 33 := by omega
      rw [if_neg hr, if_neg hr, (pw_of h hr33).1, (pw_of h hr33).2]
      simp only [Bool.false_eq_true, if_false]
      rw [if_pos (i33 hc hr33).1, (i33 hc hr33).2, if_pos (i33 hc hr33).1]
      unfold fn_Md_tells_53 fn_Md_tells_58
      have ht := tells_t (w := w) F hc hL hv' n (r + 1) (by omega) (by omega)
      rw [show (1 : Int32) = nI 1 from rfl, bn_add, ht]
      by_cases p1 : w' 7 (33 * c + r) = 15
      · rw [if_pos p1, if_pos p1]
        by_cases p2 : w' 8 (33 * c + r) = 15
        · rw [if_pos p2, if_pos p2]
          exact ih (r + 1) (by omega) (by omega)
        · rw [if_neg p2, if_neg p2]
          exact ⟨_, rfl, rfl⟩
      · rw [if_neg p1, if_neg p1]
        exact ⟨_, rfl, rfl⟩
theorem tells {F : Nat} (hF : 200 ≤ F) {w w' : wd} {c : Nat} (hc : c < 16) (h : rc w w' c) : ∃ b, fn_Cd_tellsPrecincts F w c = some b ∧ fn_Md_tells F w' (nI c) = some b := by
  obtain ⟨L, hL, hv, hv'⟩ := rc_lv h
  exact tells_2 F hc h hL hv hv' F 0 (by omega) (by omega)
theorem wrs_rc {w w' w1 : wd} {c cu : Nat} {bs : List Nat} (hc : c < 16) (h : rc w w' c) (h1 : wrs w' w1 cu bs) : rc w w1 c :=
  rc_fr hc h (fun _ _ _ _ => rfl) (fun a j h2 h3 _ _ _ _ => h1.2.2.1 a j (by omega) (by omega))
theorem body_84 {F : Nat} (hF : 200 ≤ F) {w : wd} {c : Nat} (hc : c < 16) {b : Bool} (hb : fn_Cd_tellsPrecincts F w c = some b) {L : Nat} (hL : L ≤ 32) (hv : w (6 + 6 * c) 0 = nI L) (m : Nat) : ∀ w' r cu, rc w w' c → w' 0 36 = nI cu → cu + (L + 1 - r) < 800000 → r ≤ L + 1 → L + 1 - r < m → ∃ bs w1, fn_Md_body_84 F m w' (nI c) (nI r) = some w1 ∧ wrs w' w1 cu bs ∧ bs.length ≤ L + 1 - r ∧ (b = true → fn_Wr_writeBody_61 F m w c (nI r) = some bs) ∧ (b = false → bs = []) := by
  induction m with
  | zero => intro w' r cu _ _ _ _ h; omega
  | succ m ih =>
    intro w' r cu hrc hcu hcu2 hrL hm
    obtain ⟨b', hb1, hb2⟩ := tells hF hc hrc
    rw [hb] at hb1
    cases hb1
    obtain ⟨_, ⟨b1, _⟩, _⟩ := id hrc
    rw [fn_Md_body_84, fn_Wr_writeBody_61]
    simp only [show (8 : Int32) = nI 8 from rfl, show (33 : Int32) = nI 33 from rfl, bn_mul, bn_add]
    rw [if_pos (i80 hc).1, (i80 hc).2, ← b1, hv]
    simp only [bn_lt (show L < 2147483648 by omega) (show r < 2147483648 by omega)]
    by_cases hr : L < r
    · rw [if_pos hr, if_pos hr]
      exact ⟨[], w', rfl, wrs_nil hcu, by simp, fun _ => rfl, fun _ => rfl⟩
    · have hr33 : r < 33 := by omega
      rw [if_neg hr, if_neg hr, hb2, Option.bind_some]
      cases b with
      | false => exact ⟨[], w', by simp, wrs_nil hcu, by simp, (fun h => nomatch h), fun _ => rfl⟩
      | true =>
        rw [if_pos rfl, if_pos (i33 hc hr33).1, if_pos (i33 hc hr33).1, (i33 hc hr33).2, (pw_of hrc hr33).1, (pw_of hrc hr33).2]
        obtain ⟨w1, q1, r1⟩ := md_add1 (show 100 ≤ F by omega) hcu (by omega) (w' 7 (33 * c + r) + 16 * w' 8 (33 * c + r))
        rw [q1, Option.bind_some, show (1 : Int32) = nI 1 from rfl, bn_add]
        obtain ⟨bs, w2, q2, r2, l2, t2, _⟩ := ih w1 (r + 1) _ (wrs_rc hc hrc r1) r1.1 (by simp; omega) (by omega) (by omega)
        rw [q2, t2 rfl]
        refine ⟨_, _, rfl, wrs_app r1 r2, by simp; omega, fun _ => rfl, fun h => nomatch h⟩
theorem body {F : Nat} (hF : 200 ≤ F) {w w' : wd} {c : Nat} (hc : c < 16) (hrc : rc w w' c) {cu : Nat} (hcu : w' 0 36 = nI cu) (hcu2 : cu < 700000) : ∃ bs w1, fn_Wr_writeBody F w c = some bs ∧ fn_Md_body F w' (nI c) = some w1 ∧ wrs w' w1 cu bs ∧ bs.length ≤ 38 := by
  have hF1 : 100 ≤ F := by omega
  obtain ⟨L, hL, hv, hv'⟩ := rc_lv hrc
  obtain ⟨b, hb1, hb2⟩ := tells hF hc hrc
  have K : ∀ w1, rc w w1 c → ∀ k, k < 5 → w1 6 (8 * c + k) = w (6 + 6 * c) k := by
    intro w1 h k hk
    obtain ⟨_, ⟨b1, b2, b3, b4, b5⟩, _⟩ := h
    rcases (show k = 0 ∨ k = 1 ∨ k = 2 ∨ k = 3 ∨ k = 4 by omega) with rfl | rfl | rfl | rfl | rfl
    · exact b1.symm
    · exact b2.symm
    · exact b3.symm
    · exact b4.symm
    · exact b5.symm
  obtain ⟨w1, q1, r1⟩ := md_add1 hF1 hcu (by omega) (w (6 + 6 * c) 0)
  have c1 := wrs_rc hc hrc r1
  obtain ⟨w2, q2, r2⟩ := md_add1 hF1 r1.1 (by simp; omega) (w (6 + 6 * c) 1 - 2)
  have c2 := wrs_rc hc c1 r2
  obtain ⟨w3, q3, r3⟩ := md_add1 hF1 r2.1 (by simp; omega) (w (6 + 6 * c) 2 - 2)
  have c3 := wrs_rc hc c2 r3
  obtain ⟨w4, q4, r4⟩ := md_add1 hF1 r3.1 (by simp; omega) (w (6 + 6 * c) 3)
  have c4 := wrs_rc hc c3 r4
  obtain ⟨w5, q5, r5⟩ := md_add1 hF1 r4.1 (by simp; omega) (w (6 + 6 * c) 4)
  have c5 := wrs_rc hc c4 r5
  obtain ⟨bs, w6, q6, r6, l6, t6, f6⟩ := body_84 hF hc hb1 hL hv F w5 0 _ c5 r5.1 (by simp; omega) (by omega) (by omega)
  have ex : (if w (6 + 6 * c) 4 = 0 then fn_Wr_writeBody_49 F w c false else fn_Wr_writeBody_49 F w c true) = some ([by8 (w (6 + 6 * c) 4)] ++ bs) := by
    have hx : (fn_Cd_tellsPrecincts F w c).bind (fun r27 => (if r27 = true then fn_Wr_writeBody_61 F F w c (0 : Int32) else some [])) = some bs := by
      rw [hb1, Option.bind_some]
      cases b with
      | true => rw [if_pos rfl]; exact t6 rfl
      | false => rw [if_neg (by decide), f6 rfl]
    obtain ⟨_, _, _, ⟨_, d2, _⟩, _⟩ := hrc
    unfold fn_Wr_writeBody_49
    rw [hx]
    rcases d2 with d | d
    · rw [d]; rfl
    · rw [d]; rfl
  refine ⟨_, w6, ?_, ?_, wrs_app r1 (wrs_app r2 (wrs_app r3 (wrs_app r4 (wrs_app r5 r6)))), by simp; omega⟩
  · unfold fn_Wr_writeBody
    rw [ex]
    rfl
  · unfold fn_Md_body
    simp only [show (8 : Int32) = nI 8 from rfl, show (1 : Int32) = nI 1 from rfl, show (2 : Int32) = nI 2 from rfl, show (3 : Int32) = nI 3 from rfl, show (4 : Int32) = nI 4 from rfl, bn_mul, bn_add] at *
    rw [if_pos (i80 hc).1, (i80 hc).2, show w' 6 (8 * c) = w (6 + 6 * c) 0 from K w' hrc 0 (by omega), q1, Option.bind_some, if_pos (i8 hc (by omega)).1, (i8 hc (by omega)).2, K w1 c1 1 (by omega), q2, Option.bind_some, if_pos (i8 hc (by omega)).1, (i8 hc (by omega)).2, K w2 c2 2 (by omega), q3, Option.bind_some, if_pos (i8 hc (by omega)).1, (i8 hc (by omega)).2, K w3 c3 3 (by omega), q4, Option.bind_some, if_pos (i8 hc (by omega)).1, (i8 hc (by omega)).2, K w4 c4 4 (by omega), q5, Option.bind_some]
    exact q6
