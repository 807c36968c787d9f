/-! mathematics of both state tables, part 37; from wip/math -/
def dl (H : List Nat) (k : Nat) : Nat × Nat := if H.length - k < 4 then (k, 0) else (k + 4, min (u4 H k) (H.length - (k + 4)))
def sfh (q : pt) (x y : Nat) : pt := (q.1, q.2.1, q.2.2.1, q.2.2.2.1, q.2.2.2.2.1, x, y)
def deal (H : List Nat) : Nat → List pt → List pt
  | _, [] => []
  | k, q :: Q => sfh q (dl H k).1 (dl H k).2 :: deal H ((dl H k).1 + (dl H k).2) Q
theorem dl_b {H : List Nat} {k : Nat} (hk : k ≤ H.length) : (dl H k).1 + (dl H k).2 ≤ H.length ∧ k ≤ (dl H k).1 + (dl H k).2 := by
  unfold dl
  split
  · exact ⟨by show k + 0 ≤ _; omega, by show k ≤ k + 0; omega⟩
  · exact ⟨by show k + 4 + min _ _ ≤ _; omega, by show k ≤ k + 4 + min _ _; omega⟩
theorem deal_len (H : List Nat) (Q : List pt) : ∀ k, (deal H k Q).length = Q.length := by
  induction Q with
  | nil => intro k; rfl
  | cons q Q ih => intro k; show (deal H _ Q).length + 1 = Q.length + 1; rw [ih]
theorem deal_l {F : Nat} {Z : zd} (hH : byt Z.2.2.1) {Q : List pt} (hb : bndQ Q) (n : Nat) : ∀ (w : wd) (j k : Nat), j ≤ Q.length → Q.length - j < n → k ≤ Z.2.2.1.length → w 110 1 = nI Q.length → (∀ i, j ≤ i → i < Q.length → ∀ f, f < 7 → w 111 (7 * i + f) = nI (fld (Q.getD i pt0) f)) → ∃ w1, fn_Sc_dealHeads_4 F Z n w (nI k) (nI j) = some w1 ∧ (∀ i, i < Q.length - j → ∀ f, f < 7 → w1 111 (7 * (j + i) + f) = nI (fld ((deal Z.2.2.1 k (Q.drop j)).getD i pt0) f)) ∧ ∀ a x, ¬ (a = 111 ∧ 7 * j ≤ x) → w1 a x = w a x := by
  have hl := hH.1
  have hq := hb.1
  induction n with
  | zero => intro w j k _ h; omega
  | succ n ih =>
    intro w j k hj hn hk hc ht
    rw [fn_Sc_dealHeads_4, hc]
    simp only [bn_le (show Q.length < 2147483648 by omega) (show j < 2147483648 by omega)]
    by_cases c : Q.length ≤ j
    · rw [if_pos c]
      exact ⟨w, rfl, fun i hi => by omega, fun _ _ _ => rfl⟩
    · have hj' : j < Q.length := by omega
      have key : fn_Sc_dealHeads_60 (fn_Sc_dealHeads_4 F Z n) F Z w (nI (dl Z.2.2.1 k).1) (nI j) (nI (dl Z.2.2.1 k).2) = (if nI Z.2.2.1.length - nI k < 4 then fn_Sc_dealHeads_60 (fn_Sc_dealHeads_4 F Z n) F Z w (nI k) (nI j) (0 : Int32) else fn_Sc_dealHeads_60 (fn_Sc_dealHeads_4 F Z n) F Z w (nI k + 4) (nI j) ((if ((nI Z.2.2.1.length) - (nI k + 4)).toInt64 < (lN (rw_u4 Z.2.2.1 (nI k))) then ((nI Z.2.2.1.length) - (nI k + 4)).toInt64 else (lN (rw_u4 Z.2.2.1 (nI k)))).toInt32)) := by
        rw [bn_sub hk]
        simp only [show (4 : Int32) = nI 4 from rfl]
        have q1 : (nI (Z.2.2.1.length - k) < nI 4) = (Z.2.2.1.length - k < 4) := propext (bn_lt (by omega) (by omega))
        simp only [q1]
        unfold dl
        by_cases d : Z.2.2.1.length - k < 4
        · simp only [if_pos d]
          rfl
        · have u := u4_lt hH k
          simp only [if_neg d]
          rw [ru4 hl (by omega), bn_add, bn_sub (by omega), bl_of (by omega)]
          congr 1
          have q2 : (lN (Z.2.2.1.length - (k + 4)) < lN (u4 Z.2.2.1 k)) = (Z.2.2.1.length - (k + 4) < u4 Z.2.2.1 k) := propext (bl_l (by omega) (by omega))
          simp only [q2]
          by_cases d2 : Z.2.2.1.length - (k + 4) < u4 Z.2.2.1 k
          · rw [if_pos d2, bl_to, Nat.min_eq_right (by omega)]
          · rw [if_neg d2, bl_to, Nat.min_eq_left (by omega)]
      rw [if_neg c, ← key]
      have B := dl_b hk
      have s5 : ∀ w v, fn_Pt_setNumber w (nI j) 5 v = up2 w 111 (7 * j + 5) v := fun w v => snum (j := 5) (by omega) (by omega) v
      have s6 : ∀ w v, fn_Pt_setNumber w (nI j) 6 v = up2 w 111 (7 * j + 6) v := fun w v => snum (j := 6) (by omega) (by omega) v
      unfold fn_Sc_dealHeads_60 fn_Pt_setHeads
      rw [s5, s6, bn_add, (bn_a j).1]
      obtain ⟨w1, x1, x2, x3⟩ := ih (up2 (up2 w 111 (7 * j + 5) (nI (dl Z.2.2.1 k).1)) 111 (7 * j + 6) (nI (dl Z.2.2.1 k).2)) (j + 1) ((dl Z.2.2.1 k).1 + (dl Z.2.2.1 k).2) (by omega) (by omega) B.1 (by simp (disch := omega) only [u2n]; exact hc) (fun i hi1 hi2 f hf => by simp (disch := omega) only [u2n]; exact ht i (by omega) hi2 f hf)
      refine ⟨w1, x1, fun i hi f hf => ?_, fun a x hax => ?_⟩
      · rw [gd_drop (d := pt0) hj']
        show w1 111 (7 * (j + i) + f) = nI (fld ((sfh (Q.getD j pt0) (dl Z.2.2.1 k).1 (dl Z.2.2.1 k).2 :: deal Z.2.2.1 ((dl Z.2.2.1 k).1 + (dl Z.2.2.1 k).2) (Q.drop (j + 1))).getD i pt0) f)
        by_cases i0 : i = 0
        · subst i0
          rw [Nat.add_zero, x3 _ _ (by omega), List.getD_cons_zero]
          have h7 := ht j (by omega) hj'
          rcases (show f = 0 ∨ f = 1 ∨ f = 2 ∨ f = 3 ∨ f = 4 ∨ f = 5 ∨ f = 6 by omega) with rfl | rfl | rfl | rfl | rfl | rfl | rfl
          · simp (disch := omega) only [u2n]; exact h7 0 (by omega)
          · simp (disch := omega) only [u2n]; exact h7 1 (by omega)
          · simp (disch := omega) only [u2n]; exact h7 2 (by omega)
          · simp (disch := omega) only [u2n]; exact h7 3 (by omega)
          · simp (disch := omega) only [u2n]; exact h7 4 (by omega)
          · simp (disch := omega) only [u2n, u2e]; rfl
          · simp (disch := omega) only [u2e]; rfl
        · obtain ⟨i', rfl⟩ : ∃ i', i = i' + 1 := ⟨i - 1, by omega⟩
          have := x2 i' (by omega) f hf
          rw [show j + 1 + i' = j + (i' + 1) by omega] at this
          rw [this, List.getD_cons_succ]
      · rw [x3 a x (by omega)]
        simp (disch := omega) only [u2n]
theorem hdl_byt {l : List Nat} {S : List sg} (h : ∀ b ∈ l, b < 256) : ∀ b ∈ hdl l S, b < 256 := by
  intro b hb
  unfold hdl at hb
  rw [List.mem_flatMap] at hb
  obtain ⟨s, _, hs⟩ := hb
  unfold hbs at hs
  split at hs
  · exact h b (List.mem_of_mem_drop (List.mem_of_mem_take hs))
  · simp at hs
def wfr4 (w w1 : wd) : Prop := ∀ a j, a ≤ 104 → w1 a j = w a j
def uq (l : List Nat) (S : List sg) : Prop := ∀ m o c, kmk m → S.countP (pr l m o c) ≤ 1
theorem uq_app {l : List Nat} {S : List sg} {m p n o c : Nat} (h : uq l S) (hS : ∀ s ∈ S, 1 ≤ s.2.1) (hcc : (m = 83 ∨ m = 93 ∨ m = 94) → u1 l (p + 4) = c) (h0 : kmk m → plf S (pr l m o c) = 0) : uq l (S ++ [(m, p, n, o)]) := by
  intro m' o' c' hk
  rw [cP_app]
  by_cases d : pr l m' o' c' (m, p, n, o) = true
  · rw [if_pos d]
    unfold pr at d
    obtain ⟨a, b, e⟩ := of_decide_eq_true d
    have a : m = m' := a
    have b : o = o' := b
    subst a b
    have z := h0 hk
    rw [plf_0 hS, ← cP0] at z
    have : pr l m o c' = pr l m o c := by
      funext s
      unfold pr
      rw [decide_eq_decide]
      by_cases cm : m = 83 ∨ m = 93 ∨ m = 94
      · have e1 : u1 l (p + 4) = c' := e cm
        rw [← e1, hcc cm]
      · constructor
        · rintro ⟨x, y, _⟩; exact ⟨x, y, fun q => absurd q cm⟩
        · rintro ⟨x, y, _⟩; exact ⟨x, y, fun q => absurd q cm⟩
    rw [this, z]
    omega
  · rw [if_neg d]
    exact h m' o' c' hk
def szok (l : List Nat) (cn : Nat) : Prop := picP l 6 ∧ u2 l 40 = cn ∧ 1 ≤ cn ∧ 42 + 3 * cn ≤ l.length
def nom (S : List sg) : Prop := ∀ s ∈ S, s.1 = 97 → s.2.2.2 ≠ 0 ∧ S.countP (mo 96 0) = 0
def uqs (l : List Nat) (S : List sg) (cn : Nat) : Prop := uq l S ∧ szok l cn ∧ nom S
theorem nom_app {S : List sg} {m p n o : Nat} (h : nom S) (h1 : m = 97 → o ≠ 0 ∧ S.countP (mo 96 0) = 0) (h2 : m = 96 ∧ o = 0 → ∀ s ∈ S, s.2.2.2 = 0) : nom (S ++ [(m, p, n, o)]) := by
  intro s hs h97
  rw [cP_app]
  rcases List.mem_append.1 hs with hs | hs
  · have a := h s hs h97
    refine ⟨a.1, ?_⟩
    by_cases d : mo 96 0 (m, p, n, o) = true
    · unfold mo at d
      have d' := of_decide_eq_true d
      exact absurd (h2 ⟨d'.1, d'.2⟩ s hs) a.1
    · rw [if_neg d]
      omega
  · rw [List.mem_singleton] at hs
    subst hs
    have a := h1 h97
    refine ⟨a.1, ?_⟩
    rw [if_neg]
    · omega
    · intro d
      unfold mo at d
      have d' := of_decide_eq_true d
      have e1 : m = 96 := d'.1
      have e2 : m = 97 := h97
      omega
theorem uqs_app {l : List Nat} {S : List sg} {m p n o c cn : Nat} (h : uqs l S cn) (hS : ∀ s ∈ S, 1 ≤ s.2.1) (hcc : (m = 83 ∨ m = 93 ∨ m = 94) → u1 l (p + 4) = c) (h0 : kmk m → plf S (pr l m o c) = 0) (h1 : m = 97 → o ≠ 0 ∧ S.countP (mo 96 0) = 0) (h2 : m = 96 ∧ o = 0 → ∀ s ∈ S, s.2.2.2 = 0) : uqs l (S ++ [(m, p, n, o)]) cn := ⟨uq_app h.1 hS hcc h0, h.2.1, nom_app h.2.2 h1 h2⟩
def fin (w w' : wd) (Z : zd) (l : List Nat) : Prop := ∃ S Q cn T p, inv1 w' Z l ∧ inv2 w' l S cn p ∧ inv3 w w' S cn T ∧ inv4 w l S Q ∧ tabP w' Q Q.length ∧ bndQ Q ∧ inv6 w l Z.2.2.1 S Q p ∧ tabQ w (if S.countP (mo 96 0) = 0 then Q else deal Z.2.2.1 0 Q) Q.length ∧ p ≤ l.length ∧ 0 < S.countP (mo 82 0) ∧ 0 < S.countP (mo 92 0) ∧ (∀ u, u < T → 0 < Q.countP (isT u)) ∧ uqs l S cn
def outc (w w' : wd) (Z : zd) (l : List Nat) (R : Int32 × wd × zd) (why : Int32) (w1' : wd) : Prop := R.1 = why ∧ wfr4 w R.2.1 ∧ mdf w' w1' ∧ R.2.2.1 = Z.1 ∧ R.2.2.2.1 = Z.2.1 ∧ (why ≠ 0 → R.2.1 105 5 = w1' 0 22) ∧ (why = 0 → w1' 0 22 = w' 0 22 ∧ fin R.2.1 w1' R.2.2 l)
theorem outc_tr {w w' w1 w1' w2' : wd} {Z Z1 : zd} {l : List Nat} {R : Int32 × wd × zd} {why : Int32} (h : outc w1 w1' Z1 l R why w2') (h1 : wfr4 w w1) (h2 : mdf w' w1') (h22 : w1' 0 22 = w' 0 22) (hz : Z1.1 = Z.1) (hz2 : Z1.2.1 = Z.2.1) : outc w w' Z l R why w2' := by
  obtain ⟨a, b, c, d, e, f, g⟩ := h
  refine ⟨a, fun x j hx => by rw [b x j hx, h1 x j hx], fun x j q1 q2 => by rw [c x j q1 q2, h2 x j q1 q2], d.trans hz, e.trans hz2, f, fun hw => ?_⟩
  rw [← h22]
  exact g hw
theorem outc_no {w w1 w' : wd} {Z : zd} {l : List Nat} {p r : Nat} (hr : 1 ≤ r) (hr7 : r ≤ 7) (h1 : wfr4 w w1) (h5 : w1 105 5 = nI p) : outc w w' Z l (nI r, w1, Z) (nI r) (up2 w' 0 22 (nI p)) := by
  refine ⟨rfl, h1, fun a j q1 q2 => u2n (by omega), rfl, rfl, fun _ => ?_, fun h => ?_⟩
  · rw [u2e rfl rfl]; exact h5
  · rw [show (0 : Int32) = nI 0 from rfl, bn_eq (by omega) (by omega)] at h
    omega
theorem sam4 {w w1 : wd} (h : sam w w1) : wfr4 w w1 := fun a j ha => h a j (by omega)
theorem walk_n {F g r : Nat} {w' : wd} (hr : 1 ≤ r) (hr7 : r ≤ 7) : fn_Md_walk_28 F (g + 1) w' (nI r) = some (nI r, w') := by
  rw [fn_Md_walk_28, if_neg (by rw [show (0 : Int32) = nI 0 from rfl, bn_eq (by omega) (by omega)]; omega)]
