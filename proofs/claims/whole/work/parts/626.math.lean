/-! mathematics of both state tables, part 26; from wip/math -/
abbrev sg : Type := Nat × Nat × Nat × Nat
def sg0 : sg := (0, 0, 0, 0)
def ow (o : Nat) : Int32 := if o = 0 then -1 else nI (o - 1)
theorem ow_inj {a b : Nat} (ha : a ≤ 1000) (hb : b ≤ 1000) : ow a = ow b ↔ a = b := by
  have m1 : (-1 : Int32).toInt = -1 := by decide
  unfold ow
  by_cases h1 : a = 0
  · by_cases h2 : b = 0
    · simp [h1, h2]
    · rw [if_pos h1, if_neg h2, bi_eq, m1, bn_i (by omega)]; omega
  · by_cases h2 : b = 0
    · rw [if_neg h1, if_pos h2, bi_eq, m1, bn_i (by omega)]; omega
    · rw [if_neg h1, if_neg h2, bn_eq (by omega) (by omega)]; omega
def tabS (w' : wd) (S : List sg) : Prop := w' 0 23 = nI S.length ∧ S.length ≤ 16400 ∧ (∀ k, k < S.length → w' 12 k = nI (S.getD k sg0).1 ∧ w' 13 k = nI (S.getD k sg0).2.1 ∧ w' 14 k = nI (S.getD k sg0).2.2.1 ∧ w' 15 k = ow (S.getD k sg0).2.2.2) ∧ ∀ s ∈ S, s.1 < 256 ∧ s.2.2.2 ≤ 1000
def mo (m o : Nat) (s : sg) : Bool := decide (s.1 = m ∧ s.2.2.2 = o)
def moc (l : List Nat) (m o c : Nat) (s : sg) : Bool := decide (s.1 = m ∧ s.2.2.2 = o ∧ u1 l (s.2.1 + 4) = c)
theorem gd_mem {α : Type} {S : List α} {k : Nat} {d : α} (hk : k < S.length) : S.getD k d ∈ S := by
  rw [List.getD_eq_getElem?_getD, List.getElem?_eq_getElem hk, Option.getD_some]
  exact List.getElem_mem hk
theorem gd_drop {α : Type} {S : List α} {k : Nat} {d : α} (hk : k < S.length) : S.drop k = S.getD k d :: S.drop (k + 1) := by
  rw [List.getD_eq_getElem?_getD, List.getElem?_eq_getElem hk, Option.getD_some]
  exact List.drop_eq_getElem_cons hk
theorem met_l {F : Nat} {w' : wd} {S : List sg} (h : tabS w' S) {m o : Nat} (hm : m < 256) (ho : o ≤ 1000) (n : Nat) : ∀ k a, k ≤ S.length → S.length - k < n → a + (S.length - k) ≤ 20000 → fn_Md_met_5 F n w' (nI m) (ow o) (nI a) (nI k) = some (nI (a + (S.drop k).countP (mo m o))) := by
  obtain ⟨h1, h2, h3, h4⟩ := h
  induction n with
  | zero => intro k a _ h; omega
  | succ n ih =>
    intro k a hk hn ha
    rw [fn_Md_met_5, h1]
    simp only [bn_le (show S.length < 2147483648 by omega) (show k < 2147483648 by omega)]
    by_cases c : S.length ≤ k
    · rw [if_pos c, List.drop_eq_nil_of_le c]
      rfl
    · have hk' : k < S.length := by omega
      obtain ⟨q1, q2, q3, q4⟩ := h3 k hk'
      have hs := h4 _ (gd_mem (d := sg0) hk')
      rw [gd_drop (d := sg0) hk']
      have R : 0 ≤ (nI k).toInt ∧ (nI k).toInt < 16500 := by rw [bn_i (by omega)]; omega
      rw [if_neg c, if_pos R, bn_nn k (by omega), q1, if_pos R, q4]
      unfold fn_Md_met_41 fn_Md_met_42
      simp only [bn_a]
      have e1 : (nI (S.getD k sg0).1 = nI m) = ((S.getD k sg0).1 = m) := propext (bn_eq (by omega) (by omega))
      have e2 : (ow (S.getD k sg0).2.2.2 = ow o) = ((S.getD k sg0).2.2.2 = o) := propext (ow_inj hs.2 ho)
      simp only [e1, e2]
      have bt : nI a + bi true = nI (a + 1) := bn_add a 1
      have bf : nI a + bi false = nI a := by have := bn_add a 0; exact this
      rw [bt, bf, ih (k + 1) a (by omega) (by omega) (by omega), ih (k + 1) (a + 1) (by omega) (by omega) (by omega)]
      rw [List.countP_cons]
      unfold mo
      generalize S.getD k sg0 = s
      by_cases d1 : s.1 = m
      · by_cases d2 : s.2.2.2 = o
        · rw [if_pos d1, if_pos d2, if_pos (by simp [d1, d2])]
          congr 2; omega
        · rw [if_pos d1, if_neg d2, if_neg (by simp [d2])]
          rfl
      · rw [if_neg d1, if_neg (by simp [d1])]
        rfl
theorem md_met {F : Nat} (hF : 70000 ≤ F) {w' : wd} {S : List sg} (h : tabS w' S) {m o : Nat} (hm : m < 256) (ho : o ≤ 1000) : fn_Md_met F w' (nI m) (ow o) = some (nI (S.countP (mo m o))) := by
  have h2 := h.2.1
  have := met_l (F := F) h hm ho F 0 0 (by omega) (by omega) (by omega)
  rw [List.drop_zero, Nat.zero_add] at this
  exact this
theorem metOf_l {F : Nat} {w' : wd} {l : List Nat} {S : List sg} {m o c : Nat} (hst : str w' l) (h : tabS w' S) (hp : ∀ s ∈ S, s.2.1 + 4 < l.length ∨ ¬ (s.1 = m ∧ s.2.2.2 = o)) (hm : m < 256) (ho : o ≤ 1000) (hc : c < 256) (n : Nat) : ∀ k (b : Bool), k ≤ S.length → S.length - k < n → fn_Md_metOf_6 F n w' (nI m) (ow o) (nI c) b (nI k) = some (b || (S.drop k).any (moc l m o c)) := by
  obtain ⟨h1, h2, h3, h4⟩ := h
  induction n with
  | zero => intro k a _ h; omega
  | succ n ih =>
    intro k b hk hn
    rw [fn_Md_metOf_6, h1]
    simp only [bn_le (show S.length < 2147483648 by omega) (show k < 2147483648 by omega)]
    by_cases cc : S.length ≤ k
    · rw [if_pos cc, List.drop_eq_nil_of_le cc]
      simp
    · have hk' : k < S.length := by omega
      obtain ⟨q1, q2, q3, q4⟩ := h3 k hk'
      have hs := h4 _ (gd_mem (d := sg0) hk')
      have hp' := hp _ (gd_mem (d := sg0) hk')
      rw [gd_drop (d := sg0) hk']
      have R : 0 ≤ (nI k).toInt ∧ (nI k).toInt < 16500 := by rw [bn_i (by omega)]; omega
      rw [if_neg cc]
      unfold fn_Md_metOf_59 fn_Md_metOf_63 fn_Md_metOf_64
      simp only [bn_a]
      rw [ih (k + 1) true (by omega) (by omega), ih (k + 1) false (by omega) (by omega)]
      simp only [if_pos R, bn_nn k (by omega), q1, q2, q4, List.any_cons]
      cases b with
      | true => simp
      | false =>
        have e1 : (nI (S.getD k sg0).1 = nI m) = ((S.getD k sg0).1 = m) := propext (bn_eq (by omega) (by omega))
        have e2 : (ow (S.getD k sg0).2.2.2 = ow o) = ((S.getD k sg0).2.2.2 = o) := propext (ow_inj hs.2 ho)
        simp only [e1, e2, Bool.false_eq_true, if_false, bn_a]
        unfold moc
        clear q1 q2 q3 q4 e1 e2
        generalize S.getD k sg0 = s at *
        by_cases d1 : s.1 = m
        · by_cases d2 : s.2.2.2 = o
          · have hp4 := hp'.resolve_right (fun x => x ⟨d1, d2⟩)
            have hu := u1_lt hst.1 (s.2.1 + 4)
            rw [if_pos d1, if_pos d2, md_u1 hst hp4, Option.bind_some]
            have e3 : (nI (u1 l (s.2.1 + 4)) = nI c) = (u1 l (s.2.1 + 4) = c) := propext (bn_eq (by omega) (by omega))
            simp only [e3]
            by_cases d3 : u1 l (s.2.1 + 4) = c
            · rw [if_pos d3]; simp [d1, d2, d3]
            · rw [if_neg d3]; simp [d3]
          · rw [if_pos d1, if_neg d2]; simp [d2]
        · rw [if_neg d1]; simp [d1]
