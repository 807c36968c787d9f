/-! mathematics of both state tables, part 30; from wip/math -/
abbrev pt : Type := Nat × Nat × Nat × Nat × Nat × Nat × Nat
def pt0 : pt := (0, 0, 0, 0, 0, 0, 0)
def fld (q : pt) (j : Nat) : Nat := match j with
  | 0 => q.1
  | 1 => q.2.1
  | 2 => q.2.2.1
  | 3 => q.2.2.2.1
  | 4 => q.2.2.2.2.1
  | 5 => q.2.2.2.2.2.1
  | _ => q.2.2.2.2.2.2
def bndQ (Q : List pt) : Prop := Q.length ≤ 256 ∧ ∀ q ∈ Q, q.1 < 64 ∧ ∀ j, fld q j ≤ 65536
def tabP (w' : wd) (Q : List pt) (dn : Nat) : Prop := w' 0 28 = nI dn ∧ dn ≤ Q.length ∧ ∀ k, k < dn → ∀ j, j < 5 → w' (16 + j) k = nI (fld (Q.getD k pt0) j)
def tabQ (w : wd) (Q : List pt) (dn : Nat) : Prop := w 110 1 = nI Q.length ∧ ∀ k, k < Q.length → ∀ j, j < 7 → (j = 3 ∨ j = 4 → k < dn) → w 111 (7 * k + j) = nI (fld (Q.getD k pt0) j)
def isT (t : Nat) (q : pt) : Bool := decide (q.1 = t)
def tstep (t : Nat) (a : Nat) (q : pt) : Nat := if q.1 = t ∧ 0 < q.2.2.1 then q.2.2.1 else a
def tld (Q : List pt) (t : Nat) : Nat := Q.foldl (tstep t) 0
def cntQ (w : wd) (Q : List pt) : Prop := ∀ t, t < 64 → w 112 t = nI (Q.countP (isT t)) ∧ w 113 t = nI (tld Q t)
theorem tld_b (t n : Nat) (Q : List pt) : ∀ a, a ≤ n → (∀ q ∈ Q, q.2.2.1 ≤ n) → Q.foldl (tstep t) a ≤ n := by
  induction Q with
  | nil => intro a h _; exact h
  | cons q Q ih =>
    intro a h hq
    rw [List.foldl_cons]
    apply ih
    · unfold tstep
      split
      · exact hq q List.mem_cons_self
      · exact h
    · exact fun x hx => hq x (List.mem_cons_of_mem _ hx)
theorem snum {w : wd} {k j : Nat} (hk : k < 256) (hj : j < 7) (v : Int32) : fn_Pt_setNumber w (nI k) (nI j) v = up2 w 111 (7 * k + j) v := by
  unfold fn_Pt_setNumber
  have e : nI k * 7 + nI j = nI (7 * k + j) := by rw [show (7 : Int32) = nI 7 from rfl, bn_mul, bn_add, Nat.mul_comm]
  rw [e, if_neg (by rw [show (0 : Int32) = nI 0 from rfl, bn_lt (by omega) (by omega)]; omega), if_neg (by rw [show (1792 : Int32) = nI 1792 from rfl, bn_le (by omega) (by omega)]; omega), bn_nn _ (by omega)]
theorem gnum {w : wd} {k j : Nat} (hk : k < 256) (hj : j < 7) : fn_Pt_number w (nI k) (nI j) = w 111 (7 * k + j) := by
  unfold fn_Pt_number
  have e : nI k * 7 + nI j = nI (7 * k + j) := by rw [show (7 : Int32) = nI 7 from rfl, bn_mul, bn_add, Nat.mul_comm]
  rw [e, if_neg (by rw [show (0 : Int32) = nI 0 from rfl, bn_lt (by omega) (by omega)]; omega), if_neg (by rw [show (1792 : Int32) = nI 1792 from rfl, bn_le (by omega) (by omega)]; omega), bn_nn _ (by omega)]
theorem partsOf_l {F : Nat} {w' : wd} {Q : List pt} (h : tabP w' Q Q.length) (hb : bndQ Q) {t : Nat} (ht : t < 100000) (n : Nat) : ∀ k a, k ≤ Q.length → Q.length - k < n → a ≤ 1000 - (Q.length - k) → fn_Md_partsOf_4 F n w' (nI t) (nI a) (nI k) = some (nI (a + (Q.drop k).countP (isT t))) := by
  obtain ⟨h1, h2, h3⟩ := h
  have hq := hb.1
  induction n with
  | zero => intro k a _ h; omega
  | succ n ih =>
    intro k a hk hn ha
    rw [fn_Md_partsOf_4, h1]
    simp only [bn_le (show Q.length < 2147483648 by omega) (show k < 2147483648 by omega)]
    by_cases c : Q.length ≤ k
    · rw [if_pos c, List.drop_eq_nil_of_le c]
      rfl
    · have hk' : k < Q.length := by omega
      have q1 := h3 k hk' 0 (by omega)
      have hs := (hb.2 _ (gd_mem (d := pt0) hk')).1
      rw [gd_drop (d := pt0) hk']
      have R : 0 ≤ (nI k).toInt ∧ (nI k).toInt < 256 := by rw [bn_i (by omega)]; omega
      rw [if_neg c, if_pos R, bn_nn k (by omega)]
      have q1 : w' 16 k = nI (Q.getD k pt0).1 := q1
      rw [q1]
      unfold fn_Md_partsOf_28
      have bt : nI a + bi true = nI (a + 1) := bn_add a 1
      have bf : nI a + bi false = nI a := by have := bn_add a 0; exact this
      simp only [bn_a, bt, bf]
      rw [ih (k + 1) a (by omega) (by omega) (by omega), ih (k + 1) (a + 1) (by omega) (by omega) (by omega), List.countP_cons]
      unfold isT
      clear q1
      generalize Q.getD k pt0 = q at *
      have e1 : (nI q.1 = nI t) = (q.1 = t) := propext (bn_eq (by omega) (by omega))
      simp only [e1]
      by_cases d1 : q.1 = t
      · rw [if_pos d1, if_pos (by simp [d1])]
        congr 2; omega
      · rw [if_neg d1, if_neg (by simp [d1])]
        rfl
theorem md_partsOf {F : Nat} (hF : 70000 ≤ F) {w' : wd} {Q : List pt} (h : tabP w' Q Q.length) (hb : bndQ Q) {t : Nat} (ht : t < 100000) : fn_Md_partsOf F w' (nI t) = some (nI (Q.countP (isT t))) := by
  have hq := hb.1
  have := partsOf_l (F := F) h hb ht F 0 0 (by omega) (by omega) (by omega)
  rw [List.drop_zero, Nat.zero_add] at this
  exact this
theorem saidOf_l {F : Nat} {w' : wd} {Q : List pt} (h : tabP w' Q Q.length) (hb : bndQ Q) {t : Nat} (ht : t < 100000) (n : Nat) : ∀ k a, k ≤ Q.length → Q.length - k < n → fn_Md_saidOf_4 F n w' (nI t) (nI a) (nI k) = some (nI ((Q.drop k).foldl (tstep t) a)) := by
  obtain ⟨h1, h2, h3⟩ := h
  have hq := hb.1
  induction n with
  | zero => intro k a _ h; omega
  | succ n ih =>
    intro k a hk hn
    rw [fn_Md_saidOf_4, h1]
    simp only [bn_le (show Q.length < 2147483648 by omega) (show k < 2147483648 by omega)]
    by_cases c : Q.length ≤ k
    · rw [if_pos c, List.drop_eq_nil_of_le c]
      rfl
    · have hk' : k < Q.length := by omega
      have q1 := h3 k hk' 0 (by omega)
      have q2 := h3 k hk' 2 (by omega)
      have hs := hb.2 _ (gd_mem (d := pt0) hk')
      rw [gd_drop (d := pt0) hk', List.foldl_cons]
      have R : 0 ≤ (nI k).toInt ∧ (nI k).toInt < 256 := by rw [bn_i (by omega)]; omega
      simp only [if_neg c, if_pos R, bn_nn k (show k < 2147483648 by omega)]
      have q1 : w' 16 k = nI (Q.getD k pt0).1 := q1
      have q2 : w' 18 k = nI (Q.getD k pt0).2.2.1 := q2
      rw [q1, q2]
      unfold fn_Md_saidOf_40 fn_Md_saidOf_41
      simp only [bn_a]
      rw [ih (k + 1) a (by omega) (by omega), ih (k + 1) _ (by omega) (by omega)]
      clear q1 q2
      generalize Q.getD k pt0 = q at *
      have b2 : q.2.2.1 ≤ 65536 := hs.2 2
      have e1 : (nI q.1 = nI t) = (q.1 = t) := propext (bn_eq (by omega) (by omega))
      have e2 : (nI q.2.2.1 ≤ 0) = (q.2.2.1 ≤ 0) := propext (bn_le (b := 0) (by omega) (by omega))
      simp only [e1, e2]
      unfold tstep
      by_cases d1 : q.1 = t
      · by_cases d2 : q.2.2.1 ≤ 0
        · rw [if_pos d1, if_pos d2, if_neg (by omega)]
        · rw [if_pos d1, if_neg d2, if_pos (by omega)]
      · rw [if_neg d1, if_neg (by omega)]
theorem md_saidOf {F : Nat} (hF : 70000 ≤ F) {w' : wd} {Q : List pt} (h : tabP w' Q Q.length) (hb : bndQ Q) {t : Nat} (ht : t < 100000) : fn_Md_saidOf F w' (nI t) = some (nI (tld Q t)) := by
  have hq := hb.1
  have := saidOf_l (F := F) h hb ht F 0 0 (by omega) (by omega)
  rw [List.drop_zero] at this
  exact this
theorem tld_le {Q : List pt} (hb : bndQ Q) (t : Nat) : tld Q t ≤ 65536 := tld_b t 65536 Q 0 (by omega) (fun q hq => (hb.2 q hq).2 2)
theorem cnt_le {Q : List pt} (hb : bndQ Q) (f : pt → Bool) : Q.countP f ≤ 256 := Nat.le_trans List.countP_le_length hb.1
theorem mayF {F : Nat} (hF : 70000 ≤ F) {w w' : wd} {Q : List pt} (h : tabP w' Q Q.length) (hc : cntQ w Q) (hb : bndQ Q) {t x y : Nat} (ht : t < 64) (hx : x < 256) (hy : y < 256) : ∃ b, fn_Pt_mayFollow w (nI t) (nI x) (nI y) = some b ∧ (b = true → x = Q.countP (isT t)) ∧ fn_Md_isPart_71 F w' (nI t) (nI x) (nI y) (decide (x = Q.countP (isT t))) = some b := by
  obtain ⟨c1, c2⟩ := hc t ht
  have l1 := tld_le hb t
  have l2 := cnt_le hb (isT t)
  have R : 0 ≤ (nI t).toInt ∧ (nI t).toInt < 64 := by rw [bn_i (by omega)]; omega
  have iT : fn_Pt_isTile (nI t) = true := by
    unfold fn_Pt_isTile
    rw [if_neg (by rw [show (0 : Int32) = nI 0 from rfl, bn_lt (by omega) (by omega)]; omega), if_neg (by rw [show (64 : Int32) = nI 64 from rfl, bn_le (by omega) (by omega)]; omega)]
  unfold fn_Pt_mayFollow fn_Md_isPart_71
  simp only [if_pos iT, if_pos R, bn_nn t (show t < 2147483648 by omega), c1, c2, md_saidOf hF h hb (show t < 100000 by omega), Option.bind_some]
  have e1 : (nI x = nI (Q.countP (isT t))) = (x = Q.countP (isT t)) := propext (bn_eq (by omega) (by omega))
  have e2 : (nI y = 0) = (y = 0) := propext (bn_eq (b := 0) (by omega) (by omega))
  have e3 : (nI y ≤ nI x) = (y ≤ x) := propext (bn_le (by omega) (by omega))
  have e4 : (nI (tld Q t) = 0) = (tld Q t = 0) := propext (bn_eq (b := 0) (by omega) (by omega))
  have e5 : (nI (tld Q t) = nI y) = (tld Q t = y) := propext (bn_eq (by omega) (by omega))
  simp only [e1, e2, e3, e4, e5]
  by_cases d1 : x = Q.countP (isT t)
  · rw [if_pos d1, decide_eq_true d1, if_pos rfl]
    by_cases d2 : y = 0
    · simp only [if_pos d2]
      exact ⟨_, rfl, fun _ => d1, rfl⟩
    · simp only [if_neg d2]
      by_cases d3 : y ≤ x
      · simp only [if_pos d3]
        exact ⟨_, rfl, (fun h => nomatch h), rfl⟩
      · simp only [if_neg d3]
        by_cases d4 : tld Q t = 0
        · simp only [if_pos d4]
          exact ⟨_, rfl, fun _ => d1, rfl⟩
        · simp only [if_neg d4]
          by_cases d5 : tld Q t = y
          · simp only [if_pos d5]
            exact ⟨_, rfl, fun _ => d1, rfl⟩
          · simp only [if_neg d5]
            exact ⟨_, rfl, (fun h => nomatch h), rfl⟩
  · rw [if_neg d1, decide_eq_false d1]
    exact ⟨_, rfl, (fun h => nomatch h), rfl⟩
theorem allT_f {F : Nat} (hF : 70000 ≤ F) {w' : wd} {Q : List pt} (h : tabP w' Q Q.length) (hb : bndQ Q) {T : Nat} (hT : T ≤ 64) (h34 : w' 0 34 = nI T) (n : Nat) : ∀ t, t ≤ T → T - t < n → fn_Md_isAllThere_28 F n w' false (nI t) = some false := by
  induction n with
  | zero => intro t _ h; omega
  | succ n ih =>
    intro t h1 h2
    rw [fn_Md_isAllThere_28, h34]
    simp only [bn_le (show T < 2147483648 by omega) (show t < 2147483648 by omega)]
    by_cases c : T ≤ t
    · rw [if_pos c]
    · rw [if_neg c, md_partsOf hF h hb (by omega), Option.bind_some]
      unfold fn_Md_isAllThere_71 fn_Md_isAllThere_72
      simp only [Bool.false_eq_true, if_false, bn_a]
      exact ih (t + 1) (by omega) (by omega)
theorem allT {F : Nat} (hF : 70000 ≤ F) {w w' : wd} {Q : List pt} (h : tabP w' Q Q.length) (hc : cntQ w Q) (hb : bndQ Q) {T : Nat} (hT : T ≤ 64) (h34 : w' 0 34 = nI T) (n : Nat) : ∀ t, t ≤ T → T - t < n → ∃ b, fn_Md_isAllThere_28 F n w' true (nI t) = some b ∧ fn_Pt_areComplete_2 F n w (nI T) (nI t) = some b ∧ (b = true → ∀ u, t ≤ u → u < T → 0 < Q.countP (isT u)) := by
  induction n with
  | zero => intro t _ h; omega
  | succ n ih =>
    intro t h1 h2
    rw [fn_Md_isAllThere_28, fn_Pt_areComplete_2, h34]
    simp only [bn_le (show T < 2147483648 by omega) (show t < 2147483648 by omega)]
    by_cases c : T ≤ t
    · rw [if_pos c, if_pos c]
      exact ⟨_, rfl, rfl, fun _ u a b => by omega⟩
    · obtain ⟨c1, c2⟩ := hc t (by omega)
      have l1 := tld_le hb t
      have l2 := cnt_le hb (isT t)
      have R : 0 ≤ (nI t).toInt ∧ (nI t).toInt < 64 := by rw [bn_i (by omega)]; omega
      rw [if_neg c, if_neg c, if_neg (by rw [show (64 : Int32) = nI 64 from rfl, bn_le (by omega) (by omega)]; omega), md_partsOf hF h hb (by omega), Option.bind_some, if_pos trivial]
      simp only [if_pos R, bn_nn t (show t < 2147483648 by omega), c1, c2, md_saidOf hF h hb (show t < 100000 by omega), Option.bind_some]
      unfold fn_Md_isAllThere_71 fn_Md_isAllThere_67 fn_Md_isAllThere_72 fn_Pt_areComplete_48
      simp only [bn_a]
      rw [allT_f hF h hb hT h34 n (t + 1) (by omega) (by omega)]
      have e1 : (nI (Q.countP (isT t)) ≤ 0) = (Q.countP (isT t) = 0) := propext (by rw [show (0 : Int32) = nI 0 from rfl, bn_le (by omega) (by omega)]; omega)
      have e2 : (nI (Q.countP (isT t)) = 0) = (Q.countP (isT t) = 0) := propext (bn_eq (b := 0) (by omega) (by omega))
      have e4 : (nI (tld Q t) = 0) = (tld Q t = 0) := propext (bn_eq (b := 0) (by omega) (by omega))
      have e5 : (nI (tld Q t) = nI (Q.countP (isT t))) = (tld Q t = Q.countP (isT t)) := propext (bn_eq (by omega) (by omega))
      simp only [e1, e2, e4, e5]
      obtain ⟨b, b1, b2, b3⟩ := ih (t + 1) (by omega) (by omega)
      rw [b1, b2]
      by_cases d1 : Q.countP (isT t) = 0
      · simp only [if_pos d1]
        exact ⟨_, rfl, rfl, fun h => nomatch h⟩
      · have hb3 : b = true → ∀ u, t ≤ u → u < T → 0 < Q.countP (isT u) := fun hb u h1 h2 => by
          by_cases e : u = t
          · subst e; omega
          · exact b3 hb u (by omega) h2
        simp only [if_neg d1]
        by_cases d2 : tld Q t = 0
        · simp only [if_pos d2]
          exact ⟨b, rfl, rfl, hb3⟩
        · simp only [if_neg d2]
          by_cases d3 : tld Q t = Q.countP (isT t)
          · simp only [if_pos d3]
            exact ⟨b, rfl, rfl, hb3⟩
          · simp only [if_neg d3]
            exact ⟨_, rfl, rfl, fun h => nomatch h⟩
