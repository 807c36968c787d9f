/-! mathematics of both state tables, part 52; from wip/math -/
def pk (a : Nat) (L : List Nat) (v : Int) (x : Int32) : Int32 := if (a : Int) ≤ v ∧ v < a + L.length then nI (L.getD (v.toNat - a) 0) else x
theorem pk_nil (a : Nat) (v : Int) (x : Int32) : pk a [] v x = x := by
  unfold pk; rw [if_neg]; simp
theorem pk_app (a : Nat) (L1 L2 : List Nat) (v : Int) (x : Int32) : pk a (L1 ++ L2) v x = pk (a + L1.length) L2 v (pk a L1 v x) := by
  unfold pk
  rw [List.length_append]
  by_cases c1 : (a : Int) ≤ v ∧ v < a + L1.length
  · rw [if_pos (by omega), if_neg (by omega), if_pos c1, List.getD_eq_getElem?_getD, List.getElem?_append_left (by omega), ← List.getD_eq_getElem?_getD]
  · by_cases c2 : ((a + L1.length : Nat) : Int) ≤ v ∧ v < ((a + L1.length : Nat) : Int) + L2.length
    · rw [if_pos (by omega), if_pos c2, List.getD_eq_getElem?_getD, List.getElem?_append_right (by omega), ← List.getD_eq_getElem?_getD]
      congr 2; omega
    · rw [if_neg (by omega), if_neg c2, if_neg c1]
theorem bv_lt {x : Int32} {a : Nat} (ha : a < 2147483648) : x < nI a ↔ x.toInt < a := by rw [Int32.lt_iff_toInt_lt, bn_i ha]
theorem bv_le {x : Int32} {a : Nat} (ha : a < 2147483648) : nI a ≤ x ↔ (a : Int) ≤ x.toInt := by rw [Int32.le_iff_toInt_le, bn_i ha]
theorem bv_nn {x : Int32} (h : 0 ≤ x.toInt) : ∃ v : Nat, v < 2147483648 ∧ x = nI v := by
  refine ⟨x.toInt.toNat, ?_, ?_⟩
  · have := x.toInt_lt; omega
  · have h1 := x.toInt_lt
    apply Int32.toInt_inj.1
    rw [bn_i (by omega)]; omega
theorem hbs_len {l : List Nat} {s : sg} (h : s.1 = 96 ∨ s.1 = 97) (h2 : s.2.1 + 2 + s.2.2.1 ≤ l.length) : (hbs l s).length = s.2.2.1 - 3 := by
  unfold hbs
  rw [if_pos h, List.length_take, List.length_drop]; omega
theorem hbs_get {l : List Nat} {s : sg} (h : s.1 = 96 ∨ s.1 = 97) {i : Nat} (hi : i < s.2.2.1 - 3) : (hbs l s).getD i 0 = u1 l (s.2.1 + 5 + i) := by
  unfold hbs u1
  rw [if_pos h, List.getD_eq_getElem?_getD, List.getElem?_take_of_lt hi, List.getElem?_drop, ← List.getD_eq_getElem?_getD]
theorem hdS_cons (l : List Nat) (s : sg) (S : List sg) (t : Nat) : hdS l (s :: S) t = if mo 97 (t + 1) s = true then hbs l s ++ hdS l S t else hdS l S t := by
  unfold hdS
  rw [List.filter_cons]
  split <;> rfl
def i96 (s : sg) : Bool := decide (s.1 = 96)
def pkL (l : List Nat) (S : List sg) : List Nat := (S.filter i96).flatMap (hbs l)
theorem pkL_cons (l : List Nat) (s : sg) (S : List sg) : pkL l (s :: S) = if i96 s = true then hbs l s ++ pkL l S else pkL l S := by
  unfold pkL
  rw [List.filter_cons]
  split <;> rfl
theorem pkL_hdl {l : List Nat} {S : List sg} (h : ∀ s ∈ S, s.1 ≠ 97) : pkL l S = hdl l S := by
  induction S with
  | nil => rfl
  | cons s S ih =>
    rw [pkL_cons, ih (fun x hx => h x (List.mem_cons_of_mem _ hx))]
    unfold hdl
    rw [List.flatMap_cons]
    have h1 := h s List.mem_cons_self
    unfold i96
    by_cases c : s.1 = 96
    · rw [decide_eq_true c, if_pos rfl]
    · rw [decide_eq_false c, if_neg (by decide), show hbs l s = [] by unfold hbs; rw [if_neg (by omega)]]
      rfl
theorem rdM {w' : wd} {l : List Nat} (hs : str w' l) {s : sg} {x2 : Int32} {a : Nat} (h : s.1 = 96 ∨ s.1 = 97) (h2 : s.2.1 + 2 + s.2.2.1 ≤ l.length) (ha : (a : Int) ≤ x2.toInt) (hb : x2.toInt < a + (s.2.2.1 - 3 : Nat)) (x4 : Int32) : fn_Md_u1 w' (((nI s.2.1 + (5 : Int32)) + x2) - nI a) = some (pk a (hbs l s) x2.toInt x4) := by
  obtain ⟨v, v1, rfl⟩ := bv_nn (x := x2) (by omega)
  rw [bn_i v1] at *
  have hl := hs.1.1
  rw [show (5 : Int32) = nI 5 from rfl, bn_add, bn_add, bn_sub (by omega), md_u1 hs (by omega)]
  unfold pk
  rw [if_pos (by rw [hbs_len h h2]; omega), hbs_get h (by omega)]
  congr 3; omega
theorem ofT_l {F : Nat} {w' : wd} {l : List Nat} {S : List sg} {cn : Nat} (hs : str w' l) (hT : tabS w' S) (hok : ∀ s ∈ S, segok l cn s) {t : Nat} (ht : t < 64) {x2 : Int32} (hx : -1 ≤ x2.toInt) (n : Nat) : ∀ (k a : Nat) (x4 : Int32), k ≤ S.length → S.length - k < n → a ≤ 65536 * k → fn_Md_ofTile_8 F n w' (nI t) x2 (nI a) x4 (nI k) = some (if 0 ≤ x2 then pk a (hdS l (S.drop k) t) x2.toInt x4 else nI (a + (hdS l (S.drop k) t).length)) := by
  obtain ⟨h1, h2, h3, h4⟩ := hT
  have hl := hs.1.1
  induction n with
  | zero => intro k a x4 _ h; omega
  | succ n ih =>
    intro k a x4 hk hn ha
    rw [fn_Md_ofTile_8, h1]
    simp only [bn_le (show S.length < 2147483648 by omega) (show k < 2147483648 by omega)]
    by_cases c : S.length ≤ k
    · rw [if_pos c, List.drop_eq_nil_of_le c, show hdS l [] t = [] from rfl, pk_nil]
      by_cases d : 0 ≤ x2
      · rw [if_pos d, if_pos d]
      · rw [if_neg d, if_neg d]; rfl
    · have hk' : k < S.length := by omega
      obtain ⟨q1, q2, q3, q4⟩ := h3 k hk'
      have g := gd_mem (d := sg0) hk'
      have b := h4 _ g
      have o := hok _ g
      rw [gd_drop (d := sg0) hk', hdS_cons]
      have R : 0 ≤ (nI k).toInt ∧ (nI k).toInt < 16500 := by rw [bn_i (by omega)]; omega
      simp only [if_neg c, if_pos R, bn_nn k (show k < 2147483648 by omega), q1, q2, q3, q4]
      generalize S.getD k sg0 = s at *
      have E1 : (nI s.1 = 97) = (s.1 = 97) := propext (bn_eq (b := 97) (by omega) (by omega))
      have E2 : (ow s.2.2.2 = nI t) = (s.2.2.2 = t + 1) := by
        rw [← ow_s]; exact propext (ow_inj b.2 (by omega))
      simp only [E1, E2]
      unfold mo
      by_cases d1 : s.1 = 97
      · by_cases d2 : s.2.2.2 = t + 1
        · have n3 : 3 ≤ s.2.2.1 := o.2.2.2.2.2.2.2.2.2.2.2.2.2.2 (.inr d1)
          have n2 := o.2.2.1
          have hL := hbs_len (.inr d1) n2
          have e3 : nI s.2.2.1 - (3 : Int32) = nI (s.2.2.1 - 3) := bn_sub (b := 3) n3
          rw [if_pos d1, if_pos d2, decide_eq_true ⟨d1, d2⟩, if_pos rfl, e3]
          simp only [bv_lt (x := x2) (show a < 2147483648 by omega), bn_add, bv_le (x := x2) (show a + (s.2.2.1 - 3) < 2147483648 by omega)]
          unfold fn_Md_ofTile_84 fn_Md_ofTile_86 fn_Md_ofTile_93
          simp only [(bn_a k).1, bn_add]
          rw [pk_app, List.length_append, hL, ← Nat.add_assoc]
          by_cases e : x2.toInt < a
          · have : pk a (hbs l s) x2.toInt x4 = x4 := by unfold pk; rw [if_neg (by omega)]
            rw [if_pos e, ih (k + 1) _ _ (by omega) (by omega) (by omega), this]
          · rw [if_neg e]
            by_cases e' : ((a + (s.2.2.1 - 3) : Nat) : Int) ≤ x2.toInt
            · have : pk a (hbs l s) x2.toInt x4 = x4 := by unfold pk; rw [if_neg (by rw [hL]; omega)]
              rw [if_pos e', ih (k + 1) _ _ (by omega) (by omega) (by omega), this]
            · rw [if_neg e', rdM hs (.inr d1) n2 (by omega) (by omega) x4, Option.bind_some, ih (k + 1) _ _ (by omega) (by omega) (by omega)]
        · rw [if_pos d1, if_neg d2, decide_eq_false (by omega), if_neg (show ¬ (false = true) by decide)]
          unfold fn_Md_ofTile_93
          rw [(bn_a k).1, ih (k + 1) _ _ (by omega) (by omega) (by omega)]
      · rw [if_neg d1, decide_eq_false (by omega), if_neg (show ¬ (false = true) by decide)]
        unfold fn_Md_ofTile_93
        rw [(bn_a k).1, ih (k + 1) _ _ (by omega) (by omega) (by omega)]
theorem ofT {F : Nat} (hF : 70000 ≤ F) {w' : wd} {l : List Nat} {S : List sg} {cn : Nat} (hs : str w' l) (hT : tabS w' S) (hok : ∀ s ∈ S, segok l cn s) {t : Nat} (ht : t < 64) {x2 : Int32} (hx : -1 ≤ x2.toInt) : fn_Md_ofTile F w' (nI t) x2 = some (if 0 ≤ x2 then pk 0 (hdS l S t) x2.toInt (-1) else nI (hdS l S t).length) := by
  have := ofT_l (F := F) hs hT hok ht hx F 0 0 (-1) (by omega) (by have := hT.2.1; omega) (by omega)
  rw [List.drop_zero, Nat.zero_add] at this
  exact this
theorem pkd_l {F : Nat} {w' : wd} {l : List Nat} {S : List sg} {cn : Nat} (hs : str w' l) (hT : tabS w' S) (hok : ∀ s ∈ S, segok l cn s) {x2 : Int32} (hx : -1 ≤ x2.toInt) (n : Nat) : ∀ (k a : Nat) (x4 : Int32), k ≤ S.length → S.length - k < n → a ≤ 65536 * k → fn_Md_packed_7 F n w' x2 (nI a) x4 (nI k) = some (if 0 ≤ x2 then pk a (pkL l (S.drop k)) x2.toInt x4 else nI (a + (pkL l (S.drop k)).length)) := by
  obtain ⟨h1, h2, h3, h4⟩ := hT
  have hl := hs.1.1
  induction n with
  | zero => intro k a x4 _ h; omega
  | succ n ih =>
    intro k a x4 hk hn ha
    rw [fn_Md_packed_7, h1]
    simp only [bn_le (show S.length < 2147483648 by omega) (show k < 2147483648 by omega)]
    by_cases c : S.length ≤ k
    · rw [if_pos c, List.drop_eq_nil_of_le c, show pkL l [] = [] from rfl, pk_nil]
      by_cases d : 0 ≤ x2
      · rw [if_pos d, if_pos d]
      · rw [if_neg d, if_neg d]; rfl
    · have hk' : k < S.length := by omega
      obtain ⟨q1, q2, q3, q4⟩ := h3 k hk'
      have g := gd_mem (d := sg0) hk'
      have b := h4 _ g
      have o := hok _ g
      rw [gd_drop (d := sg0) hk', pkL_cons]
      have R : 0 ≤ (nI k).toInt ∧ (nI k).toInt < 16500 := by rw [bn_i (by omega)]; omega
      simp only [if_neg c, if_pos R, bn_nn k (show k < 2147483648 by omega), q1, q2, q3, q4]
      generalize S.getD k sg0 = s at *
      have E1 : (nI s.1 = 96) = (s.1 = 96) := propext (bn_eq (b := 96) (by omega) (by omega))
      simp only [E1]
      unfold i96
      by_cases d1 : s.1 = 96
      · have n3 : 3 ≤ s.2.2.1 := o.2.2.2.2.2.2.2.2.2.2.2.2.2.2 (.inl d1)
        have n2 := o.2.2.1
        have hL := hbs_len (.inl d1) n2
        have e3 : nI s.2.2.1 - (3 : Int32) = nI (s.2.2.1 - 3) := bn_sub (b := 3) n3
        rw [if_pos d1, decide_eq_true d1, if_pos rfl, e3]
        simp only [bv_lt (x := x2) (show a < 2147483648 by omega), bn_add, bv_le (x := x2) (show a + (s.2.2.1 - 3) < 2147483648 by omega)]
        unfold fn_Md_packed_72 fn_Md_packed_73 fn_Md_packed_79
        simp only [(bn_a k).1, bn_add]
        rw [pk_app, List.length_append, hL, ← Nat.add_assoc]
        by_cases e : x2.toInt < a
        · have : pk a (hbs l s) x2.toInt x4 = x4 := by unfold pk; rw [if_neg (by omega)]
          rw [if_pos e, ih (k + 1) _ _ (by omega) (by omega) (by omega), this]
        · rw [if_neg e]
          by_cases e' : ((a + (s.2.2.1 - 3) : Nat) : Int) ≤ x2.toInt
          · have : pk a (hbs l s) x2.toInt x4 = x4 := by unfold pk; rw [if_neg (by rw [hL]; omega)]
            rw [if_pos e', ih (k + 1) _ _ (by omega) (by omega) (by omega), this]
          · rw [if_neg e', rdM hs (.inl d1) n2 (by omega) (by omega) x4, Option.bind_some, ih (k + 1) _ _ (by omega) (by omega) (by omega)]
      · rw [if_neg d1, decide_eq_false (by omega), if_neg (show ¬ (false = true) by decide)]
        unfold fn_Md_packed_79
        rw [(bn_a k).1, ih (k + 1) _ _ (by omega) (by omega) (by omega)]
theorem pkd {F : Nat} (hF : 70000 ≤ F) {w' : wd} {l : List Nat} {S : List sg} {cn : Nat} (hs : str w' l) (hT : tabS w' S) (hok : ∀ s ∈ S, segok l cn s) {x2 : Int32} (hx : -1 ≤ x2.toInt) : fn_Md_packed F w' x2 = some (if 0 ≤ x2 then pk 0 (pkL l S) x2.toInt (-1) else nI (pkL l S).length) := by
  have := pkd_l (F := F) hs hT hok hx F 0 0 (-1) (by omega) (by have := hT.2.1; omega) (by omega)
  rw [List.drop_zero, Nat.zero_add] at this
  exact this
