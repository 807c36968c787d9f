/-! mathematics of both state tables, part 42; from wip/math -/
def bw (l : List Nat) (b : Nat) (t : Bool) (r : Nat) : Nat := if t = true ∧ r ≤ u1 l b then u1 l (b + 5 + r) % 16 else 15
def bh (l : List Nat) (b : Nat) (t : Bool) (r : Nat) : Nat := if t = true ∧ r ≤ u1 l b then u1 l (b + 5 + r) / 16 else 15
def bodyC (w : wd) (c : Nat) (l : List Nat) (b : Nat) (t : Bool) : Prop := w (6 + 6 * c) 0 = nI (u1 l b) ∧ w (6 + 6 * c) 1 = nI (u1 l (b + 1) + 2) ∧ w (6 + 6 * c) 2 = nI (u1 l (b + 2) + 2) ∧ w (6 + 6 * c) 3 = nI (u1 l (b + 3)) ∧ w (6 + 6 * c) 4 = nI (u1 l (b + 4)) ∧ ∀ r, r < 33 → w (7 + 6 * c) r = nI (bw l b t r) ∧ w (8 + 6 * c) r = nI (bh l b t r)
def bodyM (w' : wd) (c : Nat) (l : List Nat) (b : Nat) (t : Bool) : Prop := w' 6 (8 * c) = nI (u1 l b) ∧ w' 6 (8 * c + 1) = nI (u1 l (b + 1) + 2) ∧ w' 6 (8 * c + 2) = nI (u1 l (b + 2) + 2) ∧ w' 6 (8 * c + 3) = nI (u1 l (b + 3)) ∧ w' 6 (8 * c + 4) = nI (u1 l (b + 4)) ∧ ∀ r, r < 33 → w' 7 (33 * c + r) = nI (bw l b t r) ∧ w' 8 (33 * c + r) = nI (bh l b t r)
def rv (l : List Nat) (b n k : Nat) : Nat := if u1 l b % 32 = 0 then (if k < n then 256 * u1 l (b + 1 + k) else 0) else (if 2 * k + 1 < n then u2 l (b + 1 + 2 * k) else 0)
def rowsC (w : wd) (c : Nat) (l : List Nat) (b n : Nat) : Prop := w (9 + 6 * c) 0 = nI (u1 l b % 32) ∧ w (9 + 6 * c) 1 = nI (u1 l b / 32) ∧ ∀ k, k < 97 → w (10 + 6 * c) k = nI (rv l b n k)
def rowsM (w' : wd) (c : Nat) (l : List Nat) (b n : Nat) : Prop := w' 6 (8 * c + 5) = nI (u1 l b % 32) ∧ w' 6 (8 * c + 6) = nI (u1 l b / 32) ∧ ∀ k, k < 97 → w' 9 (97 * c + k) = nI (rv l b n k)
theorem lb76 {F : Nat} {Z : zd} {l : List Nat} (hz : Z.1.1 = l) (hb : byt l) {c b fl : Nat} (hb2 : b < 65536) (hf : fl < 256) (ho : fl % 2 = 1) (hL : u1 l b ≤ 32) (n : Nat) : ∀ (w : wd) (r : Nat), r ≤ u1 l b + 1 → u1 l b + 1 - r < n → ∃ w1, fn_Ld_loadBody_76 F Z n w c (nI b) (nI fl) (nI (u1 l b)) (nI r) = some w1 ∧ ∀ a j, w1 a j = if a = 7 + 6 * c ∧ r ≤ j ∧ j ≤ u1 l b then nI (u1 l (b + 5 + j) % 16) else if a = 8 + 6 * c ∧ r ≤ j ∧ j ≤ u1 l b then nI (u1 l (b + 5 + j) / 16) else w a j := by
  induction n with
  | zero => intro w r _ h; omega
  | succ n ih =>
    intro w r h1 h2
    rw [fn_Ld_loadBody_76, an1 (by omega), ho, if_neg (by decide)]
    simp only [bn_lt (show u1 l b < 2147483648 by omega) (show r < 2147483648 by omega)]
    by_cases k : u1 l b < r
    · rw [if_pos k]
      exact ⟨w, rfl, fun a j => by rw [if_neg (by omega), if_neg (by omega)]⟩
    · rw [if_neg k, (bn_a b).2.2.2.2.1, bn_add, hz, ru1 _ _ (by omega), (bn_a r).1]
      have u := u1_lt hb (b + 5 + r)
      rw [an15 (by omega), show (4 : Int32) = nI 4 from rfl, bn_shr (by omega) (by omega)]
      have sp : fn_Cd_setPrecinct w c (nI r) (nI (u1 l (b + 5 + r) % 16)) (nI (u1 l (b + 5 + r) / 2 ^ 4)) = up2 (up2 w (7 + 6 * c) r (nI (u1 l (b + 5 + r) % 16))) (8 + 6 * c) r (nI (u1 l (b + 5 + r) / 16)) := by
        unfold fn_Cd_setPrecinct
        simp only [show (0 : Int32) = nI 0 from rfl, show (33 : Int32) = nI 33 from rfl]
        rw [if_neg (by rw [bn_lt (by omega) (by omega)]; omega), if_neg (by rw [bn_le (by omega) (by omega)]; omega), if_neg (by rw [bn_le (by omega) (by omega)]; omega), bn_nn _ (by omega)]
      rw [sp]
      obtain ⟨w1, x1, x2⟩ := ih (up2 (up2 w (7 + 6 * c) r (nI (u1 l (b + 5 + r) % 16))) (8 + 6 * c) r (nI (u1 l (b + 5 + r) / 16))) (r + 1) (by omega) (by omega)
      refine ⟨w1, x1, fun a j => ?_⟩
      rw [x2]
      by_cases d1 : a = 7 + 6 * c ∧ r ≤ j ∧ j ≤ u1 l b
      · rw [if_pos d1]
        by_cases e : j = r
        · subst e
          rw [if_neg (by omega), if_neg (by omega), u2n (by omega), u2e d1.1 rfl]
        · rw [if_pos (by omega)]
      · rw [if_neg d1, if_neg (by omega)]
        by_cases d2 : a = 8 + 6 * c ∧ r ≤ j ∧ j ≤ u1 l b
        · rw [if_pos d2]
          by_cases e : j = r
          · subst e
            rw [if_neg (by omega), u2e d2.1 rfl]
          · rw [if_pos (by omega)]
        · rw [if_neg d2, if_neg (by omega), u2n (by omega), u2n (by omega)]
theorem loadBody {F : Nat} (hF : 200 ≤ F) {Z : zd} {l : List Nat} (hz : Z.1.1 = l) (hb : byt l) (w : wd) {c b fl : Nat} (hb2 : b < 65536) (hf : fl < 256) (hL : u1 l b ≤ 32) (h4 : u1 l (b + 4) ≤ 1) : ∃ w1, fn_Ld_loadBody F Z w c (nI b) (nI fl) = some w1 ∧ bodyC w1 c l b (decide (fl % 2 = 1)) ∧ ∀ a j, ¬ (6 + 6 * c ≤ a ∧ a ≤ 8 + 6 * c) → w1 a j = w a j := by
  have eB : fn_Ld_loadBody F Z w c (nI b) (nI fl) = fn_Ld_loadBody_76 F Z F (fn_Cd_resetPrecincts (fn_Cd_setBlocks w c (nI (u1 l b)) (nI (u1 l (b + 1) + 2)) (nI (u1 l (b + 2) + 2)) (nI (u1 l (b + 3))) (decide (u1 l (b + 4) = 1))) c) c (nI b) (nI fl) (nI (u1 l b)) (nI 0) := by
    unfold fn_Ld_loadBody fn_Ld_loadBody_66
    simp only [bn_a, hz]
    rw [ru1 _ _ (by omega), ru1 _ _ (by omega), ru1 _ _ (by omega), ru1 _ _ (by omega), ru1 _ _ (by omega)]
    by_cases e : u1 l (b + 4) = 1
    · rw [e, if_pos (show nI 1 = 1 from rfl)]
      rfl
    · rw [show u1 l (b + 4) = 0 by omega, if_neg (show ¬ nI 0 = 1 by decide)]
      rfl
  rw [eB]
  generalize hw0 : fn_Cd_resetPrecincts (fn_Cd_setBlocks w c (nI (u1 l b)) (nI (u1 l (b + 1) + 2)) (nI (u1 l (b + 2) + 2)) (nI (u1 l (b + 3))) (decide (u1 l (b + 4) = 1))) c = w0
  have F0 : ∀ a j, ¬ (6 + 6 * c ≤ a ∧ a ≤ 8 + 6 * c) → w0 a j = w a j := fun a j q => by
    rw [← hw0]; unfold fn_Cd_resetPrecincts fn_Cd_setBlocks
    simp (disch := omega) only [f2n, u2n]
  have F6 : w0 (6 + 6 * c) 0 = nI (u1 l b) ∧ w0 (6 + 6 * c) 1 = nI (u1 l (b + 1) + 2) ∧ w0 (6 + 6 * c) 2 = nI (u1 l (b + 2) + 2) ∧ w0 (6 + 6 * c) 3 = nI (u1 l (b + 3)) ∧ w0 (6 + 6 * c) 4 = nI (u1 l (b + 4)) := by
    rw [← hw0]; unfold fn_Cd_resetPrecincts fn_Cd_setBlocks
    simp (disch := omega) only [f2n, u2n, u2e]
    refine ⟨trivial, trivial, trivial, trivial, ?_⟩
    by_cases e : u1 l (b + 4) = 1
    · rw [e]; rfl
    · rw [show u1 l (b + 4) = 0 by omega]; rfl
  have F7 : ∀ r, r < 33 → w0 (7 + 6 * c) r = nI 15 ∧ w0 (8 + 6 * c) r = nI 15 := fun r hr => by
    rw [← hw0]; unfold fn_Cd_resetPrecincts fn_Cd_setBlocks
    simp (disch := omega) only [f2n, f2e]
    exact ⟨rfl, rfl⟩
  clear hw0 eB
  by_cases ho : fl % 2 = 1
  · obtain ⟨w1, x1, x2⟩ := lb76 (F := F) (c := c) hz hb hb2 hf ho hL F w0 0 (by omega) (by omega)
    refine ⟨w1, x1, ⟨?_, ?_, ?_, ?_, ?_, fun r hr => ?_⟩, fun a j q => ?_⟩
    · rw [x2, if_neg (by omega), if_neg (by omega)]; exact F6.1
    · rw [x2, if_neg (by omega), if_neg (by omega)]; exact F6.2.1
    · rw [x2, if_neg (by omega), if_neg (by omega)]; exact F6.2.2.1
    · rw [x2, if_neg (by omega), if_neg (by omega)]; exact F6.2.2.2.1
    · rw [x2, if_neg (by omega), if_neg (by omega)]; exact F6.2.2.2.2
    · unfold bw bh
      by_cases d : r ≤ u1 l b
      · rw [if_pos ⟨decide_eq_true ho, d⟩, if_pos ⟨decide_eq_true ho, d⟩]
        exact ⟨by rw [x2, if_pos (by omega)], by rw [x2, if_neg (by omega), if_pos (by omega)]⟩
      · rw [if_neg (fun x => d x.2), if_neg (fun x => d x.2)]
        exact ⟨by rw [x2, if_neg (by omega), if_neg (by omega)]; exact (F7 r hr).1, by rw [x2, if_neg (by omega), if_neg (by omega)]; exact (F7 r hr).2⟩
    · rw [x2, if_neg (by omega), if_neg (by omega)]; exact F0 a j q
  · obtain ⟨F', hF'⟩ : ∃ F', F = F' + 1 := ⟨F - 1, by omega⟩
    have x1 : fn_Ld_loadBody_76 F Z F w0 c (nI b) (nI fl) (nI (u1 l b)) (nI 0) = some w0 := by
      have : fn_Ld_loadBody_76 F Z (F' + 1) w0 c (nI b) (nI fl) (nI (u1 l b)) (nI 0) = some w0 := by
        rw [fn_Ld_loadBody_76, an1 (by omega), show fl % 2 = 0 by omega, if_pos (show nI 0 = 0 from rfl)]
      rw [← hF'] at this; exact this
    refine ⟨w0, x1, ⟨F6.1, F6.2.1, F6.2.2.1, F6.2.2.2.1, F6.2.2.2.2, fun r hr => ?_⟩, F0⟩
    unfold bw bh
    rw [decide_eq_false ho, if_neg (fun x => nomatch x.1), if_neg (fun x => nomatch x.1)]
    exact F7 r hr
theorem tb93 {F : Nat} {l : List Nat} {c b : Nat} (hc : c < 16) (t : Bool) (hb0 : b < l.length) (hbt : t = true → b + 5 + u1 l b < l.length) (hL : u1 l b ≤ 32) (n : Nat) : ∀ (w' : wd) (r : Nat), str w' l → r ≤ 33 → 33 - r < n → ∃ w1', fn_Md_takeBody_93 F n w' (nI c) (nI b) t (nI r) = some w1' ∧ ∀ a j, w1' a j = if a = 7 ∧ 33 * c + r ≤ j ∧ j < 33 * c + 33 then nI (bw l b t (j - 33 * c)) else if a = 8 ∧ 33 * c + r ≤ j ∧ j < 33 * c + 33 then nI (bh l b t (j - 33 * c)) else w' a j := by
  induction n with
  | zero => intro w' r _ _ h; omega
  | succ n ih =>
    intro w' r hs h1 h2
    have hl := hs.1.1
    rw [fn_Md_takeBody_93]
    simp only [show (33 : Int32) = nI 33 from rfl, bn_le (show 33 < 2147483648 by omega) (show r < 2147483648 by omega)]
    by_cases k : 33 ≤ r
    · rw [if_pos k]
      exact ⟨w', rfl, fun a j => by rw [if_neg (by omega), if_neg (by omega)]⟩
    · have hr33 : r < 33 := by omega
      have R := i33 hc hr33
      have key : fn_Md_takeBody_93 F n (up2 (up2 w' 7 (33 * c + r) (nI (bw l b t r))) 8 (33 * c + r) (nI (bh l b t r))) (nI c) (nI b) t (nI (r + 1)) = (if t = true then ((fn_Md_u1 w' (nI b)).bind fun r40 => (if r40 < nI r then fn_Md_takeBody_118 (fn_Md_takeBody_93 F n) F w' (nI c) (nI b) t (nI r) else fn_Md_takeBody_119 (fn_Md_takeBody_93 F n) F w' (nI c) (nI b) t (nI r) true)) else fn_Md_takeBody_118 (fn_Md_takeBody_93 F n) F w' (nI c) (nI b) t (nI r)) := by
        have h118 : fn_Md_takeBody_118 (fn_Md_takeBody_93 F n) F w' (nI c) (nI b) t (nI r) = fn_Md_takeBody_93 F n (up2 (up2 w' 7 (33 * c + r) (nI 15)) 8 (33 * c + r) (nI 15)) (nI c) (nI b) t (nI (r + 1)) := by
          unfold fn_Md_takeBody_118 fn_Md_takeBody_119
          rw [if_neg (by decide)]
          unfold fn_Md_takeBody_155 fn_Md_takeBody_190
          rw [show (33 : Int32) = nI 33 from rfl, bn_mul, bn_add, if_pos R.1, R.2, if_neg (by decide), if_pos R.1, (bn_a r).1]
          rfl
        rw [h118]
        unfold bw bh
        cases t with
        | false => simp only [Bool.false_eq_true, false_and, if_false]
        | true =>
          have hbt := hbt rfl
          rw [if_pos rfl, md_u1 hs hb0, Option.bind_some]
          have e1 : (nI (u1 l b) < nI r) = (u1 l b < r) := propext (bn_lt (by omega) (by omega))
          simp only [e1]
          by_cases d : u1 l b < r
          · rw [if_pos d, if_neg (by omega), if_neg (by omega)]
          · rw [if_neg d, if_pos ⟨trivial, by omega⟩, if_pos ⟨trivial, by omega⟩]
            have u := u1_lt hs.1 (b + 5 + r)
            have hs2 : str (up2 w' 7 (33 * c + r) (nI (u1 l (b + 5 + r) % 16))) l := ⟨hs.1, fun i hi => by rw [u2n (by omega)]; exact hs.2 i hi⟩
            unfold fn_Md_takeBody_119
            rw [if_pos rfl, (bn_a b).2.2.2.2.1, bn_add, md_u1 hs (by omega), Option.bind_some, show (16 : Int32) = nI 16 from rfl, bn_rem (by omega) (by omega)]
            unfold fn_Md_takeBody_155 fn_Md_takeBody_190
            rw [show (33 : Int32) = nI 33 from rfl, bn_mul, bn_add, if_pos R.1, R.2, if_pos rfl, (bn_a b).2.2.2.2.1, bn_add, md_u1 hs2 (by omega), Option.bind_some, if_pos R.1, show (16 : Int32) = nI 16 from rfl, bn_div (by omega) (by omega), (bn_a r).1]
      rw [if_neg k, ← key]
      obtain ⟨w1, x1, x2⟩ := ih (up2 (up2 w' 7 (33 * c + r) (nI (bw l b t r))) 8 (33 * c + r) (nI (bh l b t r))) (r + 1) ⟨hs.1, fun i hi => by simp (disch := omega) only [u2n]; exact hs.2 i hi⟩ (by omega) (by omega)
      refine ⟨w1, x1, fun a j => ?_⟩
      rw [x2]
      by_cases d1 : a = 7 ∧ 33 * c + r ≤ j ∧ j < 33 * c + 33
      · rw [if_pos d1]
        by_cases e : j = 33 * c + r
        · subst e
          rw [if_neg (by omega), if_neg (by omega), u2n (by omega), u2e d1.1 rfl, Nat.add_sub_cancel_left]
        · rw [if_pos (by omega)]
      · rw [if_neg d1, if_neg (by omega)]
        by_cases d2 : a = 8 ∧ 33 * c + r ≤ j ∧ j < 33 * c + 33
        · rw [if_pos d2]
          by_cases e : j = 33 * c + r
          · subst e
            rw [if_neg (by omega), u2e d2.1 rfl, Nat.add_sub_cancel_left]
          · rw [if_pos (by omega)]
        · rw [if_neg d2, if_neg (by omega), u2n (by omega), u2n (by omega)]
theorem takeBody {F : Nat} (hF : 200 ≤ F) {w' : wd} {l : List Nat} (hs : str w' l) {c b : Nat} (hc : c < 16) (t : Bool) (hb4 : b + 4 < l.length) (hbt : t = true → b + 5 + u1 l b < l.length) (hL : u1 l b ≤ 32) : ∃ w1', fn_Md_takeBody F w' (nI c) (nI b) t = some w1' ∧ bodyM w1' c l b t ∧ (∀ a j, ¬ (a = 6 ∧ 8 * c ≤ j ∧ j < 8 * c + 5) → ¬ ((a = 7 ∨ a = 8) ∧ 33 * c ≤ j ∧ j < 33 * c + 33) → w1' a j = w' a j) := by
  have ss : ∀ (v : wd) (j : Nat) (x : Int32), str v l → str (up2 v 6 j x) l := fun v j x h => ⟨h.1, fun i hi => by rw [u2n (by omega)]; exact h.2 i hi⟩
  have e8 : (8 : Int32) * nI c = nI (8 * c) := bn_mul 8 c
  have eT : fn_Md_takeBody F w' (nI c) (nI b) t = fn_Md_takeBody_93 F F (up2 (up2 (up2 (up2 (up2 w' 6 (8 * c) (nI (u1 l b))) 6 (8 * c + 1) (nI (u1 l (b + 1) + 2))) 6 (8 * c + 2) (nI (u1 l (b + 2) + 2))) 6 (8 * c + 3) (nI (u1 l (b + 3)))) 6 (8 * c + 4) (nI (u1 l (b + 4)))) (nI c) (nI b) t (nI 0) := by
    unfold fn_Md_takeBody
    simp only [e8, bn_a]
    rw [md_u1 hs (by omega), Option.bind_some, if_pos (i80 hc).1, (i80 hc).2, md_u1 (ss _ _ _ hs) (by omega), Option.bind_some, if_pos (i8 hc (by omega)).1, (i8 hc (by omega)).2, (bn_a _).2.1, md_u1 (ss _ _ _ (ss _ _ _ hs)) (by omega), Option.bind_some, if_pos (i8 hc (by omega)).1, (i8 hc (by omega)).2, (bn_a _).2.1, md_u1 (ss _ _ _ (ss _ _ _ (ss _ _ _ hs))) (by omega), Option.bind_some, if_pos (i8 hc (by omega)).1, (i8 hc (by omega)).2, md_u1 (ss _ _ _ (ss _ _ _ (ss _ _ _ (ss _ _ _ hs)))) (by omega), Option.bind_some, if_pos (i8 hc (by omega)).1, (i8 hc (by omega)).2]
    rfl
  rw [eT]
  obtain ⟨w1, x1, x2⟩ := tb93 (F := F) hc t (show b < l.length by omega) hbt hL F _ 0 (ss _ _ _ (ss _ _ _ (ss _ _ _ (ss _ _ _ (ss _ _ _ hs))))) (by omega) (by omega)
  refine ⟨w1, x1, ⟨?_, ?_, ?_, ?_, ?_, fun r hr => ⟨?_, ?_⟩⟩, fun a j q1 q2 => ?_⟩
  · rw [x2, if_neg (by omega), if_neg (by omega)]; simp (disch := omega) only [u2n, u2e]
  · rw [x2, if_neg (by omega), if_neg (by omega)]; simp (disch := omega) only [u2n, u2e]
  · rw [x2, if_neg (by omega), if_neg (by omega)]; simp (disch := omega) only [u2n, u2e]
  · rw [x2, if_neg (by omega), if_neg (by omega)]; simp (disch := omega) only [u2n, u2e]
  · rw [x2, if_neg (by omega), if_neg (by omega)]; simp (disch := omega) only [u2e]
  · rw [x2, if_pos (by omega), Nat.add_sub_cancel_left]
  · rw [x2, if_neg (by omega), if_pos (by omega), Nat.add_sub_cancel_left]
  · rw [x2, if_neg (by omega), if_neg (by omega)]; simp (disch := omega) only [u2n]
