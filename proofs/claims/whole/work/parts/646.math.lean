/-! mathematics of both state tables, part 46; from wip/math -/
theorem uq_pl {l : List Nat} {S : List sg} {m o c : Nat} {s : sg} (h : uq l S) (hk : kmk m) (hs : s ∈ S) (hp : pr l m o c s = true) : s.2.1 = plf S (pr l m o c) := by
  have h1 := h m o c hk
  rw [List.countP_eq_length_filter] at h1
  have m1 : s ∈ S.filter (pr l m o c) := List.mem_filter.2 ⟨hs, hp⟩
  unfold plf
  cases e : S.find? (pr l m o c) with
  | none =>
    rw [List.find?_eq_none] at e
    exact absurd hp (e s hs)
  | some s0 =>
    have m2 : s0 ∈ S.filter (pr l m o c) := List.mem_filter.2 ⟨List.mem_of_find?_eq_some e, List.find?_some e⟩
    generalize S.filter (pr l m o c) = L at *
    match L, h1, m1, m2 with
    | [], _, m1, _ => simp at m1
    | [y], _, m1, m2 =>
      simp at m1 m2
      rw [m1, m2]
    | _ :: _ :: _, h1, _, _ => simp at h1
theorem loadOwner {F : Nat} (hF : 70000 ≤ F) {Z : zd} {l : List Nat} (hz : Z.1.1 = l) (hb : byt l) {S : List sg} {cn o n : Nat} (hok : ∀ s ∈ S, segok l cn s) (ho : o ≤ 64) (hn : n ≤ 16) (w : wd) (hp : plcs w l S o) (h12 : w 1 2 = nI n) : ∃ W, fn_Ld_loadOwner F Z w (nI o) = some W ∧ (∀ x, x < n → compC W w l S o x) ∧ chgW W w l S o ∧ ((plf S (pr l 82 o 0) ≠ 0 → genC W l (plf S (pr l 82 o 0) + 4)) ∧ (plf S (pr l 82 o 0) = 0 → ∀ j, 3 ≤ j → j ≤ 7 → W 1 j = w 1 j)) ∧ ∀ a j, a ≠ 4 → ¬ (a = 1 ∧ (3 ≤ j ∧ j ≤ 7 ∨ j = 9)) → ¬ (5 ≤ a ∧ a < 5 + 6 * n) → W a j = w a j := by
  have hl := hb.1
  have so : fn_Ps_startOf w (nI o) 82 0 = nI (plf S (pr l 82 o 0)) := by
    rw [show fn_Ps_startOf w (nI o) 82 0 = _ from stOf (m := 82) (c := 0) ho (by omega) (by omega), if_pos (by omega)]
    exact hp 82 0 (by omega) (by unfold kmk; omega)
  have hle : plf S (pr l 82 o 0) ≤ 65536 := plf_le (fun s hs => by have := (hok s hs).2.1; omega)
  have z0 : (nI (plf S (pr l 82 o 0)) = 0) = (plf S (pr l 82 o 0) = 0) := propext (bn_eq (b := 0) (by omega) (by omega))
  unfold fn_Ld_loadOwner fn_Ld_loadOwner_23
  rw [so]
  simp only [z0]
  by_cases d : plf S (pr l 82 o 0) = 0
  · rw [if_pos d]
    obtain ⟨W, x1, x2, x3, x4⟩ := lo25 hF hz hb hok ho hn F w 0 hp h12 (by omega) (by omega)
    exact ⟨W, x1, fun x hx => x2 x (by omega) hx, x3, ⟨fun h => absurd d h, fun _ j j1 j2 => x4 _ _ (by omega) (by omega) (by omega)⟩, fun a j q1 q2 q3 => x4 a j q1 (by omega) (by omega)⟩
  · rw [if_neg d]
    obtain ⟨k1, _⟩ := sgk hok d
    have kv := k1.2.2.2.2.2.2.2.2.1 rfl
    have k3 : plf S (pr l 82 o 0) + 2 + u2 l (plf S (pr l 82 o 0) + 2) ≤ l.length := k1.2.2.1
    have v1 : 12 ≤ u2 l (plf S (pr l 82 o 0) + 2) := kv.1
    obtain ⟨g1, g2⟩ := loadGeneral hz hb w (d := plf S (pr l 82 o 0) + 4) (by omega) kv.2.1
    rw [(bn_a _).2.2.2.1]
    obtain ⟨W, x1, x2, x3, x4⟩ := lo25 hF hz hb hok ho hn F (fn_Ld_loadGeneral Z w (nI (plf S (pr l 82 o 0) + 4))) 0 (fun m c hc hk => by rw [g2 _ _ (by omega)]; exact hp m c hc hk) (by rw [g2 _ _ (by omega)]; exact h12) (by omega) (by omega)
    refine ⟨W, x1, fun x hx => compC_fr (x2 x (by omega) hx) (fun _ _ _ _ => rfl) (fun a j r1 r2 => g2 a j (by omega)), ⟨x3.1, fun h => ?_⟩, ⟨fun _ => ?_, fun h => absurd h d⟩, fun a j q1 q2 q3 => by rw [x4 a j q1 (by omega) (by omega), g2 a j (by omega)]⟩
    · obtain ⟨e1, e2⟩ := x3.2 h
      exact ⟨by rw [e1, g2 _ _ (by omega)], fun j => by rw [e2, g2 _ _ (by omega)]⟩
    · obtain ⟨y1, y2, y3, y4, y5⟩ := g1
      exact ⟨by rw [x4 _ _ (by omega) (by omega) (by omega)]; exact y1, by rw [x4 _ _ (by omega) (by omega) (by omega)]; exact y2, by rw [x4 _ _ (by omega) (by omega) (by omega)]; exact y3, by rw [x4 _ _ (by omega) (by omega) (by omega)]; exact y4, by rw [x4 _ _ (by omega) (by omega) (by omega)]; exact y5⟩
def inM (n a j : Nat) : Prop := (a = 6 ∧ j < 8 * n) ∨ ((a = 7 ∨ a = 8) ∧ j < 33 * n) ∨ (a = 9 ∧ j < 97 * n)
theorem takeCoding {F : Nat} (hF : 200 ≤ F) {w' : wd} {l : List Nat} (hs : str w' l) {d n : Nat} (hn : n ≤ 16) (h3 : w' 0 3 = nI n) (hd : d + 9 < l.length) (hL : u1 l (d + 5) ≤ 32) (hbt : u1 l d % 2 = 1 → d + 10 + u1 l (d + 5) < l.length) : ∃ w1', fn_Md_takeCoding F w' (nI d) = some w1' ∧ genM w1' l d ∧ (∀ x, x < n → bodyM w1' x l (d + 5) (decide (u1 l d % 2 = 1))) ∧ (∀ a j, ¬ (a = 0 ∧ 8 ≤ j ∧ j ≤ 12) → ¬ (a = 6 ∧ ∃ x, x < n ∧ 8 * x ≤ j ∧ j < 8 * x + 5) → ¬ ((a = 7 ∨ a = 8) ∧ j < 33 * n) → w1' a j = w' a j) := by
  have u := u1_lt hs.1 d
  have s0 : ∀ (v : wd) (j : Nat) (x : Int32), str v l → str (up2 v 0 j x) l := fun v j x h => ⟨h.1, fun i hi => by rw [u2n (by omega)]; exact h.2 i hi⟩
  have eT : fn_Md_takeCoding F w' (nI d) = fn_Md_takeCoding_61 F F (up2 (up2 (up2 (up2 (up2 w' 0 8 (nI (u1 l (d + 1)))) 0 9 (nI (u2 l (d + 2)))) 0 10 (nI (u1 l (d + 4)))) 0 11 (nI (u1 l d / 2 % 2))) 0 12 (nI (u1 l d / 4 % 2))) (nI d) (nI 0) := by
    unfold fn_Md_takeCoding
    simp only [bn_a]
    rw [md_u1 hs (by omega), Option.bind_some, md_u2 (s0 _ _ _ hs) (by omega), Option.bind_some, md_u1 (s0 _ _ _ (s0 _ _ _ hs)) (by omega), Option.bind_some, md_u1 (s0 _ _ _ (s0 _ _ _ (s0 _ _ _ hs))) (by omega), Option.bind_some, show ((nI (u1 l d)) >>> ((1 : Int32) &&& 31)) &&& (1 : Int32) = nI (u1 l d / 2 % 2) by rw [show (1 : Int32) &&& 31 = nI 1 &&& 31 from rfl, bn_shr (by omega) (by omega), an1 (by omega)], md_u1 (s0 _ _ _ (s0 _ _ _ (s0 _ _ _ (s0 _ _ _ hs)))) (by omega), Option.bind_some, show ((nI (u1 l d)) >>> ((2 : Int32) &&& 31)) &&& (1 : Int32) = nI (u1 l d / 4 % 2) by rw [show (2 : Int32) &&& 31 = nI 2 &&& 31 from rfl, bn_shr (by omega) (by omega), an1 (by omega)]]
    rfl
  rw [eT]
  obtain ⟨w1, x1, x2, x3⟩ := tc61 hF hn hd hL hbt F (up2 (up2 (up2 (up2 (up2 w' 0 8 (nI (u1 l (d + 1)))) 0 9 (nI (u2 l (d + 2)))) 0 10 (nI (u1 l (d + 4)))) 0 11 (nI (u1 l d / 2 % 2))) 0 12 (nI (u1 l d / 4 % 2))) 0 (s0 _ _ _ (s0 _ _ _ (s0 _ _ _ (s0 _ _ _ (s0 _ _ _ hs))))) (by simp (disch := omega) only [u2n]; exact h3) (by omega) (by omega)
  have Y : ∀ j, w1 0 j = (up2 (up2 (up2 (up2 (up2 w' 0 8 (nI (u1 l (d + 1)))) 0 9 (nI (u2 l (d + 2)))) 0 10 (nI (u1 l (d + 4)))) 0 11 (nI (u1 l d / 2 % 2))) 0 12 (nI (u1 l d / 4 % 2))) 0 j := fun j => x3 0 j (fun ⟨z, _⟩ => by omega) (fun ⟨z, _⟩ => by omega)
  refine ⟨w1, x1, ⟨?_, ?_, ?_, ?_, ?_⟩, fun x hx => x2 x (by omega) hx, fun a j q1 q2 q3 => ?_⟩
  · rw [Y]; simp (disch := omega) only [u2n, u2e]
  · rw [Y]; simp (disch := omega) only [u2n, u2e]
  · rw [Y]; simp (disch := omega) only [u2n, u2e]
  · rw [Y]; simp (disch := omega) only [u2n, u2e]
  · rw [Y]; simp (disch := omega) only [u2e]
  · rw [x3 a j (fun ⟨z, y, y1, y2, y3, y4⟩ => q2 ⟨z, y, y2, y3, y4⟩) (fun ⟨z, y, y1, y2, y3, y4⟩ => q3 ⟨z, by omega⟩)]
    simp (disch := omega) only [u2n]
theorem t48 {F : Nat} (hF : 200 ≤ F) {l : List Nat} {S : List sg} {o n k p : Nat} (hn : n ≤ 16) (hk : k < S.length) (hp : p = (S.getD k sg0).2.1) (hm : (S.getD k sg0).1 = 92 ∧ (S.getD k sg0).2.2.2 = o) (h3' : 3 ≤ (S.getD k sg0).2.2.1) (hlen : p + 2 + (S.getD k sg0).2.2.1 ≤ l.length) (k2 : wd → Int32 → Int32 → Option wd) (g : Nat) : ∀ (w' : wd) (c : Nat), str w' l → tabS w' S → w' 0 3 = nI n → c ≤ n → n - c < g → ∃ w1', fn_Md_take_48 k2 F g w' (ow o) (nI k) (nI p) (nI c) = k2 w1' (ow o) (nI (k + 1)) ∧ (∀ x, c ≤ x → x < n → rowsM w1' x l (p + 4) ((S.getD k sg0).2.2.1 - 3)) ∧ (∀ a j, ¬ (a = 6 ∧ ∃ x, c ≤ x ∧ x < n ∧ (j = 8 * x + 5 ∨ j = 8 * x + 6)) → ¬ (a = 9 ∧ 97 * c ≤ j ∧ j < 97 * n) → w1' a j = w' a j) := by
  induction g with
  | zero => intro w' c _ _ _ _ h; omega
  | succ g ih =>
    intro w' c hs hT h3 h1 h2
    have hl := hs.1.1
    obtain ⟨t1, t2, t3, t4⟩ := id hT
    obtain ⟨q1, q2, q3, q4⟩ := t3 k hk
    have R : 0 ≤ (nI k).toInt ∧ (nI k).toInt < 16500 := by rw [bn_i (by omega)]; omega
    rw [fn_Md_take_48, h3]
    simp only [bn_le (show n < 2147483648 by omega) (show c < 2147483648 by omega)]
    by_cases d : n ≤ c
    · rw [if_pos d]
      unfold fn_Md_take_101
      rw [(bn_a k).1]
      exact ⟨w', rfl, fun x z1 z2 => by omega, fun _ _ _ _ => rfl⟩
    · simp only [if_neg d, if_pos R, bn_nn k (show k < 2147483648 by omega)]
      rw [q1, q3, q4, hm.1, hm.2, if_pos rfl, if_pos (show nI 92 = 92 from rfl), show (3 : Int32) = nI 3 from rfl, bn_sub h3', (bn_a p).2.2.2.1]
      obtain ⟨w1, x1, x2, x3⟩ := takeRows hF hs (c := c) (b := p + 4) (n0 := (S.getD k sg0).2.2.1 - 3) (by omega) (by omega) (by omega)
      rw [x1, Option.bind_some, (bn_a c).1]
      obtain ⟨w2, y1, y2, y3⟩ := ih w1 (c + 1) ⟨hs.1, fun i hi => by rw [x3 _ _ (by omega) (by omega)]; exact hs.2 i hi⟩ ⟨by rw [x3 _ _ (by omega) (by omega)]; exact t1, t2, fun k' hk' => by rw [x3 _ _ (by omega) (by omega), x3 _ _ (by omega) (by omega), x3 _ _ (by omega) (by omega), x3 _ _ (by omega) (by omega)]; exact t3 k' hk', t4⟩ (by rw [x3 _ _ (by omega) (by omega)]; exact h3) (by omega) (by omega)
      refine ⟨w2, y1, fun x z1 z2 => ?_, fun a j z1 z2 => ?_⟩
      · by_cases e : x = c
        · subst e
          obtain ⟨r1, r2, r3⟩ := x2
          refine ⟨?_, ?_, fun k' hk' => ?_⟩
          · rw [y3 _ _ (fun ⟨_, y, y1, y2, y3⟩ => by omega) (fun ⟨y, _⟩ => by omega)]; exact r1
          · rw [y3 _ _ (fun ⟨_, y, y1, y2, y3⟩ => by omega) (fun ⟨y, _⟩ => by omega)]; exact r2
          · rw [y3 _ _ (fun ⟨y, _⟩ => by omega) (fun ⟨_, y1, y2⟩ => by omega)]; exact r3 k' hk'
        · exact y2 x (by omega) z2
      · rw [y3 a j (fun ⟨z, y, y1, y2, y3⟩ => z1 ⟨z, y, by omega, y2, y3⟩) (fun ⟨z, y1, y2⟩ => z2 ⟨z, by omega, y2⟩)]
        exact x3 a j (fun ⟨z, y⟩ => z1 ⟨z, c, by omega, by omega, y⟩) (fun ⟨z, y1, y2⟩ => z2 ⟨z, y1, by omega⟩)
