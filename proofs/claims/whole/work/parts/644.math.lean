/-! mathematics of both state tables, part 44; from wip/math -/
theorem an2 : ∀ a, a < 256 → (nI a &&& 2 = 0 ↔ a / 2 % 2 = 0) := by decide +kernel
theorem an4 : ∀ a, a < 256 → (nI a &&& 4 = 0 ↔ a / 4 % 2 = 0) := by decide +kernel
def genC (w : wd) (l : List Nat) (d : Nat) : Prop := w 1 3 = nI (u1 l (d + 1)) ∧ w 1 4 = nI (u2 l (d + 2)) ∧ w 1 5 = nI (u1 l (d + 4)) ∧ w 1 6 = nI (u1 l d / 2 % 2) ∧ w 1 7 = nI (u1 l d / 4 % 2)
def genM (w' : wd) (l : List Nat) (d : Nat) : Prop := w' 0 8 = nI (u1 l (d + 1)) ∧ w' 0 9 = nI (u2 l (d + 2)) ∧ w' 0 10 = nI (u1 l (d + 4)) ∧ w' 0 11 = nI (u1 l d / 2 % 2) ∧ w' 0 12 = nI (u1 l d / 4 % 2)
theorem loadGeneral {Z : zd} {l : List Nat} (hz : Z.1.1 = l) (hb : byt l) (w : wd) {d : Nat} (hd : d + 4 < l.length) (h4 : u1 l (d + 4) ≤ 1) : genC (fn_Ld_loadGeneral Z w (nI d)) l d ∧ ∀ a j, ¬ (a = 1 ∧ 3 ≤ j ∧ j ≤ 7) → (fn_Ld_loadGeneral Z w (nI d)) a j = w a j := by
  have hl := hb.1
  have u := u1_lt hb d
  have e : fn_Ld_loadGeneral Z w (nI d) = fn_Pl_setGeneral w (nI (u1 l (d + 1))) (nI (u2 l (d + 2))) (decide (u1 l (d + 4) = 1)) (decide (u1 l d / 2 % 2 = 1)) (decide (u1 l d / 4 % 2 = 1)) := by
    have a2 := an2 (u1 l d) u
    have a4 := an4 (u1 l d) u
    have h63 : ∀ (s0 s1 : Bool) (s2 s3 : Int32), fn_Ld_loadGeneral_63 Z w (nI (u1 l d)) s0 s1 s2 s3 = fn_Pl_setGeneral w s3 s2 s1 s0 (decide (u1 l d / 4 % 2 = 1)) := by
      intro s0 s1 s2 s3
      unfold fn_Ld_loadGeneral_63
      by_cases q : u1 l d / 4 % 2 = 0
      · rw [if_pos (a4.2 q), decide_eq_false (by omega)]
      · rw [if_neg (fun x => q (a4.1 x)), decide_eq_true (by omega)]
    have h52 : ∀ (s0 : Bool) (s1 s2 : Int32), fn_Ld_loadGeneral_52 Z w (nI (u1 l d)) s0 s1 s2 = fn_Pl_setGeneral w s2 s1 s0 (decide (u1 l d / 2 % 2 = 1)) (decide (u1 l d / 4 % 2 = 1)) := by
      intro s0 s1 s2
      unfold fn_Ld_loadGeneral_52
      by_cases q : u1 l d / 2 % 2 = 0
      · rw [if_pos (a2.2 q), h63, decide_eq_false (show ¬ u1 l d / 2 % 2 = 1 by omega)]
      · rw [if_neg (fun x => q (a2.1 x)), h63, decide_eq_true (show u1 l d / 2 % 2 = 1 by omega)]
    unfold fn_Ld_loadGeneral
    simp only [bn_a, hz]
    rw [ru1 _ _ (by omega), ru1 _ _ (by omega), ru1 _ _ (by omega), ru2 hl (by omega), h52, h52]
    by_cases q : u1 l (d + 4) = 1
    · rw [if_pos (by rw [q]; rfl), decide_eq_true q]
    · rw [if_neg (by rw [show u1 l (d + 4) = 0 by omega]; decide), decide_eq_false q]
  rw [e]
  unfold fn_Pl_setGeneral
  have B : ∀ x : Nat, x ≤ 1 → bi (decide (x = 1)) = nI x := fun x hx => by
    rcases (show x = 0 ∨ x = 1 by omega) with rfl | rfl <;> rfl
  refine ⟨⟨?_, ?_, ?_, ?_, ?_⟩, fun a j q => by simp (disch := omega) only [u2n]⟩
  · simp (disch := omega) only [u2n, u2e]
  · simp (disch := omega) only [u2n, u2e]
  · simp (disch := omega) only [u2n, u2e]; exact B _ h4
  · simp (disch := omega) only [u2n, u2e]; exact B _ (by omega)
  · simp (disch := omega) only [u2e]; exact B _ (by omega)
theorem tc61 {F : Nat} (hF : 200 ≤ F) {l : List Nat} {d n : Nat} (hn : n ≤ 16) (hd : d + 9 < l.length) (hL : u1 l (d + 5) ≤ 32) (hbt : u1 l d % 2 = 1 → d + 10 + u1 l (d + 5) < l.length) (g : Nat) : ∀ (w' : wd) (c : Nat), str w' l → w' 0 3 = nI n → c ≤ n → n - c < g → ∃ w1', fn_Md_takeCoding_61 F g w' (nI d) (nI c) = some w1' ∧ (∀ x, c ≤ x → x < n → bodyM w1' x l (d + 5) (decide (u1 l d % 2 = 1))) ∧ (∀ a j, ¬ (a = 6 ∧ ∃ x, c ≤ x ∧ x < n ∧ 8 * x ≤ j ∧ j < 8 * x + 5) → ¬ ((a = 7 ∨ a = 8) ∧ ∃ x, c ≤ x ∧ x < n ∧ 33 * x ≤ j ∧ j < 33 * x + 33) → w1' a j = w' a j) := by
  induction g with
  | zero => intro w' c _ _ _ h; omega
  | succ g ih =>
    intro w' c hs h3 h1 h2
    have u := u1_lt hs.1 d
    rw [fn_Md_takeCoding_61, h3]
    simp only [bn_le (show n < 2147483648 by omega) (show c < 2147483648 by omega)]
    by_cases k : n ≤ c
    · rw [if_pos k]
      exact ⟨w', rfl, fun x q1 q2 => by omega, fun _ _ _ _ => rfl⟩
    · have hc : c < 16 := by omega
      obtain ⟨w1, x1, x2, x3⟩ := takeBody hF hs hc (decide (u1 l d % 2 = 1)) (b := d + 5) (by omega) (fun t => by have := hbt (of_decide_eq_true t); omega) hL
      have key : (if nI (u1 l d) &&& 1 = 1 then fn_Md_takeCoding_90 (fn_Md_takeCoding_61 F g) F w' (nI d) (nI c) true (nI d + 5) (nI c) else fn_Md_takeCoding_90 (fn_Md_takeCoding_61 F g) F w' (nI d) (nI c) false (nI d + 5) (nI c)) = fn_Md_takeCoding_61 F g w1 (nI d) (nI (c + 1)) := by
        unfold fn_Md_takeCoding_90
        rw [an1 (by omega), (bn_a d).2.2.2.2.1, (bn_a c).1]
        by_cases q : u1 l d % 2 = 1
        · rw [decide_eq_true q] at x1
          rw [q, if_pos (show nI 1 = 1 from rfl), x1, Option.bind_some]
        · rw [decide_eq_false q] at x1
          rw [show u1 l d % 2 = 0 by omega, if_neg (show ¬ nI 0 = 1 by decide), x1, Option.bind_some]
      rw [if_neg k, md_u1 hs (by omega), Option.bind_some, key]
      obtain ⟨w2, y1, y2, y3⟩ := ih w1 (c + 1) ⟨hs.1, fun i hi => by rw [x3 _ _ (by omega) (by omega)]; exact hs.2 i hi⟩ (by rw [x3 _ _ (by omega) (by omega)]; exact h3) (by omega) (by omega)
      refine ⟨w2, y1, fun x q1 q2 => ?_, fun a j q1 q2 => ?_⟩
      · by_cases e : x = c
        · subst e
          have F6 : ∀ j, j < 8 * x + 8 → w2 6 j = w1 6 j := fun j hj => y3 _ _ (fun ⟨_, z, z1, z2, z3, z4⟩ => by omega) (fun ⟨z, _⟩ => by omega)
          have F7 : ∀ a j, a = 7 ∨ a = 8 → j < 33 * x + 33 → w2 a j = w1 a j := fun a j ha hj => y3 _ _ (fun ⟨z, _⟩ => by omega) (fun ⟨_, z, z1, z2, z3, z4⟩ => by omega)
          obtain ⟨p1, p2, p3, p4, p5, p6⟩ := x2
          refine ⟨?_, ?_, ?_, ?_, ?_, fun r hr => ?_⟩
          · rw [F6 _ (by omega)]; exact p1
          · rw [F6 _ (by omega)]; exact p2
          · rw [F6 _ (by omega)]; exact p3
          · rw [F6 _ (by omega)]; exact p4
          · rw [F6 _ (by omega)]; exact p5
          · rw [F7 _ _ (.inl rfl) (by omega), F7 _ _ (.inr rfl) (by omega)]; exact p6 r hr
        · exact y2 x (by omega) q2
      · rw [y3 a j (fun ⟨z0, z, z1, z2, z3, z4⟩ => q1 ⟨z0, z, by omega, z2, z3, z4⟩) (fun ⟨z0, z, z1, z2, z3, z4⟩ => q2 ⟨z0, z, by omega, z2, z3, z4⟩)]
        exact x3 a j (fun ⟨z0, z1, z2⟩ => q1 ⟨z0, c, by omega, by omega, z1, z2⟩) (fun ⟨z0, z1, z2⟩ => q2 ⟨z0, c, by omega, by omega, z1, z2⟩)
def cv (l : List Nat) (p i : Nat) : Nat := match i % 6 with
  | 0 => u1 l (p + 4 + 7 * (i / 6))
  | 1 => u1 l (p + 4 + 7 * (i / 6) + 1)
  | 2 => u2 l (p + 4 + 7 * (i / 6) + 2)
  | 3 => u1 l (p + 4 + 7 * (i / 6) + 4)
  | 4 => if u1 l (p + 4 + 7 * (i / 6) + 5) = 0 then 256 else u1 l (p + 4 + 7 * (i / 6) + 5)
  | _ => u1 l (p + 4 + 7 * (i / 6) + 6)
theorem cv_k (l : List Nat) (p k : Nat) : cv l p (6 * k) = u1 l (p + 4 + 7 * k) ∧ cv l p (6 * k + 1) = u1 l (p + 4 + 7 * k + 1) ∧ cv l p (6 * k + 2) = u2 l (p + 4 + 7 * k + 2) ∧ cv l p (6 * k + 3) = u1 l (p + 4 + 7 * k + 4) ∧ cv l p (6 * k + 4) = (if u1 l (p + 4 + 7 * k + 5) = 0 then 256 else u1 l (p + 4 + 7 * k + 5)) ∧ cv l p (6 * k + 5) = u1 l (p + 4 + 7 * k + 6) := by
  unfold cv
  have e0 : 6 * k / 6 = k ∧ 6 * k % 6 = 0 := by omega
  have e1 : (6 * k + 1) / 6 = k ∧ (6 * k + 1) % 6 = 1 := by omega
  have e2 : (6 * k + 2) / 6 = k ∧ (6 * k + 2) % 6 = 2 := by omega
  have e3 : (6 * k + 3) / 6 = k ∧ (6 * k + 3) % 6 = 3 := by omega
  have e4 : (6 * k + 4) / 6 = k ∧ (6 * k + 4) % 6 = 4 := by omega
  have e5 : (6 * k + 5) / 6 = k ∧ (6 * k + 5) % 6 = 5 := by omega
  rw [e0.1, e0.2, e1.1, e1.2, e2.1, e2.2, e3.1, e3.2, e4.1, e4.2, e5.1, e5.2]
  exact ⟨rfl, rfl, rfl, rfl, rfl, rfl⟩
def chgC (w : wd) (l : List Nat) (p q : Nat) : Prop := w 1 9 = nI q ∧ ∀ i, i < 6 * q → w 4 i = nI (cv l p i)
def chgM (w' : wd) (l : List Nat) (p q : Nat) : Prop := w' 0 17 = nI q ∧ ∀ i, i < 6 * q → w' 10 i = nI (cv l p i)
theorem lc31 {F : Nat} {Z : zd} {l : List Nat} (hz : Z.1.1 = l) (hb : byt l) {p q : Nat} (hq : q ≤ 32) (hp : p + 4 + 7 * q ≤ l.length) (n : Nat) : ∀ (w : wd) (k : Nat), chgC w l p k → k ≤ q → q - k < n → ∃ w1, fn_Ld_loadChanges_31 F Z n w (nI p) (nI q) (nI k) = some w1 ∧ chgC w1 l p q ∧ ∀ a j, ¬ (a = 1 ∧ j = 9) → a ≠ 4 → w1 a j = w a j := by
  have hl := hb.1
  induction n with
  | zero => intro w k _ _ h; omega
  | succ n ih =>
    intro w k hc h1 h2
    rw [fn_Ld_loadChanges_31]
    simp only [bn_le (show q < 2147483648 by omega) (show k < 2147483648 by omega)]
    by_cases d : q ≤ k
    · rw [if_pos d]
      have : k = q := by omega
      subst this
      exact ⟨w, rfl, hc, fun _ _ _ _ => rfl⟩
    · have e7 : (7 : Int32) * nI k = nI (7 * k) := bn_mul 7 k
      obtain ⟨v0, v1, v2, v3, v4, v5⟩ := cv_k l p k
      have u5 := u1_lt hb (p + 4 + 7 * k + 5)
      have key : (if (nI (rw_u1 Z.1.1 (((nI p + (4 : Int32)) + ((7 : Int32) * nI k)) + (5 : Int32)).toInt)) = 0 then fn_Ld_loadChanges_77 (fn_Ld_loadChanges_31 F Z n) F Z w (nI p) (nI q) (nI k) ((nI p + (4 : Int32)) + ((7 : Int32) * nI k)) (256 : Int32) else fn_Ld_loadChanges_77 (fn_Ld_loadChanges_31 F Z n) F Z w (nI p) (nI q) (nI k) ((nI p + (4 : Int32)) + ((7 : Int32) * nI k)) (nI (rw_u1 Z.1.1 (((nI p + (4 : Int32)) + ((7 : Int32) * nI k)) + (5 : Int32)).toInt))) = ((fn_Pl_addChange w (nI (cv l p (6 * k))) (nI (cv l p (6 * k + 1))) (nI (cv l p (6 * k + 2))) (nI (cv l p (6 * k + 3))) (nI (cv l p (6 * k + 4))) (nI (cv l p (6 * k + 5)))).bind fun r6 => fn_Ld_loadChanges_31 F Z n r6 (nI p) (nI q) (nI (k + 1))) := by
        unfold fn_Ld_loadChanges_77
        rw [e7]
        simp only [bn_a, bn_add, hz]
        rw [ru1 _ _ (by omega), ru1 _ _ (by omega), ru1 _ _ (by omega), ru2 hl (by omega), ru1 _ _ (by omega), ru1 _ _ (by omega), v0, v1, v2, v3, v4, v5]
        by_cases z : u1 l (p + 4 + 7 * k + 5) = 0
        · rw [z, if_pos (show nI 0 = 0 from rfl), if_pos rfl]
          rfl
        · rw [if_neg (by rw [show (0 : Int32) = nI 0 from rfl, bn_eq (by omega) (by omega)]; exact z), if_neg z]
      rw [if_neg d, key, pl_addChange hc.1 (by omega), Option.bind_some]
      obtain ⟨w1, x1, x2, x3⟩ := ih (up2 (up2 (up2 (up2 (up2 (up2 (up2 w 4 (6 * k) (nI (cv l p (6 * k)))) 4 (6 * k + 1) (nI (cv l p (6 * k + 1)))) 4 (6 * k + 2) (nI (cv l p (6 * k + 2)))) 4 (6 * k + 3) (nI (cv l p (6 * k + 3)))) 4 (6 * k + 4) (nI (cv l p (6 * k + 4)))) 4 (6 * k + 5) (nI (cv l p (6 * k + 5)))) 1 9 (nI (k + 1))) (k + 1) (by
        refine ⟨u2e rfl rfl, fun i hi => ?_⟩
        by_cases q : i < 6 * k
        · simp (disch := omega) only [u2n]; exact hc.2 i q
        · rcases (show i = 6 * k ∨ i = 6 * k + 1 ∨ i = 6 * k + 2 ∨ i = 6 * k + 3 ∨ i = 6 * k + 4 ∨ i = 6 * k + 5 by omega) with rfl | rfl | rfl | rfl | rfl | rfl <;> simp (disch := omega) only [u2n, u2e]) (by omega) (by omega)
      refine ⟨w1, x1, x2, fun a j q1 q2 => ?_⟩
      rw [x3 a j q1 q2]
      simp (disch := omega) only [u2n]
theorem tc20 {F : Nat} {l : List Nat} {p q : Nat} (hq : q ≤ 32) (hp : p + 4 + 7 * q ≤ l.length) (n : Nat) : ∀ (w' : wd) (k : Nat), str w' l → chgM w' l p k → k ≤ q → q - k < n → ∃ w1', fn_Md_takeChanges_20 F n w' (nI p) (nI q) (nI k) = some w1' ∧ chgM w1' l p q ∧ ∀ a j, ¬ (a = 0 ∧ j = 17) → a ≠ 10 → w1' a j = w' a j := by
  induction n with
  | zero => intro w' k _ _ _ h; omega
  | succ n ih =>
    intro w' k hs hc h1 h2
    rw [fn_Md_takeChanges_20]
    simp only [bn_le (show q < 2147483648 by omega) (show k < 2147483648 by omega)]
    by_cases d : q ≤ k
    · rw [if_pos d]
      have : k = q := by omega
      subst this
      exact ⟨w', rfl, hc, fun _ _ _ _ => rfl⟩
    · have e7 : (7 : Int32) * nI k = nI (7 * k) := bn_mul 7 k
      obtain ⟨v0, v1, v2, v3, v4, v5⟩ := cv_k l p k
      have u5 := u1_lt hs.1 (p + 4 + 7 * k + 5)
      rw [if_neg d]
      unfold fn_Md_takeChanges_91
      simp only [e7, bn_a, bn_add]
      rw [md_u1 hs (by omega), Option.bind_some, md_u1 hs (by omega), Option.bind_some, md_u2 hs (by omega), Option.bind_some, md_u1 hs (by omega), Option.bind_some, md_u1 hs (by omega), Option.bind_some, md_u1 hs (by omega), Option.bind_some, Option.bind_some, Option.bind_some]
      have key : (if nI (u1 l (p + 4 + 7 * k + 5)) = 0 then (fn_Md_turn w' (nI (u1 l (p + 4 + 7 * k))) (nI (u1 l (p + 4 + 7 * k + 1))) (nI (u2 l (p + 4 + 7 * k + 2))) (nI (u1 l (p + 4 + 7 * k + 4))) 256 (nI (u1 l (p + 4 + 7 * k + 6)))).bind fun r21 => fn_Md_takeChanges_20 F n r21 (nI p) (nI q) (nI (k + 1)) else (fn_Md_turn w' (nI (u1 l (p + 4 + 7 * k))) (nI (u1 l (p + 4 + 7 * k + 1))) (nI (u2 l (p + 4 + 7 * k + 2))) (nI (u1 l (p + 4 + 7 * k + 4))) (nI (u1 l (p + 4 + 7 * k + 5))) (nI (u1 l (p + 4 + 7 * k + 6)))).bind fun r21 => fn_Md_takeChanges_20 F n r21 (nI p) (nI q) (nI (k + 1))) = ((fn_Md_turn w' (nI (cv l p (6 * k))) (nI (cv l p (6 * k + 1))) (nI (cv l p (6 * k + 2))) (nI (cv l p (6 * k + 3))) (nI (cv l p (6 * k + 4))) (nI (cv l p (6 * k + 5)))).bind fun r21 => fn_Md_takeChanges_20 F n r21 (nI p) (nI q) (nI (k + 1))) := by
        rw [v0, v1, v2, v3, v4, v5]
        by_cases z : u1 l (p + 4 + 7 * k + 5) = 0
        · rw [z, if_pos (show nI 0 = 0 from rfl), if_pos rfl]
          rfl
        · rw [if_neg (by rw [show (0 : Int32) = nI 0 from rfl, bn_eq (by omega) (by omega)]; exact z), if_neg z]
      rw [key, md_turn hc.1 (by omega), Option.bind_some]
      obtain ⟨w1, x1, x2, x3⟩ := ih (up2 (up2 (up2 (up2 (up2 (up2 (up2 w' 10 (6 * k) (nI (cv l p (6 * k)))) 10 (6 * k + 1) (nI (cv l p (6 * k + 1)))) 10 (6 * k + 2) (nI (cv l p (6 * k + 2)))) 10 (6 * k + 3) (nI (cv l p (6 * k + 3)))) 10 (6 * k + 4) (nI (cv l p (6 * k + 4)))) 10 (6 * k + 5) (nI (cv l p (6 * k + 5)))) 0 17 (nI (k + 1))) (k + 1) ⟨hs.1, fun i hi => by simp (disch := omega) only [u2n]; exact hs.2 i hi⟩ (by
        refine ⟨u2e rfl rfl, fun i hi => ?_⟩
        by_cases q : i < 6 * k
        · simp (disch := omega) only [u2n]; exact hc.2 i q
        · rcases (show i = 6 * k ∨ i = 6 * k + 1 ∨ i = 6 * k + 2 ∨ i = 6 * k + 3 ∨ i = 6 * k + 4 ∨ i = 6 * k + 5 by omega) with rfl | rfl | rfl | rfl | rfl | rfl <;> simp (disch := omega) only [u2n, u2e]) (by omega) (by omega)
      refine ⟨w1, x1, x2, fun a j q1 q2 => ?_⟩
      rw [x3 a j q1 q2]
      simp (disch := omega) only [u2n]
