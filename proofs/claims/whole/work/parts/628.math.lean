/-! mathematics of both state tables, part 28; from wip/math -/
def vok (l : List Nat) (s : sg) : Prop := (s.1 = 82 → 12 ≤ s.2.2.1 ∧ u1 l (s.2.1 + 8) ≤ 1 ∧ u1 l (s.2.1 + 9) ≤ 32 ∧ u1 l (s.2.1 + 13) ≤ 1 ∧ (u1 l (s.2.1 + 4) % 2 = 1 → s.2.2.1 = 13 + u1 l (s.2.1 + 9))) ∧ (s.1 = 83 → 9 ≤ s.2.2.1 ∧ u1 l (s.2.1 + 5) ≤ 1 ∧ u1 l (s.2.1 + 6) ≤ 32 ∧ u1 l (s.2.1 + 10) ≤ 1 ∧ (u1 l (s.2.1 + 5) % 2 = 1 → s.2.2.1 = 10 + u1 l (s.2.1 + 6))) ∧ (s.1 = 92 → 3 ≤ s.2.2.1) ∧ (s.1 = 93 → 4 ≤ s.2.2.1) ∧ (s.1 = 94 → s.2.2.1 = 5) ∧ (s.1 = 95 → 2 ≤ s.2.2.1 ∧ s.2.2.1 ≤ 226) ∧ (s.1 = 96 ∨ s.1 = 97 → 3 ≤ s.2.2.1)
def segok (l : List Nat) (cn : Nat) (s : sg) : Prop := 2 ≤ s.2.1 ∧ s.2.1 + 4 ≤ l.length ∧ s.2.1 + 2 + s.2.2.1 ≤ l.length ∧ 2 ≤ s.2.2.1 ∧ s.2.2.1 = u2 l (s.2.1 + 2) ∧ s.1 < 256 ∧ s.2.2.2 ≤ 64 ∧ (s.1 = 83 ∨ s.1 = 93 ∨ s.1 = 94 → u1 l (s.2.1 + 4) < cn ∧ s.2.1 + 4 < l.length) ∧ vok l s
def mfr (w' w1' : wd) (k : Nat) : Prop := ∀ a j, ¬ (a = 0 ∧ j = 23) → ¬ (12 ≤ a ∧ a ≤ 15 ∧ j = k) → w1' a j = w' a j
theorem look0 {F : Nat} {w' : wd} {l : List Nat} {S : List sg} {m p n o : Nat} (hs : str w' l) (h : tabS w' S) (hl : S.length < 16400) (hm : m < 256) (ho : o ≤ 64) (hn : n = u2 l (p + 2)) (hp : p + 4 ≤ l.length) : ∃ w2', fn_Md_look_98 F w' (nI m) (nI p) (ow o) 0 = some (0, w2') ∧ tabS w2' (S ++ [(m, p, n, o)]) ∧ mfr w' w2' S.length := by
  obtain ⟨h1, h2, h3, h4⟩ := h
  have hll := hs.1.1
  have R : 0 ≤ (nI S.length).toInt ∧ (nI S.length).toInt < 16500 := by rw [bn_i (by omega)]; omega
  unfold fn_Md_look_98
  rw [if_pos (by decide)]
  simp (disch := omega) only [u2n, h1, if_pos R, bn_nn S.length (by omega)]
  have hs2 : str (up2 (up2 w' 12 S.length (nI m)) 13 S.length (nI p)) l := ⟨hs.1, fun i hi => by simp (disch := omega) only [u2n]; exact hs.2 i hi⟩
  simp only [bn_a]
  rw [md_u2 hs2 (by omega), Option.bind_some, ← hn]
  refine ⟨_, rfl, ⟨by rw [u2e rfl rfl, List.length_append]; rfl, by rw [List.length_append]; simp; omega, fun k hk => ?_, fun s hs => ?_⟩, fun a j g1 g2 => ?_⟩
  · simp (disch := omega) only [u2n]
    rw [List.length_append] at hk
    simp only [List.length_cons, List.length_nil] at hk
    simp only [List.getD_eq_getElem?_getD]
    by_cases e : k < S.length
    · rw [List.getElem?_append_left e]
      simp (disch := omega) only [u2n]
      have := h3 k e
      simp only [List.getD_eq_getElem?_getD] at this
      exact this
    · have : k = S.length := by omega
      subst this
      rw [List.getElem?_append_right (by omega)]
      simp (disch := omega) only [u2n, u2e]
      simp
  · rcases List.mem_append.1 hs with g | g
    · exact h4 s g
    · simp at g
      rw [g]
      exact ⟨hm, by show o ≤ 1000; omega⟩
  · simp (disch := omega) only [u2n]
theorem lookN {F : Nat} {w' : wd} {x1 : Int32} {p r : Nat} {x3 : Int32} (hr : 1 ≤ r) (hr2 : r < 100) : fn_Md_look_98 F w' x1 (nI p) x3 (nI r) = some (nI r, up2 w' 0 22 (nI p)) := by
  unfold fn_Md_look_98 fn_Md_no
  rw [if_neg (by rw [show (0 : Int32) = nI 0 from rfl, bn_le (by omega) (by omega)]; omega)]
theorem pr_mo {l : List Nat} {m o c : Nat} (h : ¬ (m = 83 ∨ m = 93 ∨ m = 94)) : pr l m o c = mo m o := by
  funext s
  unfold pr mo
  rw [decide_eq_decide]
  grind
theorem pr_moc {l : List Nat} {m o c : Nat} (h : m = 83 ∨ m = 93 ∨ m = 94) : pr l m o c = moc l m o c := by
  funext s
  unfold pr moc
  rw [decide_eq_decide]
  grind
theorem cP0 {S : List sg} {f : sg → Bool} : S.countP f = 0 ↔ S.any f = false := by
  rw [List.countP_eq_zero]
  simp
theorem md_twice {F : Nat} (hF : 70000 ≤ F) {w w' : wd} {Z : zd} {l : List Nat} {S : List sg} {p m n o cn : Nat} (hs : str w' l) (hT : tabS w' S) (hok : ∀ s ∈ S, segok l cn s) (h : at_ w Z l p m n) (hp4 : p + 4 < l.length ∨ ¬ (m = 83 ∨ m = 93 ∨ m = 94)) (ho : o ≤ 64) (hcn : cn ≤ 16) (hown : fn_Sc_owner Z w = nI o) (hpl : plcs w l S o) (hcmp : m = 83 ∨ m = 93 ∨ m = 94 → u1 l (p + 4) < cn) :
    ∃ b c, c < 16 ∧ fn_Sc_toldComponent Z w = nI c ∧ ((m = 83 ∨ m = 93 ∨ m = 94) → u1 l (p + 4) = c) ∧ fn_Md_isTwice F w' (nI m) (nI p) (ow o) = some b ∧ (fn_Ps_startOf w (fn_Sc_owner Z w) (w 105 7) (fn_Sc_toldComponent Z w) = 0 ↔ b = false) ∧ (b = false → kmk m → plf S (pr l m o c) = 0) := by
  have t0 : fn_Sc_told Z w 0 = nI (u1 l (p + 4)) := told h (k := 0) (by omega)
  obtain ⟨h1, h2, h3, h4, h5, h6, h7, h8⟩ := id h
  have hS1 : ∀ s ∈ S, 1 ≤ s.2.1 := fun s hs => by have := (hok s hs).1; omega
  have hSl : ∀ s ∈ S, s.2.1 ≤ 65536 := fun s hs => by have := (hok s hs).2.1; have := h2.1; omega
  have E : ∀ k : Nat, k < 256 → (nI m = nI k) = (m = k) := fun k hk => propext (bn_eq (by omega) (by omega))
  by_cases cm : m = 83 ∨ m = 93 ∨ m = 94
  · have hc := hcmp cm
    have hp5 := hp4.resolve_right (fun x => x cm)
    have tc : fn_Sc_toldComponent Z w = nI (u1 l (p + 4)) := by
      unfold fn_Sc_toldComponent
      rw [h4, t0]
      rcases cm with rfl | rfl | rfl <;> rfl
    have st : fn_Ps_startOf w (fn_Sc_owner Z w) (w 105 7) (fn_Sc_toldComponent Z w) = nI (plf S (pr l m o (u1 l (p + 4)))) := by
      rw [hown, tc, h4, stOf ho h5 (by omega), if_pos (by omega)]
      exact hpl m _ (by omega) (by unfold kmk; omega)
    have mt : fn_Md_isTwice F w' (nI m) (nI p) (ow o) = some (S.any (moc l m o (u1 l (p + 4)))) := by
      have ml := metOf_l (F := F) (m := m) (o := o) (c := u1 l (p + 4)) hs hT (fun s hs => by
        by_cases e : s.1 = m ∧ s.2.2.2 = o
        · left
          have := (hok s hs).2.2.2.2.2.2.2.1 (by rw [e.1]; exact cm)
          exact this.2
        · exact .inr e) h5 (by omega) (u1_lt h2 _) F 0 false (by omega) (by have := hT.2.1; omega)
      rw [List.drop_zero, Bool.false_or] at ml
      unfold fn_Md_isTwice fn_Md_isTwice_51 fn_Md_metOf
      simp only [bn_a]
      rw [md_u1 hs hp5, Option.bind_some, show (0 : Int32) = nI 0 from rfl, ml, Option.bind_some, obb]
      rcases cm with rfl | rfl | rfl <;> rfl
    refine ⟨_, u1 l (p + 4), by omega, tc, fun _ => rfl, mt, ?_, fun hb _ => ?_⟩
    · have := plf_le (S := S) (f := pr l m o (u1 l (p + 4))) hSl
      rw [st, show (0 : Int32) = nI 0 from rfl, bn_eq (by omega) (by omega), plf_0 hS1, pr_moc cm]
    · rw [plf_0 hS1, pr_moc cm]
      exact hb
  · have tc : fn_Sc_toldComponent Z w = nI 0 := by
      unfold fn_Sc_toldComponent
      rw [h4]
      simp only [show (83 : Int32) = nI 83 from rfl, show (93 : Int32) = nI 93 from rfl, show (94 : Int32) = nI 94 from rfl, E 83 (by omega), E 93 (by omega), E 94 (by omega)]
      rw [if_neg (by omega), if_neg (by omega), if_neg (by omega)]
      rfl
    by_cases k : m = 82 ∨ m = 92 ∨ m = 95
    · have st : fn_Ps_startOf w (fn_Sc_owner Z w) (w 105 7) (fn_Sc_toldComponent Z w) = nI (plf S (pr l m o 0)) := by
        rw [hown, tc, h4, stOf ho h5 (by omega), if_pos (by omega)]
        exact hpl m _ (by omega) (by unfold kmk; omega)
      have mt : fn_Md_isTwice F w' (nI m) (nI p) (ow o) = some (S.any (mo m o)) := by
        have hc : S.countP (mo m o) ≤ S.length := List.countP_le_length
        have hl := hT.2.1
        have : fn_Md_isTwice_18 F w' (nI m) (ow o) = some (S.any (mo m o)) := by
          unfold fn_Md_isTwice_18
          rw [md_met hF hT h5 (by omega), Option.bind_some, ob']
          congr 1
          have q : (nI (S.countP (mo m o)) ≤ 0) ↔ S.any (mo m o) = false := by
            rw [show (0 : Int32) = nI 0 from rfl, bn_le (by omega) (by omega), ← cP0]; omega
          by_cases hz : S.any (mo m o) = false
          · rw [hz, decide_eq_false (fun x => x (q.2 hz))]
          · rw [decide_eq_true (show ¬ nI (S.countP (mo m o)) ≤ 0 from fun x => hz (q.1 x))]
            simpa using hz
        unfold fn_Md_isTwice
        rw [this]
        rcases k with rfl | rfl | rfl <;> rfl
      refine ⟨_, 0, by omega, tc, fun x => absurd x cm, mt, ?_, fun hb _ => ?_⟩
      · have := plf_le (S := S) (f := pr l m o 0) hSl
        rw [st, show (0 : Int32) = nI 0 from rfl, bn_eq (by omega) (by omega), plf_0 hS1, pr_mo cm]
      · rw [plf_0 hS1, pr_mo cm]
        exact hb
    · refine ⟨false, 0, by omega, tc, fun x => absurd x cm, ?_, ?_, fun _ hk => ?_⟩
      · unfold fn_Md_isTwice
        simp only [show (82 : Int32) = nI 82 from rfl, show (92 : Int32) = nI 92 from rfl, show (95 : Int32) = nI 95 from rfl, show (83 : Int32) = nI 83 from rfl, show (93 : Int32) = nI 93 from rfl, show (94 : Int32) = nI 94 from rfl, E 82 (by omega), E 92 (by omega), E 95 (by omega), E 83 (by omega), E 93 (by omega), E 94 (by omega)]
        rw [if_neg (by omega), if_neg (by omega), if_neg (by omega), if_neg (by omega), if_neg (by omega), if_neg (by omega)]
      · rw [hown, tc, h4, stOf ho h5 (by omega), if_neg (by omega)]
        simp
      · unfold kmk at hk
        omega
