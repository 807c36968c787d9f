/-! mathematics of both state tables, part 2; from wip/math -/
def rc (w w' : wd) (c : Nat) : Prop :=
  (w (5 + 6 * c) 0 = w' 2 c ∧ w (5 + 6 * c) 1 = w' 3 c ∧ w (5 + 6 * c) 2 = w' 4 c ∧ w (5 + 6 * c) 3 = w' 5 c ∧ w (5 + 6 * c) 4 = w' 6 (8 * c + 7)) ∧
  (w (6 + 6 * c) 0 = w' 6 (8 * c) ∧ w (6 + 6 * c) 1 = w' 6 (8 * c + 1) ∧ w (6 + 6 * c) 2 = w' 6 (8 * c + 2) ∧ w (6 + 6 * c) 3 = w' 6 (8 * c + 3) ∧ w (6 + 6 * c) 4 = w' 6 (8 * c + 4)) ∧
  (w (9 + 6 * c) 0 = w' 6 (8 * c + 5) ∧ w (9 + 6 * c) 1 = w' 6 (8 * c + 6)) ∧
  ((w (5 + 6 * c) 1 = 0 ∨ w (5 + 6 * c) 1 = 1) ∧ (w (6 + 6 * c) 4 = 0 ∨ w (6 + 6 * c) 4 = 1) ∧ 0 ≤ w (6 + 6 * c) 0 ∧ w (6 + 6 * c) 0 ≤ 32) ∧
  (∀ r, r < 33 → w (7 + 6 * c) r = w' 7 (33 * c + r)) ∧ (∀ r, r < 33 → w (8 + 6 * c) r = w' 8 (33 * c + r)) ∧
  (∀ k, k < 97 → w (10 + 6 * c) k = w' 9 (97 * c + k) ∧ 0 ≤ w (10 + 6 * c) k ∧ w (10 + 6 * c) k ≤ 65535)
def ra (w w' : wd) : Prop := (∀ i, i < 8 → w 2 i = w' 1 i) ∧
  ((w' 0 2 = 1 ∧ 0 ≤ w' 1 0 ∧ w' 1 0 < w' 1 2 ∧ 0 ≤ w' 1 1 ∧ w' 1 1 < w' 1 3) ∨ (w' 0 2 = 0 ∧ w' 1 2 = 0))
def rg (w w' : wd) : Prop := (w 1 3 = w' 0 8 ∧ w 1 4 = w' 0 9 ∧ w 1 5 = w' 0 10 ∧ w 1 6 = w' 0 11 ∧ w 1 7 = w' 0 12) ∧
  ((w 1 5 = 0 ∨ w 1 5 = 1) ∧ (w 1 6 = 0 ∨ w 1 6 = 1) ∧ (w 1 7 = 0 ∨ w 1 7 = 1))
def rcs (w w' : wd) (n : Nat) : Prop := w 1 2 = nI n ∧ w' 0 3 = nI n ∧ n ≤ 16 ∧ ∀ c, c < n → rc w w' c
def rch (w w' : wd) (k : Nat) : Prop := w 1 9 = nI k ∧ w' 0 17 = nI k ∧ k ≤ 32 ∧ ∀ i, i < 6 * k → w 4 i = w' 10 i
theorem ra_fr {w w' w1 w1' : wd} (h : ra w w') (h1 : ∀ j, w1 2 j = w 2 j) (h2 : w1' 0 2 = w' 0 2) (h3 : ∀ j, w1' 1 j = w' 1 j) : ra w1 w1' := by
  unfold ra at *
  simp only [h1, h2, h3]
  exact h
theorem rg_fr {w w' w1 w1' : wd} (h : rg w w') (h1 : ∀ j, 3 ≤ j → j ≤ 7 → w1 1 j = w 1 j) (h2 : ∀ j, 8 ≤ j → j ≤ 12 → w1' 0 j = w' 0 j) : rg w1 w1' := by
  unfold rg at *
  rw [h1 3 (by omega) (by omega), h1 4 (by omega) (by omega), h1 5 (by omega) (by omega), h1 6 (by omega) (by omega), h1 7 (by omega) (by omega), h2 8 (by omega) (by omega), h2 9 (by omega) (by omega), h2 10 (by omega) (by omega), h2 11 (by omega) (by omega), h2 12 (by omega) (by omega)]
  exact h
theorem rc_fr {w w' w1 w1' : wd} {c : Nat} (hc : c < 16) (h : rc w w' c) (h2 : ∀ a j, 5 + 6 * c ≤ a → a < 11 + 6 * c → w1 a j = w a j) (h3 : ∀ a j, 2 ≤ a → a ≤ 9 → (a ≤ 5 → j = c) → (a = 6 → 8 * c ≤ j ∧ j < 8 * c + 8) → (a = 7 ∨ a = 8 → 33 * c ≤ j ∧ j < 33 * c + 33) → (a = 9 → 97 * c ≤ j ∧ j < 97 * c + 97) → w1' a j = w' a j) : rc w1 w1' c := by
  unfold rc at *
  obtain ⟨⟨a1, a2, a3, a4, a5⟩, ⟨b1, b2, b3, b4, b5⟩, ⟨c1, c2⟩, ⟨d1, d2, d3, d4⟩, e1, e2, e3⟩ := h
  simp (disch := omega) only [h2]
  simp (disch := omega) only [h3]
  refine ⟨⟨a1, a2, a3, a4, a5⟩, ⟨b1, b2, b3, b4, b5⟩, ⟨c1, c2⟩, ⟨d1, d2, d3, d4⟩, fun r hr => ?_, fun r hr => ?_, fun r hr => ?_⟩
  · rw [h3 _ _ (by omega) (by omega) (by omega) (by omega) (by omega) (by omega)]; exact e1 r hr
  · rw [h3 _ _ (by omega) (by omega) (by omega) (by omega) (by omega) (by omega)]; exact e2 r hr
  · rw [h3 _ _ (by omega) (by omega) (by omega) (by omega) (by omega) (by omega)]; exact e3 r hr
theorem rcs_fr {w w' w1 w1' : wd} {n : Nat} (h : rcs w w' n) (h1 : w1 1 2 = w 1 2) (h2 : ∀ a j, 5 ≤ a → a < 101 → w1 a j = w a j) (h3 : w1' 0 3 = w' 0 3) (h4 : ∀ a j, 2 ≤ a → a ≤ 9 → w1' a j = w' a j) : rcs w1 w1' n := by
  obtain ⟨a1, a2, a3, a4⟩ := h
  refine ⟨h1 ▸ a1, h3 ▸ a2, a3, fun c hc => rc_fr (by omega) (a4 c hc) (fun a j h5 h6 => h2 a j (by omega) (by omega)) (fun a j h5 h6 _ _ _ _ => h4 a j h5 h6)⟩
theorem rch_fr {w w' w1 w1' : wd} {k : Nat} (h : rch w w' k) (h1 : w1 1 9 = w 1 9) (h2 : ∀ j, w1 4 j = w 4 j) (h3 : w1' 0 17 = w' 0 17) (h4 : ∀ j, w1' 10 j = w' 10 j) : rch w1 w1' k := by
  unfold rch at *
  rw [h1, h3]
  simp only [h2, h4]
  exact h
def rpl (w w' : wd) : Prop := ra w w' ∧ rg w w' ∧ (∃ n, rcs w w' n) ∧ ∃ k, rch w w' k
theorem md_refT (w : wd) (b : Bool) : fn_Md_refuse w true b = (true, up2 w 0 0 1) := by
  simp [fn_Md_refuse, fn_Md_refuse_18, up2]
theorem md_refF (w : wd) : fn_Md_refuse w false true = (true, up2 w 0 0 2) := by
  simp [fn_Md_refuse, fn_Md_refuse_18, up2]
theorem md_ref0 (w : wd) : fn_Md_refuse w false false = (false, up2 w 0 0 0) := by
  simp [fn_Md_refuse, fn_Md_refuse_18, up2]
theorem rpl_t {w w' : wd} (v : Int32) (h : rpl w w') : rpl w (up2 w' 0 0 v) := by
  obtain ⟨h1, h2, ⟨n, h3⟩, k, h4⟩ := h
  exact ⟨ra_fr h1 (fun j => rfl) (by simp [up2]) (by simp [up2]), rg_fr h2 (fun _ _ _ => rfl) (fun j h5 _ => by simp only [up2]; rw [if_neg]; omega), ⟨n, rcs_fr h3 rfl (fun _ _ _ _ => rfl) (by simp [up2]) (fun a j h5 _ => by simp only [up2]; rw [if_neg]; omega)⟩, k, rch_fr h4 rfl (fun _ => rfl) (by simp [up2]) (by simp [up2])⟩
def cd1 {τ : Type} (r : τ ⊕ String) : Int32 := match r with
  | .inl _ => 0
  | .inr _ => 1
def cd2 {τ : Type} (e : String) (r : τ ⊕ String) : Int32 := match r with
  | .inl _ => 0
  | .inr x => if x = e then 1 else 2
theorem i0 : (0 : Int32).toInt = 0 := rfl
theorem rpl_ra {w w' w1 w1' : wd} (h : rpl w w') (hn : ra w1 w1') (h1 : ∀ a j, a ≠ 2 → w1 a j = w a j) (h2 : ∀ a j, a ≠ 1 → ¬ (a = 0 ∧ (j = 0 ∨ j = 2)) → w1' a j = w' a j) : rpl w1 w1' := by
  obtain ⟨_, g2, ⟨n, g3⟩, k, g4⟩ := h
  exact ⟨hn, rg_fr g2 (fun j _ _ => h1 _ _ (by omega)) (fun j _ _ => h2 _ _ (by omega) (by omega)), ⟨n, rcs_fr g3 (h1 _ _ (by omega)) (fun a j _ _ => h1 _ _ (by omega)) (h2 _ _ (by omega) (by omega)) (fun a j _ _ => h2 _ _ (by omega) (by omega))⟩, k, rch_fr g4 (h1 _ _ (by omega)) (fun j => h1 _ _ (by omega)) (h2 _ _ (by omega) (by omega)) (fun j => h2 _ _ (by omega) (by omega))⟩
theorem rpl_rg {w w' w1 w1' : wd} (h : rpl w w') (hn : rg w1 w1') (h1 : ∀ a j, ¬ (a = 1 ∧ 3 ≤ j ∧ j ≤ 7) → w1 a j = w a j) (h2 : ∀ a j, ¬ (a = 0 ∧ (j = 0 ∨ 8 ≤ j ∧ j ≤ 12)) → w1' a j = w' a j) : rpl w1 w1' := by
  obtain ⟨g1, _, ⟨n, g3⟩, k, g4⟩ := h
  exact ⟨ra_fr g1 (fun j => h1 _ _ (by omega)) (h2 _ _ (by omega)) (fun j => h2 _ _ (by omega)), hn, ⟨n, rcs_fr g3 (h1 _ _ (by omega)) (fun a j _ _ => h1 _ _ (by omega)) (h2 _ _ (by omega)) (fun a j _ _ => h2 _ _ (by omega))⟩, k, rch_fr g4 (h1 _ _ (by omega)) (fun j => h1 _ _ (by omega)) (h2 _ _ (by omega)) (fun j => h2 _ _ (by omega))⟩
theorem rpl_rcs {w w' w1 w1' : wd} {n : Nat} (h : rpl w w') (hn : rcs w1 w1' n) (h1 : ∀ a j, ¬ (a = 1 ∧ j = 2) → ¬ (5 ≤ a ∧ a < 101) → w1 a j = w a j) (h2 : ∀ a j, ¬ (a = 0 ∧ (j = 0 ∨ j = 3)) → ¬ (2 ≤ a ∧ a ≤ 9) → w1' a j = w' a j) : rpl w1 w1' := by
  obtain ⟨g1, g2, _, k, g4⟩ := h
  exact ⟨ra_fr g1 (fun j => h1 _ _ (by omega) (by omega)) (h2 _ _ (by omega) (by omega)) (fun j => h2 _ _ (by omega) (by omega)), rg_fr g2 (fun j _ _ => h1 _ _ (by omega) (by omega)) (fun j _ _ => h2 _ _ (by omega) (by omega)), ⟨n, hn⟩, k, rch_fr g4 (h1 _ _ (by omega) (by omega)) (fun j => h1 _ _ (by omega) (by omega)) (h2 _ _ (by omega) (by omega)) (fun j => h2 _ _ (by omega) (by omega))⟩
theorem rpl_rch {w w' w1 w1' : wd} {k : Nat} (h : rpl w w') (hn : rch w1 w1' k) (h1 : ∀ a j, ¬ (a = 1 ∧ j = 9) → a ≠ 4 → w1 a j = w a j) (h2 : ∀ a j, ¬ (a = 0 ∧ (j = 0 ∨ j = 17)) → a ≠ 10 → w1' a j = w' a j) : rpl w1 w1' := by
  obtain ⟨g1, g2, ⟨n, g3⟩, _⟩ := h
  exact ⟨ra_fr g1 (fun j => h1 _ _ (by omega) (by omega)) (h2 _ _ (by omega) (by omega)) (fun j => h2 _ _ (by omega) (by omega)), rg_fr g2 (fun j _ _ => h1 _ _ (by omega) (by omega)) (fun j _ _ => h2 _ _ (by omega) (by omega)), ⟨n, rcs_fr g3 (h1 _ _ (by omega) (by omega)) (fun a j _ _ => h1 _ _ (by omega) (by omega)) (h2 _ _ (by omega) (by omega)) (fun a j _ _ => h2 _ _ (by omega) (by omega))⟩, k, hn⟩
def pfr (w w1 : wd) : Prop := ∀ a j, a = 0 ∨ 101 ≤ a → w1 a j = w a j
def pfr' (w' w1' : wd) : Prop := ∀ a j, 11 ≤ a ∨ (a = 0 ∧ 18 ≤ j) → w1' a j = w' a j
def pok {τ : Type} (Z : zd) (w w' : wd) (R : (τ ⊕ String) × wd × zd) (w1' : wd) (cd : Int32) : Prop := rpl R.2.1 w1' ∧ pfr w R.2.1 ∧ pfr' w' w1' ∧ R.2.2 = Z ∧ w1' 0 0 = cd
theorem pok_t {τ : Type} {Z : zd} {w w' : wd} (h : rpl w w') (r : τ ⊕ String) (v : Int32) : pok Z w w' (r, w, Z) (up2 w' 0 0 v) v :=
  ⟨rpl_t v h, fun _ _ _ => rfl, fun a j h1 => by simp (disch := omega) only [u2n], rfl, by simp (disch := omega) only [u2e]⟩
theorem b_picture (Z : zd) {w w' : wd} (h : rpl w w') (x1 x2 x3 x4 : Int32) :
   pok Z w w' (fn_SM_picture Z w x1 x2 x3 x4) (fn_Md_picture w' x1 x2 x3 x4) (cd1 (fn_SM_picture Z w x1 x2 x3 x4).1) := by
  have h3 := x3.toInt_lt
  have h4 := x4.toInt_lt
  by_cases hp : (0 ≤ x1.toInt ∧ x1.toInt < x3.toInt ∧ 0 ≤ x2.toInt ∧ x2.toInt < x4.toInt)
  · have e1 : fn_SM_picture Z w x1 x2 x3 x4 = (.inl (), (fn_Pl_setTiles (fn_Pl_setPicture w x1 x2 x3 x4) (0 : Int32) (0 : Int32) x3 x4), Z) := by
      simp only [fn_SM_picture, fn_Ru_isPicture, Int32.toInt_toInt64]
      rw [if_pos]
      simp; omega
    have e2 : fn_Md_picture w' x1 x2 x3 x4 = fn_Md_picture_25 w' x1 x2 x3 x4 false := by
      simp only [fn_Md_picture, bi_lt, bi_le, i0]
      rw [if_neg (by omega), if_neg (by omega), if_neg (by omega), if_pos (by omega)]
    have : 0 ≤ x1 ∧ x1 < x3 ∧ 0 ≤ x2 ∧ x2 < x4 := by simp only [bi_lt, bi_le, i0]; omega
    rw [e1, e2]
    simp only [fn_Md_picture_25, md_ref0, fn_Pl_setTiles, fn_Pl_setPicture, Bool.false_eq_true, if_false, cd1]
    refine ⟨rpl_ra h ?_ (fun a j h7 => ?_) (fun a j h7 h8 => ?_), fun a j h7 => ?_, fun a j h7 => ?_, rfl, ?_⟩
    · have h1 := h.1
      unfold ra at *
      grind (gen := 30) [up2]
    all_goals simp (disch := omega) only [u2n, u2e]
  · have e1 : fn_SM_picture Z w x1 x2 x3 x4 = (.inr "java/lang/IllegalArgumentException", w, Z) := by
      simp only [fn_SM_picture, fn_Ru_isPicture, Int32.toInt_toInt64]
      rw [if_neg]
      simp; omega
    have e2 : fn_Md_picture w' x1 x2 x3 x4 = fn_Md_picture_25 w' x1 x2 x3 x4 true := by
      simp only [fn_Md_picture, bi_lt, bi_le, i0, fn_Md_picture_20]
      grind
    rw [e1, e2]
    simp only [fn_Md_picture_25, md_refT, if_true, cd1]
    exact pok_t h _ _
theorem b_general (Z : zd) {w w' : wd} (h : rpl w w') (x1 x2 : Int32) (x3 x4 x5 : Bool) :
   pok Z w w' (fn_SM_general Z w x1 x2 x3 x4 x5) (fn_Md_general w' x1 x2 x3 x4 x5) (cd1 (fn_SM_general Z w x1 x2 x3 x4 x5).1) := by
  have m1 := md_in0 x1 (a := 0) (b := 4) (c := 0) (d := 4) rfl rfl
  have m2 := md_in0 x2 (a := 1) (b := 255) (c := 1) (d := 255) rfl rfl
  by_cases hp : (0 ≤ x1.toInt ∧ x1.toInt ≤ 4 ∧ 1 ≤ x2.toInt ∧ x2.toInt ≤ 255)
  · have e1 : fn_SM_general Z w x1 x2 x3 x4 x5 = (.inl (), (fn_Pl_setGeneral w x1 x2 x3 x4 x5), Z) := by
      simp only [fn_SM_general, fn_Ru_isOrder, bi_lt, bi_le, show (1 : Int32).toInt = 1 from rfl, show (255 : Int32).toInt = 255 from rfl]
      rw [if_pos (by simp; omega), if_neg (by omega), if_pos (by omega)]
    have e2 : fn_Md_general w' x1 x2 x3 x4 x5 = fn_Md_general_30 w' x1 x2 x3 x4 x5 false := by
      unfold fn_Md_general
      rw [if_pos (m1.2 ⟨hp.1, hp.2.1⟩), if_pos (m2.2 hp.2.2)]
    rw [e1, e2]
    have e3 : fn_Md_general_30 w' x1 x2 x3 x4 x5 false = up2 (up2 (up2 (up2 (up2 (up2 w' 0 0 0) 0 8 x1) 0 9 x2) 0 10 (bi x3)) 0 11 (bi x4)) 0 12 (bi x5) := by
      cases x3 <;> cases x4 <;> cases x5 <;> simp [fn_Md_general_30, md_ref0, fn_Md_general_58, fn_Md_general_72, bi]
    rw [e3]
    simp only [fn_Pl_setGeneral, cd1]
    refine ⟨rpl_rg h ?_ (fun a j h7 => ?_) (fun a j h7 => ?_), fun a j h7 => ?_, fun a j h7 => ?_, rfl, ?_⟩
    · unfold rg at *
      simp (disch := omega) only [u2n, u2e]
      cases x3 <;> cases x4 <;> cases x5 <;> simp [bi]
    all_goals simp (disch := omega) only [u2n, u2e]
  · have e1 : fn_SM_general Z w x1 x2 x3 x4 x5 = (.inr "java/lang/IllegalArgumentException", w, Z) := by
      simp only [fn_SM_general, fn_Ru_isOrder, bi_lt, bi_le, show (1 : Int32).toInt = 1 from rfl, show (255 : Int32).toInt = 255 from rfl]
      grind
    have e2 : fn_Md_general w' x1 x2 x3 x4 x5 = fn_Md_general_30 w' x1 x2 x3 x4 x5 true := by
      unfold fn_Md_general fn_Md_general_25
      grind
    rw [e1, e2]
    simp only [fn_Md_general_30, md_refT, if_true, cd1]
    exact pok_t h _ _
