/-! mathematics of both state tables, part 9; from wip/math -/
def rst (w : wd) (Z : zd) (w' : wd) : Prop := w' 0 20 = nI Z.1.1.length ∧ Z.1.1.length ≤ 65536 ∧ (∀ i, i < Z.1.1.length → w' 11 i = nI (Z.1.1.getD i 0)) ∧ (∀ b ∈ Z.1.1, b < 256) ∧ w 0 5 = w' 0 21 ∧ (w' 0 21 = 0 ∨ w' 0 21 = 1) ∧ w 0 6 = w' 0 22
def sfr (Z : zd) (w' w1' : wd) : Prop := ∀ a j, ¬ (a = 0 ∧ (j = 0 ∨ j = 36)) → ¬ (a = 11 ∧ Z.1.1.length ≤ j) → w1' a j = w' a j
def sok {τ : Type} (Z : zd) (w w' : wd) (R : (τ ⊕ String) × wd × zd) (w1' : wd) (cd : Int32) : Prop := rpl R.2.1 w1' ∧ rst R.2.1 R.2.2 w1' ∧ w1' 0 0 = cd ∧ ((R.2.1 = w ∧ R.2.2.1 = Z.1 ∧ R.2.2.2.2 = Z.2.2 ∧ sfr Z w' w1') ∨ w1' 0 21 = 0)
theorem rst_t {w : wd} {Z : zd} {w' : wd} (h : rst w Z w') (v : Int32) : rst w Z (up2 w' 0 0 v) := by
  unfold rst at *
  simp (disch := omega) only [u2n]
  exact h
theorem sok_t {τ : Type} {Z : zd} {w w' : wd} (h : rpl w w') (hs : rst w Z w') (r : τ ⊕ String) (v : Int32) : sok Z w w' (r, w, Z) (up2 w' 0 0 v) v :=
  ⟨rpl_t v h, rst_t hs v, u2e rfl rfl, .inl ⟨rfl, rfl, rfl, fun a j h1 _ => u2n (by omega)⟩⟩
theorem rpl_s {w w' w1 w1' : wd} (h : rpl w w') (h1 : ∀ a j, 1 ≤ a → a < 101 → w1 a j = w a j) (h2 : ∀ a j, a ≤ 10 → ¬ (a = 0 ∧ (j = 0 ∨ 18 ≤ j)) → w1' a j = w' a j) : rpl w1 w1' := by
  obtain ⟨g1, g2, ⟨n, g3⟩, k, g4⟩ := h
  exact ⟨ra_fr g1 (fun j => h1 _ _ (by omega) (by omega)) (h2 _ _ (by omega) (by omega)) (fun j => h2 _ _ (by omega) (by omega)), rg_fr g2 (fun _ _ _ => h1 _ _ (by omega) (by omega)) (fun j _ _ => h2 _ _ (by omega) (by omega)), ⟨n, rcs_fr g3 (h1 _ _ (by omega) (by omega)) (fun _ _ _ _ => h1 _ _ (by omega) (by omega)) (h2 _ _ (by omega) (by omega)) (fun a j _ _ => h2 _ _ (by omega) (by omega))⟩, k, rch_fr g4 (h1 _ _ (by omega) (by omega)) (fun _ => h1 _ _ (by omega) (by omega)) (h2 _ _ (by omega) (by omega)) (fun j => h2 _ _ (by omega) (by omega))⟩
theorem ca_mono (k : Nat) : ∀ cap n, cap ≤ rw_ca cap n k := by
  induction k with
  | zero => intro cap n; exact Nat.le_refl _
  | succ k ih =>
    intro cap n
    unfold rw_ca
    refine Nat.le_trans ?_ (ih _ _)
    unfold rw_g1
    split <;> omega
theorem zc_s1 (Z : zd) (bs : List Nat) : zc Z ≤ zc (zs1 Z (rwp Z.1 bs)) := by
  have := ca_mono bs.length Z.1.2 Z.1.1.length
  unfold zc zs1 rwp
  simp only
  omega
theorem zc_s2 (Z : zd) (bs : List Nat) : zc Z ≤ zc (zs2 Z (rwp Z.2.1 bs)) := by
  have := ca_mono bs.length Z.2.1.2 Z.2.1.1.length
  unfold zc zs2 rwp
  simp only
  omega
theorem zc_s3 (Z : zd) (bs : List Nat) : zc Z ≤ zc (zs3 Z (rwp Z.2.2 bs)) := by
  have := ca_mono bs.length Z.2.2.2 Z.2.2.1.length
  unfold zc zs3 rwp
  simp only
  omega
theorem mchk_some {α : Type} {Z : zd} {z : α → zd} {R : α} (h : zc Z ≤ zc (z R)) : mchk Z z (some R) = some R := by
  unfold mchk
  rw [Option.bind_some, if_pos h]
theorem rst_app {w : wd} {Z : zd} {w' w1' : wd} {cap : Nat} {bs : List Nat} (h : rst w Z w') (hw : wrs w' w1' Z.1.1.length bs) (hl : Z.1.1.length + bs.length ≤ 65536) : rst (up2 w 0 5 0) (zs1 Z (Z.1.1 ++ bs, cap)) (up2 (up2 w1' 0 20 (w1' 0 36)) 0 21 0) := by
  obtain ⟨h1, h2, h3, h4, h5, h6, h7⟩ := h
  obtain ⟨a1, a2, a3, a4⟩ := hw
  unfold rst zs1
  simp (disch := omega) only [u2n, u2e]
  refine ⟨by rw [a1, List.length_append], by rw [List.length_append]; omega, fun i hi => ?_, fun b hb => ?_, trivial, .inl trivial, by rw [h7, a3 _ _ (by omega) (by omega)]⟩
  · simp only [List.length_append] at hi
    by_cases hx : i < Z.1.1.length
    · rw [a3 _ _ (by omega) (by omega), h3 i hx]
      simp only [List.getD_eq_getElem?_getD]
      rw [List.getElem?_append_left hx]
    · have := a2 (i - Z.1.1.length) (by omega) (by omega)
      rw [show Z.1.1.length + (i - Z.1.1.length) = i by omega] at this
      rw [this]
      simp only [List.getD_eq_getElem?_getD]
      rw [List.getElem?_append_right (by omega)]
  · rcases List.mem_append.1 hb with h | h
    · exact h4 b h
    · exact a4 b h
theorem rpl_app {w : wd} {w' w1' : wd} {c : Nat} {bs : List Nat} (h : rpl w w') (hw : wrs w' w1' c bs) (v : Int32) : rpl (up2 w 0 5 0) (up2 (up2 w1' 0 20 v) 0 21 0) :=
  rpl_s (wrs_pl h hw) (fun a j h1 h2 => by simp (disch := omega) only [u2n]) (fun a j h1 h2 => by simp (disch := omega) only [u2n])
theorem b_clear {Z : zd} {w w' : wd} (h : rpl w w') (hs : rst w Z w') : sok Z w w' (fn_SM_clear Z w) (fn_Md_clear w') 0 := by
  unfold fn_SM_clear fn_Md_clear
  refine ⟨rpl_s h (fun a j h1 h2 => by simp (disch := omega) only [u2n]) (fun a j h1 h2 => by simp (disch := omega) only [u2n]), ?_, by simp (disch := omega) only [u2n, u2e], .inr (u2e rfl rfl)⟩
  unfold rst zs1 at *
  simp (disch := omega) only [u2n, u2e]
  exact ⟨rfl, by simp, fun i hi => by simp at hi, fun b hb => by simp at hb, trivial, .inl trivial, hs.2.2.2.2.2.2⟩
theorem b_place {Z : zd} {w w' : wd} (hs : rst w Z w') : fn_SM_place Z w = .inl (fn_Md_place w').1 ∧ (fn_Md_place w').2 = up2 w' 0 0 0 := by
  unfold fn_SM_place fn_Md_place
  simp (disch := omega) only [u2n]
  rw [hs.2.2.2.2.2.2]
  exact ⟨rfl, trivial⟩
theorem b_spoil {Z : zd} {w w' : wd} (h : rpl w w') (hs : rst w Z w') (x1 x2 : Int32) : ∃ w1', fn_Md_spoil w' x1 x2 = some w1' ∧ sok Z w w' (fn_SM_spoil Z w x1 x2) w1' (cd1 (fn_SM_spoil Z w x1 x2).1) := by
  obtain ⟨h1, h2, h3, h4, h5, h6, h7⟩ := id hs
  have hl : (w' 0 20).toInt = Z.1.1.length := by rw [h1]; exact bn_i (by omega)
  by_cases hp : 0 ≤ x1.toInt ∧ x1.toInt < Z.1.1.length
  · obtain ⟨i, hi2, rfl⟩ := bn_ex hp.1
    rw [bn_i hi2] at hp
    have hi : i < Z.1.1.length := by omega
    have e1 : fn_SM_spoil Z w (nI i) x2 = (.inl (), (up2 w 0 5 (0 : Int32)), (zs1 Z (Z.1.1.set i (by8 x2), Z.1.2))) := by
      unfold fn_SM_spoil
      rw [bn_i hi2, if_pos (by simp; omega)]
      unfold rw_set
      rw [if_pos (by omega)]
      rfl
    have e2 : fn_Md_spoil w' (nI i) x2 = some (up2 (up2 (up2 w' 0 0 0) 11 i (nI (by8 x2))) 0 21 0) := by
      unfold fn_Md_spoil
      simp only [bi_lt, hl, i0, bn_i hi2]
      rw [if_neg (by omega), if_pos (by omega)]
      unfold fn_Md_spoil_18
      simp only [md_ref0, Bool.false_eq_true, if_false, bn_i hi2]
      rw [if_pos (by omega), by8_and]
      rfl
    refine ⟨_, e2, ?_⟩
    rw [e1]
    refine ⟨rpl_s h (fun a j h1 h2 => by simp (disch := omega) only [u2n]) (fun a j h1 h2 => by simp (disch := omega) only [u2n]), ?_, by simp (disch := omega) only [u2n, u2e, cd1], .inr (u2e rfl rfl)⟩
    unfold rst zs1 at *
    simp (disch := omega) only [u2n, u2e, List.length_set]
    refine ⟨h1, h2, fun j hj => ?_, fun b hb => ?_, trivial, .inl trivial, h7⟩
    · simp only [List.getD_eq_getElem?_getD]
      by_cases hij : j = i
      · subst hij
        rw [u2e rfl rfl, List.getElem?_set_self hi]
        rfl
      · rw [u2n (by omega), u2n (by omega), List.getElem?_set_ne (by omega), h3 j hj]
        simp only [List.getD_eq_getElem?_getD]
    · rcases List.mem_or_eq_of_mem_set hb with h | h
      · exact h4 b h
      · rw [h]; exact by8_256 _
  · have e1 : fn_SM_spoil Z w x1 x2 = (.inr "java/util/NoSuchElementException", w, Z) := by
      unfold fn_SM_spoil
      rw [if_neg (by simp; omega)]
    have e2 : fn_Md_spoil w' x1 x2 = some (up2 w' 0 0 1) := by
      have : fn_Md_spoil w' x1 x2 = fn_Md_spoil_18 w' x1 x2 true := by
        unfold fn_Md_spoil fn_Md_spoil_13
        simp only [bi_lt, hl, i0]
        grind
      rw [this]
      unfold fn_Md_spoil_18
      simp only [md_refT, if_true]
    rw [e1]
    exact ⟨_, e2, sok_t h hs _ _⟩
theorem b_at {Z : zd} {w w' : wd} (hs : rst w Z w') (x1 : Int32) : ∃ v, fn_Md_at w' x1 = some (v, up2 w' 0 0 (cd1 (fn_SM_at Z w x1))) ∧ ∀ u, fn_SM_at Z w x1 = .inl u → u = v := by
  obtain ⟨h1, h2, h3, h4, h5, h6, h7⟩ := id hs
  have hl : (w' 0 20).toInt = Z.1.1.length := by rw [h1]; exact bn_i (by omega)
  have m1 : (-1 : Int32).toInt = -1 := by decide
  by_cases hm : x1 = -1
  · subst hm
    have e1 : fn_SM_at Z w (-1) = .inl (nI Z.1.1.length) := by unfold fn_SM_at; rw [if_pos rfl]
    rw [e1]
    unfold fn_Md_at fn_Md_at_19
    simp only [bi_lt, bi_le, hl, m1, i0]
    rw [if_neg (by omega), if_pos (by omega)]
    simp only [md_ref0, Bool.false_eq_true, if_false, cd1]
    rw [if_neg (by omega)]
    refine ⟨_, rfl, fun u hu => ?_⟩
    simp (disch := omega) only [u2n]
    rw [h1, Sum.inl.inj hu]
  · have hm2 : x1.toInt ≠ -1 := fun x => hm (by rw [bi_eq, m1]; exact x)
    by_cases hp : 0 ≤ x1.toInt ∧ x1.toInt < Z.1.1.length
    · obtain ⟨i, hi2, rfl⟩ := bn_ex hp.1
      rw [bn_i hi2] at hp hm2
      have e1 : fn_SM_at Z w (nI i) = .inl (nI (Z.1.1.getD i 0)) := by
        unfold fn_SM_at
        rw [if_neg hm, bn_i hi2, if_pos (by simp; omega)]
        unfold rw_u1
        rw [if_pos (by omega)]
        rfl
      rw [e1]
      unfold fn_Md_at fn_Md_at_19
      simp only [bi_lt, bi_le, hl, m1, i0, bn_i hi2]
      rw [if_neg (by omega), if_pos (by omega)]
      simp only [md_ref0, Bool.false_eq_true, if_false, cd1]
      rw [if_pos (by omega), if_pos (by omega)]
      refine ⟨_, rfl, fun u hu => ?_⟩
      rw [← Sum.inl.inj hu]
      simp (disch := omega) only [u2n]
      exact (h3 i (by omega)).symm
    · have e1 : fn_SM_at Z w x1 = .inr "java/util/NoSuchElementException" := by
        unfold fn_SM_at
        rw [if_neg hm, if_neg (by simp; omega)]
      have e2 : fn_Md_at w' x1 = fn_Md_at_19 w' x1 true := by
        unfold fn_Md_at fn_Md_at_14
        simp only [bi_lt, hl, m1]
        grind
      rw [e1, e2]
      unfold fn_Md_at_19
      simp only [md_refT, if_true, cd1]
      exact ⟨_, rfl, fun u hu => nomatch hu⟩
