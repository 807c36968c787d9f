/-! mathematics of both state tables, part 57; from wip/math -/
theorem up00 (w : wd) (v : Int32) : up2 w 0 0 v 0 0 = v := u2e rfl rfl
theorem cd2_i {τ : Type} {e1 e2 : String} {o : τ ⊕ String} {v : Int32} (h : v = cd2 e1 o) (hx : ∀ X, o = .inr X → X = e1 ∨ X = e2) (hne : e2 ≠ e1) : (∃ u, o = .inl u ∧ v = 0) ∨ (o = .inr e1 ∧ v = 1) ∨ (o = .inr e2 ∧ v = 2) := by
  cases o with
  | inl u => exact .inl ⟨u, rfl, h⟩
  | inr X =>
    rcases hx X rfl with rfl | rfl
    · refine .inr (.inl ⟨rfl, ?_⟩)
      rw [h]
      show (if X = X then (1 : Int32) else 2) = 1
      rw [if_pos rfl]
    · refine .inr (.inr ⟨rfl, ?_⟩)
      rw [h]
      show (if X = e1 then (1 : Int32) else 2) = 2
      rw [if_neg hne]
theorem cd1_i {τ : Type} {e1 : String} {o : τ ⊕ String} {v : Int32} (h : v = cd1 o) (hx : ∀ X, o = .inr X → X = e1) : (∃ u, o = .inl u ∧ v = 0) ∨ (o = .inr e1 ∧ v = 1) := by
  cases o with
  | inl u => exact .inl ⟨u, rfl, h⟩
  | inr X =>
    have := hx X rfl
    subst this
    exact .inr ⟨rfl, h⟩
theorem ex_picture (Z : zd) (w : wd) (x1 : Int32) (x2 : Int32) (x3 : Int32) (x4 : Int32) (X : String) (h : (fn_SM_picture Z w x1 x2 x3 x4).1 = .inr X) : X = "java/lang/IllegalArgumentException" := by
  unfold fn_SM_picture at h
  grind
theorem ex_tiles (Z : zd) (w : wd) (x1 : Int32) (x2 : Int32) (x3 : Int32) (x4 : Int32) (X : String) (h : (fn_SM_tiles Z w x1 x2 x3 x4).1 = .inr X) : X = "java/lang/IllegalStateException" ∨ X = "java/lang/IllegalArgumentException" := by
  unfold fn_SM_tiles at h
  grind
theorem ex_component (Z : zd) (w : wd) (x1 : Int32) (x2 : Bool) (x3 : Int32) (x4 : Int32) (X : String) (h : (fn_SM_component Z w x1 x2 x3 x4).1 = .inr X) : X = "java/lang/IllegalArgumentException" ∨ X = "java/lang/IllegalStateException" := by
  unfold fn_SM_component at h
  grind
theorem ex_general (Z : zd) (w : wd) (x1 : Int32) (x2 : Int32) (x3 : Bool) (x4 : Bool) (x5 : Bool) (X : String) (h : (fn_SM_general Z w x1 x2 x3 x4 x5).1 = .inr X) : X = "java/lang/IllegalArgumentException" := by
  unfold fn_SM_general at h
  grind
theorem ex_coding (Z : zd) (w : wd) (x1 : Int32) (x2 : Int32) (x3 : Int32) (x4 : Int32) (x5 : Int32) (x6 : Bool) (X : String) (h : (fn_SM_coding Z w x1 x2 x3 x4 x5 x6).1 = .inr X) : X = "java/util/NoSuchElementException" ∨ X = "java/lang/IllegalArgumentException" := by
  unfold fn_SM_coding at h
  grind
theorem ex_precincts (Z : zd) (w : wd) (x1 : Int32) (x2 : Int32) (x3 : Int32) (x4 : Int32) (X : String) (h : (fn_SM_precincts Z w x1 x2 x3 x4).1 = .inr X) : X = "java/util/NoSuchElementException" ∨ X = "java/lang/IllegalArgumentException" := by
  unfold fn_SM_precincts at h
  grind
theorem ex_steps (Z : zd) (w : wd) (x1 : Int32) (x2 : Int32) (x3 : Int32) (x4 : Int32) (X : String) (h : (fn_SM_steps Z w x1 x2 x3 x4).1 = .inr X) : X = "java/util/NoSuchElementException" ∨ X = "java/lang/IllegalArgumentException" := by
  unfold fn_SM_steps at h
  grind
theorem ex_step (Z : zd) (w : wd) (x1 : Int32) (x2 : Int32) (x3 : Int32) (X : String) (h : (fn_SM_step Z w x1 x2 x3).1 = .inr X) : X = "java/util/NoSuchElementException" ∨ X = "java/lang/IllegalArgumentException" := by
  unfold fn_SM_step at h
  grind
theorem ex_spoil (Z : zd) (w : wd) (x1 : Int32) (x2 : Int32) (X : String) (h : (fn_SM_spoil Z w x1 x2).1 = .inr X) : X = "java/util/NoSuchElementException" := by
  unfold fn_SM_spoil at h
  grind
theorem ex_change (Z : zd) (w : wd) (x1 : Int32) (x2 : Int32) (x3 : Int32) (x4 : Int32) (x5 : Int32) (x6 : Int32) (X : String) {R : (Int32 ⊕ String) × wd × zd} (hR : fn_SM_change Z w x1 x2 x3 x4 x5 x6 = some R) (h : R.1 = .inr X) : X = "java/lang/IllegalArgumentException" ∨ X = "java/lang/IllegalStateException" := by
  unfold fn_SM_change at hR
  split at hR
  · split at hR
    · cases hR; cases h; exact .inl rfl
    · split at hR
      · split at hR
        · obtain ⟨r, _, hR⟩ := Option.bind_eq_some_iff.1 hR
          cases hR; cases h
        · cases hR; cases h; exact .inr rfl
      · cases hR; cases h; exact .inl rfl
  · cases hR; cases h; exact .inl rfl
theorem ex_put (Z : zd) (w : wd) (x1 : Int32) (X : String) {R : (Int32 ⊕ String) × wd × zd} (hR : fn_SM_put Z w x1 = some R) (h : R.1 = .inr X) : X = "java/lang/IllegalArgumentException" ∨ X = "java/lang/UnsupportedOperationException" := by
  unfold fn_SM_put at hR
  split at hR
  · cases hR; cases h; exact .inl rfl
  · split at hR
    · split at hR
      · obtain ⟨_, hR⟩ := c_a1 hR
        cases hR; cases h
      · rename_i X4 hd
        cases hR; cases h
        unfold fn_SM_demandRoom at hd
        split at hd
        · cases hd
        · cases hd; exact .inr rfl
    · cases hR; cases h; exact .inl rfl
theorem ex_write (F : Nat) (Z : zd) (w : wd)  (X : String) {R : (Int32 ⊕ String) × wd × zd} (hR : fn_SM_write F Z w  = some R) (h : R.1 = .inr X) : X = "java/lang/IllegalStateException" ∨ X = "java/lang/UnsupportedOperationException" := by
  unfold fn_SM_write at hR
  split at hR
  · split at hR
    · cases hR; cases h; exact .inl rfl
    · obtain ⟨r5, _, hR⟩ := Option.bind_eq_some_iff.1 hR
      obtain ⟨a1, hR⟩ := c_a2 (Z := zs2 Z ([], Z.2.1.2)) hR
      generalize zs2 (zs2 Z ([], Z.2.1.2)) (rwp (zs2 Z ([], Z.2.1.2)).2.1 r5) = Z1 at *
      split at hR
      · obtain ⟨a2, hR⟩ := c_a1 hR
        cases hR; cases h
      · rename_i X4 hd
        cases hR; cases h
        unfold fn_SM_demandRoom at hd
        split at hd
        · cases hd
        · cases hd; exact .inr rfl
  · cases hR; cases h; exact .inl rfl
theorem ex_mark (Z : zd) (w : wd) (x1 : Int32) (X : String) {R : (Unit ⊕ String) × wd × zd} (hR : fn_SM_mark Z w x1 = some R) (h : R.1 = .inr X) : X = "java/lang/IllegalArgumentException" ∨ X = "java/lang/UnsupportedOperationException" := by
  unfold fn_SM_mark at hR
  split at hR
  · cases hR; cases h; exact .inl rfl
  · split at hR
    · split at hR
      · obtain ⟨_, hR⟩ := c_a1 hR
        cases hR; cases h
      · rename_i X4 hd
        cases hR; cases h
        unfold fn_SM_demandRoom at hd
        split at hd
        · cases hd
        · cases hd; exact .inr rfl
    · cases hR; cases h; exact .inl rfl
theorem ex_part (Z : zd) (w : wd) (x1 : Int32) (x2 : Int32) (x3 : Int32) (x4 : Int32) (X : String) {R : (Unit ⊕ String) × wd × zd} (hR : fn_SM_part Z w x1 x2 x3 x4 = some R) (h : R.1 = .inr X) : X = "java/lang/IllegalArgumentException" ∨ X = "java/lang/UnsupportedOperationException" := by
  unfold fn_SM_part at hR
  by_cases c0 : x1 < 0
  · rw [if_pos c0] at hR; cases hR; cases h; exact .inl rfl
  rw [if_neg c0] at hR
  by_cases c1 : (65535 : Int32) < x1
  · rw [if_pos c1] at hR; cases hR; cases h; exact .inl rfl
  rw [if_neg c1] at hR
  by_cases c2 : x2 < 0
  · rw [if_pos c2] at hR; cases hR; cases h; exact .inl rfl
  rw [if_neg c2] at hR
  by_cases c3 : (255 : Int32) < x2
  · rw [if_pos c3] at hR; cases hR; cases h; exact .inl rfl
  rw [if_neg c3] at hR
  by_cases c4 : x3 < 0
  · rw [if_pos c4] at hR; cases hR; cases h; exact .inl rfl
  rw [if_neg c4] at hR
  by_cases c5 : (255 : Int32) < x3
  · rw [if_pos c5] at hR; cases hR; cases h; exact .inl rfl
  rw [if_neg c5] at hR
  by_cases c6 : x4 < 0
  · rw [if_pos c6] at hR; cases hR; cases h; exact .inl rfl
  rw [if_neg c6] at hR
  by_cases c7 : x4 ≤ (65536 : Int32)
  · rw [if_pos c7] at hR
    cases d : fn_SM_demandRoom Z w (14 : Int32) with
    | inl u =>
      rw [d] at hR
      obtain ⟨a1, hR⟩ := c_a1 hR
      obtain ⟨a2, hR⟩ := c_a1 hR
      obtain ⟨a3, hR⟩ := c_a1 hR
      obtain ⟨a4, hR⟩ := c_a1 hR
      obtain ⟨a5, hR⟩ := c_a1 hR
      obtain ⟨a6, hR⟩ := c_a1 hR
      cases hR; cases h
    | inr u =>
      rw [d] at hR
      cases hR; cases h
      unfold fn_SM_demandRoom at d
      split at d
      · cases d
      · cases d; exact .inr rfl
  · rw [if_neg c7] at hR; cases hR; cases h; exact .inl rfl
theorem ex_use (F : Nat) (Z : zd) (w : wd) (x1 : Int32) (X : String) {R : (Int32 ⊕ String) × wd × zd} (hR : fn_SM_use F Z w x1 = some R) (h : R.1 = .inr X) : X = "java/lang/IllegalStateException" ∨ X = "java/util/NoSuchElementException" := by
  unfold fn_SM_use at hR
  split at hR
  · obtain ⟨r, _, hR⟩ := Option.bind_eq_some_iff.1 hR
    obtain ⟨r2, _, hR⟩ := Option.bind_eq_some_iff.1 hR
    cases hR; cases h
  · rename_i X4 hd
    cases hR; cases h
    unfold fn_SM_demandTile at hd
    grind
theorem ex_head (F : Nat) (Z : zd) (w : wd) (x1 : Int32) (x2 : Int32) (X : String) {R : (Int32 ⊕ String) × wd × zd} (hR : fn_SM_head F Z w x1 x2 = some R) (h : R.1 = .inr X) : X = "java/lang/IllegalStateException" ∨ X = "java/util/NoSuchElementException" := by
  unfold fn_SM_head at hR
  split at hR
  · obtain ⟨r, _, hR⟩ := Option.bind_eq_some_iff.1 hR
    split at hR
    · cases hR; cases h
    · cases hR; cases h; exact .inr rfl
  · rename_i X4 hd
    cases hR; cases h
    unfold fn_SM_demandTile at hd
    grind
theorem ex_at (Z : zd) (w : wd) (x1 : Int32) (X : String) (h : fn_SM_at Z w x1 = .inr X) : X = "java/util/NoSuchElementException" := by
  unfold fn_SM_at at h
  grind
theorem ex_found (Z : zd) (w : wd) (x1 x2 : Int32) (X : String) (h : fn_SM_found Z w x1 x2 = .inr X) : X = "java/lang/IllegalStateException" ∨ X = "java/util/NoSuchElementException" := by
  unfold fn_SM_found at h
  grind
theorem ex_noc (Z : zd) (w : wd) (x1 x2 x3 : Int32) (X : String) (h : fn_SM_numberOfComponent Z w x1 x2 x3 = .inr X) : X = "java/util/NoSuchElementException" := by
  have k52 : ∀ c, fn_SM_numberOfComponent_52 Z w x1 x3 c = .inr X → X = "java/util/NoSuchElementException" := fun c h => by
    unfold fn_SM_numberOfComponent_52 at h
    grind
  have k24 : ∀ c b, fn_SM_numberOfComponent_24 Z w x1 x3 c b = .inr X → X = "java/util/NoSuchElementException" := fun c b h => by
    unfold fn_SM_numberOfComponent_24 at h
    split at h
    · split at h
      · cases h; rfl
      · split at h
        · exact k52 c h
        · cases h; rfl
    · exact k52 c h
  unfold fn_SM_numberOfComponent fn_SM_numberOfComponent_19 at h
  split at h
  · split at h
    · exact k24 _ _ h
    · split at h
      · exact k24 _ _ h
      · exact k24 _ _ h
  · cases h; rfl
theorem ex_get (Z : zd) (w : wd) (x1 x2 x3 : Int32) (X : String) (h : fn_SM_get Z w x1 x2 x3 = .inr X) : X = "java/util/NoSuchElementException" := by
  have k39 : fn_SM_get_39 Z w x1 x2 = .inr X → X = "java/util/NoSuchElementException" := fun h => by
    unfold fn_SM_get_39 at h
    grind
  have k19 : fn_SM_get_19 Z w x1 x2 x3 = .inr X → X = "java/util/NoSuchElementException" := fun h => by
    unfold fn_SM_get_19 at h
    split at h
    · exact k39 h
    · split at h
      · exact k39 h
      · split at h
        · cases h
        · rename_i X9 hd
          cases h
          exact ex_noc Z w x1 x2 x3 X hd
  unfold fn_SM_get at h
  split at h
  · exact k19 h
  · split at h
    · exact k19 h
    · cases h
theorem j_picture {F : Nat} (hF : 70000 ≤ F) {Z : zd} {w w' : wd} (h : rel w Z w') (x1 : Int32) (x2 : Int32) (x3 : Int32) (x4 : Int32) : ∃ R V, fn_SM_picture Z w x1 x2 x3 x4 = R ∧ fn_Md_picture w' x1 x2 x3 x4 = V ∧ rel R.2.1 R.2.2 V ∧ cgo Z R.2.2 ∧ V 0 0 = cd1 R.1 := by
  have k := b_picture Z h.1 x1 x2 x3 x4
  obtain ⟨a1, a2, a3⟩ := rel_p h k
  exact ⟨_, _, rfl, rfl, a1, by rw [a3]; exact cgo_rf Z, a2⟩
theorem j_general {F : Nat} (hF : 70000 ≤ F) {Z : zd} {w w' : wd} (h : rel w Z w') (x1 : Int32) (x2 : Int32) (x3 : Bool) (x4 : Bool) (x5 : Bool) : ∃ R V, fn_SM_general Z w x1 x2 x3 x4 x5 = R ∧ fn_Md_general w' x1 x2 x3 x4 x5 = V ∧ rel R.2.1 R.2.2 V ∧ cgo Z R.2.2 ∧ V 0 0 = cd1 R.1 := by
  have k := b_general Z h.1 x1 x2 x3 x4 x5
  obtain ⟨a1, a2, a3⟩ := rel_p h k
  exact ⟨_, _, rfl, rfl, a1, by rw [a3]; exact cgo_rf Z, a2⟩
theorem j_tiles {F : Nat} (hF : 70000 ≤ F) {Z : zd} {w w' : wd} (h : rel w Z w') (x1 : Int32) (x2 : Int32) (x3 : Int32) (x4 : Int32) : ∃ R V, fn_SM_tiles Z w x1 x2 x3 x4 = R ∧ fn_Md_tiles w' x1 x2 x3 x4 = some V ∧ rel R.2.1 R.2.2 V ∧ cgo Z R.2.2 ∧ V 0 0 = cd2 "java/lang/IllegalStateException" R.1 := by
  obtain ⟨V, k1, k⟩ := b_tiles Z h.1 x1 x2 x3 x4
  obtain ⟨a1, a2, a3⟩ := rel_p h k
  exact ⟨_, V, rfl, k1, a1, by rw [a3]; exact cgo_rf Z, a2⟩
theorem j_coding {F : Nat} (hF : 70000 ≤ F) {Z : zd} {w w' : wd} (h : rel w Z w') (x1 : Int32) (x2 : Int32) (x3 : Int32) (x4 : Int32) (x5 : Int32) (x6 : Bool) : ∃ R V, fn_SM_coding Z w x1 x2 x3 x4 x5 x6 = R ∧ fn_Md_coding w' x1 x2 x3 x4 x5 x6 = some V ∧ rel R.2.1 R.2.2 V ∧ cgo Z R.2.2 ∧ V 0 0 = cd2 "java/util/NoSuchElementException" R.1 := by
  obtain ⟨V, k1, k⟩ := b_coding Z h.1 x1 x2 x3 x4 x5 x6
  obtain ⟨a1, a2, a3⟩ := rel_p h k
  exact ⟨_, V, rfl, k1, a1, by rw [a3]; exact cgo_rf Z, a2⟩
theorem j_precincts {F : Nat} (hF : 70000 ≤ F) {Z : zd} {w w' : wd} (h : rel w Z w') (x1 : Int32) (x2 : Int32) (x3 : Int32) (x4 : Int32) : ∃ R V, fn_SM_precincts Z w x1 x2 x3 x4 = R ∧ fn_Md_precincts w' x1 x2 x3 x4 = some V ∧ rel R.2.1 R.2.2 V ∧ cgo Z R.2.2 ∧ V 0 0 = cd2 "java/util/NoSuchElementException" R.1 := by
  obtain ⟨V, k1, k⟩ := b_precincts Z h.1 x1 x2 x3 x4
  obtain ⟨a1, a2, a3⟩ := rel_p h k
  exact ⟨_, V, rfl, k1, a1, by rw [a3]; exact cgo_rf Z, a2⟩
theorem j_steps {F : Nat} (hF : 70000 ≤ F) {Z : zd} {w w' : wd} (h : rel w Z w') (x1 : Int32) (x2 : Int32) (x3 : Int32) (x4 : Int32) : ∃ R V, fn_SM_steps Z w x1 x2 x3 x4 = R ∧ fn_Md_steps w' x1 x2 x3 x4 = some V ∧ rel R.2.1 R.2.2 V ∧ cgo Z R.2.2 ∧ V 0 0 = cd2 "java/util/NoSuchElementException" R.1 := by
  obtain ⟨V, k1, k⟩ := b_steps Z h.1 x1 x2 x3 x4
  obtain ⟨a1, a2, a3⟩ := rel_p h k
  exact ⟨_, V, rfl, k1, a1, by rw [a3]; exact cgo_rf Z, a2⟩
theorem j_step {F : Nat} (hF : 70000 ≤ F) {Z : zd} {w w' : wd} (h : rel w Z w') (x1 : Int32) (x2 : Int32) (x3 : Int32) : ∃ R V, fn_SM_step Z w x1 x2 x3 = R ∧ fn_Md_step w' x1 x2 x3 = some V ∧ rel R.2.1 R.2.2 V ∧ cgo Z R.2.2 ∧ V 0 0 = cd2 "java/util/NoSuchElementException" R.1 := by
  obtain ⟨V, k1, k⟩ := b_step Z h.1 x1 x2 x3
  obtain ⟨a1, a2, a3⟩ := rel_p h k
  exact ⟨_, V, rfl, k1, a1, by rw [a3]; exact cgo_rf Z, a2⟩
theorem j_spoil {F : Nat} (hF : 70000 ≤ F) {Z : zd} {w w' : wd} (h : rel w Z w') (x1 : Int32) (x2 : Int32) : ∃ R V, fn_SM_spoil Z w x1 x2 = R ∧ fn_Md_spoil w' x1 x2 = some V ∧ rel R.2.1 R.2.2 V ∧ cgo Z R.2.2 ∧ V 0 0 = cd1 R.1 := by
  obtain ⟨V, k1, k⟩ := b_spoil h.1 h.2.1 x1 x2
  obtain ⟨a1, a2⟩ := rel_s h k
  exact ⟨_, V, rfl, k1, a1, g_spoil Z w x1 x2, a2⟩
theorem j_part {F : Nat} (hF : 70000 ≤ F) {Z : zd} {w w' : wd} (h : rel w Z w') (x1 : Int32) (x2 : Int32) (x3 : Int32) (x4 : Int32) : ∃ R V, fn_SM_part Z w x1 x2 x3 x4 = some R ∧ fn_Md_part F w' x1 x2 x3 x4 = some V ∧ rel R.2.1 R.2.2 V ∧ cgo Z R.2.2 ∧ V 0 0 = cd2 "java/lang/IllegalArgumentException" R.1 := by
  obtain ⟨R, V, k1, k2, k⟩ := b_part (F := F) (by omega) h.1 h.2.1 x1 x2 x3 x4
  obtain ⟨a1, a2⟩ := rel_s h k
  exact ⟨R, V, k1, k2, a1, g_part k1, a2⟩
theorem j_mark {F : Nat} (hF : 70000 ≤ F) {Z : zd} {w w' : wd} (h : rel w Z w') (x1 : Int32) : ∃ R V, fn_SM_mark Z w x1 = some R ∧ fn_Md_mark F w' x1 = some V ∧ rel R.2.1 R.2.2 V ∧ cgo Z R.2.2 ∧ V 0 0 = cd2 "java/lang/IllegalArgumentException" R.1 := by
  obtain ⟨R, V, k1, k2, k⟩ := b_mark (F := F) (by omega) h.1 h.2.1 x1
  obtain ⟨a1, a2⟩ := rel_s h k
  exact ⟨R, V, k1, k2, a1, g_mark k1, a2⟩
theorem j_component {F : Nat} (hF : 70000 ≤ F) {Z : zd} {w w' : wd} (h : rel w Z w') (x1 : Int32) (x2 : Bool) (x3 : Int32) (x4 : Int32) : ∃ R V, fn_SM_component Z w x1 x2 x3 x4 = R ∧ fn_Md_component F w' x1 x2 x3 x4 = some V ∧ rel R.2.1 R.2.2 V.2 ∧ cgo Z R.2.2 ∧ V.2 0 0 = cd2 "java/lang/IllegalArgumentException" R.1 ∧ ∀ u, R.1 = .inl u → u = V.1 := by
  obtain ⟨v, V, k1, k, k3⟩ := b_component F (by omega) Z h.1 x1 x2 x3 x4
  obtain ⟨a1, a2, a3⟩ := rel_p h k
  exact ⟨_, (v, V), rfl, k1, a1, by rw [a3]; exact cgo_rf Z, a2, k3⟩
theorem j_change {F : Nat} (hF : 70000 ≤ F) {Z : zd} {w w' : wd} (h : rel w Z w') (x1 : Int32) (x2 : Int32) (x3 : Int32) (x4 : Int32) (x5 : Int32) (x6 : Int32) : ∃ R V, fn_SM_change Z w x1 x2 x3 x4 x5 x6 = some R ∧ fn_Md_change w' x1 x2 x3 x4 x5 x6 = some V ∧ rel R.2.1 R.2.2 V.2 ∧ cgo Z R.2.2 ∧ V.2 0 0 = cd2 "java/lang/IllegalArgumentException" R.1 ∧ ∀ u, R.1 = .inl u → u = V.1 := by
  obtain ⟨R, v, V, k1, k2, k, k3⟩ := b_change Z h.1 x1 x2 x3 x4 x5 x6
  obtain ⟨a1, a2, a3⟩ := rel_p h k
  exact ⟨R, (v, V), k1, k2, a1, by rw [a3]; exact cgo_rf Z, a2, k3⟩
theorem j_put {F : Nat} (hF : 70000 ≤ F) {Z : zd} {w w' : wd} (h : rel w Z w') (x1 : Int32) : ∃ R V, fn_SM_put Z w x1 = some R ∧ fn_Md_put w' x1 = some V ∧ rel R.2.1 R.2.2 V.2 ∧ cgo Z R.2.2 ∧ V.2 0 0 = cd2 "java/lang/IllegalArgumentException" R.1 ∧ ∀ u, R.1 = .inl u → u = V.1 := by
  obtain ⟨R, v, V, k1, k2, k, k3⟩ := b_put h.1 h.2.1 x1
  obtain ⟨a1, a2⟩ := rel_s h k
  exact ⟨R, (v, V), k1, k2, a1, g_put k1, a2, k3⟩
theorem j_write {F : Nat} (hF : 70000 ≤ F) {Z : zd} {w w' : wd} (h : rel w Z w') : ∃ R V, fn_SM_write F Z w = some R ∧ fn_Md_write F w' = some V ∧ rel R.2.1 R.2.2 V.2 ∧ cgo Z R.2.2 ∧ V.2 0 0 = cd2 "java/lang/IllegalStateException" R.1 ∧ ∀ u, R.1 = .inl u → u = V.1 := by
  obtain ⟨R, v, V, k1, k2, k, k3⟩ := b_write (F := F) (by omega) h.1 h.2.1
  obtain ⟨a1, a2⟩ := rel_s h k
  exact ⟨R, (v, V), k1, k2, a1, g_write k1, a2, k3⟩
theorem j_use {F : Nat} (hF : 70000 ≤ F) {Z : zd} {w w' : wd} (h : rel w Z w') (x1 : Int32) : ∃ R V, fn_SM_use F Z w x1 = some R ∧ fn_Md_use F w' x1 = some V ∧ rel R.2.1 R.2.2 V.2 ∧ cgo Z R.2.2 ∧ V.2 0 0 = cd2 "java/lang/IllegalStateException" R.1 ∧ ∀ u, R.1 = .inl u → u = V.1 := by
  obtain ⟨R, v, V, k1, k2, a1, a2, k3⟩ := b_use hF h x1
  exact ⟨R, (v, V), k1, k2, a1, by rw [g_use k1]; exact cgo_rf Z, a2, k3⟩
theorem j_head {F : Nat} (hF : 70000 ≤ F) {Z : zd} {w w' : wd} (h : rel w Z w') (x1 : Int32) (x2 : Int32) : ∃ R V, fn_SM_head F Z w x1 x2 = some R ∧ fn_Md_head F w' x1 x2 = some V ∧ rel R.2.1 R.2.2 V.2 ∧ cgo Z R.2.2 ∧ V.2 0 0 = cd2 "java/lang/IllegalStateException" R.1 ∧ ∀ u, R.1 = .inl u → u = V.1 := by
  obtain ⟨R, v, V, k1, k2, a1, a2, k3⟩ := b_head hF h x1 x2
  exact ⟨R, (v, V), k1, k2, a1, by rw [g_head k1]; exact cgo_rf Z, a2, k3⟩
theorem j_scan {F : Nat} (hF : 70000 ≤ F) {Z : zd} {w w' : wd} (h : rel w Z w') : ∃ R V, fn_SM_scan F Z w = some R ∧ fn_Md_scan F w' = some V ∧ rel R.2.1 R.2.2 V.2 ∧ cgo Z R.2.2 ∧ R.1 = .inl V.1 := by
  obtain ⟨R, v, V, k1, k2, a1, _, k3⟩ := b_scan hF h
  exact ⟨R, (v, V), k1, k2, a1, g_scan k1, k3⟩
theorem j_get {F : Nat} (hF : 70000 ≤ F) {Z : zd} {w w' : wd} (h : rel w Z w') (x1 : Int32) (x2 : Int32) (x3 : Int32) : ∃ R V, fn_SM_get Z w x1 x2 x3 = R ∧ fn_Md_get w' x1 x2 x3 = some V ∧ rel w Z V.2 ∧ V.2 0 0 = cd1 R ∧ ∀ u, R = .inl u → u = V.1 := by
  obtain ⟨v, k1, k2⟩ := b_get Z h.1 x1 x2 x3
  exact ⟨_, (v, _), rfl, k1, rel_t h _, up00 w' _, k2⟩
theorem j_at {F : Nat} (hF : 70000 ≤ F) {Z : zd} {w w' : wd} (h : rel w Z w') (x1 : Int32) : ∃ R V, fn_SM_at Z w x1 = R ∧ fn_Md_at w' x1 = some V ∧ rel w Z V.2 ∧ V.2 0 0 = cd1 R ∧ ∀ u, R = .inl u → u = V.1 := by
  obtain ⟨v, k1, k2⟩ := b_at h.2.1 x1
  exact ⟨_, (v, _), rfl, k1, rel_t h _, up00 w' _, k2⟩
theorem j_found {F : Nat} (hF : 70000 ≤ F) {Z : zd} {w w' : wd} (h : rel w Z w') (x1 x2 : Int32) : ∃ R V, fn_SM_found Z w x1 x2 = R ∧ fn_Md_found w' x1 x2 = some V ∧ rel w Z V.2 ∧ V.2 0 0 = cd2 "java/lang/IllegalStateException" R ∧ ∀ u, R = .inl u → u = V.1 := by
  obtain ⟨v, k1, k2⟩ := b_found h x1 x2
  exact ⟨_, (v, _), rfl, k1, rel_t h _, up00 w' _, k2⟩
theorem j_place {F : Nat} (hF : 70000 ≤ F) {Z : zd} {w w' : wd} (h : rel w Z w') : fn_SM_place Z w = .inl (fn_Md_place w').1 ∧ rel w Z (fn_Md_place w').2 := by
  obtain ⟨k1, k2⟩ := b_place h.2.1
  exact ⟨k1, by rw [k2]; exact rel_t h _⟩
theorem j_plan {F : Nat} (hF : 70000 ≤ F) {Z : zd} {w w' : wd} (h : rel w Z w') : ∃ R V, fn_SM_plan Z w = R ∧ fn_Md_plan F w' = some V ∧ rel R.2.1 R.2.2 V ∧ cgo Z R.2.2 ∧ R.1 = .inl () := by
  obtain ⟨V, k1, k⟩ := b_plan F (by omega) Z h.1
  obtain ⟨a1, a2, a3⟩ := rel_p h k
  exact ⟨_, V, rfl, k1, a1, by rw [a3]; exact cgo_rf Z, rfl⟩
theorem j_clear {F : Nat} (hF : 70000 ≤ F) {Z : zd} {w w' : wd} (h : rel w Z w') : ∃ R V, fn_SM_clear Z w = R ∧ fn_Md_clear w' = V ∧ rel R.2.1 R.2.2 V ∧ cgo Z R.2.2 ∧ R.1 = .inl () := by
  have k := b_clear h.1 h.2.1
  obtain ⟨a1, a2⟩ := rel_s h k
  exact ⟨_, _, rfl, rfl, a1, g_clear Z w, rfl⟩
