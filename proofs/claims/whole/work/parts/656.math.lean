/-! mathematics of both state tables, part 56; from wip/math -/
def cp2 (n : Nat) : Prop := ∃ k, k ≤ 16 ∧ n = 2 ^ k
def czo (Z : zd) : Prop := cp2 Z.1.2 ∧ cp2 Z.2.1.2 ∧ cp2 Z.2.2.2
def cgo (Z Z' : zd) : Prop := (Z.1.2 ≤ Z'.1.2 ∧ Z.2.1.2 ≤ Z'.2.1.2 ∧ Z.2.2.2 ≤ Z'.2.2.2) ∧ (czo Z → czo Z')
theorem cgo_rf (Z : zd) : cgo Z Z := ⟨⟨Nat.le_refl _, Nat.le_refl _, Nat.le_refl _⟩, fun h => h⟩
theorem cgo_tr {Z Z1 Z2 : zd} (h : cgo Z Z1) (h1 : cgo Z1 Z2) : cgo Z Z2 := ⟨⟨Nat.le_trans h.1.1 h1.1.1, Nat.le_trans h.1.2.1 h1.1.2.1, Nat.le_trans h.1.2.2 h1.1.2.2⟩, fun x => h1.2 (h.2 x)⟩
theorem cgo_zc {Z Z1 : zd} (h : cgo Z Z1) : zc Z ≤ zc Z1 := by
  obtain ⟨⟨a, b, c⟩, _⟩ := h
  unfold zc; omega
theorem cp2_le {n : Nat} (h : cp2 n) : n ≤ 65536 := by
  obtain ⟨k, hk, rfl⟩ := h
  exact Nat.pow_le_pow_right (n := 2) (by omega) hk
theorem czo_zc {Z : zd} (h : czo Z) : zc Z ≤ 196608 := by
  have h1 := cp2_le h.1
  have h2 := cp2_le h.2.1
  have h3 := cp2_le h.2.2
  unfold zc; omega
theorem rwca_l (k : Nat) : ∀ cap n, n + k ≤ 65536 → cap ≤ rw_ca cap n k ∧ (cp2 cap → cp2 (rw_ca cap n k)) := by
  induction k with
  | zero => intro cap n _; exact ⟨Nat.le_refl _, fun h => h⟩
  | succ k ih =>
    intro cap n h
    rw [rw_ca]
    obtain ⟨a, b⟩ := ih (rw_g1 cap (n + 1)) (n + 1) (by omega)
    have g : cap ≤ rw_g1 cap (n + 1) := by unfold rw_g1; split <;> omega
    refine ⟨Nat.le_trans g a, fun hc => b ?_⟩
    unfold rw_g1
    split
    · exact hc
    · obtain ⟨j, hj, rfl⟩ := hc
      have : j < 16 := by
        apply Nat.lt_of_not_le
        intro hh
        have := Nat.pow_le_pow_right (n := 2) (by omega) hh
        omega
      exact ⟨j + 1, by omega, by rw [Nat.pow_succ]; omega⟩
theorem c_rwp {p : List Nat × Nat} {bs : List Nat} (h : p.1.length + bs.length ≤ 65536) : p.2 ≤ (rwp p bs).2 ∧ (cp2 p.2 → cp2 (rwp p bs).2) := rwca_l bs.length p.2 p.1.length h
theorem c_1 {Z : zd} {bs : List Nat} (h : Z.1.1.length + bs.length ≤ 65536) : cgo Z (zs1 Z (rwp Z.1 bs)) := by
  have := c_rwp (p := Z.1) (bs := bs) h
  exact ⟨⟨this.1, Nat.le_refl _, Nat.le_refl _⟩, fun x => ⟨this.2 x.1, x.2⟩⟩
theorem c_2 {Z : zd} {bs : List Nat} (h : Z.2.1.1.length + bs.length ≤ 65536) : cgo Z (zs2 Z (rwp Z.2.1 bs)) := by
  have := c_rwp (p := Z.2.1) (bs := bs) h
  exact ⟨⟨Nat.le_refl _, this.1, Nat.le_refl _⟩, fun x => ⟨x.1, this.2 x.2.1, x.2.2⟩⟩
theorem c_3 {Z : zd} {bs : List Nat} (h : Z.2.2.1.length + bs.length ≤ 65536) : cgo Z (zs3 Z (rwp Z.2.2 bs)) := by
  have := c_rwp (p := Z.2.2) (bs := bs) h
  exact ⟨⟨Nat.le_refl _, Nat.le_refl _, this.1⟩, fun x => ⟨x.1, x.2.1, this.2 x.2.2⟩⟩
theorem mchk_o {α : Type} {Z : zd} {z : α → zd} {o : Option α} {R : α} (h : mchk Z z o = some R) : o = some R := by
  unfold mchk at h
  cases o with
  | none => cases h
  | some x =>
    rw [Option.bind_some] at h
    split at h
    · exact h
    · cases h
theorem c_a1 {α : Type} {Z : zd} {bs : List Nat} {z : α → zd} {o : Option α} {R : α} (h : (if Z.1.1.length + bs.length ≤ 65536 then mchk (zs1 Z (rwp Z.1 bs)) z o else none) = some R) : cgo Z (zs1 Z (rwp Z.1 bs)) ∧ o = some R := by
  split at h
  · rename_i c; exact ⟨c_1 c, mchk_o h⟩
  · cases h
theorem c_a2 {α : Type} {Z : zd} {bs : List Nat} {z : α → zd} {o : Option α} {R : α} (h : (if Z.2.1.1.length + bs.length ≤ 65536 then mchk (zs2 Z (rwp Z.2.1 bs)) z o else none) = some R) : cgo Z (zs2 Z (rwp Z.2.1 bs)) ∧ o = some R := by
  split at h
  · rename_i c; exact ⟨c_2 c, mchk_o h⟩
  · cases h
theorem c_a3 {α : Type} {Z : zd} {bs : List Nat} {z : α → zd} {o : Option α} {R : α} (h : (if Z.2.2.1.length + bs.length ≤ 65536 then mchk (zs3 Z (rwp Z.2.2 bs)) z o else none) = some R) : cgo Z (zs3 Z (rwp Z.2.2 bs)) ∧ o = some R := by
  split at h
  · rename_i c; exact ⟨c_3 c, mchk_o h⟩
  · cases h
theorem g_clear (Z : zd) (w : wd) : cgo Z (fn_SM_clear Z w).2.2 := ⟨⟨Nat.le_refl _, Nat.le_refl _, Nat.le_refl _⟩, fun h => h⟩
theorem g_put {Z : zd} {w : wd} {x : Int32} {R : (Int32 ⊕ String) × wd × zd} (h : fn_SM_put Z w x = some R) : cgo Z R.2.2 := by
  unfold fn_SM_put at h
  split at h
  · cases h; exact cgo_rf _
  · split at h
    · split at h
      · obtain ⟨a, b⟩ := c_a1 h
        cases b; exact a
      · cases h; exact cgo_rf _
    · cases h; exact cgo_rf _
theorem g_mark {Z : zd} {w : wd} {x : Int32} {R : (Unit ⊕ String) × wd × zd} (h : fn_SM_mark Z w x = some R) : cgo Z R.2.2 := by
  unfold fn_SM_mark at h
  split at h
  · cases h; exact cgo_rf _
  · split at h
    · split at h
      · obtain ⟨a, b⟩ := c_a1 h
        cases b; exact a
      · cases h; exact cgo_rf _
    · cases h; exact cgo_rf _
theorem g_spoil (Z : zd) (w : wd) (x1 x2 : Int32) : cgo Z (fn_SM_spoil Z w x1 x2).2.2 := by
  unfold fn_SM_spoil
  split
  · exact ⟨⟨Nat.le_refl _, Nat.le_refl _, Nat.le_refl _⟩, fun h => h⟩
  · exact cgo_rf _
theorem g_part {Z : zd} {w : wd} {x1 x2 x3 x4 : Int32} {R : (Unit ⊕ String) × wd × zd} (h : fn_SM_part Z w x1 x2 x3 x4 = some R) : cgo Z R.2.2 := by
  unfold fn_SM_part at h
  by_cases c0 : x1 < 0
  · rw [if_pos c0] at h; cases h; exact cgo_rf _
  rw [if_neg c0] at h
  by_cases c1 : (65535 : Int32) < x1
  · rw [if_pos c1] at h; cases h; exact cgo_rf _
  rw [if_neg c1] at h
  by_cases c2 : x2 < 0
  · rw [if_pos c2] at h; cases h; exact cgo_rf _
  rw [if_neg c2] at h
  by_cases c3 : (255 : Int32) < x2
  · rw [if_pos c3] at h; cases h; exact cgo_rf _
  rw [if_neg c3] at h
  by_cases c4 : x3 < 0
  · rw [if_pos c4] at h; cases h; exact cgo_rf _
  rw [if_neg c4] at h
  by_cases c5 : (255 : Int32) < x3
  · rw [if_pos c5] at h; cases h; exact cgo_rf _
  rw [if_neg c5] at h
  by_cases c6 : x4 < 0
  · rw [if_pos c6] at h; cases h; exact cgo_rf _
  rw [if_neg c6] at h
  by_cases c7 : x4 ≤ (65536 : Int32)
  · rw [if_pos c7] at h
    cases d : fn_SM_demandRoom Z w (14 : Int32) with
    | inl u =>
      rw [d] at h
      obtain ⟨a1, h⟩ := c_a1 h
      obtain ⟨a2, h⟩ := c_a1 h
      obtain ⟨a3, h⟩ := c_a1 h
      obtain ⟨a4, h⟩ := c_a1 h
      obtain ⟨a5, h⟩ := c_a1 h
      obtain ⟨a6, h⟩ := c_a1 h
      cases h
      exact cgo_tr a1 (cgo_tr a2 (cgo_tr a3 (cgo_tr a4 (cgo_tr a5 a6))))
    | inr u =>
      rw [d] at h
      cases h; exact cgo_rf _
  · rw [if_neg c7] at h; cases h; exact cgo_rf _
theorem g_write {F : Nat} {Z : zd} {w : wd} {R : (Int32 ⊕ String) × wd × zd} (h : fn_SM_write F Z w = some R) : cgo Z R.2.2 := by
  unfold fn_SM_write at h
  split at h
  · split at h
    · cases h; exact cgo_rf _
    · obtain ⟨r5, _, h⟩ := Option.bind_eq_some_iff.1 h
      have a0 : cgo Z (zs2 Z ([], Z.2.1.2)) := ⟨⟨Nat.le_refl _, Nat.le_refl _, Nat.le_refl _⟩, fun h => h⟩
      obtain ⟨a1, h⟩ := c_a2 (Z := zs2 Z ([], Z.2.1.2)) h
      generalize zs2 (zs2 Z ([], Z.2.1.2)) (rwp (zs2 Z ([], Z.2.1.2)).2.1 r5) = Z1 at *
      split at h
      · obtain ⟨a2, h⟩ := c_a1 h
        cases h
        exact cgo_tr a0 (cgo_tr a1 a2)
      · cases h; exact cgo_tr a0 a1
  · cases h; exact cgo_rf _
theorem g_seg {Z : zd} {w : wd} {R : wd × zd} (h : fn_Sc_takeSegment Z w = some R) : cgo Z R.2 := by
  unfold fn_Sc_takeSegment at h
  split at h
  · obtain ⟨a, b⟩ := c_a3 h
    cases b; exact a
  · split at h
    · obtain ⟨a, b⟩ := c_a3 h
      obtain ⟨r, _, b⟩ := Option.bind_eq_some_iff.1 b
      cases b; exact a
    · cases h; exact cgo_rf _
theorem g_tm {F : Nat} {Z : zd} {w : wd} {R : wd × zd} (h : fn_Sc_takeMark F Z w = some R) : cgo Z R.2 := by
  unfold fn_Sc_takeMark fn_Sc_takeMark_159 at h
  split at h
  · cases h; exact cgo_rf _
  · split at h
    · cases h; exact cgo_rf _
    · split at h
      · obtain ⟨r, _, h⟩ := Option.bind_eq_some_iff.1 h
        cases h; exact cgo_rf _
      · split at h
        · cases h; exact cgo_rf _
        · split at h
          · split at h
            · cases h; exact cgo_rf _
            · obtain ⟨r, _, h⟩ := Option.bind_eq_some_iff.1 h
              cases h; exact cgo_rf _
          · obtain ⟨r, h1, h⟩ := Option.bind_eq_some_iff.1 h
            split at h
            · have h := mchk_o h
              cases h
              exact (g_seg h1 : cgo Z r.2)
            · cases h
theorem g_ref8 {F : Nat} (n : Nat) : ∀ {Z : zd} {w : wd} {x1 x2 : Int32} {R : Int32 × wd × zd}, fn_Sc_refusal_8 F n Z w x1 x2 = some R → cgo Z R.2.2 := by
  induction n with
  | zero => intro Z w x1 x2 R h; cases h
  | succ n ih =>
    intro Z w x1 x2 R h
    rw [fn_Sc_refusal_8] at h
    split at h
    · cases h; exact cgo_rf _
    · split at h
      · split at h
        · cases h; exact cgo_rf _
        · obtain ⟨r, _, h⟩ := Option.bind_eq_some_iff.1 h
          split at h
          · obtain ⟨r2, h2, h⟩ := Option.bind_eq_some_iff.1 h
            split at h
            · have h := mchk_o h
              exact cgo_tr (g_tm h2) (ih h)
            · cases h
          · exact ih h
      · cases h; exact cgo_rf _
theorem g_ref {F : Nat} {Z : zd} {w : wd} {R : Int32 × wd × zd} (h : fn_Sc_refusal F Z w = some R) : cgo Z R.2.2 := by
  unfold fn_Sc_refusal at h
  obtain ⟨r, h1, h⟩ := Option.bind_eq_some_iff.1 h
  split at h
  · have h := mchk_o h
    unfold fn_Sc_begin at h1
    obtain ⟨r2, _, h1⟩ := Option.bind_eq_some_iff.1 h1
    cases h1
    have a0 : cgo Z (zs3 Z ([], Z.2.2.2)) := ⟨⟨Nat.le_refl _, Nat.le_refl _, Nat.le_refl _⟩, fun h => h⟩
    exact cgo_tr a0 (g_ref8 _ h)
  · cases h
theorem g_scan {F : Nat} {Z : zd} {w : wd} {R : (Int32 ⊕ String) × wd × zd} (h : fn_SM_scan F Z w = some R) : cgo Z R.2.2 := by
  unfold fn_SM_scan at h
  obtain ⟨r, h1, h⟩ := Option.bind_eq_some_iff.1 h
  split at h
  · have h := mchk_o h
    have k : ∀ b, fn_SM_scan_18 F r.2.2 r.2.1 r.1 b = some R → cgo r.2.2 R.2.2 := fun b h => by
      unfold fn_SM_scan_18 fn_SM_scan_40 at h
      split at h
      · split at h
        · cases h; exact cgo_rf _
        · obtain ⟨r2, _, h⟩ := Option.bind_eq_some_iff.1 h
          cases h; exact cgo_rf _
      · split at h
        · cases h; exact cgo_rf _
        · obtain ⟨r2, _, h⟩ := Option.bind_eq_some_iff.1 h
          cases h; exact cgo_rf _
    split at h
    · exact cgo_tr (g_ref h1) (k _ h)
    · exact cgo_tr (g_ref h1) (k _ h)
  · cases h
theorem g_use {F : Nat} {Z : zd} {w : wd} {x : Int32} {R : (Int32 ⊕ String) × wd × zd} (h : fn_SM_use F Z w x = some R) : R.2.2 = Z := by
  unfold fn_SM_use at h
  split at h
  · obtain ⟨r, _, h⟩ := Option.bind_eq_some_iff.1 h
    obtain ⟨r2, _, h⟩ := Option.bind_eq_some_iff.1 h
    cases h; rfl
  · cases h; rfl
theorem g_head {F : Nat} {Z : zd} {w : wd} {x y : Int32} {R : (Int32 ⊕ String) × wd × zd} (h : fn_SM_head F Z w x y = some R) : R.2.2 = Z := by
  unfold fn_SM_head at h
  split at h
  · obtain ⟨r, _, h⟩ := Option.bind_eq_some_iff.1 h
    split at h
    · cases h; rfl
    · cases h; rfl
  · cases h; rfl
