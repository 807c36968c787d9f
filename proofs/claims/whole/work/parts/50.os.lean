/-! StreamMarks with its rows: words w, rows Z; what calls of a row's methods do to them -/
def os_fr (b : Nat) (M M' : sm_M) : Prop := M.2 ≤ M'.2 ∧ ∀ x : Nat, (x < b ∨ (b + 116 ≤ x ∧ x < b + 138)) → M'.1 x = M.1 x
def os_in (G : sm_G) (b : Nat) (M0 M : sm_M) (w : wd) (Z : zd) : Prop := lo_at G cm_L b M w ∧ cz_at G b M Z ∧ os_fr b M0 M
def zc (Z : zd) : Nat := Z.1.2 + Z.2.1.2 + Z.2.2.2
def os_Q (G : sm_G) (b : Nat) (M : sm_M) (r : sm_O) (w : wd) (Z : zd) : sm_O → sm_M → Prop := fun o M' => o = r ∧ os_in G b M M' w Z
def os_e (r : sm_O) (n : Nat) : Nat := match r with
  | .inl _ => 0
  | .inr _ => n
def mchk {α : Type} (Z : zd) (z : α → zd) (o : Option α) : Option α := o.bind fun R => if zc Z ≤ zc (z R) then some R else none
theorem mchk_s {α : Type} {Z : zd} {z : α → zd} {o : Option α} {R : α} (h : mchk Z z o = some R) : zc Z ≤ zc (z R) ∧ o = some R := by
  obtain ⟨r, h1, h2⟩ := lo_bnd h
  obtain ⟨h3, h4⟩ := lo_chk h2
  cases h4
  exact ⟨h3, h1⟩
def rwp (p : List Nat × Nat) (bs : List Nat) : List Nat × Nat := (p.1 ++ bs, rw_ca p.2 p.1.length bs.length)
def zs1 (Z : zd) (p : List Nat × Nat) : zd := (p, Z.2)
def zs2 (Z : zd) (p : List Nat × Nat) : zd := (Z.1, p, Z.2.2)
def zs3 (Z : zd) (p : List Nat × Nat) : zd := (Z.1, Z.2.1, p)
section OSA
variable {G : sm_G} {b : Nat} {M0 M M1 : sm_M} {w w' : wd} {Z : zd}
theorem os_fr.rf : os_fr b M M := ⟨Nat.le_refl _, fun _ _ => rfl⟩
theorem os_fr.trans {M2 : sm_M} (h1 : os_fr b M M1) (h2 : os_fr b M1 M2) : os_fr b M M2 := ⟨Nat.le_trans h1.1 h2.1, fun x hx => (h2.2 x hx).trans (h1.2 x hx)⟩
theorem os_I (h : os_in G b M0 M w Z) : lo_in G cm_L b M M w := ⟨h.1, lo_fr.rf⟩
theorem os_Z (h : os_in G b M0 M w Z) : cz_at G b M Z := h.2.1
theorem os_fl (h : lo_fr cm_L b M M1) : os_fr b M M1 := ⟨by rw [h.1]; exact Nat.le_refl _, fun x hx => h.2 x fun a t hL => by have := cl_lt hL; omega⟩
theorem os_mv (h : os_in G b M0 M w Z) (h1 : lo_in G cm_L b M M1 w') : os_in G b M0 M1 w' Z := ⟨h1.1, h.2.1.go h1.2, h.2.2.trans (os_fl h1.2)⟩
theorem os_in.here (h : os_in G b M0 M w Z) : os_in G b M M w Z := ⟨h.1, h.2.1, os_fr.rf⟩
theorem os_in.trans {Z' : zd} (h : os_in G b M0 M w Z) (h1 : os_in G b M M1 w' Z') : os_in G b M0 M1 w' Z' := ⟨h1.1, h1.2.1, h.2.2.trans h1.2.2⟩
theorem os_bump {n' : Nat} (h : os_in G b M0 M w Z) (hn : M.2 ≤ n') : os_in G b M0 (M.1, n') w Z := by
  obtain ⟨h0, ⟨h1, h2, q1, q2, q3, r1, r2, r3, hq⟩, h3⟩ := h
  exact ⟨h0, ⟨h1, Nat.le_trans h2 hn, q1, q2, q3, r1.keep hn rfl rfl, r2.keep hn rfl rfl, r3.keep hn rfl rfl, hq⟩, Nat.le_trans h3.1 hn, h3.2⟩
theorem os_lo (h : lo_at G cm_L b M w) (hk : ∀ a t, cm_L a = some t → M1.1 (b + a) = M.1 (b + a)) : lo_at G cm_L b M1 w := fun a t hL => (hk a t hL).trans (h a t hL)
/-- row 1 has changed, and nothing else -/
theorem os_row1 {p : List Nat × Nat} (h : os_in G b M0 M w Z) (hb : ∀ q, rw_at G M (b + 101) q Z.1.2 Z.1.1 → ∃ q', rw_at G M1 (b + 101) q' p.2 p.1 ∧ rw_fr M M1 (b + 101) q q') : os_in G b M0 M1 w (zs1 Z p) := by
  obtain ⟨h0, ⟨h1, h2, q1, q2, q3, r1, r2, r3, ⟨k1, k2, k3⟩, n1, n2, n3⟩, h3⟩ := h
  obtain ⟨q', hR, hz, hq, hk⟩ := hb q1 r1
  have hkn := k1
  have hk' : cz_q b q' := by
    rcases hq with e | e
    · rw [e]; exact k1
    · exact Or.inr (Or.inr (Or.inr (by omega)))
  have hl1 := r1.lt
  have hl2 := r2.lt
  have hl3 := r3.lt
  refine ⟨os_lo h0 fun a t hL => hk _ (by have := cl_lt hL; omega) (by have := cl_no (x := 101) hL rfl; omega) (Ne.symm (k1.ne hL)), ⟨(hk _ (by omega) (by omega) (by rcases hkn with h | h | h | h <;> omega)).trans h1, by omega, q', q2, q3, ?_, ?_, ?_, ⟨hk', k2, k3⟩, by omega, by omega, by omega⟩, h3.trans ⟨hz, fun x hx => ?_⟩⟩
  · exact hR
  · exact r2.keep hz (hk _ hl2.1 (by omega) (by rcases hkn with h | h | h | h <;> omega)) (hk _ hl2.2 (by rcases k2 with h | h | h | h <;> omega) (by omega))
  · exact r3.keep hz (hk _ hl3.1 (by omega) (by rcases hkn with h | h | h | h <;> omega)) (hk _ hl3.2 (by rcases k3 with h | h | h | h <;> omega) (by omega))
  · by_cases hx2 : x < M.2
    · exact hk x hx2 (by omega) (by rcases hkn with h | h | h | h <;> omega)
    · exfalso; omega
/-- row 2 has changed, and nothing else -/
theorem os_row2 {p : List Nat × Nat} (h : os_in G b M0 M w Z) (hb : ∀ q, rw_at G M (b + 103) q Z.2.1.2 Z.2.1.1 → ∃ q', rw_at G M1 (b + 103) q' p.2 p.1 ∧ rw_fr M M1 (b + 103) q q') : os_in G b M0 M1 w (zs2 Z p) := by
  obtain ⟨h0, ⟨h1, h2, q1, q2, q3, r1, r2, r3, ⟨k1, k2, k3⟩, n1, n2, n3⟩, h3⟩ := h
  obtain ⟨q', hR, hz, hq, hk⟩ := hb q2 r2
  have hkn := k2
  have hk' : cz_q b q' := by
    rcases hq with e | e
    · rw [e]; exact k2
    · exact Or.inr (Or.inr (Or.inr (by omega)))
  have hl1 := r1.lt
  have hl2 := r2.lt
  have hl3 := r3.lt
  refine ⟨os_lo h0 fun a t hL => hk _ (by have := cl_lt hL; omega) (by have := cl_no (x := 103) hL rfl; omega) (Ne.symm (k2.ne hL)), ⟨(hk _ (by omega) (by omega) (by rcases hkn with h | h | h | h <;> omega)).trans h1, by omega, q1, q', q3, ?_, ?_, ?_, ⟨k1, hk', k3⟩, by omega, by omega, by omega⟩, h3.trans ⟨hz, fun x hx => ?_⟩⟩
  · exact r1.keep hz (hk _ hl1.1 (by omega) (by rcases hkn with h | h | h | h <;> omega)) (hk _ hl1.2 (by rcases k1 with h | h | h | h <;> omega) (by omega))
  · exact hR
  · exact r3.keep hz (hk _ hl3.1 (by omega) (by rcases hkn with h | h | h | h <;> omega)) (hk _ hl3.2 (by rcases k3 with h | h | h | h <;> omega) (by omega))
  · by_cases hx2 : x < M.2
    · exact hk x hx2 (by omega) (by rcases hkn with h | h | h | h <;> omega)
    · exfalso; omega
/-- row 3 has changed, and nothing else -/
theorem os_row3 {p : List Nat × Nat} (h : os_in G b M0 M w Z) (hb : ∀ q, rw_at G M (b + 106) q Z.2.2.2 Z.2.2.1 → ∃ q', rw_at G M1 (b + 106) q' p.2 p.1 ∧ rw_fr M M1 (b + 106) q q') : os_in G b M0 M1 w (zs3 Z p) := by
  obtain ⟨h0, ⟨h1, h2, q1, q2, q3, r1, r2, r3, ⟨k1, k2, k3⟩, n1, n2, n3⟩, h3⟩ := h
  obtain ⟨q', hR, hz, hq, hk⟩ := hb q3 r3
  have hkn := k3
  have hk' : cz_q b q' := by
    rcases hq with e | e
    · rw [e]; exact k3
    · exact Or.inr (Or.inr (Or.inr (by omega)))
  have hl1 := r1.lt
  have hl2 := r2.lt
  have hl3 := r3.lt
  refine ⟨os_lo h0 fun a t hL => hk _ (by have := cl_lt hL; omega) (by have := cl_no (x := 106) hL rfl; omega) (Ne.symm (k3.ne hL)), ⟨(hk _ (by omega) (by omega) (by rcases hkn with h | h | h | h <;> omega)).trans h1, by omega, q1, q2, q', ?_, ?_, ?_, ⟨k1, k2, hk'⟩, by omega, by omega, by omega⟩, h3.trans ⟨hz, fun x hx => ?_⟩⟩
  · exact r1.keep hz (hk _ hl1.1 (by omega) (by rcases hkn with h | h | h | h <;> omega)) (hk _ hl1.2 (by rcases k1 with h | h | h | h <;> omega) (by omega))
  · exact r2.keep hz (hk _ hl2.1 (by omega) (by rcases hkn with h | h | h | h <;> omega)) (hk _ hl2.2 (by rcases k2 with h | h | h | h <;> omega) (by omega))
  · exact hR
  · by_cases hx2 : x < M.2
    · exact hk x hx2 (by omega) (by rcases hkn with h | h | h | h <;> omega)
    · exfalso; omega
end OSA
section OSB
variable {G : sm_G} {b : Nat} {M0 M : sm_M} {w : wd} {Z : zd} {f : sm_F} {pc : Nat} {lv : List (Nat × Value)} {st rest : List Value} {Q : sm_O → sm_M → Prop} {index n N zF ec es : Nat} {C : String} {T9 : u_T} {g : sm_F} {As : List Value}
theorem os_cell1 (hS : os_in G b M0 M w Z) : ∃ q, rw_at G M (b + 101) q Z.1.2 Z.1.1 := by
  obtain ⟨h0, ⟨h1, h2, q1, q2, q3, r1, r2, r3, -⟩, h3⟩ := hS
  exact ⟨q1, r1⟩
theorem os_cap1 {bs : List Nat} : zc (zs1 Z (rwp Z.1 bs)) = zc Z + (rw_ca Z.1.2 Z.1.1.length bs.length - Z.1.2) := by
  have := rw_ca_le Z.1.2 Z.1.1.length bs.length
  show _ = _
  simp only [zc, zs1, rwp]
  omega
theorem os_app1 {bs9 : List Nat} (hd : decode f.2.1 pc = .ok (.invokevirtual index, 3)) (hg : sm_Call f index g n ∧ Cond.instanceMethod g.1 ∈ sm_WS ∧ Cond.selects C g.1 g.1 ∈ sm_WS ∧ sm_cl[5]? = some (C, T9, N)) (hno : f.2.2.2.2.1 = []) (hS : os_in G b M0 M w Z) (hn : As.length = n) (hst : st = As.reverse ++ .ref (b + 101) :: rest) (hrest : (rest.map fun v => v.category).sum ≤ 12)
    (hC : ∀ q, rw_at G M (b + 101) q Z.1.2 Z.1.1 → sm_C G g (.ref (b + 101) :: As) M (2 * (rw_ca Z.1.2 Z.1.1.length bs9.length - Z.1.2)) (2 * (rw_ca Z.1.2 Z.1.1.length bs9.length - Z.1.2)) (rw_ap G M (b + 101) q Z.1.2 Z.1.1 bs9)) (hz : zc (zs1 Z (rwp Z.1 bs9)) ≤ zF)
    (k : ∀ M1 : sm_M, os_in G b M0 M1 w (zs1 Z (rwp Z.1 bs9)) → sm_W G f (pc + 3) lv rest M1 (2 * (zF - zc (zs1 Z (rwp Z.1 bs9))) + ec) (2 * (zF - zc (zs1 Z (rwp Z.1 bs9))) + es) Q) : sm_W G f pc lv st M (2 * (zF - zc Z) + ec) (2 * (zF - zc Z) + es) Q := by
  obtain ⟨q, hr⟩ := os_cell1 hS
  have e1 := os_cap1 (Z := Z) (bs := bs9)
  have hle := rw_ca_le Z.1.2 Z.1.1.length bs9.length
  exact sm_callV hd hg hno hr.cell hn hst hrest (mc := 2 * (rw_ca Z.1.2 Z.1.1.length bs9.length - Z.1.2)) (ms := 2 * (rw_ca Z.1.2 Z.1.1.length bs9.length - Z.1.2)) (bc' := 2 * (zF - zc (zs1 Z (rwp Z.1 bs9))) + ec) (bs' := 2 * (zF - zc (zs1 Z (rwp Z.1 bs9))) + es) (by omega) (by omega) (hC q hr) (fun X M' h => by cases h.1) (fun v9 M' h => by
    obtain ⟨h1, q', h2, h3⟩ := h
    cases h1
    refine k M' (os_row1 hS fun q9 hr9 => ?_)
    have e9 : q9 = q := by
      have h8 := hr9.cell.symm.trans hr.cell
      injection h8 with h8
      injection h8 with h8
      injection h8 with h8 h7
      injection h7 with h7 h6
      injection h7
    subst e9
    exact ⟨q', h2, h3⟩)
theorem os_set1 {l' : List Nat} {bc bs : Nat} (hd : decode f.2.1 pc = .ok (.invokevirtual index, 3)) (hg : sm_Call f index g n ∧ Cond.instanceMethod g.1 ∈ sm_WS ∧ Cond.selects C g.1 g.1 ∈ sm_WS ∧ sm_cl[5]? = some (C, T9, N)) (hno : f.2.2.2.2.1 = []) (hS : os_in G b M0 M w Z) (hn : As.length = n) (hst : st = As.reverse ++ .ref (b + 101) :: rest) (hrest : (rest.map fun v => v.category).sum ≤ 12)
    (hC : ∀ q, rw_at G M (b + 101) q Z.1.2 Z.1.1 → sm_C G g (.ref (b + 101) :: As) M 0 0 (rw_st G M (b + 101) q Z.1.2 l'))
    (k : ∀ M1 : sm_M, os_in G b M0 M1 w (zs1 Z (l', Z.1.2)) → sm_W G f (pc + 3) lv rest M1 bc bs Q) : sm_W G f pc lv st M bc bs Q := by
  obtain ⟨q, hr⟩ := os_cell1 hS
  exact sm_callV hd hg hno hr.cell hn hst hrest (mc := 0) (ms := 0) (Nat.le_of_eq (Nat.zero_add _)) (Nat.le_of_eq (Nat.zero_add _)) (hC q hr) (fun X M' h => by cases h.1) (fun v9 M' h => by
    obtain ⟨h1, h2, h3, h4⟩ := h
    cases h1
    refine k M' (os_row1 hS fun q9 hr9 => ?_)
    have e9 : q9 = q := by
      have h8 := hr9.cell.symm.trans hr.cell
      injection h8 with h8
      injection h8 with h8
      injection h8 with h8 h7
      injection h7 with h7 h6
      injection h7
    subst e9
    exact ⟨_, h2, by rw [h3]; exact Nat.le_refl _, Or.inl rfl, fun a _ h8 h9 => h4 a h8 h9⟩)
theorem os_cell2 (hS : os_in G b M0 M w Z) : ∃ q, rw_at G M (b + 103) q Z.2.1.2 Z.2.1.1 := by
  obtain ⟨h0, ⟨h1, h2, q1, q2, q3, r1, r2, r3, -⟩, h3⟩ := hS
  exact ⟨q2, r2⟩
theorem os_cap2 {bs : List Nat} : zc (zs2 Z (rwp Z.2.1 bs)) = zc Z + (rw_ca Z.2.1.2 Z.2.1.1.length bs.length - Z.2.1.2) := by
  have := rw_ca_le Z.2.1.2 Z.2.1.1.length bs.length
  show _ = _
  simp only [zc, zs2, rwp]
  omega
theorem os_app2 {bs9 : List Nat} (hd : decode f.2.1 pc = .ok (.invokevirtual index, 3)) (hg : sm_Call f index g n ∧ Cond.instanceMethod g.1 ∈ sm_WS ∧ Cond.selects C g.1 g.1 ∈ sm_WS ∧ sm_cl[5]? = some (C, T9, N)) (hno : f.2.2.2.2.1 = []) (hS : os_in G b M0 M w Z) (hn : As.length = n) (hst : st = As.reverse ++ .ref (b + 103) :: rest) (hrest : (rest.map fun v => v.category).sum ≤ 12)
    (hC : ∀ q, rw_at G M (b + 103) q Z.2.1.2 Z.2.1.1 → sm_C G g (.ref (b + 103) :: As) M (2 * (rw_ca Z.2.1.2 Z.2.1.1.length bs9.length - Z.2.1.2)) (2 * (rw_ca Z.2.1.2 Z.2.1.1.length bs9.length - Z.2.1.2)) (rw_ap G M (b + 103) q Z.2.1.2 Z.2.1.1 bs9)) (hz : zc (zs2 Z (rwp Z.2.1 bs9)) ≤ zF)
    (k : ∀ M1 : sm_M, os_in G b M0 M1 w (zs2 Z (rwp Z.2.1 bs9)) → sm_W G f (pc + 3) lv rest M1 (2 * (zF - zc (zs2 Z (rwp Z.2.1 bs9))) + ec) (2 * (zF - zc (zs2 Z (rwp Z.2.1 bs9))) + es) Q) : sm_W G f pc lv st M (2 * (zF - zc Z) + ec) (2 * (zF - zc Z) + es) Q := by
  obtain ⟨q, hr⟩ := os_cell2 hS
  have e1 := os_cap2 (Z := Z) (bs := bs9)
  have hle := rw_ca_le Z.2.1.2 Z.2.1.1.length bs9.length
  exact sm_callV hd hg hno hr.cell hn hst hrest (mc := 2 * (rw_ca Z.2.1.2 Z.2.1.1.length bs9.length - Z.2.1.2)) (ms := 2 * (rw_ca Z.2.1.2 Z.2.1.1.length bs9.length - Z.2.1.2)) (bc' := 2 * (zF - zc (zs2 Z (rwp Z.2.1 bs9))) + ec) (bs' := 2 * (zF - zc (zs2 Z (rwp Z.2.1 bs9))) + es) (by omega) (by omega) (hC q hr) (fun X M' h => by cases h.1) (fun v9 M' h => by
    obtain ⟨h1, q', h2, h3⟩ := h
    cases h1
    refine k M' (os_row2 hS fun q9 hr9 => ?_)
    have e9 : q9 = q := by
      have h8 := hr9.cell.symm.trans hr.cell
      injection h8 with h8
      injection h8 with h8
      injection h8 with h8 h7
      injection h7 with h7 h6
      injection h7
    subst e9
    exact ⟨q', h2, h3⟩)
theorem os_set2 {l' : List Nat} {bc bs : Nat} (hd : decode f.2.1 pc = .ok (.invokevirtual index, 3)) (hg : sm_Call f index g n ∧ Cond.instanceMethod g.1 ∈ sm_WS ∧ Cond.selects C g.1 g.1 ∈ sm_WS ∧ sm_cl[5]? = some (C, T9, N)) (hno : f.2.2.2.2.1 = []) (hS : os_in G b M0 M w Z) (hn : As.length = n) (hst : st = As.reverse ++ .ref (b + 103) :: rest) (hrest : (rest.map fun v => v.category).sum ≤ 12)
    (hC : ∀ q, rw_at G M (b + 103) q Z.2.1.2 Z.2.1.1 → sm_C G g (.ref (b + 103) :: As) M 0 0 (rw_st G M (b + 103) q Z.2.1.2 l'))
    (k : ∀ M1 : sm_M, os_in G b M0 M1 w (zs2 Z (l', Z.2.1.2)) → sm_W G f (pc + 3) lv rest M1 bc bs Q) : sm_W G f pc lv st M bc bs Q := by
  obtain ⟨q, hr⟩ := os_cell2 hS
  exact sm_callV hd hg hno hr.cell hn hst hrest (mc := 0) (ms := 0) (Nat.le_of_eq (Nat.zero_add _)) (Nat.le_of_eq (Nat.zero_add _)) (hC q hr) (fun X M' h => by cases h.1) (fun v9 M' h => by
    obtain ⟨h1, h2, h3, h4⟩ := h
    cases h1
    refine k M' (os_row2 hS fun q9 hr9 => ?_)
    have e9 : q9 = q := by
      have h8 := hr9.cell.symm.trans hr.cell
      injection h8 with h8
      injection h8 with h8
      injection h8 with h8 h7
      injection h7 with h7 h6
      injection h7
    subst e9
    exact ⟨_, h2, by rw [h3]; exact Nat.le_refl _, Or.inl rfl, fun a _ h8 h9 => h4 a h8 h9⟩)
theorem os_cell3 (hS : os_in G b M0 M w Z) : ∃ q, rw_at G M (b + 106) q Z.2.2.2 Z.2.2.1 := by
  obtain ⟨h0, ⟨h1, h2, q1, q2, q3, r1, r2, r3, -⟩, h3⟩ := hS
  exact ⟨q3, r3⟩
theorem os_cap3 {bs : List Nat} : zc (zs3 Z (rwp Z.2.2 bs)) = zc Z + (rw_ca Z.2.2.2 Z.2.2.1.length bs.length - Z.2.2.2) := by
  have := rw_ca_le Z.2.2.2 Z.2.2.1.length bs.length
  show _ = _
  simp only [zc, zs3, rwp]
  omega
theorem os_app3 {bs9 : List Nat} (hd : decode f.2.1 pc = .ok (.invokevirtual index, 3)) (hg : sm_Call f index g n ∧ Cond.instanceMethod g.1 ∈ sm_WS ∧ Cond.selects C g.1 g.1 ∈ sm_WS ∧ sm_cl[5]? = some (C, T9, N)) (hno : f.2.2.2.2.1 = []) (hS : os_in G b M0 M w Z) (hn : As.length = n) (hst : st = As.reverse ++ .ref (b + 106) :: rest) (hrest : (rest.map fun v => v.category).sum ≤ 12)
    (hC : ∀ q, rw_at G M (b + 106) q Z.2.2.2 Z.2.2.1 → sm_C G g (.ref (b + 106) :: As) M (2 * (rw_ca Z.2.2.2 Z.2.2.1.length bs9.length - Z.2.2.2)) (2 * (rw_ca Z.2.2.2 Z.2.2.1.length bs9.length - Z.2.2.2)) (rw_ap G M (b + 106) q Z.2.2.2 Z.2.2.1 bs9)) (hz : zc (zs3 Z (rwp Z.2.2 bs9)) ≤ zF)
    (k : ∀ M1 : sm_M, os_in G b M0 M1 w (zs3 Z (rwp Z.2.2 bs9)) → sm_W G f (pc + 3) lv rest M1 (2 * (zF - zc (zs3 Z (rwp Z.2.2 bs9))) + ec) (2 * (zF - zc (zs3 Z (rwp Z.2.2 bs9))) + es) Q) : sm_W G f pc lv st M (2 * (zF - zc Z) + ec) (2 * (zF - zc Z) + es) Q := by
  obtain ⟨q, hr⟩ := os_cell3 hS
  have e1 := os_cap3 (Z := Z) (bs := bs9)
  have hle := rw_ca_le Z.2.2.2 Z.2.2.1.length bs9.length
  exact sm_callV hd hg hno hr.cell hn hst hrest (mc := 2 * (rw_ca Z.2.2.2 Z.2.2.1.length bs9.length - Z.2.2.2)) (ms := 2 * (rw_ca Z.2.2.2 Z.2.2.1.length bs9.length - Z.2.2.2)) (bc' := 2 * (zF - zc (zs3 Z (rwp Z.2.2 bs9))) + ec) (bs' := 2 * (zF - zc (zs3 Z (rwp Z.2.2 bs9))) + es) (by omega) (by omega) (hC q hr) (fun X M' h => by cases h.1) (fun v9 M' h => by
    obtain ⟨h1, q', h2, h3⟩ := h
    cases h1
    refine k M' (os_row3 hS fun q9 hr9 => ?_)
    have e9 : q9 = q := by
      have h8 := hr9.cell.symm.trans hr.cell
      injection h8 with h8
      injection h8 with h8
      injection h8 with h8 h7
      injection h7 with h7 h6
      injection h7
    subst e9
    exact ⟨q', h2, h3⟩)
theorem os_set3 {l' : List Nat} {bc bs : Nat} (hd : decode f.2.1 pc = .ok (.invokevirtual index, 3)) (hg : sm_Call f index g n ∧ Cond.instanceMethod g.1 ∈ sm_WS ∧ Cond.selects C g.1 g.1 ∈ sm_WS ∧ sm_cl[5]? = some (C, T9, N)) (hno : f.2.2.2.2.1 = []) (hS : os_in G b M0 M w Z) (hn : As.length = n) (hst : st = As.reverse ++ .ref (b + 106) :: rest) (hrest : (rest.map fun v => v.category).sum ≤ 12)
    (hC : ∀ q, rw_at G M (b + 106) q Z.2.2.2 Z.2.2.1 → sm_C G g (.ref (b + 106) :: As) M 0 0 (rw_st G M (b + 106) q Z.2.2.2 l'))
    (k : ∀ M1 : sm_M, os_in G b M0 M1 w (zs3 Z (l', Z.2.2.2)) → sm_W G f (pc + 3) lv rest M1 bc bs Q) : sm_W G f pc lv st M bc bs Q := by
  obtain ⟨q, hr⟩ := os_cell3 hS
  exact sm_callV hd hg hno hr.cell hn hst hrest (mc := 0) (ms := 0) (Nat.le_of_eq (Nat.zero_add _)) (Nat.le_of_eq (Nat.zero_add _)) (hC q hr) (fun X M' h => by cases h.1) (fun v9 M' h => by
    obtain ⟨h1, h2, h3, h4⟩ := h
    cases h1
    refine k M' (os_row3 hS fun q9 hr9 => ?_)
    have e9 : q9 = q := by
      have h8 := hr9.cell.symm.trans hr.cell
      injection h8 with h8
      injection h8 with h8
      injection h8 with h8 h7
      injection h7 with h7 h6
      injection h7
    subst e9
    exact ⟨_, h2, by rw [h3]; exact Nat.le_refl _, Or.inl rfl, fun a _ h8 h9 => h4 a h8 h9⟩)
end OSB
