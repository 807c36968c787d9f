/-! mathematics of both state tables, part 54; from wip/math -/
def hQ (H : List Nat) (S : List sg) (Q : List pt) : List pt := if S.countP (mo 96 0) = 0 then Q else deal H 0 Q
theorem deal_m {H : List Nat} (Q : List pt) : ∀ k, k ≤ H.length → ∀ q ∈ deal H k Q, (∃ q0 ∈ Q, q.1 = q0.1) ∧ fld q 5 + fld q 6 ≤ H.length := by
  induction Q with
  | nil => intro k _ q hq; exact absurd hq (by simp [deal])
  | cons q0 Q ih =>
    intro k hk q hq
    have B := dl_b hk
    rcases List.mem_cons.1 (show q ∈ sfh q0 (dl H k).1 (dl H k).2 :: deal H ((dl H k).1 + (dl H k).2) Q from hq) with rfl | hq
    · exact ⟨⟨q0, List.mem_cons_self, rfl⟩, B.1⟩
    · obtain ⟨⟨q1, m1, e1⟩, h⟩ := ih _ B.1 q hq
      exact ⟨⟨q1, List.mem_cons_of_mem _ m1, e1⟩, h⟩
theorem deal_f (H : List Nat) (Q : List pt) : ∀ k i j, j < 5 → fld ((deal H k Q).getD i pt0) j = fld (Q.getD i pt0) j := by
  induction Q with
  | nil => intro k i j _; rfl
  | cons q0 Q ih =>
    intro k i j hj
    show fld ((sfh q0 (dl H k).1 (dl H k).2 :: deal H ((dl H k).1 + (dl H k).2) Q).getD i pt0) j = _
    cases i with
    | zero =>
      rw [List.getD_cons_zero, List.getD_cons_zero]
      rcases (show j = 0 ∨ j = 1 ∨ j = 2 ∨ j = 3 ∨ j = 4 by omega) with rfl | rfl | rfl | rfl | rfl <;> rfl
    | succ i =>
      rw [List.getD_cons_succ, List.getD_cons_succ]
      exact ih _ i j hj
theorem headB {F : Nat} (hF : 70000 ≤ F) {w w' : wd} {Z : zd} {l : List Nat} (h : fin w w' Z l) : ∃ T, T ≤ 64 ∧ w 105 10 = nI T ∧ w' 0 34 = nI T ∧ ∀ t, t < T → ∃ L : List Nat, L.length ≤ 1000000000 ∧ fn_Pt_headsOfTile F w (nI t) = some (nI L.length) ∧ (∀ x2 : Int32, -1 ≤ x2.toInt → fn_Md_headOf F w' (nI t) x2 = some (if 0 ≤ x2 then pk 0 L x2.toInt (-1) else nI L.length)) ∧ (∀ b ∈ L, b < 256) ∧ ∀ v, v < 2147483648 → ∃ r, fn_Pt_placeOfHead F w (nI t) (nI v) = some r ∧ (v < L.length → ∃ p, r = nI p ∧ p < Z.2.2.1.length ∧ Z.2.2.1.length ≤ 65536 ∧ u1 Z.2.2.1 p = L.getD v 0) ∧ (L.length ≤ v → r = -1) := by
  obtain ⟨S, Q, cn, T, p, ⟨hs, hz, h20⟩, ⟨hT, h4p, hok⟩, ⟨i1, i2, i3, i4, i5, i6, i7⟩, h4, hP, hbq, ⟨j1, j2, j3, j4, j5⟩, hQ', hpl, s82, s92, hall, hu⟩ := h
  have hl := hs.1.1
  refine ⟨T, i6, i4, i5, fun t ht => ?_⟩
  have m96 : fn_Md_met F w' 96 (-1) = _ := md_met hF hT (m := 96) (o := 0) (by omega) (by omega)
  have hH : byt Z.2.2.1 := ⟨by omega, by rw [j1]; exact hdl_byt hs.1.2⟩
  have cS : S.countP (mo 96 0) ≤ 16400 := Nat.le_trans List.countP_le_length hT.2.1
  have bL : ∀ Q' : List pt, ∀ b ∈ hdQ Z.2.2.1 Q' t, b < 256 := fun Q' b hb => by
    unfold hdQ at hb
    obtain ⟨q, _, hq⟩ := List.mem_flatMap.1 hb
    exact hH.2 b (List.mem_of_mem_drop (List.mem_of_mem_take hq))
  have lenL : ∀ Q' : List pt, Q'.length ≤ 256 → (hdQ Z.2.2.1 Q' t).length ≤ 65536 * Q'.length := fun Q' _ => by
    clear hQ' bL
    induction Q' with
    | nil => exact Nat.zero_le _
    | cons q Q' ih =>
      have ih := ih (by simp at *; omega)
      rw [hdQ_cons]
      have : (qhd Z.2.2.1 q).length ≤ 65536 := by unfold qhd; rw [List.length_take, List.length_drop]; omega
      split
      · rw [List.length_append, List.length_cons]; omega
      · rw [List.length_cons]; omega
  have hD : ∀ x2, fn_Md_headOf F w' (nI t) x2 = if S.countP (mo 96 0) = 0 then fn_Md_ofTile F w' (nI t) x2 else fn_Md_ofAll F w' (nI t) x2 := fun x2 => by
    unfold fn_Md_headOf
    rw [m96, Option.bind_some]
    simp only [show (0 : Int32) = nI 0 from rfl, bn_le (show S.countP (mo 96 0) < 2147483648 by omega) (show 0 < 2147483648 by omega), Nat.le_zero]
    split
    · cases fn_Md_ofTile F w' (nI t) x2 <;> rfl
    · cases fn_Md_ofAll F w' (nI t) x2 <;> rfl
  by_cases c : S.countP (mo 96 0) = 0
  · rw [if_pos c] at hQ'
    have hb : ∀ q ∈ Q, q.1 < 64 ∧ fld q 5 + fld q 6 ≤ Z.2.2.1.length := fun q hq => ⟨(hbq.2 q hq).1, j3 q hq⟩
    refine ⟨hdQ Z.2.2.1 Q t, by have := lenL Q hbq.1; have := hbq.1; omega, ?_, fun x2 hx => ?_, bL Q, fun v hv => ?_⟩
    · have := hT_l (F := F) hQ' hbq.1 hb (t := t) (by omega) F 0 0 (by omega) (by have := hbq.1; omega)
      rw [List.drop_zero, Nat.zero_add] at this
      exact this
    · rw [hD, if_pos c, ofT hF hs hT hok (by omega) hx, j5]
    · obtain ⟨r, r1, r2, r3⟩ := pH_l (F := F) hQ' hH.1 hbq.1 hb (t := t) (by omega) F 0 v hv (by omega) (by have := hbq.1; omega)
      rw [List.drop_zero] at r2 r3
      exact ⟨r, r1, fun x => by obtain ⟨p, a, b, d⟩ := r2 x; exact ⟨p, a, b, hH.1, d⟩, r3⟩
  · rw [if_neg c] at hQ'
    have hb : ∀ q ∈ deal Z.2.2.1 0 Q, q.1 < 64 ∧ fld q 5 + fld q 6 ≤ Z.2.2.1.length := fun q hq => by
      obtain ⟨⟨q0, m0, e0⟩, h⟩ := deal_m Q 0 (by omega) q hq
      exact ⟨by rw [e0]; exact (hbq.2 q0 m0).1, h⟩
    have dlen := deal_len Z.2.2.1 Q 0
    rw [← dlen] at hQ'
    have hq' : (deal Z.2.2.1 0 Q).length ≤ 256 := by rw [dlen]; exact hbq.1
    have e : pkL l S = Z.2.2.1 := by
      rw [j1]; exact pkL_hdl (fun s hs h97 => c (hu.2.2 s hs h97).2)
    have hp : ∀ x : Int32, -1 ≤ x.toInt → fn_Md_packed F w' x = some (if 0 ≤ x then pk 0 Z.2.2.1 x.toInt (-1) else nI Z.2.2.1.length) := fun x hx => by
      rw [pkd hF hs hT hok hx, e]
    refine ⟨hdQ Z.2.2.1 (deal Z.2.2.1 0 Q) t, by have := lenL _ hq'; omega, ?_, fun x2 hx => ?_, bL _, fun v hv => ?_⟩
    · have := hT_l (F := F) hQ' hq' hb (t := t) (by omega) F 0 0 (by omega) (by omega)
      rw [List.drop_zero, Nat.zero_add] at this
      exact this
    · rw [hD, if_neg c]
      unfold fn_Md_ofAll
      rw [hp (-1) (by decide), if_neg (by decide), Option.bind_some]
      have := ofA_l (F := F) hH hp hP hbq (t := t) (by omega) hx F 0 0 0 0 (-1) (by omega) (by have := hbq.1; omega) (by omega) (by omega) (.inl rfl)
      rw [List.drop_zero, Nat.zero_add] at this
      exact this
    · obtain ⟨r, r1, r2, r3⟩ := pH_l (F := F) hQ' hH.1 hq' hb (t := t) (by omega) F 0 v hv (by omega) (by omega)
      rw [List.drop_zero] at r2 r3
      exact ⟨r, r1, fun x => by obtain ⟨p, a, b, d⟩ := r2 x; exact ⟨p, a, b, hH.1, d⟩, r3⟩
theorem fin_fr {w w' w1 w1' : wd} {Z Z1 : zd} {l : List Nat} (h : fin w w' Z l) (h1 : ∀ a j, 105 ≤ a → w1 a j = w a j) (h2 : ∀ a j, (a = 0 ∧ 20 ≤ j ∧ j ≠ 21 ∧ j ≠ 22 ∧ j ≠ 36) ∨ (12 ≤ a ∧ a ≤ 20) → w1' a j = w' a j) (h3 : ∀ i, i < l.length → w1' 11 i = w' 11 i) (hz1 : Z1.1.1 = Z.1.1) (hz2 : Z1.2.2.1 = Z.2.2.1) : fin w1 w1' Z1 l := by
  obtain ⟨S, Q, cn, T, p, ⟨hs, hz, h20⟩, ⟨hT, h4p, hok⟩, ⟨i1, i2, i3, i4, i5, i6, i7⟩, ⟨p1, p2, p3⟩, hP, hbq, ⟨j1, j2, j3, j4, j5⟩, hQ', hpl, s82, s92, hall, hu⟩ := h
  refine ⟨S, Q, cn, T, p, ⟨⟨hs.1, fun i hi => by rw [h3 i hi]; exact hs.2 i hi⟩, hz1.trans hz, by rw [h2 _ _ (by omega)]; exact h20⟩, ⟨⟨by rw [h2 _ _ (by omega)]; exact hT.1, hT.2.1, fun k hk => by rw [h2 _ _ (by omega), h2 _ _ (by omega), h2 _ _ (by omega), h2 _ _ (by omega)]; exact hT.2.2.1 k hk, hT.2.2.2⟩, h4p, hok⟩, ⟨by rw [h1 _ _ (by omega)]; exact i1, by rw [h2 _ _ (by omega)]; exact i2, i3, by rw [h1 _ _ (by omega)]; exact i4, by rw [h2 _ _ (by omega)]; exact i5, i6, by rw [h1 _ _ (by omega)]; exact i7⟩, ⟨fun m c a b => by rw [h1 _ _ (by omega)]; exact p1 m c a b, fun t ht hq m c a b => by rw [h1 _ _ (by omega)]; exact p2 t ht hq m c a b, p3⟩, ⟨by rw [h2 _ _ (by omega)]; exact hP.1, hP.2.1, fun k hk j hj => by rw [h2 _ _ (by omega)]; exact hP.2.2 k hk j hj⟩, hbq, ⟨by rw [hz2]; exact j1, by rw [hz2]; exact j2, by rw [hz2]; exact j3, fun t ht => by rw [h1 _ _ (by omega)]; exact j4 t ht, by rw [hz2]; exact j5⟩, ?_, hpl, s82, s92, hall, hu⟩
  rw [hz2]
  exact ⟨by rw [h1 _ _ (by omega)]; exact hQ'.1, fun k hk j hj q => by rw [h1 _ _ (by omega)]; exact hQ'.2 k hk j hj q⟩
def rel (w : wd) (Z : zd) (w' : wd) : Prop := rpl w w' ∧ rst w Z w' ∧ (w' 0 21 = 1 → fin w w' Z Z.1.1)
theorem rel_p {τ : Type} {Z : zd} {w w' w1' : wd} {R : (τ ⊕ String) × wd × zd} {cd : Int32} (h : rel w Z w') (hp : pok Z w w' R w1' cd) : rel R.2.1 R.2.2 w1' ∧ w1' 0 0 = cd ∧ R.2.2 = Z := by
  obtain ⟨h1, h2, h3⟩ := h
  obtain ⟨a, b, c, d, e⟩ := hp
  rw [d]
  obtain ⟨r1, r2, r3, r4, r5, r6, r7⟩ := h2
  refine ⟨⟨a, ⟨by rw [c _ _ (by omega)]; exact r1, r2, fun i hi => by rw [c _ _ (by omega)]; exact r3 i hi, r4, by rw [b _ _ (by omega), c _ _ (by omega)]; exact r5, by rw [c _ _ (by omega)]; exact r6, by rw [b _ _ (by omega), c _ _ (by omega)]; exact r7⟩, fun hx => ?_⟩, e, rfl⟩
  rw [c _ _ (by omega)] at hx
  exact fin_fr (h3 hx) (fun x j hx => b x j (by omega)) (fun x j hx => c x j (by omega)) (fun i hi => c _ _ (by omega)) rfl rfl
theorem rel_s {τ : Type} {Z : zd} {w w' w1' : wd} {R : (τ ⊕ String) × wd × zd} {cd : Int32} (h : rel w Z w') (hp : sok Z w w' R w1' cd) : rel R.2.1 R.2.2 w1' ∧ w1' 0 0 = cd := by
  obtain ⟨h1, h2, h3⟩ := h
  obtain ⟨a, b, c, d⟩ := hp
  refine ⟨⟨a, b, fun hx => ?_⟩, c⟩
  rcases d with ⟨d1, d2, d3, d4⟩ | d
  · have e : w1' 0 21 = w' 0 21 := d4 _ _ (by omega) (by omega)
    rw [e] at hx
    rw [d2, d1]
    exact fin_fr (h3 hx) (fun _ _ _ => rfl) (fun x j q => d4 x j (by omega) (by omega)) (fun i hi => d4 _ _ (by omega) (by omega)) (by rw [d2]) (by rw [d3])
  · rw [d] at hx; exact absurd hx (by decide)
theorem rel_t {Z : zd} {w w' : wd} (h : rel w Z w') (v : Int32) : rel w Z (up2 w' 0 0 v) := by
  obtain ⟨h1, h2, h3⟩ := h
  obtain ⟨r1, r2, r3, r4, r5, r6, r7⟩ := h2
  refine ⟨rpl_t v h1, ⟨by rw [u2n (by omega)]; exact r1, r2, fun i hi => by rw [u2n (by omega)]; exact r3 i hi, r4, by rw [u2n (by omega)]; exact r5, by rw [u2n (by omega)]; exact r6, by rw [u2n (by omega)]; exact r7⟩, fun hx => ?_⟩
  rw [u2n (by omega)] at hx
  exact fin_fr (h3 hx) (fun _ _ _ => rfl) (fun x j q => u2n (by omega)) (fun i hi => u2n (by omega)) rfl rfl
theorem rpl_fr {w w' w1 w1' : wd} (h : rpl w w') (h1 : ∀ a j, 1 ≤ a → a ≤ 104 → w1 a j = w a j) (h2 : ∀ a j, (1 ≤ a ∧ a ≤ 10) ∨ (a = 0 ∧ 1 ≤ j ∧ j ≤ 17) → w1' a j = w' a j) : rpl w1 w1' := by
  obtain ⟨a, b, ⟨n, c⟩, k, d⟩ := h
  exact ⟨ra_fr a (fun j => h1 _ _ (by omega) (by omega)) (h2 _ _ (by omega)) (fun j => h2 _ _ (by omega)), rg_fr b (fun j _ _ => h1 _ _ (by omega) (by omega)) (fun j _ _ => h2 _ _ (by omega)), ⟨n, rcs_fr c (h1 _ _ (by omega) (by omega)) (fun a j _ _ => h1 _ _ (by omega) (by omega)) (h2 _ _ (by omega)) (fun a j _ _ => h2 _ _ (by omega))⟩, k, rch_fr d (h1 _ _ (by omega) (by omega)) (fun j => h1 _ _ (by omega) (by omega)) (h2 _ _ (by omega)) (fun j => h2 _ _ (by omega))⟩
