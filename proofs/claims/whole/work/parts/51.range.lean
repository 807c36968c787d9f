/-! StreamMarks$Row.addRange: bytes of another row -/
theorem rw_u1_lt {G : sm_G} {M : sm_M} {r q cap : Nat} {l : List Nat} (hrow : rw_at G M r q cap l) (k : Int) : rw_u1 l k < 256 := by
  obtain ⟨g, hr, hq, hlc, hcp, hlt9, hfit, hg⟩ := hrow
  unfold rw_u1
  split
  · by_cases h : k.toNat < l.length
    · exact (hg _ h).1
    · rw [rw_out (by omega)]; decide
  · decide
theorem by8_nI {n : Nat} (h : n < 256) : by8 (nI n) = n := by
  unfold by8
  rw [pk_tn (by omega)]
  omega
/-- d bytes of l, from place x + k on -/
def rw_rg (l : List Nat) (x : Int32) : Nat → Nat → List Nat
  | _, 0 => []
  | k, d + 1 => rw_u1 l (x + nI k).toInt :: rw_rg l x (k + 1) d
theorem rw_rg_len {l : List Nat} {x : Int32} : ∀ {d k : Nat}, (rw_rg l x k d).length = d
  | 0, _ => rfl
  | d + 1, k => by
    show (rw_rg l x (k + 1) d).length + 1 = d + 1
    rw [rw_rg_len]
section RNG
variable {G : sm_G} {r r2 q2 cap2 : Nat} {l2 : List Nat} {x : Int32} {N : Nat}
set_option maxHeartbeats 800000 in
theorem w_Rw_addRange (hN : N < 2 ^ 31) (hne : r2 ≠ r) : ∀ (d k : Nat) (M : sm_M) (q cap : Nat) (l : List Nat) (Q : sm_O → sm_M → Prop), k + d = N → rw_at G M r q cap l → rw_at G M r2 q2 cap2 l2 → (q2 ≠ q ∧ q ≠ r2) → l.length + d ≤ 65536 →
    (∀ (M' : sm_M) (q' : Nat), rw_at G M' r q' (rw_ca cap l.length d) (l ++ rw_rg l2 x k d) → rw_fr M M' r q q' → Q (.inl none) M') →
    sm_W G mf_Rw_addRange 3 [(4, .int (nI k)), (0, .ref r), (1, .ref r2), (2, .int x), (3, .int (nI N))] [] M (2 * (rw_ca cap l.length d - cap)) (2 * (rw_ca cap l.length d - cap)) Q := by
  intro d
  induction d with
  | zero =>
    intro k M q cap l Q hk h1 h2 h3 h4 hQ
    have e : k = N := by omega
    subst e
    refine sm_iload d_Rw_addRange_3 (j := 0) rfl ?_
    refine sm_iload_n d_Rw_addRange_5 rfl (j := 4) rfl ?_
    refine sm_icmp_ge (tgt := 27) d_Rw_addRange_6 (by decide) (fun h8 => ?_) (fun h8 => absurd (Int32.le_refl _) h8)
    refine sm_return d_Rw_addRange_27 rfl ?_
    refine hQ M q ?_ ⟨Nat.le_refl _, Or.inl rfl, fun _ _ _ _ => rfl⟩
    show rw_at G M r q cap (l ++ [])
    rw [List.append_nil]
    exact h1
  | succ d ih =>
    intro k M q cap l Q hk h1 h2 h3 h4 hQ
    refine sm_iload d_Rw_addRange_3 (j := 0) rfl ?_
    refine sm_iload_n d_Rw_addRange_5 rfl (j := 4) rfl ?_
    refine sm_icmp_ge (tgt := 27) d_Rw_addRange_6 (by decide) (fun h1 => absurd h1 (nI_ge (by omega) hN)) (fun h9 => ?_)
    refine sm_aload_n d_Rw_addRange_9 rfl (j := 1) rfl ?_
    refine sm_aload_n d_Rw_addRange_10 rfl (j := 2) rfl ?_
    refine sm_iload_n d_Rw_addRange_11 rfl (j := 3) rfl ?_
    refine sm_iload d_Rw_addRange_12 (j := 0) rfl ?_
    refine sm_iadd d_Rw_addRange_14 ?_
    refine sm_callVp d_Rw_addRange_15 cs_Rw_addRange_40 rfl h2.cell (As := [_]) rfl rfl (Nat.le_of_ble_eq_true rfl) (c_Rw_u1 h2 _) ?_
    have hlt : rw_u1 l2 (x + nI k).toInt < 256 := rw_u1_lt h2 _
    have hca : rw_ca cap l.length (d + 1) = rw_ca (rw_ca cap l.length 1) (l.length + 1) d := by rw [Nat.add_comm d 1, rw_ca_app]
    have hle := rw_ca_le cap l.length 1
    have hle2 := rw_ca_le (rw_ca cap l.length 1) (l.length + 1) d
    rw [hca]
    refine sm_callV d_Rw_addRange_18 cs_Rw_addRange_30 rfl h1.cell (As := [_]) rfl rfl (Nat.le_of_ble_eq_true rfl) (mc := 2 * (rw_ca cap l.length 1 - cap)) (ms := 2 * (rw_ca cap l.length 1 - cap)) (bc' := 2 * (rw_ca (rw_ca cap l.length 1) (l.length + 1) d - rw_ca cap l.length 1)) (bs' := 2 * (rw_ca (rw_ca cap l.length 1) (l.length + 1) d - rw_ca cap l.length 1)) (by omega) (by omega) (c_Rw_addU1 h1 (by omega) _) (fun X M' h => by cases h.1) (fun v9 M' h => ?_)
    obtain ⟨hv, q', h5, h6⟩ := h
    cases hv
    rw [by8_nI hlt] at h5
    obtain ⟨z1, z2, z3⟩ := id h6
    have h2' : rw_at G M' r2 q2 cap2 l2 := h2.keep z1 (z3 _ h2.lt.1 hne (Ne.symm h3.2)) (z3 _ h2.lt.2 (fun e => by
      have := h2.ne
      obtain ⟨g, hr, hq, -⟩ := h2
      rw [e, h1.cell] at hq
      cases hq) h3.1)
    refine sm_iinc (v := nI (k + 1)) d_Rw_addRange_21 (j := 0) rfl (nI_succ k).symm (by decide) rfl ?_
    refine sm_goto (tgt := 3) d_Rw_addRange_24 (by decide) ?_
    have hl1 : (l ++ [rw_u1 l2 (x + nI k).toInt]).length = l.length + 1 := by simp
    have K := ih (k + 1) M' q' (rw_ca cap l.length 1) (l ++ [rw_u1 l2 (x + nI k).toInt]) Q (by omega) h5 h2' ⟨by
      have := h2.lt.2
      rcases z2 with e | e
      · rw [e]; exact h3.1
      · omega, by
      have := h2.lt.1
      rcases z2 with e | e
      · rw [e]; exact h3.2
      · omega⟩ (by rw [hl1]; omega) (fun M2 q'' k1 k2 => by
      refine hQ M2 q'' ?_ (h6.trans k2)
      rw [hl1, ← hca, List.append_assoc] at k1
      exact k1)
    rw [hl1] at K
    exact K
/-- the bytes that are added: none where the number is below 0 -/
theorem c_Rw_addRange {M : sm_M} {q cap : Nat} {l : List Nat} (h1 : rw_at G M r q cap l) (h2 : rw_at G M r2 q2 cap2 l2) (hne : r2 ≠ r) (h3 : q2 ≠ q ∧ q ≠ r2) (x y : Int32) (h4 : l.length + y.toInt.toNat ≤ 65536) : sm_C G mf_Rw_addRange [.ref r, .ref r2, .int x, .int y] M (2 * (rw_ca cap l.length (rw_rg l2 x 0 y.toInt.toNat).length - cap)) (2 * (rw_ca cap l.length (rw_rg l2 x 0 y.toInt.toNat).length - cap)) (rw_ap G M r q cap l (rw_rg l2 x 0 y.toInt.toNat)) := by
  rw [rw_rg_len]
  refine sm_ofW rfl (Nat.le_of_ble_eq_true rfl) ?_
  refine sm_iconst (v := 0) d_Rw_addRange_0 (by decide) ?_
  refine sm_istore d_Rw_addRange_1 (by decide) rfl ?_
  by_cases hy : y.toInt < 0
  · have e0 : y.toInt.toNat = 0 := by omega
    refine sm_iload d_Rw_addRange_3 (j := 0) rfl ?_
    refine sm_iload_n d_Rw_addRange_5 rfl (j := 4) rfl ?_
    refine sm_icmp_ge (tgt := 27) d_Rw_addRange_6 (by decide) (fun h8 => ?_) (fun h8 => absurd (sm_le.mpr (by rw [ni_0]; omega)) h8)
    refine sm_return d_Rw_addRange_27 rfl ?_
    refine ⟨rfl, q, ?_, Nat.le_refl _, Or.inl rfl, fun _ _ _ _ => rfl⟩
    rw [e0]
    show rw_at G M r q cap (l ++ [])
    rw [List.append_nil]
    assumption
  · have ey : y = nI y.toInt.toNat := sm_toI (by omega)
    have hb := Int32.toInt_lt y
    have K := w_Rw_addRange (x := x) (N := y.toInt.toNat) (by omega) hne y.toInt.toNat 0 M q cap l (rw_ap G M r q cap l (rw_rg l2 x 0 y.toInt.toNat)) (by omega) h1 h2 h3 h4 (fun M' q' k1 k2 => ⟨rfl, q', by rw [rw_rg_len]; exact k1, k2⟩)
    rw [← ey] at K
    exact K
end RNG
