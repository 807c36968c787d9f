/-! StreamMarks$Row: a row of bytes that grows -/
/-- the row r holds the bytes l, in the array q of cap places -/
def rw_at (G : sm_G) (M : sm_M) (r q cap : Nat) (l : List Nat) : Prop := ∃ g : Nat → Int32, M.1 r = some (.inr (5, [.ref q, .int (nI l.length)])) ∧ M.1 q = some (.inl (G.2.1 0, cap, .inl g)) ∧ l.length ≤ cap ∧ (∃ j, j ≤ 8 ∧ cap = 256 * 2 ^ j) ∧ (r < M.2 ∧ q < M.2) ∧ (∀ i, fits .byte (.int (g i)) = true) ∧ ∀ i, i < l.length → l.getD i 0 < 256 ∧ g i = (nI (l.getD i 0)).toInt8.toInt32
def rw_u1 (l : List Nat) (k : Int) : Nat := if 0 ≤ k then l.getD k.toNat 0 else 0
def rw_u2 (l : List Nat) (k : Int) : Nat := if 0 ≤ k ∧ k + 1 < l.length then 256 * l.getD k.toNat 0 + l.getD (k.toNat + 1) 0 else 0
def rw_g1 (cap n : Nat) : Nat := if n ≤ cap then cap else 2 * cap
/-- the places behind k bytes more, one by one -/
def rw_ca : Nat → Nat → Nat → Nat
  | cap, _, 0 => cap
  | cap, n, k + 1 => rw_ca (rw_g1 cap (n + 1)) (n + 1) k
def by8 (b : Int32) : Nat := b.toBitVec.toNat % 256
/-- what a method leaves of the other cells -/
def rw_fr (M M' : sm_M) (r q q' : Nat) : Prop := M.2 ≤ M'.2 ∧ (q' = q ∨ (M.2 ≤ q' ∧ q' < M'.2)) ∧ ∀ a : Nat, a < M.2 → a ≠ r → a ≠ q → M'.1 a = M.1 a
def rw_ap (G : sm_G) (M : sm_M) (r q cap : Nat) (l bs : List Nat) : sm_O → sm_M → Prop := fun o M' => o = .inl none ∧ ∃ q', rw_at G M' r q' (rw_ca cap l.length bs.length) (l ++ bs) ∧ rw_fr M M' r q q'
theorem rw_out {l : List Nat} {k : Nat} (h : l.length ≤ k) : l.getD k 0 = 0 := by simp [List.getD, h]
theorem rw_b {n : Nat} (h : n < 256) : (nI n).toInt8.toInt32 &&& 255 = nI n := sc_k8 n h
theorem rw_cap {cap : Nat} (h : ∃ j, j ≤ 8 ∧ cap = 256 * 2 ^ j) : 256 ≤ cap ∧ cap ≤ 65536 ∧ (cap < 65536 → ∃ j, j ≤ 8 ∧ 2 * cap = 256 * 2 ^ j) := by
  obtain ⟨j, hj, rfl⟩ := h
  have h1 : 1 ≤ 2 ^ j := Nat.one_le_two_pow
  have h2 : 2 ^ j ≤ 2 ^ 8 := Nat.pow_le_pow_right (by omega) hj
  refine ⟨by omega, by omega, fun h => ⟨j + 1, ?_, by rw [Nat.pow_succ]; omega⟩⟩
  rcases Nat.lt_or_ge j 8 with h3 | h3
  · omega
  · have h4 : j = 8 := by omega
    subst h4
    omega
theorem rw_fr.trans {M M1 M2 : sm_M} {r q q1 q2 : Nat} (h1 : rw_fr M M1 r q q1) (h2 : rw_fr M1 M2 r q1 q2) : rw_fr M M2 r q q2 := by
  obtain ⟨a1, a2, a3⟩ := h1
  obtain ⟨b1, b2, b3⟩ := h2
  refine ⟨by omega, by omega, fun a ha hr hq => ?_⟩
  rw [b3 a (by omega) hr (by omega), a3 a ha hr hq]
theorem rw_ca_app (cap n k m : Nat) : rw_ca cap n (k + m) = rw_ca (rw_ca cap n k) (n + k) m := by
  induction k generalizing cap n with
  | zero => simp [rw_ca]
  | succ k ih =>
    rw [show k + 1 + m = (k + m) + 1 by omega]
    show rw_ca (rw_g1 cap (n + 1)) (n + 1) (k + m) = rw_ca (rw_ca (rw_g1 cap (n + 1)) (n + 1) k) (n + (k + 1)) m
    rw [ih, show n + 1 + k = n + (k + 1) by omega]
theorem rw_g1_le (cap n : Nat) : cap ≤ rw_g1 cap n := by unfold rw_g1; split <;> omega
theorem rw_ca_le (cap n k : Nat) : cap ≤ rw_ca cap n k := by
  induction k generalizing cap n with
  | zero => exact Nat.le_refl _
  | succ k ih => exact Nat.le_trans (rw_g1_le cap (n + 1)) (ih _ _)
theorem by8_lt (b : Int32) : by8 b < 256 := Nat.mod_lt _ (by decide)
theorem by8_i (b : Int32) : b.toInt8.toInt32 = (nI (by8 b)).toInt8.toInt32 := by
  have h : b.toInt8 = (nI (by8 b)).toInt8 := by
    apply Int8.toBitVec_inj.mp
    apply BitVec.eq_of_toNat_eq
    have h1 : (nI (by8 b)).toBitVec.toNat = by8 b := pk_tn (Nat.lt_trans (by8_lt b) (by decide))
    have h2 : b.toInt8.toBitVec.toNat = b.toBitVec.toNat % 256 := by show (BitVec.signExtend 8 b.toBitVec).toNat = _; rw [BitVec.signExtend_eq_setWidth_of_le _ (by decide), BitVec.toNat_setWidth]
    have h3 : (nI (by8 b)).toInt8.toBitVec.toNat = (nI (by8 b)).toBitVec.toNat % 256 := by show (BitVec.signExtend 8 _).toNat = _; rw [BitVec.signExtend_eq_setWidth_of_le _ (by decide), BitVec.toNat_setWidth]
    rw [h2, h3, h1]
    unfold by8
    omega
  rw [h]
section ROW
variable {G : sm_G} {M : sm_M} {r q cap : Nat} {l : List Nat}
theorem rw_at.ne (h : rw_at G M r q cap l) : q ≠ r := by
  obtain ⟨g, h1, h2, -⟩ := h
  intro e
  rw [e, h1] at h2
  cases h2

set_option maxHeartbeats 4000000 in
set_option maxRecDepth 100000 in
theorem c_Rw_has (hrow : rw_at G M r q cap l) (k : Int32) : sm_C G mf_Rw_has [.ref r, .int k] M 0 0 (sm_pu M (.int (if 0 ≤ k.toInt ∧ k.toInt < l.length then 1 else 0))) := by
  refine sm_ofW rfl (Nat.le_of_ble_eq_true rfl) ?_
  obtain ⟨g, hr, hq, hlc, hcp, hlt9, hfit, hg⟩ := id hrow
  have hcb := rw_cap hcp
  have hn : l.length < 2147483648 := by omega
  refine sm_iload_n d_Rw_has_0 rfl (j := 1) rfl ?_
  refine sm_if_lt (tgt := 16) d_Rw_has_1 (by decide) (fun h1 => ?_) (fun h1 => ?_)
  · refine sm_iconst (v := 0) d_Rw_has_16 (by decide) ?_
    refine sm_ireturn d_Rw_has_17 rfl (by decide) ?_
    refine ⟨rfl, ?_⟩
    (try simp only [lg_cmp_ge, lg_cmp_le, lg_cmp_gt, lg_cmp_lt, lg_cmp_eq, sm_b0, Classical.not_not] at h1); (try simp only [sm_lt, sm_le, sm_ltL, sm_leL, sm_eqI, sm_eqL, ni_m1, ni_0, ni_1, ni_2, ni_3, ni_4, ni_5, ni_6, ni_7, ni_8, ni_9, ni_10, ni_12, ni_13, ni_14, ni_15, ni_16, ni_17, ni_18, ni_20, ni_22, ni_24, ni_26, ni_28, ni_30, ni_31, ni_32, ni_33, ni_34, ni_36, ni_37, ni_38, ni_40, ni_45, ni_46, ni_47, ni_48, ni_58, ni_63, ni_64, ni_79, ni_80, ni_81, ni_82, ni_83, ni_85, ni_87, ni_88, ni_92, ni_93, ni_94, ni_95, ni_96, ni_97, ni_99, ni_100, ni_127, ni_128, ni_144, ni_146, ni_147, ni_192, ni_217, ni_224, ni_255, ni_256, ni_512, ni_1024, ni_7168, ni_65535, ni_65536, ni_16500, ni_2147483647, nl_0, nl_1, nl_2, nl_14, nl_64, nl_16, nl_2147483647, nl_2147483648, nl_255, nl_38, nl_32, nl_97, nl_33] at h1); (try simp only [sm_toInt hn] at h1)
    first | (exfalso; omega) | rw [if_pos (by omega)] | rw [if_neg (by omega)]
  · refine sm_iload_n d_Rw_has_4 rfl (j := 1) rfl ?_
    refine sm_aload_n d_Rw_has_5 rfl (j := 0) rfl ?_
    refine sm_get d_Rw_has_6 fg_Rw_15 (by assumption) (by rfl) ?_
    refine sm_icmp_ge (tgt := 16) d_Rw_has_9 (by decide) (fun h2 => ?_) (fun h2 => ?_)
    · refine sm_iconst (v := 0) d_Rw_has_16 (by decide) ?_
      refine sm_ireturn d_Rw_has_17 rfl (by decide) ?_
      refine ⟨rfl, ?_⟩
      (try simp only [lg_cmp_ge, lg_cmp_le, lg_cmp_gt, lg_cmp_lt, lg_cmp_eq, sm_b0, Classical.not_not] at h1 h2); (try simp only [sm_lt, sm_le, sm_ltL, sm_leL, sm_eqI, sm_eqL, ni_m1, ni_0, ni_1, ni_2, ni_3, ni_4, ni_5, ni_6, ni_7, ni_8, ni_9, ni_10, ni_12, ni_13, ni_14, ni_15, ni_16, ni_17, ni_18, ni_20, ni_22, ni_24, ni_26, ni_28, ni_30, ni_31, ni_32, ni_33, ni_34, ni_36, ni_37, ni_38, ni_40, ni_45, ni_46, ni_47, ni_48, ni_58, ni_63, ni_64, ni_79, ni_80, ni_81, ni_82, ni_83, ni_85, ni_87, ni_88, ni_92, ni_93, ni_94, ni_95, ni_96, ni_97, ni_99, ni_100, ni_127, ni_128, ni_144, ni_146, ni_147, ni_192, ni_217, ni_224, ni_255, ni_256, ni_512, ni_1024, ni_7168, ni_65535, ni_65536, ni_16500, ni_2147483647, nl_0, nl_1, nl_2, nl_14, nl_64, nl_16, nl_2147483647, nl_2147483648, nl_255, nl_38, nl_32, nl_97, nl_33] at h1 h2); (try simp only [sm_toInt hn] at h1 h2)
      first | (exfalso; omega) | rw [if_pos (by omega)] | rw [if_neg (by omega)]
    · refine sm_iconst (v := 1) d_Rw_has_12 (by decide) ?_
      refine sm_goto (tgt := 17) d_Rw_has_13 (by decide) ?_
      refine sm_ireturn d_Rw_has_17 rfl (by decide) ?_
      refine ⟨rfl, ?_⟩
      (try simp only [lg_cmp_ge, lg_cmp_le, lg_cmp_gt, lg_cmp_lt, lg_cmp_eq, sm_b0, Classical.not_not] at h1 h2); (try simp only [sm_lt, sm_le, sm_ltL, sm_leL, sm_eqI, sm_eqL, ni_m1, ni_0, ni_1, ni_2, ni_3, ni_4, ni_5, ni_6, ni_7, ni_8, ni_9, ni_10, ni_12, ni_13, ni_14, ni_15, ni_16, ni_17, ni_18, ni_20, ni_22, ni_24, ni_26, ni_28, ni_30, ni_31, ni_32, ni_33, ni_34, ni_36, ni_37, ni_38, ni_40, ni_45, ni_46, ni_47, ni_48, ni_58, ni_63, ni_64, ni_79, ni_80, ni_81, ni_82, ni_83, ni_85, ni_87, ni_88, ni_92, ni_93, ni_94, ni_95, ni_96, ni_97, ni_99, ni_100, ni_127, ni_128, ni_144, ni_146, ni_147, ni_192, ni_217, ni_224, ni_255, ni_256, ni_512, ni_1024, ni_7168, ni_65535, ni_65536, ni_16500, ni_2147483647, nl_0, nl_1, nl_2, nl_14, nl_64, nl_16, nl_2147483647, nl_2147483648, nl_255, nl_38, nl_32, nl_97, nl_33] at h1 h2); (try simp only [sm_toInt hn] at h1 h2)
      first | (exfalso; omega) | rw [if_pos (by omega)] | rw [if_neg (by omega)]

set_option maxHeartbeats 4000000 in
set_option maxRecDepth 100000 in
theorem c_Rw_u1 (hrow : rw_at G M r q cap l) (k : Int32) : sm_C G mf_Rw_u1 [.ref r, .int k] M 0 0 (sm_pu M (.int (nI (rw_u1 l k.toInt)))) := by
  refine sm_ofW rfl (Nat.le_of_ble_eq_true rfl) ?_
  obtain ⟨g, hr, hq, hlc, hcp, hlt9, hfit, hg⟩ := id hrow
  have hcb := rw_cap hcp
  have hn : l.length < 2147483648 := by omega
  refine sm_iload_n d_Rw_u1_0 rfl (j := 1) rfl ?_
  refine sm_if_lt (tgt := 25) d_Rw_u1_1 (by decide) (fun h1 => ?_) (fun h1 => ?_)
  · refine sm_iconst (v := 0) d_Rw_u1_25 (by decide) ?_
    refine sm_ireturn d_Rw_u1_26 rfl (by rfl) ?_
    (try simp only [lg_cmp_ge, lg_cmp_le, lg_cmp_gt, lg_cmp_lt, lg_cmp_eq, sm_b0, Classical.not_not] at h1); (try simp only [sm_lt, sm_le, sm_ltL, sm_leL, sm_eqI, sm_eqL, ni_m1, ni_0, ni_1, ni_2, ni_3, ni_4, ni_5, ni_6, ni_7, ni_8, ni_9, ni_10, ni_12, ni_13, ni_14, ni_15, ni_16, ni_17, ni_18, ni_20, ni_22, ni_24, ni_26, ni_28, ni_30, ni_31, ni_32, ni_33, ni_34, ni_36, ni_37, ni_38, ni_40, ni_45, ni_46, ni_47, ni_48, ni_58, ni_63, ni_64, ni_79, ni_80, ni_81, ni_82, ni_83, ni_85, ni_87, ni_88, ni_92, ni_93, ni_94, ni_95, ni_96, ni_97, ni_99, ni_100, ni_127, ni_128, ni_144, ni_146, ni_147, ni_192, ni_217, ni_224, ni_255, ni_256, ni_512, ni_1024, ni_7168, ni_65535, ni_65536, ni_16500, ni_2147483647, nl_0, nl_1, nl_2, nl_14, nl_64, nl_16, nl_2147483647, nl_2147483648, nl_255, nl_38, nl_32, nl_97, nl_33] at h1); (try simp only [sm_toInt hn] at h1)
    refine ⟨rfl, ?_⟩
    first | (rw [sm_cl0 (by omega), (hg _ (by omega)).2, rw_b (hg _ (by omega)).1, rw_u1, if_pos (by omega)]; done) | (rw [rw_u1, if_neg (by omega)]; rfl) | (rw [rw_u1, if_pos (by omega), rw_out (by omega)]; rfl)
  · refine sm_iload_n d_Rw_u1_4 rfl (j := 1) rfl ?_
    refine sm_aload_n d_Rw_u1_5 rfl (j := 0) rfl ?_
    refine sm_get d_Rw_u1_6 fg_Rw_15 (by assumption) (by rfl) ?_
    refine sm_icmp_ge (tgt := 25) d_Rw_u1_9 (by decide) (fun h2 => ?_) (fun h2 => ?_)
    · refine sm_iconst (v := 0) d_Rw_u1_25 (by decide) ?_
      refine sm_ireturn d_Rw_u1_26 rfl (by rfl) ?_
      (try simp only [lg_cmp_ge, lg_cmp_le, lg_cmp_gt, lg_cmp_lt, lg_cmp_eq, sm_b0, Classical.not_not] at h1 h2); (try simp only [sm_lt, sm_le, sm_ltL, sm_leL, sm_eqI, sm_eqL, ni_m1, ni_0, ni_1, ni_2, ni_3, ni_4, ni_5, ni_6, ni_7, ni_8, ni_9, ni_10, ni_12, ni_13, ni_14, ni_15, ni_16, ni_17, ni_18, ni_20, ni_22, ni_24, ni_26, ni_28, ni_30, ni_31, ni_32, ni_33, ni_34, ni_36, ni_37, ni_38, ni_40, ni_45, ni_46, ni_47, ni_48, ni_58, ni_63, ni_64, ni_79, ni_80, ni_81, ni_82, ni_83, ni_85, ni_87, ni_88, ni_92, ni_93, ni_94, ni_95, ni_96, ni_97, ni_99, ni_100, ni_127, ni_128, ni_144, ni_146, ni_147, ni_192, ni_217, ni_224, ni_255, ni_256, ni_512, ni_1024, ni_7168, ni_65535, ni_65536, ni_16500, ni_2147483647, nl_0, nl_1, nl_2, nl_14, nl_64, nl_16, nl_2147483647, nl_2147483648, nl_255, nl_38, nl_32, nl_97, nl_33] at h1 h2); (try simp only [sm_toInt hn] at h1 h2)
      refine ⟨rfl, ?_⟩
      first | (rw [sm_cl0 (by omega), (hg _ (by omega)).2, rw_b (hg _ (by omega)).1, rw_u1, if_pos (by omega)]; done) | (rw [rw_u1, if_neg (by omega)]; rfl) | (rw [rw_u1, if_pos (by omega), rw_out (by omega)]; rfl)
    · refine sm_aload_n d_Rw_u1_12 rfl (j := 0) rfl ?_
      refine sm_get d_Rw_u1_13 fg_Rw_9 (by assumption) (by rfl) ?_
      refine sm_iload_n d_Rw_u1_16 rfl (j := 1) rfl ?_
      refine sm_baload d_Rw_u1_17 (by assumption) ?_ ?_
      · (try simp only [lg_cmp_ge, lg_cmp_le, lg_cmp_gt, lg_cmp_lt, lg_cmp_eq, sm_b0, Classical.not_not] at h1 h2); (try simp only [sm_lt, sm_le, sm_ltL, sm_leL, sm_eqI, sm_eqL, ni_m1, ni_0, ni_1, ni_2, ni_3, ni_4, ni_5, ni_6, ni_7, ni_8, ni_9, ni_10, ni_12, ni_13, ni_14, ni_15, ni_16, ni_17, ni_18, ni_20, ni_22, ni_24, ni_26, ni_28, ni_30, ni_31, ni_32, ni_33, ni_34, ni_36, ni_37, ni_38, ni_40, ni_45, ni_46, ni_47, ni_48, ni_58, ni_63, ni_64, ni_79, ni_80, ni_81, ni_82, ni_83, ni_85, ni_87, ni_88, ni_92, ni_93, ni_94, ni_95, ni_96, ni_97, ni_99, ni_100, ni_127, ni_128, ni_144, ni_146, ni_147, ni_192, ni_217, ni_224, ni_255, ni_256, ni_512, ni_1024, ni_7168, ni_65535, ni_65536, ni_16500, ni_2147483647, nl_0, nl_1, nl_2, nl_14, nl_64, nl_16, nl_2147483647, nl_2147483648, nl_255, nl_38, nl_32, nl_97, nl_33] at h1 h2); (try simp only [sm_toInt hn] at h1 h2); exact sm_in (by omega) (by omega)
      refine sm_sipush (v := 255) d_Rw_u1_18 (by decide) ?_
      refine sm_iand d_Rw_u1_21 ?_
      refine sm_goto (tgt := 26) d_Rw_u1_22 (by decide) ?_
      refine sm_ireturn d_Rw_u1_26 rfl (by rfl) ?_
      (try simp only [lg_cmp_ge, lg_cmp_le, lg_cmp_gt, lg_cmp_lt, lg_cmp_eq, sm_b0, Classical.not_not] at h1 h2); (try simp only [sm_lt, sm_le, sm_ltL, sm_leL, sm_eqI, sm_eqL, ni_m1, ni_0, ni_1, ni_2, ni_3, ni_4, ni_5, ni_6, ni_7, ni_8, ni_9, ni_10, ni_12, ni_13, ni_14, ni_15, ni_16, ni_17, ni_18, ni_20, ni_22, ni_24, ni_26, ni_28, ni_30, ni_31, ni_32, ni_33, ni_34, ni_36, ni_37, ni_38, ni_40, ni_45, ni_46, ni_47, ni_48, ni_58, ni_63, ni_64, ni_79, ni_80, ni_81, ni_82, ni_83, ni_85, ni_87, ni_88, ni_92, ni_93, ni_94, ni_95, ni_96, ni_97, ni_99, ni_100, ni_127, ni_128, ni_144, ni_146, ni_147, ni_192, ni_217, ni_224, ni_255, ni_256, ni_512, ni_1024, ni_7168, ni_65535, ni_65536, ni_16500, ni_2147483647, nl_0, nl_1, nl_2, nl_14, nl_64, nl_16, nl_2147483647, nl_2147483648, nl_255, nl_38, nl_32, nl_97, nl_33] at h1 h2); (try simp only [sm_toInt hn] at h1 h2)
      refine ⟨rfl, ?_⟩
      first | (rw [sm_cl0 (by omega), (hg _ (by omega)).2, rw_b (hg _ (by omega)).1, rw_u1, if_pos (by omega)]; done) | (rw [rw_u1, if_neg (by omega)]; rfl) | (rw [rw_u1, if_pos (by omega), rw_out (by omega)]; rfl)

theorem rw_u2_lt (hrow : rw_at G M r q cap l) (k : Int) : rw_u2 l k < 65536 := by
  obtain ⟨g, hr, hq, hlc, hcp, hlt9, hfit, hg⟩ := hrow
  unfold rw_u2
  split
  · have h1 := (hg k.toNat (by omega)).1
    have h2 := (hg (k.toNat + 1) (by omega)).1
    omega
  · omega
theorem rw_or {a b : Nat} (ha : a < 256) (hb : b < 256) : nI a <<< (8 &&& 31) ||| nI b = nI (256 * a + b) := by
  have e1 : nI a <<< ((8 : Int32) &&& 31) = nI (a * 2 ^ 8) := pk_shlN _ 8 (by decide) (by omega)
  rw [e1]
  apply Int32.toBitVec_inj.mp
  apply BitVec.eq_of_toNat_eq
  rw [Int32.toBitVec_or, BitVec.toNat_or, pk_tn (by omega), pk_tn (by omega), pk_tn (by omega), Nat.mul_comm a, ← Nat.two_pow_add_eq_or_of_lt (by omega : b < 2 ^ 8)]
set_option maxHeartbeats 4000000 in
set_option maxRecDepth 100000 in
theorem c_Rw_u2 (hrow : rw_at G M r q cap l) (k : Int32) : sm_C G mf_Rw_u2 [.ref r, .int k] M 0 0 (sm_pu M (.int (nI (rw_u2 l k.toInt)))) := by
  refine sm_ofW rfl (Nat.le_of_ble_eq_true rfl) ?_
  obtain ⟨g, hr, hq, hlc, hcp, hlt9, hfit, hg⟩ := id hrow
  have hcb := rw_cap hcp
  have hn : l.length < 2147483648 := by omega
  have hs1 : (nI l.length - 1).toInt = (l.length : Int) - 1 := by
    rw [Int32.toInt_sub, sm_toInt hn, ni_1]
    apply Int.bmod_eq_of_le <;> omega
  refine sm_iload_n d_Rw_u2_0 rfl (j := 1) rfl ?_
  refine sm_if_lt (tgt := 43) d_Rw_u2_1 (by decide) (fun h1 => ?_) (fun h1 => ?_)
  · refine sm_iconst (v := 0) d_Rw_u2_43 (by decide) ?_
    refine sm_ireturn d_Rw_u2_44 rfl (by rfl) ?_
    (try simp only [lg_cmp_ge, lg_cmp_le, lg_cmp_gt, lg_cmp_lt, lg_cmp_eq, sm_b0, Classical.not_not] at h1); (try simp only [sm_lt, sm_le, sm_ltL, sm_leL, sm_eqI, sm_eqL, ni_m1, ni_0, ni_1, ni_2, ni_3, ni_4, ni_5, ni_6, ni_7, ni_8, ni_9, ni_10, ni_12, ni_13, ni_14, ni_15, ni_16, ni_17, ni_18, ni_20, ni_22, ni_24, ni_26, ni_28, ni_30, ni_31, ni_32, ni_33, ni_34, ni_36, ni_37, ni_38, ni_40, ni_45, ni_46, ni_47, ni_48, ni_58, ni_63, ni_64, ni_79, ni_80, ni_81, ni_82, ni_83, ni_85, ni_87, ni_88, ni_92, ni_93, ni_94, ni_95, ni_96, ni_97, ni_99, ni_100, ni_127, ni_128, ni_144, ni_146, ni_147, ni_192, ni_217, ni_224, ni_255, ni_256, ni_512, ni_1024, ni_7168, ni_65535, ni_65536, ni_16500, ni_2147483647, nl_0, nl_1, nl_2, nl_14, nl_64, nl_16, nl_2147483647, nl_2147483648, nl_255, nl_38, nl_32, nl_97, nl_33] at h1); (try simp only [sm_toInt hn] at h1)
    (try simp only [hs1] at h1)
    refine ⟨rfl, ?_⟩
    rw [rw_u2, if_neg (by omega)]; rfl
  · refine sm_iload_n d_Rw_u2_4 rfl (j := 1) rfl ?_
    refine sm_aload_n d_Rw_u2_5 rfl (j := 0) rfl ?_
    refine sm_get d_Rw_u2_6 fg_Rw_15 (by assumption) (by rfl) ?_
    refine sm_iconst (v := 1) d_Rw_u2_9 (by decide) ?_
    refine sm_isub d_Rw_u2_10 ?_
    refine sm_icmp_ge (tgt := 43) d_Rw_u2_11 (by decide) (fun h2 => ?_) (fun h2 => ?_)
    · refine sm_iconst (v := 0) d_Rw_u2_43 (by decide) ?_
      refine sm_ireturn d_Rw_u2_44 rfl (by rfl) ?_
      (try simp only [lg_cmp_ge, lg_cmp_le, lg_cmp_gt, lg_cmp_lt, lg_cmp_eq, sm_b0, Classical.not_not] at h1 h2); (try simp only [sm_lt, sm_le, sm_ltL, sm_leL, sm_eqI, sm_eqL, ni_m1, ni_0, ni_1, ni_2, ni_3, ni_4, ni_5, ni_6, ni_7, ni_8, ni_9, ni_10, ni_12, ni_13, ni_14, ni_15, ni_16, ni_17, ni_18, ni_20, ni_22, ni_24, ni_26, ni_28, ni_30, ni_31, ni_32, ni_33, ni_34, ni_36, ni_37, ni_38, ni_40, ni_45, ni_46, ni_47, ni_48, ni_58, ni_63, ni_64, ni_79, ni_80, ni_81, ni_82, ni_83, ni_85, ni_87, ni_88, ni_92, ni_93, ni_94, ni_95, ni_96, ni_97, ni_99, ni_100, ni_127, ni_128, ni_144, ni_146, ni_147, ni_192, ni_217, ni_224, ni_255, ni_256, ni_512, ni_1024, ni_7168, ni_65535, ni_65536, ni_16500, ni_2147483647, nl_0, nl_1, nl_2, nl_14, nl_64, nl_16, nl_2147483647, nl_2147483648, nl_255, nl_38, nl_32, nl_97, nl_33] at h1 h2); (try simp only [sm_toInt hn] at h1 h2)
      (try simp only [hs1] at h1 h2)
      refine ⟨rfl, ?_⟩
      rw [rw_u2, if_neg (by omega)]; rfl
    · refine sm_aload_n d_Rw_u2_14 rfl (j := 0) rfl ?_
      refine sm_get d_Rw_u2_15 fg_Rw_9 (by assumption) (by rfl) ?_
      refine sm_iload_n d_Rw_u2_18 rfl (j := 1) rfl ?_
      refine sm_baload d_Rw_u2_19 (by assumption) ?_ ?_
      · (try simp only [lg_cmp_ge, lg_cmp_le, lg_cmp_gt, lg_cmp_lt, lg_cmp_eq, sm_b0, Classical.not_not] at h1 h2); (try simp only [sm_lt, sm_le, sm_ltL, sm_leL, sm_eqI, sm_eqL, ni_m1, ni_0, ni_1, ni_2, ni_3, ni_4, ni_5, ni_6, ni_7, ni_8, ni_9, ni_10, ni_12, ni_13, ni_14, ni_15, ni_16, ni_17, ni_18, ni_20, ni_22, ni_24, ni_26, ni_28, ni_30, ni_31, ni_32, ni_33, ni_34, ni_36, ni_37, ni_38, ni_40, ni_45, ni_46, ni_47, ni_48, ni_58, ni_63, ni_64, ni_79, ni_80, ni_81, ni_82, ni_83, ni_85, ni_87, ni_88, ni_92, ni_93, ni_94, ni_95, ni_96, ni_97, ni_99, ni_100, ni_127, ni_128, ni_144, ni_146, ni_147, ni_192, ni_217, ni_224, ni_255, ni_256, ni_512, ni_1024, ni_7168, ni_65535, ni_65536, ni_16500, ni_2147483647, nl_0, nl_1, nl_2, nl_14, nl_64, nl_16, nl_2147483647, nl_2147483648, nl_255, nl_38, nl_32, nl_97, nl_33] at h1 h2); (try simp only [sm_toInt hn] at h1 h2); (try simp only [hs1] at h1 h2); exact sm_in (by omega) (by omega)
      refine sm_sipush (v := 255) d_Rw_u2_20 (by decide) ?_
      refine sm_iand d_Rw_u2_23 ?_
      refine sm_bipush (v := 8) d_Rw_u2_24 (by decide) ?_
      refine sm_ishl d_Rw_u2_26 ?_
      refine sm_aload_n d_Rw_u2_27 rfl (j := 0) rfl ?_
      refine sm_get d_Rw_u2_28 fg_Rw_9 (by assumption) (by rfl) ?_
      refine sm_iload_n d_Rw_u2_31 rfl (j := 1) rfl ?_
      refine sm_iconst (v := 1) d_Rw_u2_32 (by decide) ?_
      refine sm_iadd d_Rw_u2_33 ?_
      refine sm_baload d_Rw_u2_34 (by assumption) ?_ ?_
      · (try simp only [lg_cmp_ge, lg_cmp_le, lg_cmp_gt, lg_cmp_lt, lg_cmp_eq, sm_b0, Classical.not_not] at h1 h2); (try simp only [sm_lt, sm_le, sm_ltL, sm_leL, sm_eqI, sm_eqL, ni_m1, ni_0, ni_1, ni_2, ni_3, ni_4, ni_5, ni_6, ni_7, ni_8, ni_9, ni_10, ni_12, ni_13, ni_14, ni_15, ni_16, ni_17, ni_18, ni_20, ni_22, ni_24, ni_26, ni_28, ni_30, ni_31, ni_32, ni_33, ni_34, ni_36, ni_37, ni_38, ni_40, ni_45, ni_46, ni_47, ni_48, ni_58, ni_63, ni_64, ni_79, ni_80, ni_81, ni_82, ni_83, ni_85, ni_87, ni_88, ni_92, ni_93, ni_94, ni_95, ni_96, ni_97, ni_99, ni_100, ni_127, ni_128, ni_144, ni_146, ni_147, ni_192, ni_217, ni_224, ni_255, ni_256, ni_512, ni_1024, ni_7168, ni_65535, ni_65536, ni_16500, ni_2147483647, nl_0, nl_1, nl_2, nl_14, nl_64, nl_16, nl_2147483647, nl_2147483648, nl_255, nl_38, nl_32, nl_97, nl_33] at h1 h2); (try simp only [sm_toInt hn] at h1 h2); (try simp only [hs1] at h1 h2); have hk1 : (k + 1).toInt = k.toInt + 1 := (by rw [Int32.toInt_add, ni_1]; apply Int.bmod_eq_of_le <;> omega); exact sm_in (by omega) (by omega)
      refine sm_sipush (v := 255) d_Rw_u2_35 (by decide) ?_
      refine sm_iand d_Rw_u2_38 ?_
      refine sm_ior d_Rw_u2_39 ?_
      refine sm_goto (tgt := 44) d_Rw_u2_40 (by decide) ?_
      refine sm_ireturn d_Rw_u2_44 rfl (by rfl) ?_
      (try simp only [lg_cmp_ge, lg_cmp_le, lg_cmp_gt, lg_cmp_lt, lg_cmp_eq, sm_b0, Classical.not_not] at h1 h2); (try simp only [sm_lt, sm_le, sm_ltL, sm_leL, sm_eqI, sm_eqL, ni_m1, ni_0, ni_1, ni_2, ni_3, ni_4, ni_5, ni_6, ni_7, ni_8, ni_9, ni_10, ni_12, ni_13, ni_14, ni_15, ni_16, ni_17, ni_18, ni_20, ni_22, ni_24, ni_26, ni_28, ni_30, ni_31, ni_32, ni_33, ni_34, ni_36, ni_37, ni_38, ni_40, ni_45, ni_46, ni_47, ni_48, ni_58, ni_63, ni_64, ni_79, ni_80, ni_81, ni_82, ni_83, ni_85, ni_87, ni_88, ni_92, ni_93, ni_94, ni_95, ni_96, ni_97, ni_99, ni_100, ni_127, ni_128, ni_144, ni_146, ni_147, ni_192, ni_217, ni_224, ni_255, ni_256, ni_512, ni_1024, ni_7168, ni_65535, ni_65536, ni_16500, ni_2147483647, nl_0, nl_1, nl_2, nl_14, nl_64, nl_16, nl_2147483647, nl_2147483648, nl_255, nl_38, nl_32, nl_97, nl_33] at h1 h2); (try simp only [sm_toInt hn] at h1 h2)
      (try simp only [hs1] at h1 h2)
      refine ⟨rfl, ?_⟩
      have hk1 : (k + 1).toInt = k.toInt + 1 := by
        rw [Int32.toInt_add, ni_1]; apply Int.bmod_eq_of_le <;> omega
      have e1 : (k + 1).toNatClampNeg = k.toInt.toNat + 1 := by rw [sm_cl0 (by omega), hk1]; omega
      rw [sm_cl0 (k := k) (by omega), e1, (hg _ (by omega)).2, (hg _ (by omega)).2, rw_b (hg _ (by omega)).1, rw_b (hg _ (by omega)).1, rw_or (hg _ (by omega)).1 (hg _ (by omega)).1, rw_u2, if_pos (by omega)]

end ROW
