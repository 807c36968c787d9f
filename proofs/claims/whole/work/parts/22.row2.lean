/-! StreamMarks$Row, its other methods; Arrays.copyOf, Arrays.fill -/
theorem rw_u4n {a b : Nat} (ha : a < 65536) (hb : b < 65536) : (nI a).toInt64 <<< ((16 : Int32).toInt64 &&& 63) ||| (nI b).toInt64 = lN (65536 * a + b) := by
  have e1 : (nI a).toInt64 <<< ((16 : Int32).toInt64 &&& 63) = lN (a * 2 ^ 16) := by rw [nI_l (by omega)]; exact wb_shl a (k := 16) (by decide)
  rw [e1, nI_l (by omega), wb_or (by omega) (by omega), Nat.mul_comm a, ← Nat.two_pow_add_eq_or_of_lt (by omega : b < 2 ^ 16)]
section ROW
variable {G : sm_G} {M : sm_M} {r q cap : Nat} {l : List Nat}
def rw_u4 (l : List Nat) (k : Int32) : Nat := 65536 * rw_u2 l k.toInt + rw_u2 l (k + 2).toInt

set_option maxHeartbeats 4000000 in
set_option maxRecDepth 100000 in
theorem c_Rw_u4 (hrow : rw_at G M r q cap l) (k : Int32) : sm_C G mf_Rw_u4 [.ref r, .int k] M 0 0 (sm_pu M (.long (lN (rw_u4 l k)))) := by
  refine sm_ofW rfl (Nat.le_of_ble_eq_true rfl) ?_
  obtain ⟨g, hr, hq, hlc, hcp, hlt9, hfit, hg⟩ := id hrow
  have hcb := rw_cap hcp
  have hn : l.length < 2147483648 := by omega
  have hqr := hrow.ne
  refine sm_aload_n d_Rw_u4_0 rfl (j := 0) rfl ?_
  refine sm_iload_n d_Rw_u4_1 rfl (j := 1) rfl ?_
  refine sm_callVp d_Rw_u4_2 cs_Rw_u4_19 rfl (by assumption) (As := [_]) rfl rfl (Nat.le_of_ble_eq_true rfl) (c_Rw_u2 hrow _) ?_
  refine sm_i2l d_Rw_u4_5 ?_
  refine sm_bipush (v := 16) d_Rw_u4_6 (by decide) ?_
  refine sm_lshl d_Rw_u4_8 ?_
  refine sm_aload_n d_Rw_u4_9 rfl (j := 0) rfl ?_
  refine sm_iload_n d_Rw_u4_10 rfl (j := 1) rfl ?_
  refine sm_iconst (v := 2) d_Rw_u4_11 (by decide) ?_
  refine sm_iadd d_Rw_u4_12 ?_
  refine sm_callVp d_Rw_u4_13 cs_Rw_u4_19 rfl (by assumption) (As := [_]) rfl rfl (Nat.le_of_ble_eq_true rfl) (c_Rw_u2 hrow _) ?_
  refine sm_i2l d_Rw_u4_16 ?_
  refine sm_lor d_Rw_u4_17 ?_
  refine sm_lreturn d_Rw_u4_18 rfl ?_
  exact ⟨rfl, by rw [rw_u4n (rw_u2_lt hrow _) (rw_u2_lt hrow _)]; rfl⟩

/-- byte k becomes b -/
def rw_set (l : List Nat) (k : Int) (b : Nat) : List Nat := if 0 ≤ k ∧ k < l.length then l.set k.toNat b else l
theorem rw_at.upd {g : Nat → Int32} {k b : Nat} (h : rw_at G M r q cap l) (hk : k < l.length) (hb : b < 256) (hq : M.1 q = some (.inl (G.2.1 0, cap, .inl g))) : rw_at G (va_up M.1 q (some (.inl (G.2.1 0, cap, .inl (upd g k (nI b).toInt8.toInt32)))), M.2) r q cap (l.set k b) := by
  have hne := h.ne
  obtain ⟨g', h1, h2, h3, h4, h5, h6, h7⟩ := h
  have e : g' = g := by rw [h2] at hq; cases hq; rfl
  subst e
  refine ⟨_, by rw [List.length_set]; exact (va_up_ne _ _ (Ne.symm hne)).trans h1, va_up_self _ _ _, by rw [List.length_set]; exact h3, h4, h5, fun i => ?_, fun i hi => ?_⟩
  · by_cases e9 : i = k
    · subst e9; rw [pk_us]; exact pk_fb _
    · rw [pk_un e9]; exact h6 i
  · rw [List.length_set] at hi
    by_cases e9 : i = k
    · subst e9
      rw [pk_us]
      have e8 : (l.set i b).getD i 0 = b := by simp [List.getD, hi]
      rw [e8]
      exact ⟨hb, rfl⟩
    · rw [pk_un e9]
      have e8 : (l.set k b).getD i 0 = l.getD i 0 := by simp [List.getD, List.getElem?_set_ne (Ne.symm e9)]
      rw [e8]
      exact h7 i hi
def rw_st (G : sm_G) (M : sm_M) (r q cap : Nat) (l' : List Nat) : sm_O → sm_M → Prop := fun o M' => o = .inl none ∧ rw_at G M' r q cap l' ∧ M'.2 = M.2 ∧ ∀ a : Nat, a ≠ r → a ≠ q → M'.1 a = M.1 a
set_option maxHeartbeats 4000000 in
set_option maxRecDepth 100000 in
theorem c_Rw_setU1 (hrow : rw_at G M r q cap l) (k b : Int32) : sm_C G mf_Rw_setU1 [.ref r, .int k, .int b] M 0 0 (rw_st G M r q cap (rw_set l k.toInt (by8 b))) := by
  refine sm_ofW rfl (Nat.le_of_ble_eq_true rfl) ?_
  obtain ⟨g, hr, hq, hlc, hcp, hlt9, hfit, hg⟩ := id hrow
  have hcb := rw_cap hcp
  have hn : l.length < 2147483648 := by omega
  have hqr := hrow.ne
  refine sm_iload_n d_Rw_setU1_0 rfl (j := 1) rfl ?_
  refine sm_if_lt (tgt := 20) d_Rw_setU1_1 (by decide) (fun h1 => ?_) (fun h1 => ?_)
  · refine sm_return d_Rw_setU1_20 rfl ?_
    (try simp only [lg_cmp_ge, lg_cmp_le, lg_cmp_gt, lg_cmp_lt, lg_cmp_eq, sm_b0, Classical.not_not] at h1); (try simp only [sm_lt, sm_le, sm_ltL, sm_leL, sm_eqI, sm_eqL, ni_m1, ni_0, ni_1, ni_2, ni_3, ni_4, ni_5, ni_6, ni_7, ni_8, ni_9, ni_10, ni_12, ni_13, ni_14, ni_15, ni_16, ni_17, ni_18, ni_20, ni_22, ni_24, ni_26, ni_28, ni_30, ni_31, ni_32, ni_33, ni_34, ni_36, ni_37, ni_38, ni_40, ni_45, ni_46, ni_47, ni_48, ni_58, ni_63, ni_64, ni_79, ni_80, ni_81, ni_82, ni_83, ni_85, ni_87, ni_88, ni_92, ni_93, ni_94, ni_95, ni_96, ni_97, ni_99, ni_100, ni_127, ni_128, ni_144, ni_146, ni_147, ni_192, ni_217, ni_224, ni_255, ni_256, ni_512, ni_1024, ni_7168, ni_65535, ni_65536, ni_16500, ni_2147483647, nl_0, nl_1, nl_2, nl_14, nl_64, nl_16, nl_2147483647, nl_2147483648, nl_255, nl_38, nl_32, nl_97, nl_33] at h1); (try simp only [sm_toInt hn] at h1)
    rw [rw_set, if_neg (by omega)]
    exact ⟨rfl, hrow, rfl, fun _ _ _ => rfl⟩
  · refine sm_iload_n d_Rw_setU1_4 rfl (j := 1) rfl ?_
    refine sm_aload_n d_Rw_setU1_5 rfl (j := 0) rfl ?_
    refine sm_get d_Rw_setU1_6 fg_Rw_15 (by assumption) (by rfl) ?_
    refine sm_icmp_ge (tgt := 20) d_Rw_setU1_9 (by decide) (fun h2 => ?_) (fun h2 => ?_)
    · refine sm_return d_Rw_setU1_20 rfl ?_
      (try simp only [lg_cmp_ge, lg_cmp_le, lg_cmp_gt, lg_cmp_lt, lg_cmp_eq, sm_b0, Classical.not_not] at h1 h2); (try simp only [sm_lt, sm_le, sm_ltL, sm_leL, sm_eqI, sm_eqL, ni_m1, ni_0, ni_1, ni_2, ni_3, ni_4, ni_5, ni_6, ni_7, ni_8, ni_9, ni_10, ni_12, ni_13, ni_14, ni_15, ni_16, ni_17, ni_18, ni_20, ni_22, ni_24, ni_26, ni_28, ni_30, ni_31, ni_32, ni_33, ni_34, ni_36, ni_37, ni_38, ni_40, ni_45, ni_46, ni_47, ni_48, ni_58, ni_63, ni_64, ni_79, ni_80, ni_81, ni_82, ni_83, ni_85, ni_87, ni_88, ni_92, ni_93, ni_94, ni_95, ni_96, ni_97, ni_99, ni_100, ni_127, ni_128, ni_144, ni_146, ni_147, ni_192, ni_217, ni_224, ni_255, ni_256, ni_512, ni_1024, ni_7168, ni_65535, ni_65536, ni_16500, ni_2147483647, nl_0, nl_1, nl_2, nl_14, nl_64, nl_16, nl_2147483647, nl_2147483648, nl_255, nl_38, nl_32, nl_97, nl_33] at h1 h2); (try simp only [sm_toInt hn] at h1 h2)
      rw [rw_set, if_neg (by omega)]
      exact ⟨rfl, hrow, rfl, fun _ _ _ => rfl⟩
    · refine sm_aload_n d_Rw_setU1_12 rfl (j := 0) rfl ?_
      refine sm_get d_Rw_setU1_13 fg_Rw_9 (by assumption) (by rfl) ?_
      refine sm_iload_n d_Rw_setU1_16 rfl (j := 1) rfl ?_
      refine sm_iload_n d_Rw_setU1_17 rfl (j := 2) rfl ?_
      refine sm_i2b d_Rw_setU1_18 ?_
      refine sm_bastore d_Rw_setU1_19 (by assumption) ?_ ?_
      · (try simp only [lg_cmp_ge, lg_cmp_le, lg_cmp_gt, lg_cmp_lt, lg_cmp_eq, sm_b0, Classical.not_not] at h1 h2); (try simp only [sm_lt, sm_le, sm_ltL, sm_leL, sm_eqI, sm_eqL, ni_m1, ni_0, ni_1, ni_2, ni_3, ni_4, ni_5, ni_6, ni_7, ni_8, ni_9, ni_10, ni_12, ni_13, ni_14, ni_15, ni_16, ni_17, ni_18, ni_20, ni_22, ni_24, ni_26, ni_28, ni_30, ni_31, ni_32, ni_33, ni_34, ni_36, ni_37, ni_38, ni_40, ni_45, ni_46, ni_47, ni_48, ni_58, ni_63, ni_64, ni_79, ni_80, ni_81, ni_82, ni_83, ni_85, ni_87, ni_88, ni_92, ni_93, ni_94, ni_95, ni_96, ni_97, ni_99, ni_100, ni_127, ni_128, ni_144, ni_146, ni_147, ni_192, ni_217, ni_224, ni_255, ni_256, ni_512, ni_1024, ni_7168, ni_65535, ni_65536, ni_16500, ni_2147483647, nl_0, nl_1, nl_2, nl_14, nl_64, nl_16, nl_2147483647, nl_2147483648, nl_255, nl_38, nl_32, nl_97, nl_33] at h1 h2); (try simp only [sm_toInt hn] at h1 h2); exact sm_in (by omega) (by omega)
      refine sm_return d_Rw_setU1_20 rfl ?_
      (try simp only [lg_cmp_ge, lg_cmp_le, lg_cmp_gt, lg_cmp_lt, lg_cmp_eq, sm_b0, Classical.not_not] at h1 h2); (try simp only [sm_lt, sm_le, sm_ltL, sm_leL, sm_eqI, sm_eqL, ni_m1, ni_0, ni_1, ni_2, ni_3, ni_4, ni_5, ni_6, ni_7, ni_8, ni_9, ni_10, ni_12, ni_13, ni_14, ni_15, ni_16, ni_17, ni_18, ni_20, ni_22, ni_24, ni_26, ni_28, ni_30, ni_31, ni_32, ni_33, ni_34, ni_36, ni_37, ni_38, ni_40, ni_45, ni_46, ni_47, ni_48, ni_58, ni_63, ni_64, ni_79, ni_80, ni_81, ni_82, ni_83, ni_85, ni_87, ni_88, ni_92, ni_93, ni_94, ni_95, ni_96, ni_97, ni_99, ni_100, ni_127, ni_128, ni_144, ni_146, ni_147, ni_192, ni_217, ni_224, ni_255, ni_256, ni_512, ni_1024, ni_7168, ni_65535, ni_65536, ni_16500, ni_2147483647, nl_0, nl_1, nl_2, nl_14, nl_64, nl_16, nl_2147483647, nl_2147483648, nl_255, nl_38, nl_32, nl_97, nl_33] at h1 h2); (try simp only [sm_toInt hn] at h1 h2)
      rw [rw_set, if_pos (by omega), pk_vb, by8_i, sm_cl0 (by omega)]
      exact ⟨rfl, hrow.upd (by omega) (by8_lt b) hq, rfl, fun a _ h9 => va_up_ne _ _ h9⟩

set_option maxHeartbeats 4000000 in
set_option maxRecDepth 100000 in
theorem c_Rw_clearAll (hrow : rw_at G M r q cap l) : sm_C G mf_Rw_clearAll [.ref r] M 0 0 (rw_st G M r q cap []) := by
  refine sm_ofW rfl (Nat.le_of_ble_eq_true rfl) ?_
  obtain ⟨g, hr, hq, hlc, hcp, hlt9, hfit, hg⟩ := id hrow
  have hcb := rw_cap hcp
  have hn : l.length < 2147483648 := by omega
  have hqr := hrow.ne
  refine sm_aload_n d_Rw_clearAll_0 rfl (j := 0) rfl ?_
  refine sm_iconst (v := 0) d_Rw_clearAll_1 (by decide) ?_
  refine sm_put d_Rw_clearAll_2 fp_Rw_15 (by decide) (by assumption) (by rfl) (by rfl) (Nat.le_of_ble_eq_true rfl) ?_
  refine sm_return d_Rw_clearAll_5 rfl ?_
  exact ⟨rfl, ⟨g, va_up_self _ _ _, (va_up_ne _ _ hqr).trans hq, Nat.zero_le _, hcp, hlt9, hfit, fun i hi => absurd hi (Nat.not_lt_zero i)⟩, rfl, fun a h9 _ => va_up_ne _ _ h9⟩

end ROW
