/-! StreamMarks$Row, the methods that append; Arrays.copyOf, Arrays.fill -/
section ROW
variable {G : sm_G} {M : sm_M} {r q cap : Nat} {l : List Nat}

set_option maxHeartbeats 4000000 in
set_option maxRecDepth 100000 in
theorem c_Ar_copyOf {b n0 : Nat} {g0 : Nat → Int32} (hm : M.1 b = some (.inl (G.2.1 0, n0, .inl g0))) (h0 : 0 < n0) (h1 : n0 ≤ 65536) (hb : b < M.2) (hfit : ∀ i, fits .byte (.int (g0 i)) = true) : sm_C G mf_Ar_copyOf [.ref b, .int (nI (2 * n0))] M 1 (2 * n0) (fun o M' => o = .inl (some (.ref M.2)) ∧ M' = (va_up M.1 M.2 (some (.inl (G.2.1 0, 2 * n0, .inl (va_cpy g0 (fun _ => 0) 0 0 n0)))), M.2 + 1)) := by
  refine sm_ofW rfl (Nat.le_of_ble_eq_true rfl) ?_
  refine sm_iload_n d_Ar_copyOf_0 rfl (j := 1) rfl ?_
  refine sm_aload_n d_Ar_copyOf_1 rfl (j := 0) rfl ?_
  refine sm_alen d_Ar_copyOf_2 (by assumption) (by rfl) (by rfl) ?_
  refine sm_icmp_ne (tgt := 14) d_Ar_copyOf_3 (by decide) (fun h1 => ?_) (fun h1 => False.elim (absurd ((nI_eq (a := 2 * n0) (b := n0) (by omega) (by omega)).mp h1) (by omega)))
  refine sm_W.more (bc' := 0 + 1) (bs' := 0 + 2 * n0) ?_ (by omega) (by omega)
  refine sm_iload_n d_Ar_copyOf_14 rfl (j := 1) rfl ?_
  refine sm_newarr (ti := 0) (N' := 2 * n0) (a0 := (2 * n0, .inl (fun _ => 0))) d_Ar_copyOf_15 mw_213 rfl (fun C h => by cases h) rfl (fun _ => rfl) (nI_pos (by omega)) (nI_clamp (by omega)) (by show 2 * n0 * 1 ≤ _; omega) ?_
  refine sm_astore_n d_Ar_copyOf_17 rfl (by decide) rfl ?_
  refine sm_aload_n d_Ar_copyOf_18 rfl (j := 1) rfl ?_
  refine sm_iconst (v := 0) d_Ar_copyOf_19 (by decide) ?_
  refine sm_aload_n d_Ar_copyOf_20 rfl (j := 0) rfl ?_
  refine sm_iconst (v := 0) d_Ar_copyOf_21 (by decide) ?_
  refine sm_aload_n d_Ar_copyOf_22 rfl (j := 1) rfl ?_
  refine sm_alen d_Ar_copyOf_23 ((va_up_ne _ _ (Nat.ne_of_lt hb)).trans hm) (by rfl) (by rfl) ?_
  refine sm_iload_n d_Ar_copyOf_24 rfl (j := 2) rfl ?_
  refine sm_minI d_Ar_copyOf_25 ⟨mw_605, mw_606, mw_21, mw_607⟩ (by decide) (Nat.le_of_ble_eq_true rfl) ?_
  have e3 : (if nI (2 * n0) < nI n0 then nI (2 * n0) else nI n0) = nI n0 := if_neg (nI_nlt (by omega) (by omega))
  rw [show Int32.ofNat n0 = nI n0 from rfl, e3]
  refine sm_copyb d_Ar_copyOf_28 ⟨mw_608, mw_610, mw_609, mw_22⟩ (by decide) (Nat.le_of_ble_eq_true rfl) ((va_up_ne _ _ (Nat.ne_of_lt hb)).trans hm) (va_up_self _ _ _) (nI_pos (by omega)) (by rw [nI_clamp (by omega)]; omega) (by rw [nI_clamp (by omega)]; omega) (fun i _ => hfit i) ?_
  refine sm_aload_n d_Ar_copyOf_31 rfl (j := 0) rfl ?_
  refine sm_areturn d_Ar_copyOf_32 rfl (by first | exact Or.inl ⟨_, rfl⟩ | exact Or.inr ⟨_, rfl⟩) (by first | exact Or.inr ⟨_, rfl⟩ | exact Or.inl rfl) ?_
  rw [nI_clamp (by omega), bx_uu]
  exact ⟨rfl, rfl⟩

set_option maxHeartbeats 4000000 in
set_option maxRecDepth 100000 in
theorem w_Rw_addU1_40 (hrow : rw_at G M r q cap l) (hlt : l.length < cap) (b : Int32) {bc bs : Nat} {Q : sm_O → sm_M → Prop} (hQ : ∀ M' : sm_M, rw_at G M' r q cap (l ++ [by8 b]) → M'.2 = M.2 → (∀ a : Nat, a ≠ r → a ≠ q → M'.1 a = M.1 a) → Q (.inl none) M') : sm_W G mf_Rw_addU1 40 [(0, .ref r), (1, .int b)] [] M bc bs Q := by
  obtain ⟨g, hr, hq, hlc, hcp, hlt9, hfit, hg⟩ := id hrow
  have hcb := rw_cap hcp
  have hn : l.length < 2147483648 := by omega
  have hqr := hrow.ne
  refine sm_aload_n d_Rw_addU1_40 rfl (j := 0) rfl ?_
  refine sm_get d_Rw_addU1_41 fg_Rw_15 (by assumption) (by rfl) ?_
  refine sm_aload_n d_Rw_addU1_44 rfl (j := 0) rfl ?_
  refine sm_get d_Rw_addU1_45 fg_Rw_9 (by assumption) (by rfl) ?_
  refine sm_alen d_Rw_addU1_48 (by assumption) (by rfl) (by rfl) ?_
  refine sm_icmp_ge (tgt := 73) d_Rw_addU1_49 (by decide) (fun h1 => absurd h1 (nI_ge hlt (by omega))) (fun h1 => ?_)
  refine sm_aload_n d_Rw_addU1_52 rfl (j := 0) rfl ?_
  refine sm_get d_Rw_addU1_53 fg_Rw_9 (by assumption) (by rfl) ?_
  refine sm_aload_n d_Rw_addU1_56 rfl (j := 0) rfl ?_
  refine sm_get d_Rw_addU1_57 fg_Rw_15 (by assumption) (by rfl) ?_
  refine sm_iload_n d_Rw_addU1_60 rfl (j := 1) rfl ?_
  refine sm_i2b d_Rw_addU1_61 ?_
  refine sm_bastore d_Rw_addU1_62 (by assumption) (vp_in_nI hlt (by omega)) ?_
  refine sm_aload_n d_Rw_addU1_63 rfl (j := 0) rfl ?_
  refine sm_dup d_Rw_addU1_64 rfl ?_
  refine sm_get d_Rw_addU1_65 fg_Rw_15 ((va_up_ne _ _ (Ne.symm hqr)).trans hr) (by rfl) ?_
  refine sm_iconst (v := 1) d_Rw_addU1_68 (by decide) ?_
  refine sm_iadd d_Rw_addU1_69 ?_
  refine sm_put d_Rw_addU1_70 fp_Rw_15 (by decide) ((va_up_ne _ _ (Ne.symm hqr)).trans hr) (by rfl) (by rfl) (Nat.le_of_ble_eq_true rfl) ?_
  refine sm_return d_Rw_addU1_73 rfl ?_
  rw [nI_1, nI_clamp (by omega), pk_vb, by8_i]
  refine hQ _ ⟨upd g l.length (nI (by8 b)).toInt8.toInt32, ?_, ?_, ?_, hcp, hlt9, ?_, ?_⟩ rfl (fun a h8 h9 => (va_up_ne _ _ h8).trans (va_up_ne _ _ h9))
  · rw [List.length_append]; exact va_up_self _ _ _
  · exact (va_up_ne _ _ hqr).trans (va_up_self _ _ _)
  · rw [List.length_append]; exact hlt
  · intro i
    by_cases e9 : i = l.length
    · subst e9; rw [pk_us]; exact pk_fb _
    · rw [pk_un e9]; exact hfit i
  · intro i hi
    rw [List.length_append] at hi
    have hi : i < l.length + 1 := hi
    by_cases e9 : i = l.length
    · subst e9; rw [pk_us]; exact ⟨by simp [List.getD]; exact by8_lt b, by simp [List.getD]⟩
    · rw [pk_un e9]
      have e8 : (l ++ [by8 b]).getD i 0 = l.getD i 0 := by simp [List.getD, List.getElem?_append_left (show i < l.length by omega)]
      rw [e8]; exact hg i (by omega)

set_option maxHeartbeats 4000000 in
set_option maxRecDepth 100000 in
theorem c_Rw_addU1 (hrow : rw_at G M r q cap l) (hfull : l.length < 65536) (b : Int32) : sm_C G mf_Rw_addU1 [.ref r, .int b] M (2 * (rw_ca cap l.length 1 - cap)) (2 * (rw_ca cap l.length 1 - cap)) (rw_ap G M r q cap l [by8 b]) := by
  refine sm_ofW rfl (Nat.le_of_ble_eq_true rfl) ?_
  obtain ⟨g, hr, hq, hlc, hcp, hlt9, hfit, hg⟩ := id hrow
  have hcb := rw_cap hcp
  have hn : l.length < 2147483648 := by omega
  have hqr := hrow.ne
  refine sm_aload_n d_Rw_addU1_0 rfl (j := 0) rfl ?_
  refine sm_get d_Rw_addU1_1 fg_Rw_15 (by assumption) (by rfl) ?_
  refine sm_aload_n d_Rw_addU1_4 rfl (j := 0) rfl ?_
  refine sm_get d_Rw_addU1_5 fg_Rw_9 (by assumption) (by rfl) ?_
  refine sm_alen d_Rw_addU1_8 (by assumption) (by rfl) (by rfl) ?_
  refine sm_icmp_lt (tgt := 40) d_Rw_addU1_9 (by decide) (fun h1 => ?_) (fun h1 => ?_)
  · exact w_Rw_addU1_40 hrow (by have h9 := (nI_ltI (by omega) (by omega)).mp h1; omega) b (fun M' k1 k2 k3 => ⟨rfl, q, by
      have hca : rw_ca cap l.length 1 = cap := by show rw_g1 cap (l.length + 1) = _; rw [rw_g1, if_pos (by have h9 := (nI_ltI (by omega) (by omega)).mp h1; omega)]
      rw [show ([by8 b] : List Nat).length = 1 from rfl, hca]; exact k1, by rw [k2]; exact Nat.le_refl _, Or.inl rfl, fun a _ h8 h9 => k3 a h8 h9⟩)
  · have hle : cap ≤ l.length := (nI_leI (by omega) (by omega)).mp (Int32.not_lt.mp h1)
    refine sm_aload_n d_Rw_addU1_12 rfl (j := 0) rfl ?_
    refine sm_get d_Rw_addU1_13 fg_Rw_9 (by assumption) (by rfl) ?_
    refine sm_alen d_Rw_addU1_16 (by assumption) (by rfl) (by rfl) ?_
    refine sm_ldc (v := 65536) d_Rw_addU1_17 mw_594 ?_
    refine sm_icmp_ge (tgt := 40) d_Rw_addU1_19 (by decide) (fun h2 => absurd h2 (nI_ge (b := 65536) (by omega) (by omega))) (fun h2 => ?_)
    refine sm_aload_n d_Rw_addU1_22 rfl (j := 0) rfl ?_
    refine sm_aload_n d_Rw_addU1_23 rfl (j := 0) rfl ?_
    refine sm_get d_Rw_addU1_24 fg_Rw_9 (by assumption) (by rfl) ?_
    refine sm_iconst (v := 2) d_Rw_addU1_27 (by decide) ?_
    refine sm_aload_n d_Rw_addU1_28 rfl (j := 0) rfl ?_
    refine sm_get d_Rw_addU1_29 fg_Rw_9 (by assumption) (by rfl) ?_
    refine sm_alen d_Rw_addU1_32 (by assumption) (by rfl) (by rfl) ?_
    refine sm_imul d_Rw_addU1_33 ?_
    have hca : rw_ca cap l.length 1 = 2 * cap := by show rw_g1 cap (l.length + 1) = _; rw [rw_g1, if_neg (by omega)]
    rw [hca]
    have e2 : (2 : Int32) * Int32.ofNat cap = nI (2 * cap) := by rw [show (2 : Int32) = nI 2 from rfl, show Int32.ofNat cap = nI cap from rfl, pk_mul]
    rw [e2]
    refine sm_callS d_Rw_addU1_34 cs_Rw_addU1_24 rfl (As := [.ref q, .int (nI (2 * cap))]) (mc := 1) (ms := 2 * cap) (bc' := 0) (bs' := 0) rfl rfl (Nat.le_of_ble_eq_true rfl) (by omega) (by omega) (c_Ar_copyOf hq (by omega) (by omega) hlt9.2 hfit) (fun X M9 hP => by cases hP.1) (fun v M9 hP => ?_)
    obtain ⟨hv, rfl⟩ := hP
    cases hv
    refine sm_put d_Rw_addU1_37 fp_Rw_9 (by decide) ((va_up_ne _ _ (Nat.ne_of_lt hlt9.1)).trans hr) (by rfl) (by rfl) (Nat.le_of_ble_eq_true rfl) ?_
    have hrow2 : rw_at G (va_up (va_up M.1 M.2 (some (.inl (G.2.1 0, 2 * cap, .inl (va_cpy g (fun _ => 0) 0 0 cap))))) r (some (.inr (5, [Value.ref q, Value.int (nI l.length)].set 0 (.ref M.2)))), M.2 + 1) r M.2 (2 * cap) l := by
      refine ⟨va_cpy g (fun _ => 0) 0 0 cap, va_up_self _ _ _, (va_up_ne _ _ (Nat.ne_of_gt hlt9.1)).trans (va_up_self _ _ _), by omega, hcb.2.2 (by omega), ⟨Nat.lt_succ_of_lt hlt9.1, Nat.lt_succ_self _⟩, fun i => ?_, fun i hi => ⟨(hg i hi).1, ?_⟩⟩
      · unfold va_cpy
        split
        · exact hfit _
        · rfl
      · rw [pk_cpy_in (Nat.zero_le _) (by omega), Nat.sub_zero, Nat.zero_add]; exact (hg i hi).2
    exact w_Rw_addU1_40 hrow2 (by omega) b (fun M' k1 k2 k3 => ⟨rfl, M.2, by rw [show ([by8 b] : List Nat).length = 1 from rfl, hca]; exact k1, by rw [k2]; exact Nat.le_succ _, Or.inr ⟨Nat.le_refl _, by rw [k2]; exact Nat.lt_succ_self _⟩, fun a h7 h8 h9 => (k3 a h8 (by omega)).trans ((va_up_ne _ _ h8).trans (va_up_ne _ _ (by omega)))⟩)

end ROW
