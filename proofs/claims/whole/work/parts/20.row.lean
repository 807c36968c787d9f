/-! StreamMarks$Row: a row of bytes -/
/-- the row r holds the bytes l, in the array q -/
def rw_at (G : sm_G) (M : sm_M) (r q : Nat) (l : List Nat) : Prop := ∃ (cap : Nat) (g : Nat → Int32), M.1 r = some (.inr (5, [.ref q, .int (nI l.length)])) ∧ M.1 q = some (.inl (G.2.1 0, cap, .inl g)) ∧ l.length ≤ cap ∧ cap ≤ 65536 ∧ 256 ≤ cap ∧ ∀ i, i < l.length → l.getD i 0 < 256 ∧ g i = (nI (l.getD i 0)).toInt8.toInt32
def rw_u1 (l : List Nat) (k : Int) : Nat := if 0 ≤ k then l.getD k.toNat 0 else 0
def rw_u2 (l : List Nat) (k : Int) : Nat := if 0 ≤ k ∧ k + 1 < l.length then 256 * l.getD k.toNat 0 + l.getD (k.toNat + 1) 0 else 0
def rw_u4 (l : List Nat) (k : Int32) : Nat := 65536 * rw_u2 l k.toInt + rw_u2 l (k + 2).toInt
theorem rw_out {l : List Nat} {k : Nat} (h : l.length ≤ k) : l.getD k 0 = 0 := by simp [List.getD, h]
theorem rw_b {n : Nat} (h : n < 256) : (nI n).toInt8.toInt32 &&& 255 = nI n := sc_k8 n h

set_option maxHeartbeats 4000000 in
set_option maxRecDepth 100000 in
theorem c_Rw_has {G : sm_G} {M : sm_M} {r q : Nat} {l : List Nat} (hrow : rw_at G M r q l) (k : Int32) : sm_C G mf_Rw_has [.ref r, .int k] M 0 0 (sm_pu M (.int (if 0 ≤ k.toInt ∧ k.toInt < l.length then 1 else 0))) := by
  refine sm_ofW rfl (Nat.le_of_ble_eq_true rfl) ?_
  obtain ⟨cap, g, hr, hq, hlc, hc6, hc2, hg⟩ := id hrow
  have hn : l.length < 2147483648 := by omega
  refine sm_iload_n d_Rw_has_0 rfl (j := 1) rfl ?_
  refine sm_if_lt (tgt := 16) d_Rw_has_1 (by decide) (fun h1 => ?_) (fun h1 => ?_)
  · refine sm_iconst (v := 0) d_Rw_has_16 (by decide) ?_
    refine sm_ireturn d_Rw_has_17 rfl (by decide) ?_
    exact ⟨rfl, by simp only [sm_lt0, sm_le, sm_toInt hn] at *; first | rw [if_pos (by omega)] | rw [if_neg (by omega)]⟩
  · refine sm_iload_n d_Rw_has_4 rfl (j := 1) rfl ?_
    refine sm_aload_n d_Rw_has_5 rfl (j := 0) rfl ?_
    refine sm_get d_Rw_has_6 fg_Rw_15 (by assumption) (by rfl) ?_
    refine sm_icmp_ge (tgt := 16) d_Rw_has_9 (by decide) (fun h2 => ?_) (fun h2 => ?_)
    · refine sm_iconst (v := 0) d_Rw_has_16 (by decide) ?_
      refine sm_ireturn d_Rw_has_17 rfl (by decide) ?_
      exact ⟨rfl, by simp only [sm_lt0, sm_le, sm_toInt hn] at *; first | rw [if_pos (by omega)] | rw [if_neg (by omega)]⟩
    · refine sm_iconst (v := 1) d_Rw_has_12 (by decide) ?_
      refine sm_goto (tgt := 17) d_Rw_has_13 (by decide) ?_
      refine sm_ireturn d_Rw_has_17 rfl (by decide) ?_
      exact ⟨rfl, by simp only [sm_lt0, sm_le, sm_toInt hn] at *; first | rw [if_pos (by omega)] | rw [if_neg (by omega)]⟩

set_option maxHeartbeats 4000000 in
set_option maxRecDepth 100000 in
theorem c_Rw_u1 {G : sm_G} {M : sm_M} {r q : Nat} {l : List Nat} (hrow : rw_at G M r q l) (k : Int32) : sm_C G mf_Rw_u1 [.ref r, .int k] M 0 0 (sm_pu M (.int (nI (rw_u1 l k.toInt)))) := by
  refine sm_ofW rfl (Nat.le_of_ble_eq_true rfl) ?_
  obtain ⟨cap, g, hr, hq, hlc, hc6, hc2, hg⟩ := id hrow
  have hn : l.length < 2147483648 := by omega
  refine sm_iload_n d_Rw_u1_0 rfl (j := 1) rfl ?_
  refine sm_if_lt (tgt := 25) d_Rw_u1_1 (by decide) (fun h1 => ?_) (fun h1 => ?_)
  · refine sm_iconst (v := 0) d_Rw_u1_25 (by decide) ?_
    refine sm_ireturn d_Rw_u1_26 rfl (by rfl) ?_
    simp only [sm_lt0, sm_le, sm_toInt hn] at *
    refine ⟨rfl, ?_⟩
    first | (rw [sm_cl0 (by omega), (hg _ (by omega)).2, rw_b (hg _ (by omega)).1, rw_u1, if_pos (by omega)]; done) | (rw [rw_u1, if_neg (by omega)]; rfl) | (rw [rw_u1, if_pos (by omega), rw_out (by omega)]; rfl)
  · refine sm_iload_n d_Rw_u1_4 rfl (j := 1) rfl ?_
    refine sm_aload_n d_Rw_u1_5 rfl (j := 0) rfl ?_
    refine sm_get d_Rw_u1_6 fg_Rw_15 (by assumption) (by rfl) ?_
    refine sm_icmp_ge (tgt := 25) d_Rw_u1_9 (by decide) (fun h2 => ?_) (fun h2 => ?_)
    · refine sm_iconst (v := 0) d_Rw_u1_25 (by decide) ?_
      refine sm_ireturn d_Rw_u1_26 rfl (by rfl) ?_
      simp only [sm_lt0, sm_le, sm_toInt hn] at *
      refine ⟨rfl, ?_⟩
      first | (rw [sm_cl0 (by omega), (hg _ (by omega)).2, rw_b (hg _ (by omega)).1, rw_u1, if_pos (by omega)]; done) | (rw [rw_u1, if_neg (by omega)]; rfl) | (rw [rw_u1, if_pos (by omega), rw_out (by omega)]; rfl)
    · refine sm_aload_n d_Rw_u1_12 rfl (j := 0) rfl ?_
      refine sm_get d_Rw_u1_13 fg_Rw_9 (by assumption) (by rfl) ?_
      refine sm_iload_n d_Rw_u1_16 rfl (j := 1) rfl ?_
      refine sm_baload d_Rw_u1_17 (by assumption) ?_ ?_
      · simp only [sm_lt0, sm_le, sm_toInt hn] at *; exact sm_in (by omega) (by omega)
      refine sm_sipush (v := 255) d_Rw_u1_18 (by decide) ?_
      refine sm_iand d_Rw_u1_21 ?_
      refine sm_goto (tgt := 26) d_Rw_u1_22 (by decide) ?_
      refine sm_ireturn d_Rw_u1_26 rfl (by rfl) ?_
      simp only [sm_lt0, sm_le, sm_toInt hn] at *
      refine ⟨rfl, ?_⟩
      first | (rw [sm_cl0 (by omega), (hg _ (by omega)).2, rw_b (hg _ (by omega)).1, rw_u1, if_pos (by omega)]; done) | (rw [rw_u1, if_neg (by omega)]; rfl) | (rw [rw_u1, if_pos (by omega), rw_out (by omega)]; rfl)

