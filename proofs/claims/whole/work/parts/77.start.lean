/-! the law from its entry -/
theorem md_fresh0 {G : sm_G} {b : Nat} {M : sm_M} (h0 : M.1 (b + 116) = some (.inr (10, [.int 0, .ref (b + 117), .int 0, .int 0, .ref (b + 117 + 1), .ref (b + 117 + 2), .ref (b + 117 + 3), .ref (b + 117 + 4), .int 0, .int (1), .int 0, .int 0, .int 0, .ref (b + 117 + 5), .ref (b + 117 + 6), .ref (b + 117 + 7), .ref (b + 117 + 8), .int 0, .ref (b + 117 + 9), .ref (b + 117 + 10), .int 0, .int 0, .int (-1), .int 0, .ref (b + 117 + 11), .ref (b + 117 + 12), .ref (b + 117 + 13), .ref (b + 117 + 14), .int 0, .ref (b + 117 + 15), .ref (b + 117 + 16), .ref (b + 117 + 17), .ref (b + 117 + 18), .ref (b + 117 + 19), .int 0, .int 0, .int 0])))
    (hc : ∀ i n, ([8, 16, 16, 16, 16, 128, 528, 528, 1552, 192, 65536, 16500, 16500, 16500, 16500, 256, 256, 256, 256, 256] : List Nat)[i]? = some n → M.1 (b + 117 + i) = some (.inl (G.2.1 1, n, .inl fun _ => 0))) : lo_at G md_L (b + 116) M w0m := by
  intro a t hL
  have hlt := md_lt hL
  by_cases ha : a = 0
  · subst ha
    have e9 : md_L 0 = some t := hL
    unfold md_L at e9
    cases e9
    exact h0
  · rw [w0m_z ha]
    have key : ∀ i n, a = i + 1 → t = .inl n → ([8, 16, 16, 16, 16, 128, 528, 528, 1552, 192, 65536, 16500, 16500, 16500, 16500, 256, 256, 256, 256, 256] : List Nat)[i]? = some n → M.1 (b + 116 + a) = some (lo_cell G (b + 116) (fun _ => 0) t) := fun i n e1 e2 h => by
      subst e1
      subst e2
      have := hc i n h
      rw [show b + 117 + i = b + 116 + (i + 1) by omega] at this
      exact this
    rcases (show a = 1 ∨ a = 2 ∨ a = 3 ∨ a = 4 ∨ a = 5 ∨ a = 6 ∨ a = 7 ∨ a = 8 ∨ a = 9 ∨ a = 10 ∨ a = 11 ∨ a = 12 ∨ a = 13 ∨ a = 14 ∨ a = 15 ∨ a = 16 ∨ a = 17 ∨ a = 18 ∨ a = 19 ∨ a = 20 by omega) with rfl | rfl | rfl | rfl | rfl | rfl | rfl | rfl | rfl | rfl | rfl | rfl | rfl | rfl | rfl | rfl | rfl | rfl | rfl | rfl
    · exact key 0 8 rfl (Option.some.inj hL.symm) rfl
    · exact key 1 16 rfl (Option.some.inj hL.symm) rfl
    · exact key 2 16 rfl (Option.some.inj hL.symm) rfl
    · exact key 3 16 rfl (Option.some.inj hL.symm) rfl
    · exact key 4 16 rfl (Option.some.inj hL.symm) rfl
    · exact key 5 128 rfl (Option.some.inj hL.symm) rfl
    · exact key 6 528 rfl (Option.some.inj hL.symm) rfl
    · exact key 7 528 rfl (Option.some.inj hL.symm) rfl
    · exact key 8 1552 rfl (Option.some.inj hL.symm) rfl
    · exact key 9 192 rfl (Option.some.inj hL.symm) rfl
    · exact key 10 65536 rfl (Option.some.inj hL.symm) rfl
    · exact key 11 16500 rfl (Option.some.inj hL.symm) rfl
    · exact key 12 16500 rfl (Option.some.inj hL.symm) rfl
    · exact key 13 16500 rfl (Option.some.inj hL.symm) rfl
    · exact key 14 16500 rfl (Option.some.inj hL.symm) rfl
    · exact key 15 256 rfl (Option.some.inj hL.symm) rfl
    · exact key 16 256 rfl (Option.some.inj hL.symm) rfl
    · exact key 17 256 rfl (Option.some.inj hL.symm) rfl
    · exact key 18 256 rfl (Option.some.inj hL.symm) rfl
    · exact key 19 256 rfl (Option.some.inj hL.symm) rfl
set_option maxRecDepth 100000 in
set_option maxHeartbeats 4000000 in
theorem law_start {G : sm_G} {M : sm_M} (hN : G.2.2.2.2.1 ≤ 3584) : sm_W G mf_law 0 [(0, .ref G.2.2.2.1)] [] M 392330 539815 lw_1 := by
  refine sm_W.more (bc' := 392329 + 1) (bs' := 539808 + 7) (sm_new d_law_0 nw_Lw_8 ?_) (by decide) (by decide)
  refine sm_dup d_law_3 rfl ?_
  refine sm_callI (b := M.2) (bc' := 392214) (bs' := 530606) d_law_4 cs_law_86 rfl (As := []) rfl rfl (Nat.le_of_ble_eq_true rfl) (by decide) (by decide) (c_SM_init (b := M.2) rfl (va_up_self _ _ _)) (fun X M' h => by cases h.1) (fun v M2 h => ?_)
  obtain ⟨e, T2⟩ := h
  cases e
  have z2 : M2.2 = M.2 + 116 := by
    rw [T2.1, List.length_append, sm1_len]
    rfl
  refine sm_astore_n d_law_7 rfl (by decide) rfl ?_
  refine sm_W.more (bc' := 392213 + 1) (bs' := 530569 + 37) (sm_new d_law_8 nw_Lw_87 ?_) (by decide) (by decide)
  rw [z2]
  refine sm_dup d_law_11 rfl ?_
  refine sm_callI (b := M.2 + 116) (bc' := 392193) (bs' := 394753) d_law_12 cs_law_89 rfl (As := []) rfl rfl (Nat.le_of_ble_eq_true rfl) (by decide) (by decide) (c_Md_init (q := M.2 + 117) rfl (va_up_self _ _ _) (Nat.lt_succ_self _)) (fun X M' h => by cases h.1) (fun v M4 h => ?_)
  obtain ⟨e, T4⟩ := h
  cases e
  have z4 : M4.2 = M.2 + 137 := by
    rw [T4.1]
    rfl
  refine sm_astore_n d_law_15 rfl (by decide) rfl ?_
  refine sm_iconst (v := 1) d_law_16 (by decide) ?_
  refine sm_W.more (bc' := 392192 + 1) (bs' := 394752 + 1) (sm_newarr (ty := .long) (ti := 2) (N' := 1) (a0 := (1, .inr (.inl fun _ => 0))) d_law_17 mw_1668 rfl (fun C h => by cases h) rfl (fun cA => rfl) (by decide) (by decide) (by decide) ?_) (by decide) (by decide)
  rw [z4]
  refine sm_astore_n d_law_19 rfl (by decide) rfl ?_
  refine sm_iconst (v := 0) d_law_20 (by decide) ?_
  refine sm_istore d_law_21 (by decide) rfl ?_
  have f4 : ∀ x, x < M.2 + 116 → (va_up M4.1 (M.2 + 137) (some (.inl (G.2.1 2, 1, .inr (.inl fun _ => 0))))) x = M2.1 x := fun x hx =>
    (va_up_ne _ _ (by omega)).trans ((T4.2.2.2 x (Nat.lt_succ_of_lt hx) (by omega)).trans (va_up_ne _ _ (by omega)))
  have c2 : ∀ i e, (sm1 G M.2 ++ (sm3 G M.2 ++ sm4 G M.2 ++ [smL M.2]))[i]? = some e → (va_up M4.1 (M.2 + 137) (some (.inl (G.2.1 2, 1, .inr (.inl fun _ => 0))))) (M.2 + 1 + i) = some e := fun i e hi => by
    have hl : i < (sm1 G M.2 ++ (sm3 G M.2 ++ sm4 G M.2 ++ [smL M.2])).length := (List.getElem?_eq_some_iff.mp hi).1
    have hl2 : (sm1 G M.2 ++ (sm3 G M.2 ++ sm4 G M.2 ++ [smL M.2])).length = 115 := by
      rw [List.length_append, sm1_len]
      rfl
    exact (f4 _ (by omega)).trans (T2.2.2.1 i e hi)
  have hL : lwi G M.2 (va_up M4.1 (M.2 + 137) (some (.inl (G.2.1 2, 1, .inr (.inl fun _ => 0)))), M.2 + 137 + 1) w0c zz0 w0m (fun _ => 0) := by
    refine ⟨cm_fresh ((f4 _ (by omega)).trans T2.2.1) c2, cz_fresh (Nat.le_refl _) c2, md_fresh0 ((va_up_ne _ _ (by omega)).trans T4.2.1) (fun i n hi => ?_), va_up_self _ _ _⟩
    have hl : i < 20 := (List.getElem?_eq_some_iff.mp hi).1
    refine (va_up_ne _ _ (by omega)).trans (T4.2.2.1 i _ ?_)
    rcases (show i = 0 ∨ i = 1 ∨ i = 2 ∨ i = 3 ∨ i = 4 ∨ i = 5 ∨ i = 6 ∨ i = 7 ∨ i = 8 ∨ i = 9 ∨ i = 10 ∨ i = 11 ∨ i = 12 ∨ i = 13 ∨ i = 14 ∨ i = 15 ∨ i = 16 ∨ i = 17 ∨ i = 18 ∨ i = 19 by omega) with rfl | rfl | rfl | rfl | rfl | rfl | rfl | rfl | rfl | rfl | rfl | rfl | rfl | rfl | rfl | rfl | rfl | rfl | rfl | rfl <;> (cases hi; rfl)
  exact sm_W.more (law_loop (F := 70000) (Nat.le_refl _) hN 512 0 rfl _ w0c zz0 w0m (fun _ => 0) hL rel0 czo0) (by rw [zc0]; decide) (by rw [zc0]; decide)
