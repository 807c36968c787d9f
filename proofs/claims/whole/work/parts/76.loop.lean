/-! the law's loop; the fresh objects -/
set_option maxRecDepth 100000 in
set_option maxHeartbeats 1600000 in
theorem law_loop {G : sm_G} {b F : Nat} (hF : 70000 ≤ F) (hN : G.2.2.2.2.1 ≤ 3584) : ∀ (d c : Nat), c + d = 512 → lw_K G b c := by
  intro d
  induction d with
  | zero =>
    intro c hc M w Z w' g hL hr hz
    have e : c = 512 := by omega
    subst e
    refine sm_iload d_law_23 (j := 0) rfl ?_
    refine sm_aload_n d_law_25 rfl (j := 4) rfl ?_
    refine sm_slen (v := nI G.2.2.2.2.1) d_law_26 rfl ?_
    refine sm_bipush (v := 7) d_law_27 (by decide) ?_
    refine sm_isub d_law_29 ?_
    refine sm_icmp_gt (tgt := 1606) d_law_30 (by decide) (fun _ => ?_) (fun h9 => absurd ((law_le hN (by omega)).mpr (by omega)) h9)
    refine sm_iconst (v := 1) d_law_1606 (by decide) ?_
    exact sm_ireturn d_law_1607 rfl rfl rfl
  | succ d ih =>
    intro c hc M w Z w' g hL hr hz
    have kk := ih (c + 1) (by omega)
    refine sm_iload d_law_23 (j := 0) rfl ?_
    refine sm_aload_n d_law_25 rfl (j := 4) rfl ?_
    refine sm_slen (v := nI G.2.2.2.2.1) d_law_26 rfl ?_
    refine sm_bipush (v := 7) d_law_27 (by decide) ?_
    refine sm_isub d_law_29 ?_
    refine sm_icmp_gt (tgt := 1606) d_law_30 (by decide) (fun _ => ?_) (fun h9 => ?_)
    · refine sm_iconst (v := 1) d_law_1606 (by decide) ?_
      exact sm_ireturn d_law_1607 rfl rfl rfl
    · have hn : 7 * c + 7 ≤ G.2.2.2.2.1 := Nat.le_of_not_lt (fun q => h9 ((law_le hN (by omega)).mpr q))
      refine sm_aload_n d_law_33 rfl (j := 4) rfl ?_
      refine sm_iload d_law_34 (j := 0) rfl ?_
      refine sm_sld d_law_36 (vp_in_iff.mpr (by rw [bn_i (by omega)]; omega)) ?_
      refine sm_bipush (v := 31) d_law_37 (by decide) ?_
      refine sm_iand d_law_39 ?_
      generalize G.2.2.2.2.2 (nI (7 * c)).toNatClampNeg &&& 31 = t
      by_cases h : t.toInt < 0 ∨ 22 < t.toInt
      · refine sm_tableOut (tgt := 1600) d_law_40 h (by decide) ?_
        exact sm_W.more (law_end kk hL hr hz) (by omega) (by omega)
      · rcases law_sw t h with e | e | e | e | e | e | e | e | e | e | e | e | e | e | e | e | e | e | e | e | e | e | e
        · exact sm_tableIn (tgt := 148) d_law_40 (by omega) (by omega) (by rw [e]; rfl) (by decide) (law_0 hF hn hN hL hr hz kk)
        · exact sm_tableIn (tgt := 159) d_law_40 (by omega) (by omega) (by rw [e]; rfl) (by decide) (law_1 hF hn hN hL hr hz kk)
        · exact sm_tableIn (tgt := 231) d_law_40 (by omega) (by omega) (by rw [e]; rfl) (by decide) (law_2 hF hn hN hL hr hz kk)
        · exact sm_tableIn (tgt := 303) d_law_40 (by omega) (by omega) (by rw [e]; rfl) (by decide) (law_3 hF hn hN hL hr hz kk)
        · exact sm_tableIn (tgt := 411) d_law_40 (by omega) (by omega) (by rw [e]; rfl) (by decide) (law_4 hF hn hN hL hr hz kk)
        · exact sm_tableIn (tgt := 543) d_law_40 (by omega) (by omega) (by rw [e]; rfl) (by decide) (law_5 hF hn hN hL hr hz kk)
        · exact sm_tableIn (tgt := 657) d_law_40 (by omega) (by omega) (by rw [e]; rfl) (by decide) (law_6 hF hn hN hL hr hz kk)
        · exact sm_tableIn (tgt := 729) d_law_40 (by omega) (by omega) (by rw [e]; rfl) (by decide) (law_7 hF hn hN hL hr hz kk)
        · exact sm_tableIn (tgt := 801) d_law_40 (by omega) (by omega) (by rw [e]; rfl) (by decide) (law_8 hF hn hN hL hr hz kk)
        · exact sm_tableIn (tgt := 861) d_law_40 (by omega) (by omega) (by rw [e]; rfl) (by decide) (law_9 hF hn hN hL hr hz kk)
        · exact sm_tableIn (tgt := 979) d_law_40 (by omega) (by omega) (by rw [e]; rfl) (by decide) (law_10 hF hn hN hL hr hz kk)
        · exact sm_tableIn (tgt := 1059) d_law_40 (by omega) (by omega) (by rw [e]; rfl) (by decide) (law_11 hF hn hN hL hr hz kk)
        · exact sm_tableIn (tgt := 1070) d_law_40 (by omega) (by omega) (by rw [e]; rfl) (by decide) (law_12 hF hn hN hL hr hz kk)
        · exact sm_tableIn (tgt := 1126) d_law_40 (by omega) (by omega) (by rw [e]; rfl) (by decide) (law_13 hF hn hN hL hr hz kk)
        · exact sm_tableIn (tgt := 1182) d_law_40 (by omega) (by omega) (by rw [e]; rfl) (by decide) (law_14 hF hn hN hL hr hz kk)
        · exact sm_tableIn (tgt := 1226) d_law_40 (by omega) (by omega) (by rw [e]; rfl) (by decide) (law_15 hF hn hN hL hr hz kk)
        · exact sm_tableIn (tgt := 1298) d_law_40 (by omega) (by omega) (by rw [e]; rfl) (by decide) (law_16 hF hn hN hL hr hz kk)
        · exact sm_tableIn (tgt := 1334) d_law_40 (by omega) (by omega) (by rw [e]; rfl) (by decide) (law_17 hF hn hN hL hr hz kk)
        · exact sm_tableIn (tgt := 1382) d_law_40 (by omega) (by omega) (by rw [e]; rfl) (by decide) (law_18 hF hn hN hL hr hz kk)
        · exact sm_tableIn (tgt := 1395) d_law_40 (by omega) (by omega) (by rw [e]; rfl) (by decide) (law_19 hF hn hN hL hr hz kk)
        · exact sm_tableIn (tgt := 1408) d_law_40 (by omega) (by omega) (by rw [e]; rfl) (by decide) (law_20 hF hn hN hL hr hz kk)
        · exact sm_tableIn (tgt := 1464) d_law_40 (by omega) (by omega) (by rw [e]; rfl) (by decide) (law_21 hF hn hN hL hr hz kk)
        · exact sm_tableIn (tgt := 1532) d_law_40 (by omega) (by omega) (by rw [e]; rfl) (by decide) (law_22 hF hn hN hL hr hz kk)
theorem w0c_z {a : Nat} (h0 : a ≠ 0) (h1 : a ≠ 1) (h2 : a ≠ 2) : w0c a = fun _ => 0 := by
  funext j
  unfold w0c fn_Pl_reset fn_Pl_setGeneral
  simp (disch := omega) only [u2n, f2n]
theorem w0c_p {a : Nat} (h0 : a ≠ 0) : w0c a = fn_Pl_reset wz a := by
  funext j
  unfold w0c
  simp (disch := omega) only [u2n]
  rfl
theorem w0m_z {a : Nat} (h0 : a ≠ 0) : w0m a = fun _ => 0 := by
  funext j
  unfold w0m
  rw [if_neg (by omega), if_neg (by omega)]
set_option maxRecDepth 100000 in
set_option maxHeartbeats 1600000 in
theorem cm_fresh {G : sm_G} {b : Nat} {M : sm_M} (h0 : M.1 b = some (smO b)) (hc : ∀ i e, (sm1 G b ++ (sm3 G b ++ sm4 G b ++ [smL b]))[i]? = some e → M.1 (b + 1 + i) = some e) : lo_at G cm_L b M w0c := by
  have g1 : ∀ i e, (sm1 G b)[i]? = some e → M.1 (b + (1 + i)) = some e := fun i e h => by
    have hlt : i < (sm1 G b).length := (List.getElem?_eq_some_iff.mp h).1
    have := hc i e (by rw [List.getElem?_append_left hlt]; exact h)
    rw [Nat.add_assoc] at this
    exact this
  have g2 : ∀ i e, (sm3 G b ++ sm4 G b ++ [smL b])[i]? = some e → M.1 (b + (101 + i)) = some e := fun i e h => by
    have := hc (100 + i) e (by rw [sm1_ix]; exact h)
    rw [show b + 1 + (100 + i) = b + (101 + i) by omega] at this
    exact this
  have g3 : ∀ c i e, c < 16 → i < 6 → (cpq G b c)[i]? = some e → M.1 (b + (5 + 6 * c + i)) = some e := fun c i e hc hi h => by
    have := g1 (4 + (6 * c + i)) e (by
      show (plP G b :: _ :: _ :: _ :: cpF G b 16)[4 + (6 * c + i)]? = _
      rw [Nat.add_comm 4, List.getElem?_cons_succ, List.getElem?_cons_succ, List.getElem?_cons_succ, List.getElem?_cons_succ, cpF_get G b hc hi]
      exact h)
    rw [show b + (1 + (4 + (6 * c + i))) = b + (5 + 6 * c + i) by omega] at this
    exact this
  intro a t hL
  have hlt := cl_lt hL
  by_cases hr : 5 ≤ a ∧ a < 101
  · obtain ⟨c, i, hc16, hi6, rfl⟩ : ∃ c i, c < 16 ∧ i < 6 ∧ a = 5 + 6 * c + i := ⟨(a - 5) / 6, (a - 5) % 6, by omega, by omega, by omega⟩
    rw [w0c_z (by omega) (by omega) (by omega)]
    rcases (show i = 0 ∨ i = 1 ∨ i = 2 ∨ i = 3 ∨ i = 4 ∨ i = 5 by omega) with rfl | rfl | rfl | rfl | rfl | rfl
    · have e9 := hL.symm.trans (cl_Cp hc16)
      cases e9
      exact g3 c 0 _ hc16 hi6 rfl
    · rw [show 5 + 6 * c + 1 = 6 + 6 * c by omega] at hL ⊢
      have e9 := hL.symm.trans (cl_Cd hc16)
      cases e9
      have := g3 c 1 _ hc16 hi6 rfl
      rw [show 5 + 6 * c + 1 = 6 + 6 * c by omega] at this
      exact this
    · rw [show 5 + 6 * c + 2 = 7 + 6 * c by omega] at hL ⊢
      have e9 := hL.symm.trans (cl_Pw hc16)
      cases e9
      have := g3 c 2 _ hc16 hi6 rfl
      rw [show 5 + 6 * c + 2 = 7 + 6 * c by omega] at this
      exact this
    · rw [show 5 + 6 * c + 3 = 8 + 6 * c by omega] at hL ⊢
      have e9 := hL.symm.trans (cl_Ph hc16)
      cases e9
      have := g3 c 3 _ hc16 hi6 rfl
      rw [show 5 + 6 * c + 3 = 8 + 6 * c by omega] at this
      exact this
    · rw [show 5 + 6 * c + 4 = 9 + 6 * c by omega] at hL ⊢
      have e9 := hL.symm.trans (cl_St hc16)
      cases e9
      have := g3 c 4 _ hc16 hi6 rfl
      rw [show 5 + 6 * c + 4 = 9 + 6 * c by omega] at this
      exact this
    · rw [show 5 + 6 * c + 5 = 10 + 6 * c by omega] at hL ⊢
      have e9 := hL.symm.trans (cl_Va hc16)
      cases e9
      have := g3 c 5 _ hc16 hi6 rfl
      rw [show 5 + 6 * c + 5 = 10 + 6 * c by omega] at this
      exact this
  · have hS : a = 0 ∨ a = 1 ∨ a = 2 ∨ a = 3 ∨ a = 4 ∨ a = 101 ∨ a = 102 ∨ a = 103 ∨ a = 104 ∨ a = 105 ∨ a = 106 ∨ a = 107 ∨ a = 108 ∨ a = 109 ∨ a = 110 ∨ a = 111 ∨ a = 112 ∨ a = 113 ∨ a = 114 ∨ a = 115 := by omega
    rcases hS with rfl | rfl | rfl | rfl | rfl | rfl | rfl | rfl | rfl | rfl | rfl | rfl | rfl | rfl | rfl | rfl | rfl | rfl | rfl | rfl
    · cases hL.symm.trans cl_0
      exact h0
    · cases hL.symm.trans cl_1
      rw [w0c_p (by decide)]
      exact g1 0 _ rfl
    · cases hL.symm.trans cl_2
      rw [w0c_p (by decide)]
      exact g1 1 _ rfl
    · cases hL.symm.trans (rfl : cm_L 3 = none)
    · cases hL.symm.trans cl_4
      rw [w0c_z (by decide) (by decide) (by decide)]
      exact g1 3 _ rfl
    · cases hL.symm.trans (rfl : cm_L 101 = none)
    · cases hL.symm.trans (rfl : cm_L 102 = none)
    · cases hL.symm.trans (rfl : cm_L 103 = none)
    · cases hL.symm.trans (rfl : cm_L 104 = none)
    · cases hL.symm.trans cl_105
      rw [w0c_z (by decide) (by decide) (by decide)]
      exact g2 4 _ rfl
    · cases hL.symm.trans (rfl : cm_L 106 = none)
    · cases hL.symm.trans (rfl : cm_L 107 = none)
    · cases hL.symm.trans cl_108
      rw [w0c_z (by decide) (by decide) (by decide)]
      exact g2 7 _ rfl
    · cases hL.symm.trans cl_109
      rw [w0c_z (by decide) (by decide) (by decide)]
      exact g2 8 _ rfl
    · cases hL.symm.trans cl_110
      rw [w0c_z (by decide) (by decide) (by decide)]
      exact g2 9 _ rfl
    · cases hL.symm.trans cl_111
      rw [w0c_z (by decide) (by decide) (by decide)]
      exact g2 10 _ rfl
    · cases hL.symm.trans cl_112
      rw [w0c_z (by decide) (by decide) (by decide)]
      exact g2 11 _ rfl
    · cases hL.symm.trans cl_113
      rw [w0c_z (by decide) (by decide) (by decide)]
      exact g2 12 _ rfl
    · cases hL.symm.trans cl_114
      rw [w0c_z (by decide) (by decide) (by decide)]
      exact g2 13 _ rfl
    · cases hL.symm.trans cl_115
      exact g2 14 _ rfl
theorem cz_fresh {G : sm_G} {b : Nat} {M : sm_M} (hz : b + 138 ≤ M.2) (hc : ∀ i e, (sm1 G b ++ (sm3 G b ++ sm4 G b ++ [smL b]))[i]? = some e → M.1 (b + 1 + i) = some e) : cz_at G b M zz0 := by
  have g1 : ∀ i e, (sm1 G b)[i]? = some e → M.1 (b + (1 + i)) = some e := fun i e h => by
    have hlt : i < (sm1 G b).length := (List.getElem?_eq_some_iff.mp h).1
    have := hc i e (by rw [List.getElem?_append_left hlt]; exact h)
    rw [Nat.add_assoc] at this
    exact this
  have g2 : ∀ i e, (sm3 G b ++ sm4 G b ++ [smL b])[i]? = some e → M.1 (b + (101 + i)) = some e := fun i e h => by
    have := hc (100 + i) e (by rw [sm1_ix]; exact h)
    rw [show b + 1 + (100 + i) = b + (101 + i) by omega] at this
    exact this
  have row : ∀ r q, M.1 r = some (rw0 q) → M.1 q = some (by0 G) → r < M.2 → q < M.2 → rw_at G M r q 256 [] := fun r q h1 h2 h3 h4 => ⟨fun _ => 0, h1, h2, by decide, ⟨0, by decide, by decide⟩, ⟨h3, h4⟩, fun _ => rfl, fun i hi => by cases hi⟩
  refine ⟨g1 2 _ rfl, hz, b + 102, b + 104, b + 107, row _ _ (g2 0 _ rfl) (g2 1 _ rfl) (by omega) (by omega), row _ _ (g2 2 _ rfl) (g2 3 _ rfl) (by omega) (by omega), row _ _ (g2 5 _ rfl) (g2 6 _ rfl) (by omega) (by omega), ⟨.inl rfl, .inr (.inl rfl), .inr (.inr (.inl rfl))⟩, by omega, by omega, by omega⟩
