/-! mathematics of both state tables, part 39; from wip/math -/
theorem ow_s (t : Nat) : ow (t + 1) = nI t := by unfold ow; rw [if_neg (by omega)]; rfl
theorem mfr_mdf {w' w2' : wd} {k : Nat} (h : mfr w' w2' k) : mdf w' w2' ∧ w2' 0 22 = w' 0 22 := ⟨fun a j q1 q2 => h a j (by omega) (by omega), h _ _ (by omega) (by omega)⟩
theorem keep_n {F : Nat} {w : wd} {Z : zd} {m o p : Nat} (h7 : w 105 7 = nI m) (hm : m < 256) (h5 : w 105 5 = nI p) (h8 : w 105 8 = nI 0) (hL : fn_Md_hasLength (nI m) = false) (n1 : m ≠ 79) (n4 : m ≠ 147) (n5 : m ≠ 217) (ho : o ≤ 64) (hown : fn_Sc_owner Z w = nI o) : fn_Sc_takeMark F Z w = some (up2 w 105 5 (nI (p + 2)), Z) := by
  have E : ∀ k : Nat, k < 256 → (nI m = nI k) = (m = k) := fun k hk => propext (bn_eq (by omega) (by omega))
  have hn : ¬ (m = 81 ∨ m = 82 ∨ m = 83 ∨ m = 92 ∨ m = 93 ∨ m = 94 ∨ m = 95 ∨ m = 96 ∨ m = 97 ∨ m = 144) := by
    intro x
    rcases x with rfl | rfl | rfl | rfl | rfl | rfl | rfl | rfl | rfl | rfl <;> exact absurd hL (by decide)
  have tc : fn_Sc_toldComponent Z w = nI 0 := by
    unfold fn_Sc_toldComponent
    rw [h7]
    simp only [show (83 : Int32) = nI 83 from rfl, show (93 : Int32) = nI 93 from rfl, show (94 : Int32) = nI 94 from rfl, E 83 (by omega), E 93 (by omega), E 94 (by omega)]
    rw [if_neg (by omega), if_neg (by omega), if_neg (by omega)]
    rfl
  have ts : fn_Sc_takeSegment Z w = some (w, Z) := by
    unfold fn_Sc_takeSegment
    rw [hown, tc, h7, if_neg (show ¬ nI m = 96 from bn_e' (k := 96) hm (by omega) (by omega)), if_neg (show ¬ nI m = 97 from bn_e' (k := 97) hm (by omega) (by omega)), kpOf _ ho hm (by omega), if_neg (by omega)]
  have := tm_seg (F := F) h7 hm h5 h8 n1 (by omega) (by omega) n4 n5 ts (Nat.le_refl _)
  rw [Nat.add_zero] at this
  exact this
set_option maxHeartbeats 4000000 in
theorem simBC {F : Nat} (hF : 70000 ≤ F) (l : List Nat) (d : Nat) :
    (∀ w w' Z S Q cn T p st n g i, l.length - p ≤ d → posB w w' Z l S Q cn T p st → (st = 2 → ∃ m, (m = 144 ∨ m = 217) ∧ fn_Md_markAt w' (nI p) = some (nI m) ∧ fn_Md_isCut w' (nI p) (nI l.length) = some false) → d + 5 ≤ n → d + 5 ≤ g → i ≤ p → ∃ R why w1', fn_Sc_refusal_8 F n Z w 0 (nI i) = some R ∧ zc Z ≤ zc R.2.2 ∧ fn_Md_walk_28 F g w' 0 = some (why, w1') ∧ outc w w' Z l R why w1') ∧
    (∀ w w' Z S Q cur cn T p e t d0 f n g g2 i, l.length - p ≤ d → posC w w' Z l S Q cur cn T p e t d0 f → d + 5 ≤ n → d + 5 ≤ g → d + 5 ≤ g2 → i ≤ p → ∃ R why w1', fn_Sc_refusal_8 F n Z w 0 (nI i) = some R ∧ zc Z ≤ zc R.2.2 ∧ ((fn_Md_partAt_258 F g w' (nI d0) (nI e) (nI t) f (nI p)).bind fun r => fn_Md_walk_28 F g2 r.2 r.1) = some (why, w1') ∧ outc w w' Z l R why w1') := by
  induction d using Nat.strongRecOn with
  | _ d IH =>
  constructor
  · intro w w' Z S Q cn T p st n g i hd hP h2 hn hg hi
    obtain ⟨hI, h4, hst, h5, h6, h36, hp2, hpl, huq⟩ := hP
    obtain ⟨n, rfl⟩ : ∃ n', n = n' + 2 := ⟨n - 2, by omega⟩
    obtain ⟨g, rfl⟩ : ∃ g', g = g' + 2 := ⟨g - 2, by omega⟩
    have hs := hI.1.1
    have hz := hI.1.2.1
    have h20 := hI.1.2.2
    have hl := hs.1.1
    have hne := st_ne5 h4 hst
    have W : fn_Md_walk_28 F (g + 2) w' 0 = ((fn_Md_isCut w' (nI p) (nI l.length)).bind fun r11 => (if r11 = true then some ((fn_Md_no w' (1 : Int32) (nI p)).1, (fn_Md_no w' (1 : Int32) (nI p)).2) else ((fn_Md_markAt w' (nI p)).bind fun r14 => (if r14 = (217 : Int32) then ((fn_Md_isAllThere F w').bind fun r24 => (if r24 = true then some ((0 : Int32), w') else some ((fn_Md_no w' (6 : Int32) (nI p)).1, (fn_Md_no w' (6 : Int32) (nI p)).2))) else (if r14 = (144 : Int32) then ((fn_Md_partAt F w' (nI p)).bind fun r18 => fn_Md_walk_28 F (g + 1) r18.2 r18.1) else some ((fn_Md_no w' (2 : Int32) (nI p)).1, (fn_Md_no w' (2 : Int32) (nI p)).2)))))) := by
      rw [fn_Md_walk_28, if_pos rfl, h36, h20]
    rcases rd hs hz h5 h6 hpl (Nat.le_refl _) with ⟨c1, w1, c2, c3⟩ | ⟨c1, c2, c3, w1, c4, c5, c6⟩ | ⟨m, k, w1, c1, c2, c3, c4, c5, c6, c7, c8, c9, c10, c11⟩
    · have w15 : w1 105 5 = nI p := by rw [c3 _ _ (by omega)]; exact h5
      refine ⟨_, nI 1, _, sloop_r (by omega) (by omega) (by omega) hne (ref_cut c2), Nat.le_refl _, ?_, outc_no (by omega) (by omega) (sam4 c3) w15⟩
      rw [W, c1, Option.bind_some, if_pos rfl]
      rfl
    · have w15 : w1 105 5 = nI p := by rw [c5 _ _ (by omega)]; exact h5
      have hw : fn_Sc_isWrong Z w1 = true := wrong1 c6 (by rw [c5 _ _ (by omega), h4]; rcases hst with ⟨e, _⟩ | ⟨e, _⟩ <;> rw [e]; exact .inr (.inr (.inl rfl)); exact .inr (.inr (.inr (.inr rfl))))
      refine ⟨_, nI 2, _, sloop_r (by omega) (by omega) (by omega) hne (ref_wr c4 hw), Nat.le_refl _, ?_, outc_no (by omega) (by omega) (sam4 c5) w15⟩
      rw [W, c1, Option.bind_some, if_neg (by decide), c2, Option.bind_some, if_neg (by decide), if_neg (by decide)]
      rfl
    · have w15 : w1 105 5 = nI p := by rw [c6 _ _ (by omega)]; exact h5
      have w14 : w1 105 4 = nI st := by rw [c6 _ _ (by omega)]; exact h4
      have hI1 := inv_sam hI c6
      rw [W, c1, Option.bind_some, if_neg (by decide), c2, Option.bind_some]
      by_cases m217 : m = 217
      · subst m217
        have k0 : k = 0 := by
          rcases c11 with ⟨x, _⟩ | ⟨_, x⟩
          · exact absurd x (by decide)
          · exact x
        subst k0
        rw [if_pos (show nI 217 = 217 from rfl)]
        obtain ⟨b, b1, b2, b3⟩ := end_chk hF hI1 c7 c8 w14 hst c5
        rw [b2, Option.bind_some]
        cases b with
        | false =>
          refine ⟨_, nI 6, _, sloop_r (r := 6) (by omega) (by omega) (by omega) hne b1, Nat.le_refl _, rfl, outc_no (by omega) (by omega) (sam4 c6) w15⟩
        | true =>
          obtain ⟨x1, x2, x3⟩ := b3 rfl
          obtain ⟨w2, y1, y2, y3, y4⟩ := end_take hF hI1 c7 c8 w15 hpl x1 x2 x3 huq
          obtain ⟨z1, z2⟩ := sloop_0 (i := i) (by omega) hne b1 y1 (Nat.le_refl _) (sloop_5 (F := F) (n := n) y2) (Nat.le_refl _)
          refine ⟨_, 0, w', z1, z2, rfl, rfl, fun a j ha => (y3 a j ha).trans (sam4 c6 a j ha), fun _ _ _ _ => rfl, rfl, rfl, fun h => absurd rfl h, fun _ => ⟨rfl, y4⟩⟩
      · rw [if_neg (show ¬ nI m = 217 from bn_e' (k := 217) c3 (by omega) m217)]
        by_cases m144 : m = 144
        · subst m144
          rcases c11 with ⟨_, k2, k3, k4⟩ | ⟨x, _⟩
          · have hat : at_ w1 Z l p 144 k := ⟨hz, hs.1, w15, c7, c3, c8, by rw [k2]; exact u2_lt hs.1 _, k4⟩
            obtain ⟨r, r7, r1, r2⟩ := part_chk hF hI1 hat k2 k3 w14 hst c5
            rw [if_pos (show nI 144 = 144 from rfl)]
            rcases r2 with ⟨r0, r3⟩ | ⟨r0, k10, tT, s82, s92, num, q256, e, e1, e2, e3, e4⟩
            · rw [r3, Option.bind_some]
              exact ⟨_, nI r, _, sloop_r (by omega) (by omega) r7 hne r1, Nat.le_refl _, walk_n (by omega) r7, outc_no (by omega) r7 (sam4 c6) w15⟩
            · subst k10
              clear h2
              rw [r0] at r1
              obtain ⟨w2, t1, t2, t3, t4, t5, t6, t7, t8⟩ := take_part hF hI1 hat tT num q256 e3
              have hC : posC w2 w' Z l S Q (u2 l (p + 4), u1 l (p + 10), u1 l (p + 11), 0, 0, Z.2.2.1.length, 0) cn T (p + 12) e (u2 l (p + 4)) (p + 4) (decide (Q.countP (isT (u2 l (p + 4))) = 0)) := ⟨t2, t3, t4, t5, t6, t7, rfl, rfl, rfl, by omega, rfl, s82, s92, e1, e2, by omega, huq⟩
              obtain ⟨R, why, w1', o1, o2, o3, o4⟩ := (IH (l.length - (p + 12)) (by omega)).2 w2 w' Z S Q _ cn T (p + 12) e _ (p + 4) _ (n + 1) F (g + 1) (i + 1) (by omega) hC (by omega) (by omega) (by omega) (by omega)
              obtain ⟨z1, z2⟩ := sloop_0 (i := i) (by omega) hne r1 t1 (Nat.le_refl _) o1 o2
              rw [e4]
              exact ⟨R, why, w1', z1, z2, o3, outc_tr o4 (fun a j ha => by rw [t8 a j ha, sam4 c6 a j ha]) (fun _ _ _ _ => rfl) rfl rfl rfl⟩
          · exact absurd x (by decide)
        · rw [if_neg (show ¬ nI m = 144 from bn_e' (k := 144) c3 (by omega) m144)]
          rcases hst with ⟨e, _⟩ | ⟨e, _⟩
          · obtain ⟨m', m1, m2, m3⟩ := h2 e
            rw [c2] at m2
            have := Option.some.inj m2
            rw [bn_eq (by omega) (by omega)] at this
            omega
          · have hw : fn_Sc_isWrong Z w1 = true := wrongB c3 (by omega) (by rw [w14, e]; rfl) c7
            exact ⟨_, nI 2, _, sloop_r (by omega) (by omega) (by omega) hne (ref_wr c5 hw), Nat.le_refl _, rfl, outc_no (by omega) (by omega) (sam4 c6) w15⟩
  · intro w w' Z S Q cur cn T p e t d0 f n g g2 i hd hP hn hg hg2 hi
    obtain ⟨hI, h4, h5, h6, h12, h13, hcur, hn1, hn2, hd0, hfh, s82, s92, hpe, hel, hp2, huq⟩ := hP
    obtain ⟨n, rfl⟩ : ∃ n', n = n' + 2 := ⟨n - 2, by omega⟩
    obtain ⟨g, rfl⟩ : ∃ g', g = g' + 1 := ⟨g - 1, by omega⟩
    obtain ⟨g2, rfl⟩ : ∃ g', g2 = g' + 1 := ⟨g2 - 1, by omega⟩
    have hs := hI.1.1
    have hz := hI.1.2.1
    have h20 := hI.1.2.2
    have hl := hs.1.1
    have hne : ¬ w 105 4 = 5 := by rw [h4]; decide
    have hcm : cur ∈ Q ++ [cur] := List.mem_append_right _ List.mem_cons_self
    have ht64 : t < 64 := by rw [← hcur]; exact (hI.2.2.2.2.1.2.2.2.2 cur hcm).1
    have hcQ : 0 < (Q ++ [cur]).countP (isT t) := by rw [cQ_app, if_pos (by unfold isT; simpa using hcur)]; omega
    have W : fn_Md_partAt_258 F (g + 1) w' (nI d0) (nI e) (nI t) f (nI p) = fn_Md_partAt_258 F (g + 1) w' (nI d0) (nI e) (nI t) f (nI p) := rfl
    rcases rd hs hz h5 h6 hpe hel with ⟨c1, w1, c2, c3⟩ | ⟨c1, c2, c3, w1, c4, c5, c6⟩ | ⟨m, k, w1, c1, c2, c3, c4, c5, c6, c7, c8, c9, c10, c11⟩
    · have w15 : w1 105 5 = nI p := by rw [c3 _ _ (by omega)]; exact h5
      refine ⟨_, nI 1, up2 w' 0 22 (nI p), sloop_r (by omega) (by omega) (by omega) hne (ref_cut c2), Nat.le_refl _, ?_, outc_no (by omega) (by omega) (sam4 c3) w15⟩
      rw [fn_Md_partAt_258, c1, Option.bind_some, if_pos rfl, Option.bind_some]
      exact walk_n (r := 1) (by omega) (by omega)
    · have w15 : w1 105 5 = nI p := by rw [c5 _ _ (by omega)]; exact h5
      have hw : fn_Sc_isWrong Z w1 = true := wrong1 c6 (by rw [c5 _ _ (by omega), h4]; exact .inr (.inr (.inr (.inl rfl))))
      refine ⟨_, nI 2, up2 w' 0 22 (nI p), sloop_r (by omega) (by omega) (by omega) hne (ref_wr c4 hw), Nat.le_refl _, ?_, outc_no (by omega) (by omega) (sam4 c5) w15⟩
      rw [fn_Md_partAt_258, c1, Option.bind_some, if_neg (by decide), c2, Option.bind_some, if_neg (by decide), if_neg (show ¬ fn_Md_mayStand (-1) (bi f) = true by unfold fn_Md_mayStand; rw [if_neg (by decide)]; decide), Option.bind_some]
      exact walk_n (r := 2) (by omega) (by omega)
    · have w15 : w1 105 5 = nI p := by rw [c6 _ _ (by omega)]; exact h5
      have w14 : w1 105 4 = 3 := by rw [c6 _ _ (by omega)]; exact h4
      have w112 : w1 105 12 = nI t := by rw [c6 _ _ (by omega)]; exact h12
      have w113 : w1 105 13 = bi f := by rw [c6 _ _ (by omega)]; exact h13
      have w16 : w1 105 6 = nI e := by rw [c6 _ _ (by omega)]; exact h6
      have hI1 := inv_sam hI c6
      have hown : fn_Sc_owner Z w1 = nI (t + 1) := by
        unfold fn_Sc_owner fn_Ps_ownerOf
        rw [w14, if_pos rfl, w112, show (1 : Int32) = nI 1 from rfl, bn_add, Nat.add_comm]
      have w111 : w1 105 11 = nI (S.countP (mo 96 0)) := hI1.2.2.1.2.2.2.2.2.2
      have l96 : S.countP (mo 96 0) ≤ 16400 := Nat.le_trans List.countP_le_length hI.2.1.1.2.1
      by_cases m147 : m = 147
      · subst m147
        have k0 : k = 0 := by
          rcases c11 with ⟨x, _⟩ | ⟨_, x⟩
          · exact absurd x (by decide)
          · exact x
        subst k0
        have hw : fn_Sc_isWrong Z w1 = false := by
          unfold fn_Sc_isWrong fn_Sc_isWrongInPart
          rw [w14, c7]
          rfl
        have hr := nol_chk (F := F) (o := t + 1) c7 c3 c8 (by decide) (by omega) (by omega) hown c5 hw
        obtain ⟨w2, w2', cur2, y1, y2, y3, y4, y5, y6, y7, y8, y9⟩ := data_s (F := F) (n := g) (f := f) hI1 w15 w16 c7 c8 hcur hn1 hn2 hd0 c4 hel c1 c2
        have hB : posB w2 w2' Z l S (Q ++ [cur2]) cn T e 4 := ⟨by rw [List.length_append]; exact y3, y4, .inr ⟨rfl, by simp, s82, s92⟩, y5, y6, y7, by omega, hel, huq⟩
        obtain ⟨R, why, w1', o1, o2, o3, o4⟩ := (IH (l.length - e) (by omega)).1 w2 w2' Z S (Q ++ [cur2]) cn T e 4 (n + 1) (g2 + 1) (i + 1) (by omega) hB (fun h => by omega) (by omega) (by omega) (by omega)
        obtain ⟨z1, z2⟩ := sloop_0 (i := i) (by omega) hne hr y1 (Nat.le_refl _) o1 o2
        rw [y2, Option.bind_some]
        exact ⟨R, why, w1', z1, z2, o3, outc_tr o4 (fun a j ha => by rw [y8 a j ha, sam4 c6 a j ha]) (fun a j q1 q2 => y9 a j (by omega) (by omega)) (y9 _ _ (by omega) (by omega)) rfl rfl⟩
      · have hWr := wrongP (Z := Z) c3 (show S.countP (mo 96 0) < 1000000 by omega) w14 c7 w113 w111 m147
        have eM : fn_Md_partAt_258 F (g + 1) w' (nI d0) (nI e) (nI t) f (nI p) = (if (fn_Md_mayStand (nI m) (bi f)) = true then ((fn_Md_look F w' (nI m) (nI p) (nI t)).bind fun r29 => (if r29.1 ≤ 0 then (if (fn_Md_hasLength (nI m)) = true then ((fn_Md_u2 r29.2 (nI (p + 2))).bind fun r35 => fn_Md_partAt_258 F g r29.2 (nI d0) (nI e) (nI t) f (nI (p + 2) + r35)) else fn_Md_partAt_258 F g r29.2 (nI d0) (nI e) (nI t) f (nI (p + 2) + 0)) else some (r29.1, r29.2))) else some (2, up2 w' 0 22 (nI p))) := by
          rw [fn_Md_partAt_258, c1, Option.bind_some, if_neg (by decide), c2, Option.bind_some, if_neg (show ¬ nI m = 147 from bn_e' (k := 147) c3 (by omega) m147), (bn_a p).2.1]
          rfl
        rw [eM]
        by_cases ms : fn_Md_mayStand (nI m) (bi f) = true
        · rw [ms] at hWr
          rw [if_pos ms]
          have nots : ¬ (m = 79 ∨ m = 81 ∨ m = 144 ∨ m = 146 ∨ m = 147 ∨ m = 217) ∧ ¬ (m = 85 ∨ m = 87 ∨ m = 96 ∨ m = 99) := by
            constructor
            · rintro (rfl | rfl | rfl | rfl | rfl | rfl) <;> exact absurd ms (by cases f <;> decide)
            · rintro (rfl | rfl | rfl | rfl) <;> exact absurd ms (by cases f <;> decide)
          by_cases both : m = 97 ∧ 0 < S.countP (mo 96 0)
          · have hw : fn_Sc_isWrong Z w1 = true := by rw [hWr, decide_eq_true both]; rfl
            refine ⟨_, nI 2, up2 w' 0 22 (nI p), sloop_r (by omega) (by omega) (by omega) hne (ref_wr c5 hw), Nat.le_refl _, ?_, outc_no (by omega) (by omega) (sam4 c6) w15⟩
            have m96 : fn_Md_met F w' 96 (-1) = _ := md_met hF hI.2.1.1 (m := 96) (o := 0) (by omega) (by omega)
            have lk : fn_Md_look F w' (nI m) (nI p) (nI t) = some (2, up2 w' 0 22 (nI p)) := by
              unfold fn_Md_look
              rw [both.1, if_pos (show nI 97 = 97 from rfl), m96, Option.bind_some, if_neg (by rw [show (0 : Int32) = nI 0 from rfl, bn_le (by omega) (by omega)]; omega)]
              rfl
            rw [lk, Option.bind_some]
            simp only [if_neg (show ¬ ((2 : Int32) ≤ 0) by decide)]
            rw [Option.bind_some]
            exact walk_n (r := 2) (by omega) (by omega)
          · have hw : fn_Sc_isWrong Z w1 = false := by rw [hWr, decide_eq_false both]; rfl
            have lk : fn_Md_look F w' (nI m) (nI p) (nI t) = fn_Md_look_20 F w' (nI m) (nI p) (nI t) := by
              unfold fn_Md_look
              by_cases m97 : m = 97
              · have m96 : fn_Md_met F w' 96 (-1) = _ := md_met hF hI.2.1.1 (m := 96) (o := 0) (by omega) (by omega)
                have z : S.countP (mo 96 0) = 0 := by omega
                rw [m97, if_pos (show nI 97 = 97 from rfl), m96, Option.bind_some, z, if_pos (by decide)]
              · rw [if_neg (show ¬ nI m = 97 from bn_e' (k := 97) c3 (by omega) m97)]
            rw [lk]
            by_cases hL : fn_Md_hasLength (nI m) = true
            · rcases c11 with ⟨_, k2, k3, k4⟩ | ⟨x, _⟩
              · have hat : at_ w1 Z l p m k := ⟨hz, hs.1, w15, c7, c3, c8, by rw [k2]; exact u2_lt hs.1 _, by omega⟩
                have hi3 := hI1.2.2.1
                have hpc := hI1.2.2.2.1.2.1 t ht64 hcQ
                have h97 : m = 97 → fn_Pt_headSegmentsOf w1 (w1 105 12) = some (nI (S.countP (mo 97 (t + 1)))) := fun _ => by
                  have R : 0 ≤ (nI t).toInt ∧ (nI t).toInt < 64 := by rw [bn_i (by omega)]; omega
                  unfold fn_Pt_headSegmentsOf
                  rw [w112, if_pos (show fn_Pt_isTile (nI t) = true by unfold fn_Pt_isTile; rw [if_neg (by rw [show (0 : Int32) = nI 0 from rfl, bn_lt (by omega) (by omega)]; omega), if_neg (by rw [show (64 : Int32) = nI 64 from rfl, bn_le (by omega) (by omega)]; omega)]), if_pos R, bn_nn _ (by omega)]
                  rw [hI1.2.2.2.2.2.2.2.2.1 t ht64]
                obtain ⟨r, r7, r1, r2⟩ := seg_chk hF hs hI.2.1.1 (by have := hI.2.1.2.1; omega) hI.2.1.2.2 hat k2 hp2 (by omega) hL (by omega) (by omega) (by omega) (show t + 1 ≤ 64 by omega) hi3.2.2.1 hi3.2.1 hi3.1 hown hpc (fun x => by omega) h97 c5 hw
                rw [ow_s] at r2
                rcases r2 with ⟨r0, r3⟩ | ⟨r0, w2', r3, r4, r5, r6, c, rc16, rtc, rcc, rpl0⟩
                · rw [r3, Option.bind_some]
                  simp only [if_neg (show ¬ (nI r ≤ 0) by rw [show (0 : Int32) = nI 0 from rfl, bn_le (by omega) (by omega)]; omega)]
                  rw [Option.bind_some]
                  exact ⟨_, nI r, _, sloop_r (by omega) (by omega) r7 hne r1, Nat.le_refl _, walk_n (by omega) r7, outc_no (by omega) r7 (sam4 c6) w15⟩
                · rw [r0] at r1
                  rw [r3, Option.bind_some]
                  simp only [if_pos (show (0 : Int32) ≤ 0 by decide), if_pos hL]
                  have hs2 : str w2' l := (md_seg2 (S := S) hI.1 r5).1
                  rw [md_u2 hs2 (by omega), Option.bind_some, bn_add, ← k2]
                  obtain ⟨m1, m2⟩ := mfr_mdf r5
                  have k2' : 2 ≤ k := r6.2.2.2.1
                  have hS1 : ∀ s ∈ S, 1 ≤ s.2.1 := fun s hs => by have := (hI.2.1.2.2 s hs).1; omega
                  by_cases m97 : m = 97
                  · subst m97
                    obtain ⟨w2, Z2, y1, y2, y3, y4, y5, y6, y7, y8⟩ := take_97 (F := F) hI1 hat r4 r5 r6 ht64 hcur hfh
                    have hC : posC w2 w2' Z2 l (S ++ [(97, p, k, t + 1)]) Q (sethb cur (fld cur 6 + (k - 3))) cn T (p + 2 + k) e t d0 f := ⟨y5, by rw [y8 _ _ (by omega) (by omega) (by omega)]; exact w14, y7, by rw [y8 _ _ (by omega) (by omega) (by omega)]; exact w16, by rw [y8 _ _ (by omega) (by omega) (by omega)]; exact w112, by rw [y8 _ _ (by omega) (by omega) (by omega)]; exact w113, hcur, hn1, hn2, hd0, y6, by rw [cP_n (by omega)]; exact s82, by rw [cP_n (by omega)]; exact s92, by omega, hel, by omega, uqs_app huq hS1 rcc rpl0 (fun _ => ⟨by omega, by omega⟩) (fun x => by omega)⟩
                    obtain ⟨R, why, w1', o1, o2, o3, o4⟩ := (IH (l.length - (p + 2 + k)) (by omega)).2 w2 w2' Z2 _ Q _ cn T (p + 2 + k) e t d0 f (n + 1) g (g2 + 1) (i + 1) (by omega) hC (by omega) (by omega) (by omega) (by omega)
                    obtain ⟨z1, z2⟩ := sloop_0 (i := i) (by omega) hne r1 y1 y2 o1 o2
                    exact ⟨R, why, w1', z1, z2, o3, outc_tr o4 (fun a j ha => by rw [y8 a j (by omega) (by omega) (by omega), sam4 c6 a j ha]) m1 m2 y3 y4⟩
                  · obtain ⟨w2, Z2, y1, y2, y3, y4, y5, y6, y7⟩ := take_n (F := F) hI1 hat r4 r5 r6 (show t + 1 ≤ 64 by omega) (fun _ => by rw [Nat.add_sub_cancel]; exact hcQ) hown (fun x => by omega) m97 (by omega) (by omega) (by omega) (by omega) (by omega) rc16 rtc rcc rpl0
                    have hZh : Z2.2.2.1.length = Z.2.2.1.length := by
                      have q1 := y5.2.2.2.2.2.1
                      have q2 := hI1.2.2.2.2.2.1
                      rw [q1, q2, hdl_app]
                      have : hbs l (m, p, k, t + 1) = [] := by
                        unfold hbs
                        rw [if_neg]
                        show ¬ (m = 96 ∨ m = 97)
                        omega
                      rw [this, List.append_nil]
                    have hC : posC w2 w2' Z2 l (S ++ [(m, p, k, t + 1)]) Q cur cn T (p + 2 + k) e t d0 f := ⟨y5, by rw [y7 _ _ (by omega) (by omega)]; exact w14, y6, by rw [y7 _ _ (by omega) (by omega)]; exact w16, by rw [y7 _ _ (by omega) (by omega)]; exact w112, by rw [y7 _ _ (by omega) (by omega)]; exact w113, hcur, hn1, hn2, hd0, by rw [hZh]; exact hfh, by rw [cP_app]; omega, by rw [cP_app]; omega, by omega, hel, by omega, uqs_app huq hS1 rcc rpl0 (fun x => absurd x m97) (fun x => by omega)⟩
                    obtain ⟨R, why, w1', o1, o2, o3, o4⟩ := (IH (l.length - (p + 2 + k)) (by omega)).2 w2 w2' Z2 _ Q _ cn T (p + 2 + k) e t d0 f (n + 1) g (g2 + 1) (i + 1) (by omega) hC (by omega) (by omega) (by omega) (by omega)
                    obtain ⟨z1, z2⟩ := sloop_0 (i := i) (by omega) hne r1 y1 y2 o1 o2
                    exact ⟨R, why, w1', z1, z2, o3, outc_tr o4 (fun a j ha => by rw [y7 a j (by omega) (by omega), sam4 c6 a j ha]) m1 m2 y3 y4⟩
              · exact absurd x (by rw [hL]; decide)
            · have hL' : fn_Md_hasLength (nI m) = false := by simpa using hL
              have k0 : k = 0 := by
                rcases c11 with ⟨x, _⟩ | ⟨_, x⟩
                · exact absurd x hL
                · exact x
              subst k0
              have hr := nol_chk (F := F) (o := t + 1) c7 c3 c8 hL' (by omega) (by omega) hown c5 hw
              have hk := keep_n (F := F) (o := t + 1) c7 c3 w15 c8 hL' (by omega) (by omega) (by omega) (by omega) hown
              have l20 : fn_Md_look_20 F w' (nI m) (nI p) (nI t) = some (0, w') := by
                unfold fn_Md_look_20 fn_Md_look_21
                rw [if_neg (by decide), if_neg hL]
              rw [l20, Option.bind_some]
              simp only [if_pos (show (0 : Int32) ≤ 0 by decide), if_neg hL]
              rw [show nI (p + 2) + 0 = nI (p + 2) from bn_add (p + 2) 0]
              have hC : posC (up2 w1 105 5 (nI (p + 2))) w' Z l S Q cur cn T (p + 2) e t d0 f := ⟨inv_p (inv_cl hI1 (fun a j ha => u2n (by omega))) (by omega), by rw [u2n (by omega)]; exact w14, u2e rfl rfl, by rw [u2n (by omega)]; exact w16, by rw [u2n (by omega)]; exact w112, by rw [u2n (by omega)]; exact w113, hcur, hn1, hn2, hd0, hfh, s82, s92, c4, hel, by omega, huq⟩
              obtain ⟨R, why, w1', o1, o2, o3, o4⟩ := (IH (l.length - (p + 2)) (by omega)).2 _ w' Z S Q cur cn T (p + 2) e t d0 f (n + 1) g (g2 + 1) (i + 1) (by omega) hC (by omega) (by omega) (by omega) (by omega)
              obtain ⟨z1, z2⟩ := sloop_0 (i := i) (by omega) hne hr hk (Nat.le_refl _) o1 o2
              exact ⟨R, why, w1', z1, z2, o3, outc_tr o4 (fun a j ha => by rw [u2n (by omega), sam4 c6 a j ha]) (fun _ _ _ _ => rfl) rfl rfl rfl⟩
        · have ms' : fn_Md_mayStand (nI m) (bi f) = false := by simpa using ms
          rw [ms'] at hWr
          have hw : fn_Sc_isWrong Z w1 = true := by rw [hWr]; rfl
          refine ⟨_, nI 2, up2 w' 0 22 (nI p), sloop_r (by omega) (by omega) (by omega) hne (ref_wr c5 hw), Nat.le_refl _, ?_, outc_no (by omega) (by omega) (sam4 c6) w15⟩
          rw [if_neg ms, Option.bind_some]
          exact walk_n (r := 2) (by omega) (by omega)
