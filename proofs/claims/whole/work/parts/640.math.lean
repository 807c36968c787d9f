/-! mathematics of both state tables, part 40; from wip/math -/
set_option maxHeartbeats 4000000 in
theorem simA {F : Nat} (hF : 70000 ≤ F) (l : List Nat) (d : Nat) :
    ∀ w w' Z S cn T p n g i, l.length - p ≤ d → posB w w' Z l S [] cn T p 2 → d + 5 ≤ n → d + 5 ≤ g → i ≤ p → ∃ R why w1', fn_Sc_refusal_8 F n Z w 0 (nI i) = some R ∧ zc Z ≤ zc R.2.2 ∧ ((fn_Md_main_0 F g w').bind fun r => fn_Md_walk_28 F F r.2 r.1) = some (why, w1') ∧ outc w w' Z l R why w1' := by
  induction d using Nat.strongRecOn with
  | _ d IH =>
  intro w w' Z S cn T p n g i hd hP hn hg hi
  obtain ⟨hI, h4, hst, h5, h6, h36, hp2, hpl, huq⟩ := id hP
  obtain ⟨n, rfl⟩ : ∃ n', n = n' + 2 := ⟨n - 2, by omega⟩
  obtain ⟨g, rfl⟩ : ∃ g', g = g' + 1 := ⟨g - 1, by omega⟩
  obtain ⟨F', hF'⟩ : ∃ F', F = F' + 1 := ⟨F - 1, by omega⟩
  have hs := hI.1.1
  have hz := hI.1.2.1
  have h20 := hI.1.2.2
  have hl := hs.1.1
  have hne := st_ne5 h4 hst
  have h4' : w 105 4 = 2 := h4
  have wn : ∀ r w', 1 ≤ r → r ≤ 7 → fn_Md_walk_28 F F w' (nI r) = some (nI r, w') := fun r w' h1 h2 => by
    have := walk_n (F := F) (g := F') (w' := w') h1 h2
    rw [← hF'] at this; exact this
  rcases rd hs hz h5 h6 hpl (Nat.le_refl _) with ⟨c1, w1, c2, c3⟩ | ⟨c1, c2, c3, w1, c4, c5, c6⟩ | ⟨m, k, w1, c1, c2, c3, c4, c5, c6, c7, c8, c9, c10, c11⟩
  · have w15 : w1 105 5 = nI p := by rw [c3 _ _ (by omega)]; exact h5
    refine ⟨_, nI 1, up2 w' 0 22 (nI p), sloop_r (by omega) (by omega) (by omega) hne (ref_cut c2), Nat.le_refl _, ?_, outc_no (by omega) (by omega) (sam4 c3) w15⟩
    rw [fn_Md_main_0, h36, h20, c1, Option.bind_some, if_pos rfl, Option.bind_some]
    exact wn 1 _ (by omega) (by omega)
  · have w15 : w1 105 5 = nI p := by rw [c5 _ _ (by omega)]; exact h5
    have hw : fn_Sc_isWrong Z w1 = true := wrong1 c6 (by rw [c5 _ _ (by omega), h4']; exact .inr (.inr (.inl rfl)))
    refine ⟨_, nI 2, up2 w' 0 22 (nI p), sloop_r (by omega) (by omega) (by omega) hne (ref_wr c4 hw), Nat.le_refl _, ?_, outc_no (by omega) (by omega) (sam4 c5) w15⟩
    rw [fn_Md_main_0, h36, h20, c1, Option.bind_some, if_neg (by decide), c2, Option.bind_some, if_neg (by decide), if_neg (by decide), if_neg (by decide), Option.bind_some]
    exact wn 2 _ (by omega) (by omega)
  · by_cases mpe : m = 144 ∨ m = 217
    · have hM : fn_Md_main_0 F (g + 1) w' = some (0, w') := by
        rw [fn_Md_main_0, h36, h20, c1, Option.bind_some, if_neg (by decide), c2, Option.bind_some]
        rcases mpe with rfl | rfl
        · rw [if_pos (show nI 144 = 144 from rfl)]
        · rw [if_neg (by decide), if_pos (show nI 217 = 217 from rfl)]
      rw [hM, Option.bind_some]
      exact (simBC hF l (l.length - p)).1 w w' Z S [] cn T p 2 (n + 2) F i (Nat.le_refl _) hP (fun _ => ⟨m, mpe, c2, c1⟩) (by omega) (by omega) hi
    · have w15 : w1 105 5 = nI p := by rw [c6 _ _ (by omega)]; exact h5
      have w14 : w1 105 4 = 2 := by rw [c6 _ _ (by omega)]; exact h4'
      have w16 : w1 105 6 = nI l.length := by rw [c6 _ _ (by omega)]; exact h6
      have hI1 := inv_sam hI c6
      have hown : fn_Sc_owner Z w1 = nI 0 := by
        unfold fn_Sc_owner
        rw [w14]
        rfl
      have w111 : w1 105 11 = nI (S.countP (mo 96 0)) := hI1.2.2.1.2.2.2.2.2.2
      have hWr := wrongM (Z := Z) c3 w14 c7 (by omega) (by omega)
      have eM : fn_Md_main_0 F (g + 1) w' = (if (fn_Md_mayStand (nI m) (-1 : Int32)) = true then ((fn_Md_look F w' (nI m) (nI p) (-1 : Int32)).bind fun r9 => (if r9.1 ≤ 0 then (if (fn_Md_hasLength (nI m)) = true then ((fn_Md_u2 r9.2 (nI (p + 2))).bind fun r17 => fn_Md_main_0 F g (up2 r9.2 0 36 (nI (p + 2) + r17))) else fn_Md_main_0 F g (up2 r9.2 0 36 (nI (p + 2) + 0))) else some (r9.1, r9.2))) else some (2, up2 w' 0 22 (nI p))) := by
        rw [fn_Md_main_0, h36, h20, c1, Option.bind_some, if_neg (by decide), c2, Option.bind_some, if_neg (show ¬ nI m = 144 from bn_e' (k := 144) c3 (by omega) (by omega)), if_neg (show ¬ nI m = 217 from bn_e' (k := 217) c3 (by omega) (by omega)), (bn_a p).2.1]
        rfl
      rw [eM]
      by_cases ms : fn_Md_mayStand (nI m) (-1) = true
      · rw [ms] at hWr
        have hw : fn_Sc_isWrong Z w1 = false := hWr
        rw [if_pos ms]
        have nots : ¬ (m = 79 ∨ m = 81 ∨ m = 144 ∨ m = 146 ∨ m = 147 ∨ m = 217) ∧ ¬ (m = 88 ∨ m = 97) := by
          constructor
          · rintro (rfl | rfl | rfl | rfl | rfl | rfl) <;> exact absurd ms (by decide)
          · rintro (rfl | rfl) <;> exact absurd ms (by decide)
        have lk : fn_Md_look F w' (nI m) (nI p) (-1) = fn_Md_look_20 F w' (nI m) (nI p) (ow 0) := by
          unfold fn_Md_look
          rw [if_neg (show ¬ nI m = 97 from bn_e' (k := 97) c3 (by omega) (by omega))]
          rfl
        rw [lk]
        by_cases hL : fn_Md_hasLength (nI m) = true
        · rcases c11 with ⟨_, k2, k3, k4⟩ | ⟨x, _⟩
          · have hat : at_ w1 Z l p m k := ⟨hz, hs.1, w15, c7, c3, c8, by rw [k2]; exact u2_lt hs.1 _, by omega⟩
            have hi3 := hI1.2.2.1
            obtain ⟨r, r7, r1, r2⟩ := seg_chk hF hs hI.2.1.1 (by have := hI.2.1.2.1; omega) hI.2.1.2.2 hat k2 hp2 (by omega) hL (by omega) (by omega) (by omega) (show 0 ≤ 64 by omega) hi3.2.2.1 hi3.2.1 hi3.1 hown hI1.2.2.2.1.1 (fun _ => ⟨rfl, w111⟩) (fun x => by omega) c5 hw
            rcases r2 with ⟨r0, r3⟩ | ⟨r0, w2', r3, r4, r5, r6, c, rc16, rtc, rcc, rpl0⟩
            · rw [r3, Option.bind_some]
              simp only [if_neg (show ¬ (nI r ≤ 0) by rw [show (0 : Int32) = nI 0 from rfl, bn_le (by omega) (by omega)]; omega)]
              rw [Option.bind_some]
              exact ⟨_, nI r, _, sloop_r (by omega) (by omega) r7 hne r1, Nat.le_refl _, wn r _ (by omega) r7, outc_no (by omega) r7 (sam4 c6) w15⟩
            · rw [r0] at r1
              rw [r3, Option.bind_some]
              simp only [if_pos (show (0 : Int32) ≤ 0 by decide), if_pos hL]
              have hs2 : str w2' l := (md_seg2 (S := S) hI.1 r5).1
              rw [md_u2 hs2 (by omega), Option.bind_some, bn_add, ← k2]
              obtain ⟨m1, m2⟩ := mfr_mdf r5
              have k2' : 2 ≤ k := r6.2.2.2.1
              obtain ⟨w2, Z2, y1, y2, y3, y4, y5, y6, y7⟩ := take_n (F := F) hI1 hat r4 r5 r6 (show 0 ≤ 64 by omega) (fun x => absurd rfl x) hown (fun _ => rfl) (by omega) (by omega) (by omega) (by omega) (by omega) (by omega) rc16 rtc rcc rpl0
              have hB : posB w2 (up2 w2' 0 36 (nI (p + 2 + k))) Z2 l (S ++ [(m, p, k, 0)]) [] cn T (p + 2 + k) 2 := ⟨inv_md y5 (fun a j ha => u2n (by omega)), by rw [y7 _ _ (by omega) (by omega)]; exact w14, .inl ⟨rfl, rfl⟩, y6, by rw [y7 _ _ (by omega) (by omega)]; exact w16, u2e rfl rfl, by omega, by omega, uqs_app huq (fun s hs => by have := (hI.2.1.2.2 s hs).1; omega) rcc rpl0 (fun x => by omega) (fun _ s hs => Nat.eq_zero_of_not_pos (fun x => absurd (hI.2.2.2.1.2.2 s hs (by omega)) (by simp)))⟩
              obtain ⟨R, why, w1', o1, o2, o3, o4⟩ := IH (l.length - (p + 2 + k)) (by omega) w2 _ Z2 _ cn T (p + 2 + k) (n + 1) g (i + 1) (by omega) hB (by omega) (by omega) (by omega)
              obtain ⟨z1, z2⟩ := sloop_0 (i := i) (by omega) hne r1 y1 y2 o1 o2
              exact ⟨R, why, w1', z1, z2, o3, outc_tr o4 (fun a j ha => by rw [y7 a j (by omega) (by omega), sam4 c6 a j ha]) (fun a j q1 q2 => by rw [u2n (by omega)]; exact m1 a j q1 q2) (by rw [u2n (by omega)]; exact m2) y3 y4⟩
          · exact absurd x (by rw [hL]; decide)
        · have hL' : fn_Md_hasLength (nI m) = false := by simpa using hL
          have k0 : k = 0 := by
            rcases c11 with ⟨x, _⟩ | ⟨_, x⟩
            · exact absurd x hL
            · exact x
          subst k0
          have hr := nol_chk (F := F) (o := 0) c7 c3 c8 hL' (by omega) (by omega) hown c5 hw
          have hk := keep_n (F := F) (o := 0) c7 c3 w15 c8 hL' (by omega) (by omega) (by omega) (by omega) hown
          have l20 : fn_Md_look_20 F w' (nI m) (nI p) (ow 0) = some (0, w') := by
            unfold fn_Md_look_20 fn_Md_look_21
            rw [if_neg (by decide), if_neg hL]
          rw [l20, Option.bind_some]
          simp only [if_pos (show (0 : Int32) ≤ 0 by decide), if_neg hL]
          rw [show nI (p + 2) + 0 = nI (p + 2) from bn_add (p + 2) 0]
          have hB : posB (up2 w1 105 5 (nI (p + 2))) (up2 w' 0 36 (nI (p + 2))) Z l S [] cn T (p + 2) 2 := ⟨inv_md (inv_p (inv_cl hI1 (fun a j ha => u2n (by omega))) (by omega)) (fun a j ha => u2n (by omega)), by rw [u2n (by omega)]; exact w14, .inl ⟨rfl, rfl⟩, u2e rfl rfl, by rw [u2n (by omega)]; exact w16, u2e rfl rfl, by omega, c4, huq⟩
          obtain ⟨R, why, w1', o1, o2, o3, o4⟩ := IH (l.length - (p + 2)) (by omega) _ _ Z S cn T (p + 2) (n + 1) g (i + 1) (by omega) hB (by omega) (by omega) (by omega)
          obtain ⟨z1, z2⟩ := sloop_0 (i := i) (by omega) hne hr hk (Nat.le_refl _) o1 o2
          exact ⟨R, why, w1', z1, z2, o3, outc_tr o4 (fun a j ha => by rw [u2n (by omega), sam4 c6 a j ha]) (fun a j q1 q2 => u2n (by omega)) (u2n (by omega)) rfl rfl⟩
      · have ms' : fn_Md_mayStand (nI m) (-1) = false := by simpa using ms
        rw [ms'] at hWr
        have hw : fn_Sc_isWrong Z w1 = true := hWr
        refine ⟨_, nI 2, up2 w' 0 22 (nI p), sloop_r (by omega) (by omega) (by omega) hne (ref_wr c5 hw), Nat.le_refl _, ?_, outc_no (by omega) (by omega) (sam4 c6) w15⟩
        rw [if_neg ms, Option.bind_some]
        exact wn 2 _ (by omega) (by omega)
