/-! mathematics of both state tables, part 41; from wip/math -/
set_option maxHeartbeats 4000000 in
theorem scanRef {F : Nat} (hF : 70000 ≤ F) {w w' : wd} {Z : zd} {l : List Nat} (hs' : str w' l) (hz : Z.1.1 = l) (h20' : w' 0 20 = nI l.length) : ∃ R why w1', fn_Sc_refusal F Z w = some R ∧ zc Z ≤ zc R.2.2 ∧ fn_Md_walk F w' = some (why, w1') ∧ outc w w' Z l R why w1' := by
  have hl := hs'.1.1
  obtain ⟨F', hF'⟩ : ∃ F', F = F' + 2 := ⟨F - 2, by omega⟩
  obtain ⟨wf, f1, f2⟩ := forget (F := F) (o := 0) (by omega) (by omega) (up2 (up2 (up2 (up2 (up2 (up2 w 105 4 (0 : Int32)) 105 5 (0 : Int32)) 105 6 (nI Z.1.1.length)) 105 9 (0 : Int32)) 105 10 (0 : Int32)) 105 11 (0 : Int32))
  have fb : fn_Sc_begin F Z w = some (fn_Pt_forgetAll wf, zs3 Z ([], Z.2.2.2)) := by
    unfold fn_Sc_begin
    have f1' : fn_Ps_forget F (up2 (up2 (up2 (up2 (up2 (up2 w 105 4 (0 : Int32)) 105 5 (0 : Int32)) 105 6 (nI Z.1.1.length)) 105 9 (0 : Int32)) 105 10 (0 : Int32)) 105 11 (0 : Int32)) 0 = some wf := f1
    rw [f1', Option.bind_some]
  generalize hwb : fn_Pt_forgetAll wf = wb at fb
  have B4 : wb 105 4 = 0 := by rw [← hwb]; unfold fn_Pt_forgetAll; simp (disch := omega) only [f2n, u2n]; rw [f2, if_neg (by omega)]; simp (disch := omega) only [u2n, u2e]
  have B5 : wb 105 5 = nI 0 := by rw [← hwb]; unfold fn_Pt_forgetAll; simp (disch := omega) only [f2n, u2n]; rw [f2, if_neg (by omega)]; simp (disch := omega) only [u2n, u2e]; rfl
  have B6 : wb 105 6 = nI l.length := by rw [← hwb]; unfold fn_Pt_forgetAll; simp (disch := omega) only [f2n, u2n]; rw [f2, if_neg (by omega)]; simp (disch := omega) only [u2n, u2e]; rw [hz]
  have B11 : wb 105 11 = nI 0 := by rw [← hwb]; unfold fn_Pt_forgetAll; simp (disch := omega) only [f2n, u2n]; rw [f2, if_neg (by omega)]; simp (disch := omega) only [u2e]; rfl
  have B109 : ∀ j, j < 51 → wb 109 j = nI 0 := fun j hj => by rw [← hwb]; unfold fn_Pt_forgetAll; simp (disch := omega) only [f2n, u2n]; rw [f2, if_pos (by omega)]; rfl
  have B110 : wb 110 1 = nI 0 := by rw [← hwb]; unfold fn_Pt_forgetAll; simp (disch := omega) only [f2n, u2e]; rfl
  have B112 : ∀ t, t < 64 → wb 112 t = nI 0 ∧ wb 113 t = nI 0 ∧ wb 114 t = nI 0 := fun t ht => by
    rw [← hwb]; unfold fn_Pt_forgetAll
    simp (disch := omega) only [f2n, f2e]
    exact ⟨rfl, rfl, rfl⟩
  have BF : wfr4 w wb := fun a j ha => by
    rw [← hwb]; unfold fn_Pt_forgetAll
    simp (disch := omega) only [f2n, u2n]
    rw [f2, if_neg (by omega)]
    simp (disch := omega) only [u2n]
  clear hwb f1 f2 wf
  generalize hZb : zs3 Z ([], Z.2.2.2) = Zb at fb
  have zb1 : Zb.1 = Z.1 := by rw [← hZb]; rfl
  have zb2 : Zb.2.1 = Z.2.1 := by rw [← hZb]; rfl
  have zb3 : Zb.2.2.1 = [] := by rw [← hZb]; rfl
  have zbc : zc Z = zc Zb := by rw [← hZb]; rfl
  have zbl : Zb.1.1 = l := by rw [zb1]; exact hz
  clear hZb
  have hs : str (up2 (up2 w' 0 23 0) 0 28 0) l := ⟨hs'.1, fun i hi => by simp (disch := omega) only [u2n]; exact hs'.2 i hi⟩
  have h20 : (up2 (up2 w' 0 23 0) 0 28 0) 0 20 = nI l.length := by simp (disch := omega) only [u2n]; exact h20'
  have h23 : (up2 (up2 w' 0 23 0) 0 28 0) 0 23 = nI 0 := by simp (disch := omega) only [u2n, u2e]; rfl
  have h28 : (up2 (up2 w' 0 23 0) 0 28 0) 0 28 = nI 0 := by simp (disch := omega) only [u2e]; rfl
  have hmf : mdf w' (up2 (up2 w' 0 23 0) 0 28 0) := fun a j q1 q2 => by simp (disch := omega) only [u2n]
  have h22 : (up2 (up2 w' 0 23 0) 0 28 0) 0 22 = w' 0 22 := by simp (disch := omega) only [u2n]
  have goal : ∃ R why w1', fn_Sc_refusal_8 F F Zb wb 0 (nI 0) = some R ∧ zc Zb ≤ zc R.2.2 ∧ ((fn_Md_start F (up2 (up2 w' 0 23 0) 0 28 0)).bind fun r5 => (if r5.1 = 0 then ((fn_Md_main F r5.2).bind fun r31 => fn_Md_walk_27 F r31.2 r31.1) else fn_Md_walk_27 F r5.2 r5.1)) = some (why, w1') ∧ outc wb (up2 (up2 w' 0 23 0) 0 28 0) Zb l R why w1' := by
    clear h22 hmf hs' h20' hz zbc zb1 zb2 BF fb
    generalize up2 (up2 w' 0 23 0) 0 28 0 = v at *
    have wn : ∀ r v, 1 ≤ r → r ≤ 7 → (if nI r = 0 then ((fn_Md_main F v).bind fun r31 => fn_Md_walk_27 F r31.2 r31.1) else fn_Md_walk_27 F v (nI r)) = some (nI r, v) := fun r v h1 h2 => by
      rw [if_neg (by rw [show (0 : Int32) = nI 0 from rfl, bn_eq (by omega) (by omega)]; omega)]
      unfold fn_Md_walk_27
      have := walk_n (F := F) (g := F' + 1) (w' := v) h1 h2
      rw [← hF'] at this; exact this
    have lr : ∀ {i r : Nat} {w w1 : wd}, i ≤ 65536 → 1 ≤ r → r ≤ 7 → ¬ w 105 4 = 5 → fn_Sc_refusalHere F Zb w = some (nI r, w1) → ∀ n, 2 ≤ n → fn_Sc_refusal_8 F n Zb w 0 (nI i) = some (nI r, w1, Zb) := fun h1 h2 h3 h4 h5 n hn => by
      obtain ⟨n', rfl⟩ : ∃ n', n = n' + 2 := ⟨n - 2, by omega⟩
      exact sloop_r h1 h2 h3 h4 h5
    have hne : ¬ wb 105 4 = 5 := by rw [B4]; decide
    unfold fn_Md_start
    rw [h20]
    rcases rd hs zbl B5 B6 (by omega) (Nat.le_refl _) with ⟨c1, w1, c2, c3⟩ | ⟨c1, c2, c3, w1, c4, c5, c6⟩ | ⟨m, k, w1, c1, c2, c3, c4, c5, c6, c7, c8, c9, c10, c11⟩
    · have w15 : w1 105 5 = nI 0 := by rw [c3 _ _ (by omega)]; exact B5
      refine ⟨_, nI 1, up2 v 0 22 (nI 0), lr (by omega) (by omega) (by omega) hne (ref_cut c2) F (by omega), Nat.le_refl _, ?_, outc_no (by omega) (by omega) (sam4 c3) w15⟩
      rw [show (0 : Int32) = nI 0 from rfl, c1, Option.bind_some, if_pos rfl, Option.bind_some]
      exact wn 1 _ (by omega) (by omega)
    · have w15 : w1 105 5 = nI 0 := by rw [c5 _ _ (by omega)]; exact B5
      have hw : fn_Sc_isWrong Zb w1 = true := wrong1 c6 (by rw [c5 _ _ (by omega), B4]; exact .inl rfl)
      refine ⟨_, nI 2, up2 v 0 22 (nI 0), lr (by omega) (by omega) (by omega) hne (ref_wr c4 hw) F (by omega), Nat.le_refl _, ?_, outc_no (by omega) (by omega) (sam4 c5) w15⟩
      rw [show fn_Md_isCut v 0 (nI l.length) = some false from c1, Option.bind_some, if_neg (by decide), show fn_Md_markAt v 0 = some (-1) from c2, Option.bind_some, if_neg (by decide), Option.bind_some]
      exact wn 2 _ (by omega) (by omega)
    · have w15 : w1 105 5 = nI 0 := by rw [c6 _ _ (by omega)]; exact B5
      have w14 : w1 105 4 = 0 := by rw [c6 _ _ (by omega)]; exact B4
      rw [show fn_Md_isCut v 0 (nI l.length) = some false from c1, Option.bind_some, if_neg (by decide), show fn_Md_markAt v 0 = some (nI m) from c2, Option.bind_some]
      by_cases m79 : m = 79
      · subst m79
        have k0 : k = 0 := by
          rcases c11 with ⟨x, _⟩ | ⟨_, x⟩
          · exact absurd x (by decide)
          · exact x
        subst k0
        rw [if_pos (show nI 79 = 79 from rfl)]
        have hw : fn_Sc_isWrong Zb w1 = false := by
          unfold fn_Sc_isWrong
          rw [w14, c7]
          rfl
        have hown : fn_Sc_owner Zb w1 = nI 0 := by
          unfold fn_Sc_owner
          rw [w14]
          rfl
        have hr := nol_chk (F := F) (o := 0) c7 c3 c8 (by decide) (by omega) (by omega) hown c5 hw
        have ht : fn_Sc_takeMark F Zb w1 = some (up2 (up2 w1 105 4 1) 105 5 (nI 2), Zb) := by
          unfold fn_Sc_takeMark
          rw [c7, if_pos (show nI 79 = 79 from rfl), w15, c8]
          rfl
        generalize hx1 : up2 (up2 w1 105 4 1) 105 5 (nI 2) = x1 at ht
        have X4 : x1 105 4 = 1 := by rw [← hx1]; simp (disch := omega) only [u2n, u2e]
        have X5 : x1 105 5 = nI 2 := by rw [← hx1]; simp (disch := omega) only [u2e]
        have XF : ∀ a j, ¬ (a = 105 ∧ (j = 4 ∨ j = 5 ∨ j = 7 ∨ j = 8)) → x1 a j = wb a j := fun a j q => by
          rw [← hx1]; simp (disch := omega) only [u2n]; exact c6 a j (by omega)
        clear hx1
        have X6 : x1 105 6 = nI l.length := by rw [XF _ _ (by omega)]; exact B6
        have hne2 : ¬ x1 105 4 = 5 := by rw [X4]; decide
        have step : ∀ {R why v2 w1'}, fn_Sc_refusal_8 F (F' + 1) Zb x1 0 (nI 1) = some R → zc Zb ≤ zc R.2.2 → v2 = some (why, w1') → outc x1 v Zb l R why w1' → ∃ R why w1', fn_Sc_refusal_8 F F Zb wb 0 (nI 0) = some R ∧ zc Zb ≤ zc R.2.2 ∧ v2 = some (why, w1') ∧ outc wb v Zb l R why w1' := by
          intro R why v2 w1' o1 o2 o3 o4
          obtain ⟨z1, z2⟩ := sloop_0 (n := F' + 1) (i := 0) (by omega) hne hr ht (Nat.le_refl _) o1 o2
          rw [show F' + 1 + 1 = F by omega] at z1
          exact ⟨R, why, w1', z1, z2, o3, outc_tr o4 (fun a j ha => XF a j (by omega)) (fun _ _ _ _ => rfl) rfl rfl rfl⟩
        rcases rd hs zbl X5 X6 c4 (Nat.le_refl _) with ⟨d1, w2, d2, d3⟩ | ⟨d1, d2, d3, w2, d4, d5, d6⟩ | ⟨m2, k2, w2, d1, d2, d3, d4, d5, d6, d7, d8, d9, d10, d11⟩
        · have w25 : w2 105 5 = nI 2 := by rw [d3 _ _ (by omega)]; exact X5
          refine step (lr (by omega) (by omega) (by omega) hne2 (ref_cut d2) (F' + 1) (by omega)) (Nat.le_refl _) ?_ (outc_no (p := 2) (r := 1) (by omega) (by omega) (sam4 d3) w25)
          rw [show fn_Md_isCut v 2 (nI l.length) = some true from d1, Option.bind_some, if_pos rfl, Option.bind_some]
          exact wn 1 _ (by omega) (by omega)
        · have w25 : w2 105 5 = nI 2 := by rw [d5 _ _ (by omega)]; exact X5
          have hw2 : fn_Sc_isWrong Zb w2 = true := wrong1 d6 (by rw [d5 _ _ (by omega), X4]; exact .inr (.inl rfl))
          refine step (lr (by omega) (by omega) (by omega) hne2 (ref_wr d4 hw2) (F' + 1) (by omega)) (Nat.le_refl _) ?_ (outc_no (p := 2) (r := 2) (by omega) (by omega) (sam4 d5) w25)
          rw [show fn_Md_isCut v 2 (nI l.length) = some false from d1, Option.bind_some, if_neg (by decide), show fn_Md_markAt v 2 = some (-1) from d2, Option.bind_some, if_neg (by decide), Option.bind_some]
          exact wn 2 _ (by omega) (by omega)
        · have w25 : w2 105 5 = nI 2 := by rw [d6 _ _ (by omega)]; exact X5
          have w24 : w2 105 4 = 1 := by rw [d6 _ _ (by omega)]; exact X4
          rw [show fn_Md_isCut v 2 (nI l.length) = some false from d1, Option.bind_some, if_neg (by decide), show fn_Md_markAt v 2 = some (nI m2) from d2, Option.bind_some]
          by_cases m81 : m2 = 81
          · subst m81
            rw [if_pos (show nI 81 = 81 from rfl)]
            rcases d11 with ⟨_, kk2, kk3, kk4⟩ | ⟨x, _⟩
            · have hat : at_ w2 Zb l 2 81 k2 := ⟨zbl, hs.1, w25, d7, d3, d8, by rw [kk2]; exact u2_lt hs.1 _, kk4⟩
              have hw2 : fn_Sc_isWrong Zb w2 = false := by
                unfold fn_Sc_isWrong
                rw [w24, d7]
                rfl
              have hown2 : fn_Sc_owner Zb w2 = nI 0 := by
                unfold fn_Sc_owner
                rw [w24]
                rfl
              have e4 : fn_Ps_startOf w2 (fn_Sc_owner Zb w2) (w2 105 7) (fn_Sc_toldComponent Zb w2) = 0 := by
                have tc : fn_Sc_toldComponent Zb w2 = nI 0 := by
                  unfold fn_Sc_toldComponent
                  rw [d7]
                  rfl
                rw [hown2, tc, d7, stOf (by omega) (by omega) (by omega)]
                rfl
              have e89 : fn_Sc_refusalHere_89 F Zb w2 = some (0, w2) := by
                unfold fn_Sc_refusalHere_89
                rw [noMiss d7 d3 (by omega) (by omega), Option.bind_some]
                rfl
              have eR : fn_Sc_refusalHere F Zb x1 = (if (fn_Sc_hasLength Zb w2) = true then (if (fn_Sc_isGreat Zb w2) = true then some ((7 : Int32), w2) else ((fn_Sc_hasValues F Zb w2).bind fun r7 => (if r7 = true then some (0, w2) else some ((5 : Int32), w2)))) else some ((3 : Int32), w2)) := by
                unfold fn_Sc_refusalHere
                rw [d5]
                simp only [Bool.false_eq_true, if_false, hw2, if_pos e4, e89, if_neg (show ¬ w2 105 7 = 144 by rw [d7]; decide)]
              have eL : fn_Md_look F v 81 2 (-1) = ((fn_Md_fitsLength v (nI 81) (nI 2)).bind fun r4 => (if r4 = true then ((fn_Md_isGreat F v (nI 81) (nI 2)).bind fun r7 => (if r7 = true then fn_Md_look_98 F v (nI 81) (nI 2) (ow 0) (7 : Int32) else ((fn_Md_isValue F v (nI 81) (nI 2) (ow 0)).bind fun r10 => (if r10 = true then fn_Md_look_98 F v (nI 81) (nI 2) (ow 0) (0 : Int32) else fn_Md_look_98 F v (nI 81) (nI 2) (ow 0) (5 : Int32))))) else fn_Md_look_98 F v (nI 81) (nI 2) (ow 0) (3 : Int32))) := by
                rfl
              rw [eL, md_fits hs hat kk2 kk3 (by decide), Option.bind_some]
              have lN' : ∀ r, 1 ≤ r → r ≤ 7 → fn_Md_look_98 F v (nI 81) (nI 2) (ow 0) (nI r) = some (nI r, up2 v 0 22 (nI 2)) := fun r h1 h2 => lookN h1 (by omega)
              have rf : ∀ r : Nat, 1 ≤ r → r ≤ 7 → ∀ Y : Option (Int32 × wd), fn_Sc_refusalHere F Zb x1 = some (nI r, w2) → Y = some (nI r, up2 v 0 22 (nI 2)) → ∃ R why w1', fn_Sc_refusal_8 F F Zb wb 0 (nI 0) = some R ∧ zc Zb ≤ zc R.2.2 ∧ ((Y.bind fun r13 => (if r13.1 = 0 then ((fn_Md_u2 r13.2 (40 : Int32)).bind fun r18 => ((fn_Md_u4 (up2 r13.2 0 35 r18) (32 : Int32)).bind fun r22 => ((fn_Md_u4 (up2 r13.2 0 35 r18) (8 : Int32)).bind fun r24 => ((fn_Md_u4 (up2 r13.2 0 35 r18) (24 : Int32)).bind fun r26 => ((fn_Md_across r22 r24 r26).bind fun r28 => ((fn_Md_u4 (up2 r13.2 0 35 r18) (36 : Int32)).bind fun r30 => ((fn_Md_u4 (up2 r13.2 0 35 r18) (12 : Int32)).bind fun r32 => ((fn_Md_u4 (up2 r13.2 0 35 r18) (28 : Int32)).bind fun r34 => ((fn_Md_across r30 r32 r34).bind fun r36 => ((fn_Md_u2 (up2 (up2 r13.2 0 35 r18) 0 34 ((r28 * r36).toInt32)) (4 : Int32)).bind fun r40 => some (r13.1, (up2 (up2 (up2 r13.2 0 35 r18) 0 34 ((r28 * r36).toInt32)) 0 36 ((4 : Int32) + r40))))))))))))) else some (r13.1, r13.2))).bind fun r5 => (if r5.1 = 0 then ((fn_Md_main F r5.2).bind fun r31 => fn_Md_walk_27 F r31.2 r31.1) else fn_Md_walk_27 F r5.2 r5.1)) = some (why, w1') ∧ outc wb v Zb l R why w1' := by
                intro r h1 h2 Y hr1 hY
                refine step (lr (by omega) h1 h2 hne2 hr1 (F' + 1) (by omega)) (Nat.le_refl _) ?_ (outc_no (p := 2) (r := r) h1 h2 (sam4 d6) w25)
                rw [hY, Option.bind_some]
                have hr0 : ¬ nI r = 0 := by rw [show (0 : Int32) = nI 0 from rfl, bn_eq (by omega) (by omega)]; omega
                simp only [if_neg hr0]
                rw [Option.bind_some]
                have := wn r (up2 v 0 22 (nI 2)) h1 h2
                rw [if_neg hr0] at this
                simp only [if_neg hr0]
                exact this
              by_cases g1 : fn_Sc_hasLength Zb w2 = true
              · have LN := (len_of hat (by decide) g1).1 rfl
                rw [if_pos g1] at eR ⊢
                rw [md_great (by omega) hs hat kk2 kk3 (by decide) g1 (by omega), Option.bind_some]
                by_cases g2 : fn_Sc_isGreat Zb w2 = true
                · rw [if_pos g2] at eR ⊢
                  exact rf 7 (by omega) (by omega) _ eR (lN' 7 (by omega) (by omega))
                · rw [if_neg g2] at eR ⊢
                  obtain ⟨b, b1, b2, b3⟩ := md_size hF (x := ow 0) hs hat g1
                  rw [show fn_Md_isValue F v (nI 81) (nI 2) (ow 0) = some b from b1, Option.bind_some]
                  rw [b2, Option.bind_some] at eR
                  cases b with
                  | false =>
                    rw [if_neg (by decide)] at eR ⊢
                    exact rf 5 (by omega) (by omega) _ eR (lN' 5 (by omega) (by omega))
                  | true =>
                    rw [if_pos rfl] at eR ⊢
                    obtain ⟨P1, P2⟩ := b3 rfl
                    have P1 : picP l 6 := P1
                    have hcl : k2 < 65536 := by rw [kk2]; exact u2_lt hs.1 _
                    obtain ⟨v2, q1, q2, q3⟩ := look0 (F := F) (S := []) (m := 81) (p := 2) (n := k2) (o := 0) hs ⟨h23, by simp, fun k hk => by simp at hk, fun s hs => by simp at hs⟩ (by simp) (by omega) (by omega) kk2 kk3
                    rw [q1, Option.bind_some]
                    simp only [if_true]
                    have v2s : str v2 l := ⟨hs.1, fun i hi => by rw [q3 _ _ (by omega) (by omega)]; exact hs.2 i hi⟩
                    have gr2 : ¬ fn_Sc_isGreat Zb w2 = true := g2
                    have tt := tiles_n hat (by omega) P1
                    obtain ⟨X1, X2, X3, Y4, X5', Y6⟩ := cross_n hs (show 6 + 34 ≤ l.length by omega) P1
                    have X1 : fn_Md_across (lN (u4 l 32)) (lN (u4 l 8)) (lN (u4 l 24)) = some (lN ((u4 l 8 - u4 l 32 + u4 l 24 - 1) / u4 l 24)) := X1
                    have X2 : fn_Md_across (lN (u4 l 36)) (lN (u4 l 12)) (lN (u4 l 28)) = some (lN ((u4 l 12 - u4 l 36 + u4 l 28 - 1) / u4 l 28)) := X2
                    have tt : fn_Sc_toldTiles Zb w2 = lN ((u4 l 8 - u4 l 32 + u4 l 24 - 1) / u4 l 24 * ((u4 l 12 - u4 l 36 + u4 l 28 - 1) / u4 l 28)) := tt
                    have AB : (u4 l 8 - u4 l 32 + u4 l 24 - 1) / u4 l 24 * ((u4 l 12 - u4 l 36 + u4 l 28 - 1) / u4 l 28) ≤ 2147483647 * 2147483647 := Nat.mul_le_mul (Nat.le_of_lt_succ Y4) (Nat.le_of_lt_succ Y6)
                    have T2 : fn_Sc_told2 Zb w2 34 = nI (u2 l 40) := told2 hat (k := 34) (by omega)
                    have c40 := u2_lt hs.1 40
                    have gg : u2 l 40 ≤ 16 ∧ (u4 l 8 - u4 l 32 + u4 l 24 - 1) / u4 l 24 * ((u4 l 12 - u4 l 36 + u4 l 28 - 1) / u4 l 28) ≤ 64 := by
                      have ar := (sc_area hat (by omega)).2 P1
                      unfold fn_Sc_isGreat at gr2
                      rw [d7, if_pos (show nI 81 = 81 from rfl), T2, if_pos ar, tt] at gr2
                      generalize (u4 l 8 - u4 l 32 + u4 l 24 - 1) / u4 l 24 * ((u4 l 12 - u4 l 36 + u4 l 28 - 1) / u4 l 28) = q at *
                      have z1 : (16 < nI (u2 l 40)) = (16 < u2 l 40) := propext (bn_lt (a := 16) (by omega) (by omega))
                      have z2 : (lN q ≤ (64 : Int64)) = (q ≤ 64) := propext (bl_e (b := 64) (by omega) (by omega))
                      simp only [z1, z2] at gr2
                      by_cases k1 : 16 < u2 l 40
                      · rw [if_pos k1] at gr2; exact absurd rfl gr2
                      · rw [if_neg k1] at gr2
                        by_cases k2 : q ≤ 64
                        · exact ⟨by omega, k2⟩
                        · rw [if_neg k2] at gr2; exact absurd rfl gr2
                    generalize hT : (u4 l 8 - u4 l 32 + u4 l 24 - 1) / u4 l 24 * ((u4 l 12 - u4 l 36 + u4 l 28 - 1) / u4 l 28) = T at *
                    have v35s : str (up2 v2 0 35 (nI (u2 l 40))) l := ⟨hs.1, fun i hi => by rw [u2n (by omega)]; exact v2s.2 i hi⟩
                    have v34s : ∀ x, str (up2 (up2 v2 0 35 (nI (u2 l 40))) 0 34 x) l := fun x => ⟨hs.1, fun i hi => by rw [u2n (by omega)]; exact v35s.2 i hi⟩
                    rw [show fn_Md_u2 v2 40 = _ from md_u2 (p := 40) v2s (by omega), Option.bind_some, show fn_Md_u4 (up2 v2 0 35 (nI (u2 l 40))) 32 = _ from md_u4 (p := 32) v35s (by omega), Option.bind_some, show fn_Md_u4 (up2 v2 0 35 (nI (u2 l 40))) 8 = _ from md_u4 (p := 8) v35s (by omega), Option.bind_some, show fn_Md_u4 (up2 v2 0 35 (nI (u2 l 40))) 24 = _ from md_u4 (p := 24) v35s (by omega), Option.bind_some, X1, Option.bind_some, show fn_Md_u4 (up2 v2 0 35 (nI (u2 l 40))) 36 = _ from md_u4 (p := 36) v35s (by omega), Option.bind_some, show fn_Md_u4 (up2 v2 0 35 (nI (u2 l 40))) 12 = _ from md_u4 (p := 12) v35s (by omega), Option.bind_some, show fn_Md_u4 (up2 v2 0 35 (nI (u2 l 40))) 28 = _ from md_u4 (p := 28) v35s (by omega), Option.bind_some, X2, Option.bind_some, show ∀ x, fn_Md_u2 (up2 (up2 v2 0 35 (nI (u2 l 40))) 0 34 x) 4 = _ from fun x => md_u2 (p := 4) (v34s x) (by omega), Option.bind_some, Option.bind_some, bl_mul, hT, bl_to, show (4 : Int32) + nI (u2 l 4) = nI (4 + u2 l 4) from bn_add 4 _]
                    have kk2' : k2 = u2 l 4 := kk2
                    rw [← kk2']
                    have tm : fn_Sc_takeMark F Zb w2 = some (up2 (up2 (up2 (up2 w2 105 9 (nI (u2 l 40))) 105 10 (nI T)) 105 4 2) 105 5 (nI (4 + k2)), Zb) := by
                      have tt2 : ∀ x, fn_Sc_toldTiles Zb (up2 w2 105 9 x) = fn_Sc_toldTiles Zb w2 := fun x => by
                        unfold fn_Sc_toldTiles
                        simp (disch := omega) only [u2n]
                      unfold fn_Sc_takeMark
                      rw [d7, if_neg (by decide), if_pos (show nI 81 = 81 from rfl), T2, tt2, tt, bl_to, w25, d8, show nI 2 + 2 = nI 4 from rfl, bn_add]
                    have W2 : ∀ a j, ¬ (a = 105 ∧ (j = 4 ∨ j = 5 ∨ j = 7 ∨ j = 8)) → w2 a j = wb a j := fun a j q => by
                      rw [d6 a j (by omega)]; exact XF a j (by omega)
                    have LN' : 38 ≤ k2 ∧ k2 = 38 + 3 * u2 l 40 := LN
                    have P2' : 1 ≤ u2 l 40 := P2
                    have hB : posB (up2 (up2 (up2 (up2 w2 105 9 (nI (u2 l 40))) 105 10 (nI T)) 105 4 2) 105 5 (nI (4 + k2))) (up2 (up2 (up2 v2 0 35 (nI (u2 l 40))) 0 34 (nI T)) 0 36 (nI (4 + k2))) Zb l [(81, 2, k2, 0)] [] (u2 l 40) T (4 + k2) 2 := by
                      refine ⟨⟨⟨⟨hs.1, fun i hi => by simp (disch := omega) only [u2n]; exact v2s.2 i hi⟩, zbl, ?_⟩, ⟨⟨?_, by simp, fun k hk => ?_, fun s hs => ?_⟩, by show 4 * 1 ≤ 4 + k2; omega, fun s hs => ?_⟩, ⟨?_, ?_, gg.1, ?_, ?_, gg.2, ?_⟩, ⟨fun m c hc hk => ?_, fun t ht hq => ?_, fun s hs hs0 => ?_⟩, ⟨⟨?_, fun k hk => ?_⟩, ⟨?_, by simp, fun k hk => ?_⟩, fun t ht => ?_, ⟨by simp, fun q hq => ?_⟩⟩, ⟨?_, ?_, fun q hq => ?_, fun t ht => ?_, fun t => ?_⟩⟩, ?_, .inl ⟨rfl, rfl⟩, ?_, ?_, ?_, by omega, by omega, fun m o c hk => Nat.le_trans List.countP_le_length (by simp), ⟨P1, rfl, P2', by omega⟩, fun s hs h97 => by rw [List.mem_singleton] at hs; subst hs; exact absurd h97 (by decide : ¬ (81 = 97))⟩
                      · simp (disch := omega) only [u2n]; rw [q3 _ _ (by omega) (by omega)]; exact h20
                      · simp (disch := omega) only [u2n]; exact q2.1
                      · simp (disch := omega) only [u2n]; exact q2.2.2.1 k hk
                      · exact q2.2.2.2 s hs
                      · simp at hs
                        rw [hs]
                        refine ⟨by show 2 ≤ 2; omega, by show 2 + 4 ≤ _; omega, by show 2 + 2 + k2 ≤ _; omega, by show 2 ≤ k2; omega, kk2, by show 81 < 256; omega, by show 0 ≤ 64; omega, fun x => ?_, ?_⟩
                        · have x : (81 : Nat) = 83 ∨ (81 : Nat) = 93 ∨ (81 : Nat) = 94 := x
                          omega
                        · unfold vok
                          simp
                      · simp (disch := omega) only [u2n, u2e]
                      · simp (disch := omega) only [u2n, u2e]
                      · simp (disch := omega) only [u2n, u2e]
                      · simp (disch := omega) only [u2n, u2e]
                      · simp (disch := omega) only [u2n]
                        rw [W2 _ _ (by omega), B11]
                        rfl
                      · simp (disch := omega) only [u2n]
                        have x1 := ix_lt (m := m) hc
                        rw [W2 _ _ (by omega), B109 _ (by omega)]
                        unfold plf pr
                        unfold kmk at hk
                        rw [List.find?_cons]
                        simp
                        rw [decide_eq_false (by omega)]
                        simp
                      · simp at hq
                      · simp at hs
                        rw [hs] at hs0
                        exact absurd rfl hs0
                      · simp (disch := omega) only [u2n]
                        rw [W2 _ _ (by omega)]; exact B110
                      · simp at hk
                      · simp (disch := omega) only [u2n]; rw [q3 _ _ (by omega) (by omega)]; exact h28
                      · simp at hk
                      · simp (disch := omega) only [u2n]
                        rw [W2 _ _ (by omega), W2 _ _ (by omega)]
                        exact ⟨(B112 t ht).1, (B112 t ht).2.1⟩
                      · simp at hq
                      · rw [zb3]; rfl
                      · rw [zb3]; simp
                      · simp at hq
                      · simp (disch := omega) only [u2n]
                        rw [W2 _ _ (by omega), (B112 t ht).2.2]
                        rfl
                      · rfl
                      · simp (disch := omega) only [u2n, u2e]; rfl
                      · simp (disch := omega) only [u2e]
                      · simp (disch := omega) only [u2n]
                        rw [d6 _ _ (by omega)]; exact X6
                      · simp (disch := omega) only [u2e]
                    obtain ⟨R, why, w1', o1, o2, o3, o4⟩ := simA hF l (l.length - (4 + k2)) _ _ Zb _ (u2 l 40) T (4 + k2) F' F 2 (Nat.le_refl _) hB (by omega) (by omega) (by omega)
                    obtain ⟨z1, z2⟩ := sloop_0 (i := 1) (by omega) hne2 eR tm (Nat.le_refl _) o1 o2
                    refine step z1 z2 (by rw [if_pos rfl]; exact o3) (outc_tr o4 (fun a j ha => ?_) (fun a j q1 q2 => ?_) ?_ rfl rfl)
                    · simp (disch := omega) only [u2n]; exact sam4 d6 a j ha
                    · simp (disch := omega) only [u2n]; exact q3 a j (by omega) (by omega)
                    · simp (disch := omega) only [u2n]; exact q3 _ _ (by omega) (by omega)
              · rw [if_neg g1] at eR ⊢
                exact rf 3 (by omega) (by omega) _ eR (lN' 3 (by omega) (by omega))
            · exact absurd x (by decide)
          · rw [if_neg (show ¬ nI m2 = 81 from bn_e' (k := 81) d3 (by omega) m81)]
            have hw2 : fn_Sc_isWrong Zb w2 = true := by
              unfold fn_Sc_isWrong
              rw [w24, if_neg (by decide), if_pos rfl, d7, if_neg (show ¬ nI m2 = 81 from bn_e' (k := 81) d3 (by omega) m81)]
            refine step (lr (by omega) (by omega) (by omega) hne2 (ref_wr d5 hw2) (F' + 1) (by omega)) (Nat.le_refl _) ?_ (outc_no (p := 2) (r := 2) (by omega) (by omega) (sam4 d6) w25)
            rw [Option.bind_some]
            exact wn 2 _ (by omega) (by omega)
      · rw [if_neg (show ¬ nI m = 79 from bn_e' (k := 79) c3 (by omega) m79)]
        have hw : fn_Sc_isWrong Zb w1 = true := by
          unfold fn_Sc_isWrong
          rw [w14, if_pos rfl, c7, if_neg (show ¬ nI m = 79 from bn_e' (k := 79) c3 (by omega) m79)]
        refine ⟨_, nI 2, up2 v 0 22 (nI 0), lr (by omega) (by omega) (by omega) hne (ref_wr c5 hw) F (by omega), Nat.le_refl _, ?_, outc_no (by omega) (by omega) (sam4 c6) w15⟩
        rw [Option.bind_some]
        exact wn 2 _ (by omega) (by omega)
  obtain ⟨R, why, w1', o1, o2, o3, o4⟩ := goal
  refine ⟨R, why, w1', ?_, by rw [zbc]; exact o2, o3, outc_tr o4 BF hmf h22 zb1 zb2⟩
  unfold fn_Sc_refusal
  rw [fb, Option.bind_some, if_pos (Nat.le_of_eq zbc)]
  exact mchk_eq o1 o2
