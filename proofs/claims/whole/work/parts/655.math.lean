/-! mathematics of both state tables, part 55; from wip/math -/
theorem b_scan {F : Nat} (hF : 70000 ≤ F) {Z : zd} {w w' : wd} (h : rel w Z w') : ∃ R v w1', fn_SM_scan F Z w = some R ∧ fn_Md_scan F w' = some (v, w1') ∧ rel R.2.1 R.2.2 w1' ∧ w1' 0 0 = 0 ∧ R.1 = .inl v := by
  obtain ⟨h1, ⟨r1, r2, r3, r4, r5, r6, r7⟩, h3⟩ := h
  have hs : str (up2 (up2 (up2 w' 0 0 (0 : Int32)) 0 21 (0 : Int32)) 0 22 (-1 : Int32)) Z.1.1 := ⟨⟨r2, r4⟩, fun i hi => by simp (disch := omega) only [u2n]; exact r3 i hi⟩
  obtain ⟨R, why, w1', a1, a2, a3, a4⟩ := scanRef hF (w := w) hs rfl (by simp (disch := omega) only [u2n]; exact r1)
  obtain ⟨b1, b2, b3, b4, b5, b6, b7⟩ := a4
  obtain ⟨why2, W, Z2⟩ := R
  subst b1
  have z1 : Z2.1 = Z.1 := b4
  have m0 : w1' 0 0 = 0 := by rw [b3 _ _ (by omega) (by omega)]; simp (disch := omega) only [u2n, u2e]
  have m21 : w1' 0 21 = 0 := by rw [b3 _ _ (by omega) (by omega)]; simp (disch := omega) only [u2n, u2e]
  have m20 : w1' 0 20 = nI Z.1.1.length := by rw [b3 _ _ (by omega) (by omega)]; simp (disch := omega) only [u2n]; exact r1
  have m11 : ∀ i, i < Z.1.1.length → w1' 11 i = nI (Z.1.1.getD i 0) := fun i hi => by rw [b3 _ _ (by omega) (by omega)]; simp (disch := omega) only [u2n]; exact r3 i hi
  have RP : rpl W w1' := rpl_fr h1 (fun a j _ q => b2 a j q) (fun a j q => by rw [b3 _ _ (by omega) (by omega)]; simp (disch := omega) only [u2n])
  have a2' : zc Z ≤ zc Z2 := a2
  unfold fn_SM_scan fn_Md_scan
  rw [a1, a3, Option.bind_some, Option.bind_some]
  simp only []
  rw [if_pos a2']
  by_cases c : why2 = 0
  · have b7' := b7 c
    have b7f : fin W w1' Z2 Z.1.1 := b7'.2
    have b22 : w1' 0 22 = -1 := by rw [b7'.1]; simp (disch := omega) only [u2e]
    rw [if_pos c, if_pos c]
    have fn2 : fin (up2 (up2 W 0 5 1) 0 6 (-1)) (up2 w1' 0 21 1) Z2 Z.1.1 := fin_fr b7f (fun a j q => by simp (disch := omega) only [u2n]) (fun a j q => by simp (disch := omega) only [u2n]) (fun i hi => by simp (disch := omega) only [u2n]) rfl rfl
    obtain ⟨S, Q, cn, T, p, ⟨fs, fz, f20⟩, ⟨fT, f4p, fok⟩, ⟨i1, i2, i3, i4, i5, i6, i7⟩, ⟨p1, p2, p3⟩, fP, fbq, _, _, _, _, _, _, fu⟩ := id fn2
    obtain ⟨V, v1', d1, d2, d3, d4, d5, d6, d7, d8, d9⟩ := ldm hF fz fs fT fok fu i3 i2 p1 (-1)
    have sc : fn_SM_scan_18 F Z2 W why2 true = some (.inl why2, V, Z2) := by
      unfold fn_SM_scan_18 fn_SM_scan_40
      rw [if_neg (by rw [u2e rfl rfl]; decide), if_neg (by rw [u2n (by omega), u2e rfl rfl]; decide)]
      rw [show bi true = 1 from rfl, d1, Option.bind_some]
    have mm : mchk Z2 (fun R9 : (Int32 ⊕ String) × wd × zd => R9.2.2) (fn_SM_scan_18 F Z2 W why2 true) = some (.inl why2, V, Z2) := by
      unfold mchk
      rw [sc, Option.bind_some, if_pos (Nat.le_refl _)]
    rw [if_pos (by decide)] at d2
    refine ⟨_, _, v1', mm, by rw [d2, Option.bind_some], ⟨⟨d3, d4, ⟨cn, d5⟩, d6⟩, ?_, fun _ => ?_⟩, ?_, rfl⟩
    · show rst V Z2 v1'
      refine ⟨by rw [d8 _ _ (by omega), u2n (by omega), z1]; exact m20, by rw [z1]; exact r2, fun i hi => by rw [z1] at hi ⊢; rw [d8 _ _ (by omega), u2n (by omega)]; exact m11 i hi, by rw [z1]; exact r4, ?_, ?_, ?_⟩
      · rw [d7 _ _ (by omega), d8 _ _ (by omega), u2n (by omega), u2e rfl rfl, u2e rfl rfl]
      · rw [d8 _ _ (by omega), u2e rfl rfl]; exact .inr rfl
      · rw [d7 _ _ (by omega), d8 _ _ (by omega), u2e rfl rfl, u2n (by omega), b22]
    · show fin V v1' Z2 Z2.1.1
      rw [z1]
      exact fin_fr fn2 (fun a j q => d7 a j (by omega)) (fun a j q => d8 a j (by omega)) (fun i hi => d8 _ _ (by omega)) rfl rfl
    · rw [d9, u2n (by omega)]; exact m0
  · rw [if_neg c, if_neg c]
    have b6' : W 105 5 = w1' 0 22 := b6 c
    have sc : fn_SM_scan_18 F Z2 W why2 false = some (.inl why2, up2 (up2 W 0 5 0) 0 6 (W 105 5), Z2) := by
      unfold fn_SM_scan_18 fn_SM_scan_40
      rw [if_pos (by rw [u2e rfl rfl]; decide), if_pos (by rw [u2n (by omega), u2e rfl rfl]; decide), u2n (by omega)]
      rfl
    have mm : mchk Z2 (fun R9 : (Int32 ⊕ String) × wd × zd => R9.2.2) (fn_SM_scan_18 F Z2 W why2 false) = some (.inl why2, up2 (up2 W 0 5 0) 0 6 (W 105 5), Z2) := by
      unfold mchk
      rw [sc, Option.bind_some, if_pos (Nat.le_refl _)]
    refine ⟨_, _, w1', mm, rfl, ⟨rpl_fr RP (fun a j q _ => by simp (disch := omega) only [u2n]) (fun _ _ _ => rfl), ?_, fun x => ?_⟩, m0, rfl⟩
    · show rst (up2 (up2 W 0 5 0) 0 6 (W 105 5)) Z2 w1'
      refine ⟨by rw [z1]; exact m20, by rw [z1]; exact r2, fun i hi => by rw [z1] at hi ⊢; exact m11 i hi, by rw [z1]; exact r4, ?_, .inl m21, ?_⟩
      · rw [u2n (by omega), u2e rfl rfl, m21]
      · rw [u2e rfl rfl, b6']
    · rw [m21] at x; exact absurd x (by decide)
theorem b_use {F : Nat} (hF : 70000 ≤ F) {Z : zd} {w w' : wd} (h : rel w Z w') (x1 : Int32) : ∃ R v w1', fn_SM_use F Z w x1 = some R ∧ fn_Md_use F w' x1 = some (v, w1') ∧ rel R.2.1 R.2.2 w1' ∧ w1' 0 0 = cd2 "java/lang/IllegalStateException" R.1 ∧ ∀ u, R.1 = .inl u → u = v := by
  obtain ⟨h1, h2, h3⟩ := id h
  obtain ⟨r1, r2, r3, r4, r5, r6, r7⟩ := id h2
  have no : ∀ (c : Int32) (s : String), cd2 "java/lang/IllegalStateException" (.inr s : Int32 ⊕ String) = c → fn_SM_demandTile Z w x1 = .inr s → fn_Md_use F w' x1 = some (0, up2 w' 0 0 c) → ∃ R v w1', fn_SM_use F Z w x1 = some R ∧ fn_Md_use F w' x1 = some (v, w1') ∧ rel R.2.1 R.2.2 w1' ∧ w1' 0 0 = cd2 "java/lang/IllegalStateException" R.1 ∧ ∀ u, R.1 = .inl u → u = v := by
    intro c s hc hd hm
    refine ⟨(.inr s, w, Z), 0, up2 w' 0 0 c, by unfold fn_SM_use; rw [hd], hm, rel_t h c, by rw [u2e rfl rfl]; exact hc.symm, fun u hu => by cases hu⟩
  by_cases c0 : w' 0 21 = 0
  · refine no 1 _ rfl (by unfold fn_SM_demandTile; rw [r5, if_pos c0]) ?_
    unfold fn_Md_use
    rw [if_pos c0]
    unfold fn_Md_use_13 fn_Md_use_25 fn_Md_use_30
    simp only [md_refT, if_true]
    split
    · rfl
    · split <;> rfl
  · have c1 : w' 0 21 = 1 := by rcases r6 with e | e; exact absurd e c0; exact e
    have hf := h3 c1
    obtain ⟨T, T1, T2, T3, T4⟩ := headB hF hf
    by_cases c2 : x1 < 0
    · refine no 2 _ rfl (by unfold fn_SM_demandTile; rw [r5, if_neg c0, if_pos c2]) ?_
      unfold fn_Md_use fn_Md_use_13 fn_Md_use_25 fn_Md_use_30
      rw [if_neg c0, if_pos c2, md_refF]
      rfl
    · by_cases c3 : x1 < nI T
      · obtain ⟨t, t1, rfl⟩ := bv_nn (x := x1) (by
          have := mt (Int32.lt_iff_toInt_lt (x := x1) (y := 0)).2 c2
          rw [show (0 : Int32).toInt = 0 from rfl] at this; omega)
        rw [bn_lt t1 (by omega)] at c3
        obtain ⟨L, L1, L2, L3, L4, L5⟩ := T4 t c3
        obtain ⟨S, Q, cn, T', p, ⟨fs, fz, f20⟩, ⟨fT, f4p, fok⟩, ⟨i1, i2, i3, i4, i5, i6, i7⟩, ⟨p1, p2, p3⟩, fP, fbq, _, _, _, _, _, fall, fu⟩ := id (fin_fr hf (w1 := w) (w1' := up2 w' 0 0 0) (fun _ _ _ => rfl) (fun a j q => by simp (disch := omega) only [u2n]) (fun i hi => by simp (disch := omega) only [u2n]) rfl rfl)
        have eT : T' = T := by
          have := i4.symm.trans T2
          rwa [bn_eq (by omega) (by omega)] at this
        subst eT
        obtain ⟨W, w1', d1, d2, d3, d4, d5, d6⟩ := ldt hF fz fs fT fok fu i3 i2 p1 (t := t) (by omega) (p2 t (by omega) (fall t c3))
        have hf2 : fin W w1' Z Z.1.1 := fin_fr hf (fun a j q => d4 a j (by omega)) (fun a j q => by rw [d5 a j (by omega), u2n (by omega)]) (fun i hi => by rw [d5 _ _ (by omega), u2n (by omega)]) rfl rfl
        obtain ⟨T9, U1, U2, U3, U4⟩ := headB hF hf2
        have eT9 : T9 = T' := by
          have e2 : W 105 10 = w 105 10 := d4 _ _ (by omega)
          have := U2.symm.trans (e2.trans T2)
          rwa [bn_eq (by omega) (by omega)] at this
        obtain ⟨M, M1, M2, M3, M4, M5⟩ := U4 t (by omega)
        have dt : fn_SM_demandTile Z w (nI t) = .inl () := by
          unfold fn_SM_demandTile
          rw [r5, if_neg c0, if_neg c2, T2, if_pos (by rw [bn_lt t1 (by omega)]; omega)]
        refine ⟨(.inl (nI M.length), W, Z), nI M.length, w1', ?_, ?_, ⟨d3, ⟨by rw [d5 _ _ (by omega), u2n (by omega)]; exact r1, r2, fun i hi => by rw [d5 _ _ (by omega), u2n (by omega)]; exact r3 i hi, r4, by show W 0 5 = _; rw [d4 _ _ (by omega), d5 _ _ (by omega), u2n (by omega)]; exact r5, by rw [d5 _ _ (by omega), u2n (by omega)]; exact r6, by show W 0 6 = _; rw [d4 _ _ (by omega), d5 _ _ (by omega), u2n (by omega)]; exact r7⟩, fun _ => hf2⟩, by rw [d6, u2e rfl rfl]; rfl, fun u hu => by cases hu; rfl⟩
        · unfold fn_SM_use
          rw [dt]
          simp only []
          rw [d1, Option.bind_some, M2, Option.bind_some]
        · unfold fn_Md_use fn_Md_use_13 fn_Md_use_30
          rw [if_neg c0, if_neg c2, T3, if_pos (by rw [bn_lt t1 (by omega)]; omega), md_ref0, if_neg (show ¬ (false = true) by decide)]
          simp only []
          rw [d2, Option.bind_some, M3 (-1) (by decide), if_neg (by decide), Option.bind_some]
      · refine no 2 _ rfl (by unfold fn_SM_demandTile; rw [r5, if_neg c0, if_neg c2, T2, if_neg c3]) ?_
        unfold fn_Md_use fn_Md_use_13 fn_Md_use_25 fn_Md_use_30
        rw [if_neg c0, if_neg c2, T3, if_neg c3, md_refF]
        rfl
theorem b_head {F : Nat} (hF : 70000 ≤ F) {Z : zd} {w w' : wd} (h : rel w Z w') (x1 x2 : Int32) : ∃ R v w1', fn_SM_head F Z w x1 x2 = some R ∧ fn_Md_head F w' x1 x2 = some (v, w1') ∧ rel R.2.1 R.2.2 w1' ∧ w1' 0 0 = cd2 "java/lang/IllegalStateException" R.1 ∧ ∀ u, R.1 = .inl u → u = v := by
  obtain ⟨h1, h2, h3⟩ := id h
  obtain ⟨r1, r2, r3, r4, r5, r6, r7⟩ := id h2
  have no : ∀ (c v : Int32) (s : String), cd2 "java/lang/IllegalStateException" (.inr s : Int32 ⊕ String) = c → fn_SM_head F Z w x1 x2 = some (.inr s, w, Z) → fn_Md_head F w' x1 x2 = some (v, up2 w' 0 0 c) → ∃ R v w1', fn_SM_head F Z w x1 x2 = some R ∧ fn_Md_head F w' x1 x2 = some (v, w1') ∧ rel R.2.1 R.2.2 w1' ∧ w1' 0 0 = cd2 "java/lang/IllegalStateException" R.1 ∧ ∀ u, R.1 = .inl u → u = v := by
    intro c v s hc hd hm
    exact ⟨(.inr s, w, Z), v, up2 w' 0 0 c, hd, hm, rel_t h c, by rw [u2e rfl rfl]; exact hc.symm, fun u hu => by cases hu⟩
  have dno : ∀ s, fn_SM_demandTile Z w x1 = .inr s → fn_SM_head F Z w x1 x2 = some (.inr s, w, Z) := fun s hd => by
    unfold fn_SM_head; rw [hd]
  by_cases c0 : w' 0 21 = 0
  · refine no 1 0 _ rfl (dno _ (by unfold fn_SM_demandTile; rw [r5, if_pos c0])) ?_
    unfold fn_Md_head fn_Md_head_27 fn_Md_head_28 fn_Md_head_43
    rw [if_pos c0, if_neg (by decide), if_pos c0]
    unfold fn_Md_head_58
    rw [if_neg (by decide), md_refT]
    rfl
  · have c1 : w' 0 21 = 1 := by rcases r6 with e | e; exact absurd e c0; exact e
    have hf := h3 c1
    obtain ⟨T, T1, T2, T3, T4⟩ := headB hF hf
    have bad : fn_Md_head_43 F w' (-1) = some (0, up2 w' 0 0 2) := by
      unfold fn_Md_head_43 fn_Md_head_58
      rw [if_neg c0, if_neg (by decide), md_refF]
      rfl
    by_cases c2 : x1 < 0
    · refine no 2 0 _ rfl (dno _ (by unfold fn_SM_demandTile; rw [r5, if_neg c0, if_pos c2])) ?_
      unfold fn_Md_head fn_Md_head_27 fn_Md_head_28
      rw [if_neg c0, if_pos c2, if_neg (by decide), bad]
    · by_cases c3 : x1 < nI T
      · obtain ⟨t, t1, rfl⟩ := bv_nn (x := x1) (by
          have := mt (Int32.lt_iff_toInt_lt (x := x1) (y := 0)).2 c2
          rw [show (0 : Int32).toInt = 0 from rfl] at this; omega)
        rw [bn_lt t1 (by omega)] at c3
        obtain ⟨L, L1, L2, L3, L4, L5⟩ := T4 t c3
        have dt : fn_SM_demandTile Z w (nI t) = .inl () := by
          unfold fn_SM_demandTile
          rw [r5, if_neg c0, if_neg c2, T2, if_pos (by rw [bn_lt t1 (by omega)]; omega)]
        have hd : fn_SM_head F Z w (nI t) x2 = ((fn_Pt_placeOfHead F w (nI t) x2).bind fun r6 => (if (decide (0 ≤ r6.toInt ∧ r6.toInt < Z.2.2.1.length)) = true then some (.inl (nI (rw_u1 Z.2.2.1 r6.toInt)), w, Z) else some (.inr "java/util/NoSuchElementException", w, Z))) := by
          unfold fn_SM_head; rw [dt]
        have hm : fn_Md_head F w' (nI t) x2 = if x2 < 0 then some (0, up2 w' 0 0 2) else ((fn_Md_headOf F w' (nI t) x2).bind fun r11 => fn_Md_head_43 F w' r11) := by
          unfold fn_Md_head fn_Md_head_27 fn_Md_head_28
          rw [if_neg c0, if_neg c2, T3, if_neg (by rw [bn_le (by omega) t1]; omega), if_neg (show ¬ (false = true) by decide), bad, if_pos (show true = true from rfl)]
        by_cases c4 : x2 < 0
        · have pm : fn_Pt_placeOfHead F w (nI t) x2 = some (-1) := by
            unfold fn_Pt_placeOfHead
            obtain ⟨F', rfl⟩ : ∃ F', F = F' + 1 := ⟨F - 1, by omega⟩
            rw [fn_Pt_placeOfHead_5]
            split
            · rfl
            · first | rfl | rw [if_pos c4]
          refine no 2 0 _ rfl (by rw [hd, pm, Option.bind_some, if_neg (by rw [decide_eq_true_eq, show (-1 : Int32).toInt = -1 from rfl]; omega)]) ?_
          rw [hm, if_pos c4]
        · obtain ⟨v, v1, rfl⟩ := bv_nn (x := x2) (by
            have := mt (Int32.lt_iff_toInt_lt (x := x2) (y := 0)).2 c4
            rw [show (0 : Int32).toInt = 0 from rfl] at this; omega)
          obtain ⟨r, q1, q2, q3⟩ := L5 v v1
          have pos : (0 : Int32) ≤ nI v := by rw [show (0 : Int32) = nI 0 from rfl, bn_le (by omega) v1]; omega
          rw [if_neg c4, L3 _ (by rw [bn_i v1]; omega), if_pos pos, Option.bind_some, bn_i v1] at hm
          by_cases c5 : v < L.length
          · obtain ⟨p, rfl, p2, p3, p4⟩ := q2 c5
            have bd : L.getD v 0 < 256 := by
              rw [List.getD_eq_getElem?_getD, List.getElem?_eq_getElem c5, Option.getD_some]
              exact L4 _ (List.getElem_mem c5)
            have pe : pk 0 L (v : Int) (-1) = nI (L.getD v 0) := by
              unfold pk
              rw [if_pos (by omega)]; rfl
            have hd2 : fn_SM_head F Z w (nI t) (nI v) = some (.inl (nI (L.getD v 0)), w, Z) := by
              rw [hd, q1, Option.bind_some, if_pos (by rw [decide_eq_true_eq, bn_i (by omega)]; omega), ru1 _ _ (by omega), p4]
            refine ⟨_, nI (L.getD v 0), up2 w' 0 0 0, hd2, ?_, rel_t h 0, by rw [u2e rfl rfl]; rfl, fun u hu => by cases hu; rfl⟩
            rw [hm, pe]
            unfold fn_Md_head_43 fn_Md_head_58
            rw [if_neg c0, if_pos (by rw [show (0 : Int32) = nI 0 from rfl, bn_le (by omega) (by omega)]; omega), md_ref0]
            rfl
          · have e := q3 (by omega)
            subst e
            refine no 2 0 _ rfl (by rw [hd, q1, Option.bind_some, if_neg (by rw [decide_eq_true_eq, show (-1 : Int32).toInt = -1 from rfl]; omega)]) ?_
            rw [hm, show pk 0 L (v : Int) (-1) = -1 by unfold pk; rw [if_neg (by omega)], bad]
      · refine no 2 0 _ rfl (dno _ (by unfold fn_SM_demandTile; rw [r5, if_neg c0, if_neg c2, T2, if_neg c3])) ?_
        have c3' : nI T ≤ x1 := by
          rw [Int32.lt_iff_toInt_lt] at c3; rw [Int32.le_iff_toInt_le]; omega
        unfold fn_Md_head fn_Md_head_27 fn_Md_head_28
        rw [if_neg c0, if_neg c2, T3, if_pos c3', if_neg (by decide), bad]
theorem b_found {Z : zd} {w w' : wd} (h : rel w Z w') (x1 x2 : Int32) : ∃ v, fn_Md_found w' x1 x2 = some (v, up2 w' 0 0 (cd2 "java/lang/IllegalStateException" (fn_SM_found Z w x1 x2))) ∧ ∀ u, fn_SM_found Z w x1 x2 = .inl u → u = v := by
  obtain ⟨h1, h2, h3⟩ := id h
  obtain ⟨r1, r2, r3, r4, r5, r6, r7⟩ := id h2
  by_cases c0 : w' 0 21 = 0
  · have e : fn_SM_found Z w x1 x2 = .inr "java/lang/IllegalStateException" := by unfold fn_SM_found; rw [r5, if_pos c0]
    rw [e]
    refine ⟨0, ?_, fun u hu => by cases hu⟩
    have k : ∀ s, fn_Md_found_31 w' x1 x2 s = some (0, up2 w' 0 0 1) := fun s => by
      unfold fn_Md_found_31 fn_Md_found_45 fn_Md_found_54
      rw [if_pos c0]
      cases s <;> simp [md_refT]
    unfold fn_Md_found fn_Md_found_26 fn_Md_found_30
    simp only [k]
    show _ = some (0, up2 w' 0 0 1)
    split
    · rfl
    · split
      · rfl
      · split
        · rfl
        · split
          · rfl
          · split <;> rfl
  · have c1 : w' 0 21 = 1 := by rcases r6 with e | e; exact absurd e c0; exact e
    obtain ⟨S, Q, cn, T, p, ⟨fs, fz, f20⟩, ⟨fT, f4p, fok⟩, _, _, fP, fbq, _, fQ, _, _, _, _, _⟩ := h3 c1
    have hq := fbq.1
    have lenQ : (if S.countP (mo 96 0) = 0 then Q else deal Z.2.2.1 0 Q).length = Q.length := by
      split
      · rfl
      · exact deal_len _ _ _
    have fQ1 := fQ.1
    rw [lenQ] at fQ1
    have kF : fn_Md_found_31 w' x1 x2 false = some (0, up2 w' 0 0 2) := by
      unfold fn_Md_found_31 fn_Md_found_45 fn_Md_found_54
      rw [if_neg c0, if_neg (by decide), md_refF]
      rfl
    have kT : fn_Md_found_31 w' x1 x2 true = fn_Md_found_54 w' x1 x2 false false := by
      unfold fn_Md_found_31 fn_Md_found_45
      rw [if_neg c0, if_pos rfl]
    have no : fn_SM_found Z w x1 x2 = .inr "java/util/NoSuchElementException" → fn_Md_found w' x1 x2 = some (0, up2 w' 0 0 2) → ∃ v, fn_Md_found w' x1 x2 = some (v, up2 w' 0 0 (cd2 "java/lang/IllegalStateException" (fn_SM_found Z w x1 x2))) ∧ ∀ u, fn_SM_found Z w x1 x2 = .inl u → u = v := fun a b => ⟨0, by rw [a, b]; rfl, fun u hu => by rw [a] at hu; cases hu⟩
    by_cases d1 : x1 = -1
    · have e : fn_SM_found Z w x1 x2 = .inl (nI Q.length) := by unfold fn_SM_found; rw [r5, if_neg c0, if_pos d1, fQ1]
      rw [e]
      refine ⟨nI Q.length, ?_, fun u hu => by cases hu; rfl⟩
      unfold fn_Md_found fn_Md_found_26
      rw [if_pos d1, kT]
      unfold fn_Md_found_54
      rw [md_ref0, if_neg (show ¬ (false = true) by decide), if_neg (by rw [d1]; decide)]
      show some ((up2 w' 0 0 0) 0 28, _) = _
      rw [u2n (by omega), fP.1]
      rfl
    · by_cases d2 : x1 < 0
      · refine no (by unfold fn_SM_found; rw [r5, if_neg c0, if_neg d1, if_pos d2]) ?_
        unfold fn_Md_found fn_Md_found_30
        rw [if_neg d1, if_pos d2, kF]
      · obtain ⟨k, k1, rfl⟩ := bv_nn (x := x1) (by
          have := mt (Int32.lt_iff_toInt_lt (x := x1) (y := 0)).2 d2
          rw [show (0 : Int32).toInt = 0 from rfl] at this; omega)
        by_cases d3 : nI Q.length ≤ nI k
        · refine no (by unfold fn_SM_found; rw [r5, if_neg c0, if_neg d1, if_neg d2, fQ1, if_pos d3]) ?_
          unfold fn_Md_found fn_Md_found_30
          rw [if_neg d1, if_neg d2, fP.1, if_pos d3, kF]
        · by_cases d4 : x2 < 0
          · refine no (by unfold fn_SM_found; rw [r5, if_neg c0, if_neg d1, if_neg d2, fQ1, if_neg d3, if_pos d4]) ?_
            unfold fn_Md_found fn_Md_found_30
            rw [if_neg d1, if_neg d2, fP.1, if_neg d3, if_pos d4, kF]
          · obtain ⟨j, j1, rfl⟩ := bv_nn (x := x2) (by
              have := mt (Int32.lt_iff_toInt_lt (x := x2) (y := 0)).2 d4
              rw [show (0 : Int32).toInt = 0 from rfl] at this; omega)
            have e4 : (nI j ≤ 4) = (j ≤ 4) := propext (bn_le (b := 4) j1 (by omega))
            have e5 : (4 < nI j) = (4 < j) := propext (bn_lt (a := 4) (by omega) j1)
            have d3' : k < Q.length := by rw [bn_le (by omega) k1] at d3; omega
            by_cases d5 : j ≤ 4
            · have e : fn_SM_found Z w (nI k) (nI j) = .inl (nI (fld (Q.getD k pt0) j)) := by
                unfold fn_SM_found
                rw [r5, if_neg c0, if_neg d1, if_neg d2, fQ1, if_neg d3, if_neg d4, if_pos (e4.mpr d5), gnum (by omega) (by omega), fQ.2 k (by rw [lenQ]; exact d3') j (by omega) (by omega)]
                congr 2
                split
                · rfl
                · exact deal_f _ _ _ _ _ (by omega)
              rw [e]
              refine ⟨_, ?_, fun u hu => by cases hu; rfl⟩
              unfold fn_Md_found fn_Md_found_26
              rw [if_neg d1, if_neg d2, fP.1, if_neg d3, if_neg d4, if_neg (by rw [e5]; omega), kT]
              unfold fn_Md_found_54
              have R : 0 ≤ (nI k).toInt ∧ (nI k).toInt < 256 := by rw [bn_i k1]; omega
              rw [md_ref0, if_neg (show ¬ (false = true) by decide), if_pos (by rw [show (0 : Int32) = nI 0 from rfl, bn_le (by omega) k1]; omega)]
              simp only [if_pos R, bn_nn k k1]
              have g := fP.2.2 k d3'
              rcases (show j = 0 ∨ j = 1 ∨ j = 2 ∨ j = 3 ∨ j = 4 by omega) with rfl | rfl | rfl | rfl | rfl
              · rw [if_pos (show nI 0 = 0 from rfl), u2n (by omega), g 0 (by omega)]; rfl
              · rw [if_neg (by decide), if_pos (show nI 1 = 1 from rfl), u2n (by omega), g 1 (by omega)]; rfl
              · rw [if_neg (by decide), if_neg (by decide), if_pos (show nI 2 = 2 from rfl), u2n (by omega), g 2 (by omega)]; rfl
              · rw [if_neg (by decide), if_neg (by decide), if_neg (by decide), if_pos (show nI 3 = 3 from rfl), u2n (by omega), g 3 (by omega)]; rfl
              · rw [if_neg (by decide), if_neg (by decide), if_neg (by decide), if_neg (by decide), u2n (by omega), g 4 (by omega)]; rfl
            · refine no (by unfold fn_SM_found; rw [r5, if_neg c0, if_neg d1, if_neg d2, fQ1, if_neg d3, if_neg d4, if_neg (fun x => d5 (e4.mp x))]) ?_
              unfold fn_Md_found fn_Md_found_30
              rw [if_neg d1, if_neg d2, fP.1, if_neg d3, if_neg d4, if_pos (e5.mpr (by omega)), kF]
