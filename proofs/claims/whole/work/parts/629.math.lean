/-! mathematics of both state tables, part 29; from wip/math -/
theorem noMiss {F : Nat} {w : wd} {Z : zd} {m : Nat} (h7 : w 105 7 = nI m) (hm : m < 256) (h1 : m ≠ 144) (h2 : m ≠ 217) : fn_Sc_isMissing F Z w = some false := by
  unfold fn_Sc_isMissing fn_Sc_isMissing_28 fn_Sc_isMissing_32 fn_Sc_isMissing_33 fn_Sc_isMissing_68
  rw [h7, if_neg (show ¬ nI m = 144 from bn_e' (k := 144) hm (by omega) h1)]
  simp only [if_neg (show ¬ nI m = 217 from bn_e' (k := 217) hm (by omega) h2), Bool.false_eq_true, if_false, ite_self]
theorem seg_chk {F : Nat} (hF : 70000 ≤ F) {w0 w w' : wd} {Z : zd} {l : List Nat} {S : List sg} {p m n o cn : Nat} (hs : str w' l) (hT : tabS w' S) (hlen : S.length < 16400) (hok : ∀ s ∈ S, segok l cn s) (h : at_ w Z l p m n) (hn : n = u2 l (p + 2)) (hp2 : 2 ≤ p) (hp4 : p + 4 ≤ l.length) (hL : fn_Md_hasLength (nI m) = true) (hm81 : m ≠ 81) (hm144 : m ≠ 144) (hm217 : m ≠ 217) (ho : o ≤ 64) (hcn : cn ≤ 16) (hc' : w' 0 35 = nI cn) (hc : w 105 9 = nI cn) (hown : fn_Sc_owner Z w = nI o) (hpl : plcs w l S o)
    (h96 : m = 96 → o = 0 ∧ w 105 11 = nI (S.countP (mo 96 0))) (h97 : m = 97 → fn_Pt_headSegmentsOf w (w 105 12) = some (nI (S.countP (mo 97 o)))) (hr : fn_Sc_readsCutMark Z w0 = (false, w)) (hw : fn_Sc_isWrong Z w = false) :
    ∃ r, r ≤ 7 ∧ fn_Sc_refusalHere F Z w0 = some (nI r, w) ∧ ((r ≠ 0 ∧ fn_Md_look_20 F w' (nI m) (nI p) (ow o) = some (nI r, up2 w' 0 22 (nI p))) ∨ (r = 0 ∧ ∃ w2', fn_Md_look_20 F w' (nI m) (nI p) (ow o) = some (0, w2') ∧ tabS w2' (S ++ [(m, p, n, o)]) ∧ mfr w' w2' S.length ∧ segok l cn (m, p, n, o) ∧ ∃ c, c < 16 ∧ fn_Sc_toldComponent Z w = nI c ∧ ((m = 83 ∨ m = 93 ∨ m = 94) → u1 l (p + 4) = c) ∧ (kmk m → plf S (pr l m o c) = 0))) := by
  obtain ⟨h1, h2, h3, h4, h5, h6, h7, h8⟩ := id h
  have eR : fn_Sc_refusalHere F Z w0 = (if (fn_Sc_hasLength Z w) = true then (if (fn_Sc_isGreat Z w) = true then some ((7 : Int32), w) else ((fn_Sc_hasValues F Z w).bind fun r7 => (if r7 = true then (if (fn_Ps_startOf w (fn_Sc_owner Z w) (w 105 7) (fn_Sc_toldComponent Z w)) = 0 then some (0, w) else some ((4 : Int32), w)) else some ((5 : Int32), w)))) else some ((3 : Int32), w)) := by
    unfold fn_Sc_refusalHere
    rw [hr]
    simp only [Bool.false_eq_true, if_false, hw]
    have e144 : ¬ w 105 7 = 144 := by rw [h4]; exact bn_e' (k := 144) h5 (by omega) hm144
    have e89 : fn_Sc_refusalHere_89 F Z w = some (0, w) := by
      unfold fn_Sc_refusalHere_89
      rw [noMiss h4 h5 hm144 hm217, Option.bind_some]
      rfl
    simp only [if_neg e144, e89]
  have eL : fn_Md_look_20 F w' (nI m) (nI p) (ow o) = ((fn_Md_fitsLength w' (nI m) (nI p)).bind fun r4 => (if r4 = true then ((fn_Md_isGreat F w' (nI m) (nI p)).bind fun r7 => (if r7 = true then fn_Md_look_98 F w' (nI m) (nI p) (ow o) (7 : Int32) else ((fn_Md_isValue F w' (nI m) (nI p) (ow o)).bind fun r10 => (if r10 = true then ((fn_Md_isTwice F w' (nI m) (nI p) (ow o)).bind fun r13 => (if r13 = true then fn_Md_look_98 F w' (nI m) (nI p) (ow o) (4 : Int32) else fn_Md_look_98 F w' (nI m) (nI p) (ow o) (0 : Int32))) else fn_Md_look_98 F w' (nI m) (nI p) (ow o) (5 : Int32))))) else fn_Md_look_98 F w' (nI m) (nI p) (ow o) (3 : Int32))) := by
    unfold fn_Md_look_20 fn_Md_look_21
    rw [if_neg (by decide), if_pos hL]
  rw [eR, eL, md_fits hs h hn hp4 hL, Option.bind_some]
  by_cases c1 : fn_Sc_hasLength Z w = true
  · have LN := len_of h hL c1
    simp only [if_pos c1]
    rw [md_great (show 200 ≤ F by omega) hs h hn hp4 hL c1 hm144, Option.bind_some]
    by_cases c2 : fn_Sc_isGreat Z w = true
    · simp only [if_pos c2]
      exact ⟨7, by omega, rfl, .inl ⟨by omega, lookN (r := 7) (by omega) (by omega)⟩⟩
    · simp only [if_neg c2]
      obtain ⟨b, b1, b2, b3⟩ := md_value hF (x := ow o) hs h hn hL c1 hm144 hm81 hcn hc' hc (fun e => ⟨_, by
        have := md_met hF hT (m := 96) (o := o) (by omega) (by omega)
        rw [(h96 e).1] at this ⊢
        exact this, (h96 e).2⟩) (fun e => ⟨_, md_met hF hT (m := 97) (o := o) (by omega) (by omega), h97 e⟩)
      rw [b1, b2, Option.bind_some, Option.bind_some]
      cases b with
      | false =>
        simp only [Bool.false_eq_true, if_false]
        exact ⟨5, by omega, rfl, .inl ⟨by omega, lookN (r := 5) (by omega) (by omega)⟩⟩
      | true =>
        obtain ⟨v1, v2, v3⟩ := b3 rfl
        simp only [if_true]
        have hl2 := LN.2.2.2.2.2.2.2.2.2
        obtain ⟨t, c, k1, k2, k3, k4, k5, k6⟩ := md_twice hF hs hT hok h (show p + 4 < l.length ∨ ¬ (m = 83 ∨ m = 93 ∨ m = 94) by
          by_cases cm : m = 83 ∨ m = 93 ∨ m = 94
          · left
            rcases cm with e | e | e
            · have := (LN.2.2.1 e).1; omega
            · have := LN.2.2.2.2.1 e; omega
            · have := LN.2.2.2.2.2.1 e; omega
          · exact .inr cm) ho hcn hown hpl v1
        rw [k4, Option.bind_some]
        cases t with
        | true =>
          have : ¬ fn_Ps_startOf w (fn_Sc_owner Z w) (w 105 7) (fn_Sc_toldComponent Z w) = 0 := fun x => nomatch k5.1 x
          simp only [if_neg this, if_true]
          exact ⟨4, by omega, rfl, .inl ⟨by omega, lookN (r := 4) (by omega) (by omega)⟩⟩
        | false =>
          simp only [if_pos (k5.2 rfl), Bool.false_eq_true, if_false]
          obtain ⟨w2', q1, q2, q3⟩ := look0 (F := F) hs hT hlen h5 ho hn hp4
          refine ⟨0, by omega, rfl, .inr ⟨rfl, w2', q1, q2, q3, ⟨hp2, hp4, h8, hl2, hn, h5, ho, fun cm => ⟨v1 cm, ?_⟩, ?_⟩, c, k1, k2, k3, k6 rfl⟩⟩
          · show p + 4 < l.length
            rcases cm with e | e | e
            · have := (LN.2.2.1 e).1; omega
            · have := LN.2.2.2.2.1 e; omega
            · have := LN.2.2.2.2.2.1 e; omega
          · have c2' : fn_Sc_isGreat Z w = false := by simpa using c2
            refine ⟨fun e => ?_, fun e => ?_, LN.2.2.2.1, LN.2.2.2.2.1, LN.2.2.2.2.2.1, fun e => ⟨hl2, ?_⟩, LN.2.2.2.2.2.2.2.1⟩
            · have q := LN.2.1 e
              refine ⟨q.1, (v2 e).1, (v2 e).2.1, (v2 e).2.2, fun f => ?_⟩
              have f : u1 l (p + 4) % 2 = 1 := f
              have := q.2
              rw [if_pos f] at this
              show n = 13 + u1 l (p + 9)
              omega
            · have q := LN.2.2.1 e
              refine ⟨q.1, (v3 e).1, (v3 e).2.1, (v3 e).2.2, fun f => ?_⟩
              have f : u1 l (p + 5) % 2 = 1 := f
              have := q.2
              rw [if_pos f] at this
              show n = 10 + u1 l (p + 6)
              omega
            · have e : m = 95 := e
              show n ≤ 226
              unfold fn_Sc_isGreat at c2'
              rw [h4, h6, e, if_neg (by decide), if_neg (by decide), if_pos (show nI 95 = 95 from rfl), bb', decide_eq_false_iff_not, Classical.not_not, show (2 : Int32) = nI 2 from rfl, bn_sub hl2, show (224 : Int32) = nI 224 from rfl, bn_le (by omega) (by omega)] at c2'
              omega
  · simp only [if_neg c1]
    exact ⟨3, by omega, rfl, .inl ⟨by omega, lookN (r := 3) (by omega) (by omega)⟩⟩
theorem nol_chk {F : Nat} {w0 w : wd} {Z : zd} {m o : Nat} (h4 : w 105 7 = nI m) (h5 : m < 256) (h8 : w 105 8 = nI 0) (hL : fn_Md_hasLength (nI m) = false) (hm217 : m ≠ 217) (ho : o ≤ 64) (hown : fn_Sc_owner Z w = nI o) (hr : fn_Sc_readsCutMark Z w0 = (false, w)) (hw : fn_Sc_isWrong Z w = false) : fn_Sc_refusalHere F Z w0 = some (0, w) := by
  have E : ∀ k : Nat, k < 256 → (nI m = nI k) = (m = k) := fun k hk => propext (bn_eq (by omega) (by omega))
  have hn : ¬ (m = 81 ∨ m = 82 ∨ m = 83 ∨ m = 92 ∨ m = 93 ∨ m = 94 ∨ m = 95 ∨ m = 96 ∨ m = 97 ∨ m = 144) := by
    intro x
    rcases x with rfl | rfl | rfl | rfl | rfl | rfl | rfl | rfl | rfl | rfl <;> exact absurd hL (by decide)
  have hsg := hasSeg m h5 Z h4
  unfold fn_Sc_refusalHere
  rw [hr]
  simp only [Bool.false_eq_true, if_false, hw]
  have e1 : fn_Sc_hasLength Z w = true := by
    unfold fn_Sc_hasLength
    rw [h4, h8, hsg, hL]
    simp only [show (81 : Int32) = nI 81 from rfl, show (82 : Int32) = nI 82 from rfl, show (83 : Int32) = nI 83 from rfl, show (92 : Int32) = nI 92 from rfl, show (93 : Int32) = nI 93 from rfl, show (94 : Int32) = nI 94 from rfl, show (95 : Int32) = nI 95 from rfl, show (96 : Int32) = nI 96 from rfl, show (97 : Int32) = nI 97 from rfl, show (144 : Int32) = nI 144 from rfl]
    simp only [E 81 (by omega), E 82 (by omega), E 83 (by omega), E 92 (by omega), E 93 (by omega), E 94 (by omega), E 95 (by omega), E 96 (by omega), E 97 (by omega), E 144 (by omega)]
    rw [if_neg (by omega), if_neg (by omega), if_neg (by omega), if_neg (by omega), if_neg (by omega), if_neg (by omega), if_neg (by omega), if_neg (by omega), if_neg (by omega), if_neg (by decide), if_neg (by decide)]
  have e2 : fn_Sc_isGreat Z w = false := by
    unfold fn_Sc_isGreat
    rw [h4]
    simp only [show (81 : Int32) = nI 81 from rfl, show (82 : Int32) = nI 82 from rfl, show (95 : Int32) = nI 95 from rfl, show (144 : Int32) = nI 144 from rfl, E 81 (by omega), E 82 (by omega), E 95 (by omega), E 144 (by omega)]
    rw [if_neg (by omega), if_neg (by omega), if_neg (by omega), if_neg (by omega)]
  have e3 : fn_Sc_hasValues F Z w = some true := by
    unfold fn_Sc_hasValues
    rw [h4]
    simp only [show (81 : Int32) = nI 81 from rfl, show (82 : Int32) = nI 82 from rfl, show (83 : Int32) = nI 83 from rfl, show (92 : Int32) = nI 92 from rfl, show (93 : Int32) = nI 93 from rfl, show (94 : Int32) = nI 94 from rfl, show (95 : Int32) = nI 95 from rfl, show (96 : Int32) = nI 96 from rfl, show (97 : Int32) = nI 97 from rfl, show (144 : Int32) = nI 144 from rfl]
    simp only [E 81 (by omega), E 82 (by omega), E 83 (by omega), E 92 (by omega), E 93 (by omega), E 94 (by omega), E 95 (by omega), E 96 (by omega), E 97 (by omega), E 144 (by omega)]
    rw [if_neg (by omega), if_neg (by omega), if_neg (by omega), if_neg (by omega), if_neg (by omega), if_neg (by omega), if_neg (by omega), if_neg (by omega), if_neg (by omega), if_neg (by omega)]
  have tc : fn_Sc_toldComponent Z w = nI 0 := by
    unfold fn_Sc_toldComponent
    rw [h4]
    simp only [show (83 : Int32) = nI 83 from rfl, show (93 : Int32) = nI 93 from rfl, show (94 : Int32) = nI 94 from rfl, E 83 (by omega), E 93 (by omega), E 94 (by omega)]
    rw [if_neg (by omega), if_neg (by omega), if_neg (by omega)]
    rfl
  have e4 : fn_Ps_startOf w (fn_Sc_owner Z w) (w 105 7) (fn_Sc_toldComponent Z w) = 0 := by
    rw [hown, tc, h4, stOf ho h5 (by omega), if_neg (by omega)]
  have e144 : ¬ w 105 7 = 144 := by rw [h4]; exact bn_e' (k := 144) h5 (by omega) (by omega)
  have e89 : fn_Sc_refusalHere_89 F Z w = some (0, w) := by
    unfold fn_Sc_refusalHere_89
    rw [noMiss h4 h5 (by omega) hm217, Option.bind_some]
    rfl
  rw [if_pos e1, if_neg (by rw [e2]; decide), e3, Option.bind_some, if_pos rfl, if_pos e4, if_neg e144, e89]
