/-! mathematics of both state tables, part 34; from wip/math -/
theorem any_pl {S : List sg} {l : List Nat} {cn m : Nat} (hok : ∀ s ∈ S, segok l cn s) (hm : ¬ (m = 83 ∨ m = 93 ∨ m = 94)) : plf S (pr l m 0 0) = 0 ↔ S.countP (mo m 0) = 0 := by
  rw [plf_0 (fun s hs => by have := (hok s hs).1; omega), pr_mo hm, ← cP0]
theorem st_0 {w : wd} {l : List Nat} {S : List sg} {cn m : Nat} (hl : l.length ≤ 65536) (hok : ∀ s ∈ S, segok l cn s) (hp : plcs w l S 0) (hm : m = 82 ∨ m = 92) : fn_Ps_startOf w 0 (nI m) 0 = 0 ↔ S.countP (mo m 0) = 0 := by
  have := plf_le (S := S) (f := pr l m 0 0) (n := 65536) (fun s hs => by have := (hok s hs).2.1; omega)
  rw [show fn_Ps_startOf w 0 (nI m) 0 = _ from stOf (o := 0) (c := 0) (by omega) (by omega) (by omega), if_pos (by omega), hp m 0 (by omega) (by unfold kmk; omega), show (0 : Int32) = nI 0 from rfl, bn_eq (by omega) (by omega), any_pl hok (by omega)]
theorem part_chk {F : Nat} (hF : 70000 ≤ F) {w0 w w' : wd} {Z : zd} {l : List Nat} {S : List sg} {Q : List pt} {cn T p n st : Nat} (hI : inv w w' Z l S Q Q.length cn T p) (h : at_ w Z l p 144 n) (hn : n = u2 l (p + 2)) (hp4 : p + 4 ≤ l.length) (hst : w 105 4 = nI st) (hst2 : (st = 2 ∧ Q = []) ∨ (st = 4 ∧ Q ≠ [] ∧ 0 < S.countP (mo 82 0) ∧ 0 < S.countP (mo 92 0))) (hr : fn_Sc_readsCutMark Z w0 = (false, w)) :
    ∃ r, r ≤ 7 ∧ fn_Sc_refusalHere F Z w0 = some (nI r, w) ∧ ((r ≠ 0 ∧ fn_Md_partAt F w' (nI p) = some (nI r, up2 w' 0 22 (nI p))) ∨ (r = 0 ∧ n = 10 ∧ u2 l (p + 4) < T ∧ 0 < S.countP (mo 82 0) ∧ 0 < S.countP (mo 92 0) ∧ u1 l (p + 10) = Q.countP (isT (u2 l (p + 4))) ∧ Q.length < 256 ∧ ∃ e, p + 12 ≤ e ∧ e ≤ l.length ∧ ((u4 l (p + 6) = 0 ∧ e = l.length - 2) ∨ (u4 l (p + 6) ≠ 0 ∧ e = p + u4 l (p + 6))) ∧ fn_Md_partAt F w' (nI p) = fn_Md_partAt_258 F F w' (nI (p + 4)) (nI e) (nI (u2 l (p + 4))) (decide (Q.countP (isT (u2 l (p + 4))) = 0)) (nI (p + 12)))) := by
  have LN := fun hh => (len_of h (by decide) hh).2.2.2.2.2.2.2.2.1 rfl
  have FT := md_fits hI.1.1 h hn hp4 (by decide)
  have T0 : ∀ k, k < 100000 → fn_Sc_told Z w (nI k) = nI (u1 l (p + 4 + k)) := fun k hk => told h hk
  have T2 : ∀ k, p + 4 + k + 1 < l.length → fn_Sc_told2 Z w (nI k) = nI (u2 l (p + 4 + k)) := fun k hk => told2 h hk
  obtain ⟨g1, g2, g3, g4, g5, g6, g7, g8⟩ := id h
  obtain ⟨i1, i2, i3, i4, i5, i6⟩ := id hI
  obtain ⟨hs, _, h20⟩ := i1
  obtain ⟨c1, c2, c3, c4, c5, c6, c7⟩ := i3
  obtain ⟨⟨a1, a2⟩, tP, cq, dq⟩ := i5
  have hl := g2.1
  have hw : fn_Sc_isWrong Z w = false := wrongM2 (.inl rfl) (by rcases hst2 with ⟨e, _⟩ | ⟨e, _⟩ <;> rw [hst, e]; exact .inl rfl; exact .inr rfl) g4
  have e7 : w 105 7 = 144 := g4
  have own : fn_Ps_startOf w (fn_Sc_owner Z w) (w 105 7) (fn_Sc_toldComponent Z w) = 0 := by
    have : fn_Sc_owner Z w = nI 0 := by
      unfold fn_Sc_owner
      rw [hst]
      rcases hst2 with ⟨e, _⟩ | ⟨e, _⟩ <;> rw [e] <;> rfl
    have tc : fn_Sc_toldComponent Z w = nI 0 := by
      unfold fn_Sc_toldComponent
      rw [g4]
      rfl
    rw [this, tc, g4, stOf (by omega) (by omega) (by omega)]
    rfl
  have miss : fn_Sc_isMissing F Z w = some (decide (S.countP (mo 82 0) = 0 ∨ S.countP (mo 92 0) = 0)) := by
    have q1 := st_0 hl i2.2.2 i4.1 (m := 82) (.inl rfl)
    have q2 := st_0 hl i2.2.2 i4.1 (m := 92) (.inr rfl)
    have q1 : fn_Ps_startOf w 0 82 0 = 0 ↔ S.countP (mo 82 0) = 0 := q1
    have q2 : fn_Ps_startOf w 0 92 0 = 0 ↔ S.countP (mo 92 0) = 0 := q2
    have e68 : fn_Sc_isMissing_68 F Z w = some false := by
      unfold fn_Sc_isMissing_68
      rw [e7, if_neg (by decide)]
    unfold fn_Sc_isMissing fn_Sc_isMissing_28 fn_Sc_isMissing_32 fn_Sc_isMissing_33
    rw [hst, e7]
    rcases hst2 with ⟨e, _⟩ | ⟨e, _, x1, x2⟩
    · rw [e, if_pos (show nI 2 = 2 from rfl), if_pos rfl, if_pos rfl, e68]
      by_cases d1 : S.countP (mo 82 0) = 0
      · rw [if_pos (q1.2 d1), decide_eq_true (.inl d1)]
      · rw [if_neg (fun x => d1 (q1.1 x))]
        by_cases d2 : S.countP (mo 92 0) = 0
        · rw [if_pos (q2.2 d2), decide_eq_true (.inr d2)]
        · rw [if_neg (fun x => d2 (q2.1 x)), decide_eq_false (by omega)]
    · rw [e, if_neg (show ¬ nI 4 = 2 by decide), if_neg (by decide), e68, decide_eq_false (by omega)]
  have eR : fn_Sc_refusalHere F Z w0 = (if (fn_Sc_hasLength Z w) = true then (if (fn_Sc_isGreat Z w) = true then some ((7 : Int32), w) else ((fn_Sc_hasValues F Z w).bind fun r7 => (if r7 = true then (if (fn_Sc_spanIsCut Z w) = true then some ((1 : Int32), w) else (if S.countP (mo 82 0) = 0 ∨ S.countP (mo 92 0) = 0 then some (6, w) else some (0, w))) else some ((5 : Int32), w)))) else some ((3 : Int32), w)) := by
    unfold fn_Sc_refusalHere
    rw [hr]
    simp only [Bool.false_eq_true, if_false, hw, if_pos own, if_pos e7]
    have e89 : fn_Sc_refusalHere_89 F Z w = (if S.countP (mo 82 0) = 0 ∨ S.countP (mo 92 0) = 0 then some (6, w) else some (0, w)) := by
      unfold fn_Sc_refusalHere_89
      rw [miss, Option.bind_some]
      simp only [decide_eq_true_eq]
    rw [e89]
  have no : ∀ r : Nat, 1 ≤ r → r ≤ 7 → fn_Md_partAt_47 F w' (nI p) (nI (p + 4)) (nI r) = some (nI r, up2 w' 0 22 (nI p)) := by
    intro r h1 h2
    unfold fn_Md_partAt_47 fn_Md_no
    rw [if_neg (by rw [show (0 : Int32) = nI 0 from rfl, bn_le (by omega) (by omega)]; omega)]
  unfold fn_Md_partAt
  simp only [bn_a]
  have FT : fn_Md_fitsLength w' 144 (nI p) = some (fn_Sc_hasLength Z w) := FT
  rw [eR, FT, Option.bind_some]
  by_cases d1 : fn_Sc_hasLength Z w = true
  · have n10 : n = 10 := LN d1
    simp only [if_pos d1]
    have gr : fn_Sc_isGreat Z w = decide (¬ Q.length < 256) := by
      unfold fn_Sc_isGreat
      rw [g4, if_neg (by decide), if_neg (by decide), if_neg (by decide), if_pos (show nI 144 = 144 from rfl), a1, bb']
      rw [decide_eq_decide, show (256 : Int32) = nI 256 from rfl, bn_lt (by have := dq.1; omega) (by omega)]
    have p28 : w' 0 28 = nI Q.length := tP.1
    rw [gr, p28]
    have q256 := dq.1
    have e256 : (nI Q.length = 256) = (Q.length = 256) := propext (bn_eq (b := 256) (by omega) (by omega))
    simp only [e256]
    by_cases d2 : Q.length = 256
    · rw [if_pos (by simp; omega), if_pos d2]
      exact ⟨7, by omega, rfl, .inl ⟨by omega, no 7 (by omega) (by omega)⟩⟩
    · have hQ256 : Q.length < 256 := by omega
      rw [if_neg (by simp; omega), if_neg d2]
      have ut := u2_lt g2 (p + 4)
      have u10 := u1_lt g2 (p + 10)
      have u11 := u1_lt g2 (p + 11)
      have u6 := u4_lt g2 (p + 6)
      have t0 : fn_Sc_told2 Z w 0 = nI (u2 l (p + 4)) := T2 0 (by omega)
      have t6 : fn_Sc_told Z w 6 = nI (u1 l (p + 10)) := T0 6 (by omega)
      have t7 : fn_Sc_told Z w 7 = nI (u1 l (p + 11)) := T0 7 (by omega)
      have sp : fn_Sc_span Z w = lN (u4 l (p + 6)) := by
        unfold fn_Sc_span
        rw [g1, g3, (bn_a p).2.2.2.2.2.1, ru4 hl (by omega)]
      have z0 : (lN (u4 l (p + 6)) = (0 : Int64)) = (u4 l (p + 6) = 0) := propext (bl_q (b := 0) (by omega) (by omega))
      have z14 : (lN (u4 l (p + 6)) < (14 : Int64)) = (u4 l (p + 6) < 14) := propext (bl_l (b := 14) (by omega) (by omega))
      have zT : (nI T ≤ nI (u2 l (p + 4))) = (T ≤ u2 l (p + 4)) := propext (bn_le (by omega) (by omega))
      have V : ∃ b, fn_Sc_hasValues F Z w = some b ∧ fn_Md_isPart F w' (nI (p + 4)) = some b ∧ (b = true → u2 l (p + 4) < T ∧ (u4 l (p + 6) = 0 ∨ 14 ≤ u4 l (p + 6)) ∧ u1 l (p + 10) = Q.countP (isT (u2 l (p + 4)))) := by
        unfold fn_Sc_hasValues fn_Md_isPart fn_Sc_hasValues_409 fn_Md_isPart_66 fn_Md_isPart_70
        rw [g4, if_neg (by decide), if_neg (by decide), if_neg (by decide), if_neg (by decide), if_neg (by decide), if_neg (by decide), if_neg (by decide), if_neg (by decide), if_neg (by decide), if_pos (show nI 144 = 144 from rfl), t0, t6, t7, sp, c4, c5]
        simp only [bn_a]
        rw [md_u2 hs (by omega), Option.bind_some, md_u4 hs (by omega), Option.bind_some, md_u1 hs (by omega), Option.bind_some, md_u1 hs (by omega), Option.bind_some]
        simp only [show p + 4 + 2 = p + 6 from rfl, show p + 4 + 6 = p + 10 from rfl, show p + 4 + 7 = p + 11 from rfl, z0, z14, zT]
        by_cases k1 : T ≤ u2 l (p + 4)
        · rw [if_pos k1, if_pos k1]
          refine ⟨false, rfl, ?_, fun h => nomatch h⟩
          unfold fn_Md_isPart_71
          rfl
        · rw [if_neg k1, if_neg k1, md_partsOf hF tP dq (by omega), Option.bind_some]
          obtain ⟨b, b1, b2, b3⟩ := mayF hF tP cq dq (t := u2 l (p + 4)) (by omega) u10 u11
          have e1 : (nI (u1 l (p + 10)) = nI (Q.countP (isT (u2 l (p + 4))))) = (u1 l (p + 10) = Q.countP (isT (u2 l (p + 4)))) := propext (bn_eq (by omega) (by have := cnt_le dq (isT (u2 l (p + 4))); omega))
          have f71 : fn_Md_isPart_71 F w' (nI (u2 l (p + 4))) (nI (u1 l (p + 10))) (nI (u1 l (p + 11))) false = some false := by
            unfold fn_Md_isPart_71
            rfl
          rw [b1, Option.bind_some, obb]
          simp only [e1, f71]
          by_cases k2 : u1 l (p + 10) = Q.countP (isT (u2 l (p + 4)))
          · rw [decide_eq_true k2] at b3
            rw [if_pos k2, b3]
            by_cases k3 : u4 l (p + 6) = 0
            · simp only [if_pos k3]
              exact ⟨b, rfl, rfl, fun _ => ⟨by omega, .inl k3, k2⟩⟩
            · simp only [if_neg k3]
              by_cases k4 : u4 l (p + 6) < 14
              · simp only [if_pos k4]
                exact ⟨false, rfl, rfl, fun h => nomatch h⟩
              · simp only [if_neg k4]
                exact ⟨b, rfl, rfl, fun _ => ⟨by omega, .inr (by omega), k2⟩⟩
          · rw [decide_eq_false k2, f71] at b3
            have bf : b = false := (Option.some.inj b3).symm
            subst bf
            rw [if_neg k2]
            refine ⟨false, ?_, rfl, fun h => nomatch h⟩
            by_cases k3 : u4 l (p + 6) = 0
            · rw [if_pos k3]
            · rw [if_neg k3]
              by_cases k4 : u4 l (p + 6) < 14
              · rw [if_pos k4]
              · rw [if_neg k4]
      obtain ⟨b, v1, v2, v3⟩ := V
      rw [v1, v2, Option.bind_some, Option.bind_some]
      cases b with
      | false =>
        simp only [Bool.false_eq_true, if_false]
        exact ⟨5, by omega, rfl, .inl ⟨by omega, no 5 (by omega) (by omega)⟩⟩
      | true =>
        obtain ⟨y1, y2, y3⟩ := v3 rfl
        simp only [if_true]
        have hcnt := cnt_le dq (isT (u2 l (p + 4)))
        have M159 : ∀ sp0 : Int64, ∀ op : Bool, ∀ e : Nat, fn_Md_partAt_208 F w' (nI p) (nI (p + 4)) sp0 op = fn_Md_partAt_227 F w' (nI p) (nI (p + 4)) (nI e) → fn_Md_partAt_159 F w' (nI p) (nI (p + 4)) sp0 op false = if S.countP (mo 82 0) = 0 ∨ S.countP (mo 92 0) = 0 then some (6, up2 w' 0 22 (nI p)) else fn_Md_partAt_258 F F w' (nI (p + 4)) (nI e) (nI (u2 l (p + 4))) (decide (Q.countP (isT (u2 l (p + 4))) = 0)) (nI (p + 12)) := by
          intro sp0 op e he
          have m82 := md_met hF i2.1 (m := 82) (o := 0) (by omega) (by omega)
          have m92 := md_met hF i2.1 (m := 92) (o := 0) (by omega) (by omega)
          have m82 : fn_Md_met F w' 82 (-1) = _ := m82
          have m92 : fn_Md_met F w' 92 (-1) = _ := m92
          have l82 : S.countP (mo 82 0) ≤ 16400 := Nat.le_trans List.countP_le_length i2.1.2.1
          have l92 : S.countP (mo 92 0) ≤ 16400 := Nat.le_trans List.countP_le_length i2.1.2.1
          have e82 : (nI (S.countP (mo 82 0)) = 0) = (S.countP (mo 82 0) = 0) := propext (bn_eq (b := 0) (by omega) (by omega))
          have e92 : (nI (S.countP (mo 92 0)) = 0) = (S.countP (mo 92 0) = 0) := propext (bn_eq (b := 0) (by omega) (by omega))
          have eC : (nI (Q.countP (isT (u2 l (p + 4)))) = 0) = (Q.countP (isT (u2 l (p + 4))) = 0) := propext (bn_eq (b := 0) (by omega) (by omega))
          have fin : fn_Md_partAt_208 F w' (nI p) (nI (p + 4)) sp0 op = fn_Md_partAt_258 F F w' (nI (p + 4)) (nI e) (nI (u2 l (p + 4))) (decide (Q.countP (isT (u2 l (p + 4))) = 0)) (nI (p + 12)) := by
            rw [he]
            unfold fn_Md_partAt_227 fn_Md_partAt_250
            rw [md_u2 hs (by omega), Option.bind_some, md_partsOf hF tP dq (by omega), Option.bind_some]
            simp only [eC, bn_a]
            by_cases k : Q.countP (isT (u2 l (p + 4))) = 0
            · rw [if_pos k, decide_eq_true k]
            · rw [if_neg k, decide_eq_false k]
          unfold fn_Md_partAt_159 fn_Md_no
          rw [if_neg (by decide), p28, m82, m92, Option.bind_some, Option.bind_some]
          simp only [e82, e92]
          rw [fin]
          have eQ : (nI Q.length = 0) = (Q.length = 0) := propext (bn_eq (b := 0) (by omega) (by omega))
          simp only [eQ]
          rcases hst2 with ⟨_, e⟩ | ⟨_, e, x1, x2⟩
          · rw [if_pos (by rw [e]; rfl)]
            by_cases k1 : S.countP (mo 82 0) = 0
            · rw [if_pos k1, if_pos (.inl k1)]
            · rw [if_neg k1]
              by_cases k2 : S.countP (mo 92 0) = 0
              · rw [if_pos k2, if_pos (.inr k2)]
              · rw [if_neg k2, if_neg (by omega)]
          · have : Q.length ≠ 0 := fun x => e (List.length_eq_zero_iff.1 x)
            rw [if_neg this, if_neg (by omega)]
        have cut159 : ∀ sp0 : Int64, ∀ op : Bool, fn_Md_partAt_159 F w' (nI p) (nI (p + 4)) sp0 op true = some (1, up2 w' 0 22 (nI p)) := by
          intro sp0 op
          unfold fn_Md_partAt_159 fn_Md_no
          rw [if_pos rfl]
        have fin2 : ∀ e : Nat, p + 12 ≤ e → e ≤ l.length → ((u4 l (p + 6) = 0 ∧ e = l.length - 2) ∨ (u4 l (p + 6) ≠ 0 ∧ e = p + u4 l (p + 6))) → ∀ X, X = (if S.countP (mo 82 0) = 0 ∨ S.countP (mo 92 0) = 0 then some (6, up2 w' 0 22 (nI p)) else fn_Md_partAt_258 F F w' (nI (p + 4)) (nI e) (nI (u2 l (p + 4))) (decide (Q.countP (isT (u2 l (p + 4))) = 0)) (nI (p + 12))) → ∃ r, r ≤ 7 ∧ (if S.countP (mo 82 0) = 0 ∨ S.countP (mo 92 0) = 0 then some ((6 : Int32), w) else some (0, w)) = some (nI r, w) ∧ ((r ≠ 0 ∧ X = some (nI r, up2 w' 0 22 (nI p))) ∨ (r = 0 ∧ n = 10 ∧ u2 l (p + 4) < T ∧ 0 < S.countP (mo 82 0) ∧ 0 < S.countP (mo 92 0) ∧ u1 l (p + 10) = Q.countP (isT (u2 l (p + 4))) ∧ Q.length < 256 ∧ ∃ e, p + 12 ≤ e ∧ e ≤ l.length ∧ ((u4 l (p + 6) = 0 ∧ e = l.length - 2) ∨ (u4 l (p + 6) ≠ 0 ∧ e = p + u4 l (p + 6))) ∧ X = fn_Md_partAt_258 F F w' (nI (p + 4)) (nI e) (nI (u2 l (p + 4))) (decide (Q.countP (isT (u2 l (p + 4))) = 0)) (nI (p + 12)))) := by
          intro e he1 he2 he3 X hX
          rw [hX]
          by_cases k : S.countP (mo 82 0) = 0 ∨ S.countP (mo 92 0) = 0
          · rw [if_pos k, if_pos k]
            exact ⟨6, by omega, rfl, .inl ⟨by omega, rfl⟩⟩
          · rw [if_neg k, if_neg k]
            exact ⟨0, by omega, rfl, .inr ⟨rfl, n10, y1, by omega, by omega, y3, hQ256, e, he1, he2, he3, rfl⟩⟩
        have h47 : fn_Md_partAt_47 F w' (nI p) (nI (p + 4)) 0 = if u4 l (p + 6) = 0 then fn_Md_partAt_80 F w' (nI p) (nI (p + 4)) (lN (u4 l (p + 6))) true else fn_Md_partAt_80 F w' (nI p) (nI (p + 4)) (lN (u4 l (p + 6))) false := by
          unfold fn_Md_partAt_47
          rw [if_pos (by decide)]
          simp only [bn_a]
          rw [md_u4 hs (by omega), Option.bind_some, show p + 4 + 2 = p + 6 from rfl]
          simp only [z0]
        rw [h47]
        unfold fn_Sc_spanIsCut fn_Md_partAt_80 fn_Md_partAt_132
        rw [sp, g1, g3, h20]
        simp only [z0, bn_a]
        by_cases k3 : u4 l (p + 6) = 0
        · simp only [if_pos k3, if_true]
          rw [show (2 : Int32) = nI 2 from rfl, bn_sub (show 2 ≤ l.length by omega), bn_sub (show p ≤ l.length - 2 by omega)]
          simp only [show (12 : Int32) = nI 12 from rfl]
          have x1 : (nI (l.length - 2 - p) < nI 12) = (l.length - 2 - p < 12) := propext (bn_lt (by omega) (by omega))
          have x2 : (nI (l.length - 2) < nI (p + 12)) = (l.length - 2 < p + 12) := propext (bn_lt (by omega) (by omega))
          simp only [x1, x2]
          by_cases k5 : l.length - 2 < p + 12
          · rw [if_pos (show l.length - 2 - p < 12 by omega), if_pos rfl, if_pos k5, cut159]
            exact ⟨1, by omega, rfl, .inl ⟨by omega, rfl⟩⟩
          · rw [if_neg (show ¬ l.length - 2 - p < 12 by omega), if_neg k5, md_u1 hs (by omega), Option.bind_some, ru1 _ _ (by omega)]
            rw [show nI (l.length - 2) + 1 = nI (l.length - 2 + 1) from bn_add _ 1, ru1 _ _ (by omega), show (1 : Int32) = nI 1 from rfl, bn_sub (show 1 ≤ l.length by omega), md_u1 hs (by omega), Option.bind_some, show l.length - 2 + 1 = l.length - 1 by omega]
            by_cases k6 : nI (u1 l (l.length - 2)) = 255
            · rw [if_pos k6, if_pos k6]
              by_cases k7 : nI (u1 l (l.length - 1)) = 217
              · rw [if_pos k7, if_pos k7, if_neg (by decide)]
                refine fin2 (l.length - 2) (by omega) (by omega) (.inl ⟨k3, rfl⟩) _ (M159 _ _ _ ?_)
                unfold fn_Md_partAt_208
                rw [if_pos rfl, h20, show (2 : Int32) = nI 2 from rfl, bn_sub (by omega)]
              · rw [if_neg k7, if_neg k7, if_pos rfl, cut159]
                exact ⟨1, by omega, rfl, .inl ⟨by omega, rfl⟩⟩
            · rw [if_neg k6, if_neg k6, if_pos rfl, cut159]
              exact ⟨1, by omega, rfl, .inl ⟨by omega, rfl⟩⟩
        · simp only [if_neg k3, Bool.false_eq_true, if_false]
          rw [bn_sub (show p ≤ l.length by omega), bl_of (show l.length - p < 2147483648 by omega), bl_of (show p < 2147483648 by omega), bl_of (show l.length < 2147483648 by omega), bl_add]
          have x1 : (lN (u4 l (p + 6)) ≤ lN (l.length - p)) = (u4 l (p + 6) ≤ l.length - p) := propext (bl_e (by omega) (by omega))
          have x2 : (lN (p + u4 l (p + 6)) ≤ lN l.length) = (p + u4 l (p + 6) ≤ l.length) := propext (bl_e (by omega) (by omega))
          simp only [x1, x2]
          by_cases k5 : p + u4 l (p + 6) ≤ l.length
          · rw [if_pos k5, if_pos (show u4 l (p + 6) ≤ l.length - p by omega), if_neg (by decide)]
            have y4 : 14 ≤ u4 l (p + 6) := by omega
            refine fin2 (p + u4 l (p + 6)) (by omega) (by omega) (.inr ⟨k3, rfl⟩) _ (M159 _ _ _ ?_)
            unfold fn_Md_partAt_208
            rw [if_neg (by decide), bl_to, bn_add]
          · rw [if_neg k5, if_neg (show ¬ u4 l (p + 6) ≤ l.length - p by omega), if_pos rfl, cut159]
            exact ⟨1, by omega, rfl, .inl ⟨by omega, rfl⟩⟩
  · simp only [if_neg d1]
    exact ⟨3, by omega, rfl, .inl ⟨by omega, no 3 (by omega) (by omega)⟩⟩
