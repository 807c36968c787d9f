/-! mathematics of both state tables, part 38; from wip/math -/
def stc (S : List sg) (Q : List pt) (st : Nat) : Prop := (st = 2 ∧ Q = []) ∨ (st = 4 ∧ Q ≠ [] ∧ 0 < S.countP (mo 82 0) ∧ 0 < S.countP (mo 92 0))
def posB (w w' : wd) (Z : zd) (l : List Nat) (S : List sg) (Q : List pt) (cn T p st : Nat) : Prop := inv w w' Z l S Q Q.length cn T p ∧ w 105 4 = nI st ∧ stc S Q st ∧ w 105 5 = nI p ∧ w 105 6 = nI l.length ∧ w' 0 36 = nI p ∧ 2 ≤ p ∧ p ≤ l.length ∧ uqs l S cn
def posC (w w' : wd) (Z : zd) (l : List Nat) (S : List sg) (Q : List pt) (cur : pt) (cn T p e t d0 : Nat) (f : Bool) : Prop := inv w w' Z l S (Q ++ [cur]) Q.length cn T p ∧ w 105 4 = 3 ∧ w 105 5 = nI p ∧ w 105 6 = nI e ∧ w 105 12 = nI t ∧ w 105 13 = bi f ∧ cur.1 = t ∧ fld cur 1 = u1 l (d0 + 6) ∧ fld cur 2 = u1 l (d0 + 7) ∧ d0 + 7 < l.length ∧ fld cur 5 + fld cur 6 = Z.2.2.1.length ∧ 0 < S.countP (mo 82 0) ∧ 0 < S.countP (mo 92 0) ∧ p ≤ e ∧ e ≤ l.length ∧ 2 ≤ p ∧ uqs l S cn
theorem st_ne5 {st : Nat} {S : List sg} {Q : List pt} {w : wd} (h : w 105 4 = nI st) (hs : stc S Q st) : ¬ w 105 4 = 5 := by
  rw [h]
  rcases hs with ⟨e, _⟩ | ⟨e, _⟩ <;> rw [e] <;> decide
theorem inv_sam {w w1 w' : wd} {Z : zd} {l : List Nat} {S : List sg} {Q : List pt} {dn cn T p : Nat} (h : inv w w' Z l S Q dn cn T p) (hs : sam w w1) : inv w1 w' Z l S Q dn cn T p := inv_cl h (fun a j ha => hs a j (by omega))
theorem ref_cut {F : Nat} {Z : zd} {w w1 : wd} (h : fn_Sc_readsCutMark Z w = (true, w1)) : fn_Sc_refusalHere F Z w = some (nI 1, w1) := by
  unfold fn_Sc_refusalHere
  rw [h]
  rfl
theorem ref_wr {F : Nat} {Z : zd} {w w1 : wd} (h : fn_Sc_readsCutMark Z w = (false, w1)) (hw : fn_Sc_isWrong Z w1 = true) : fn_Sc_refusalHere F Z w = some (nI 2, w1) := by
  unfold fn_Sc_refusalHere
  rw [h]
  simp only [Bool.false_eq_true, if_false, if_pos hw]
  rfl
theorem end_chk {F : Nat} (hF : 70000 ≤ F) {w0 w w' : wd} {Z : zd} {l : List Nat} {S : List sg} {Q : List pt} {cn T p st : Nat} (hI : inv w w' Z l S Q Q.length cn T p) (h7 : w 105 7 = 217) (h8 : w 105 8 = nI 0) (hst : w 105 4 = nI st) (hst2 : stc S Q st) (hr : fn_Sc_readsCutMark Z w0 = (false, w)) :
    ∃ b, fn_Sc_refusalHere F Z w0 = some (if b = true then 0 else 6, w) ∧ fn_Md_isAllThere F w' = some b ∧ (b = true → 0 < S.countP (mo 82 0) ∧ 0 < S.countP (mo 92 0) ∧ ∀ u, u < T → 0 < Q.countP (isT u)) := by
  obtain ⟨i1, i2, i3, i4, i5, i6⟩ := id hI
  obtain ⟨c1, c2, c3, c4, c5, c6, c7⟩ := i3
  obtain ⟨tQ, tP, cq, dq⟩ := i5
  have hl := i1.1.1.1
  have hw : fn_Sc_isWrong Z w = false := wrongM2 (m := 217) (.inr rfl) (by rcases hst2 with ⟨e, _⟩ | ⟨e, _⟩ <;> rw [hst, e]; exact .inl rfl; exact .inr rfl) h7
  have hown : fn_Sc_owner Z w = nI 0 := by
    unfold fn_Sc_owner
    rw [hst]
    rcases hst2 with ⟨e, _⟩ | ⟨e, _⟩ <;> rw [e] <;> rfl
  have tc : fn_Sc_toldComponent Z w = nI 0 := by
    unfold fn_Sc_toldComponent
    rw [h7]
    rfl
  have e1 : fn_Sc_hasLength Z w = true := by
    unfold fn_Sc_hasLength fn_Sc_hasSegment
    rw [h7, h8]
    rfl
  have e2 : fn_Sc_isGreat Z w = false := by
    unfold fn_Sc_isGreat
    rw [h7]
    rfl
  have e3 : fn_Sc_hasValues F Z w = some true := by
    unfold fn_Sc_hasValues
    rw [h7]
    rfl
  have e4 : fn_Ps_startOf w (fn_Sc_owner Z w) (w 105 7) (fn_Sc_toldComponent Z w) = 0 := by
    rw [hown, tc, h7, show (217 : Int32) = nI 217 from rfl, stOf (by omega) (by omega) (by omega)]
    rfl
  have eR : fn_Sc_refusalHere F Z w0 = fn_Sc_refusalHere_89 F Z w := by
    unfold fn_Sc_refusalHere
    rw [hr]
    simp only [Bool.false_eq_true, if_false, hw, if_pos e1, e2, e3, Option.bind_some, if_true, if_pos e4]
    rw [if_neg (by rw [h7]; decide)]
  have q1 := st_0 hl i2.2.2 i4.1 (m := 82) (.inl rfl)
  have q2 := st_0 hl i2.2.2 i4.1 (m := 92) (.inr rfl)
  have q1 : fn_Ps_startOf w 0 82 0 = 0 ↔ S.countP (mo 82 0) = 0 := q1
  have q2 : fn_Ps_startOf w 0 92 0 = 0 ↔ S.countP (mo 92 0) = 0 := q2
  obtain ⟨b, b1, b2, b3⟩ := allT hF tP cq dq c6 c5 F 0 (by omega) (by omega)
  have a24 : fn_Md_isAllThere_24 F w' = some false := by
    unfold fn_Md_isAllThere_24 fn_Md_isAllThere_25
    exact allT_f hF tP dq c6 c5 F 0 (by omega) (by omega)
  have e68 : fn_Sc_isMissing_68 F Z w = some (!b) := by
    unfold fn_Sc_isMissing_68 fn_Pt_areComplete
    rw [h7, if_pos rfl, c4, show (0 : Int32) = nI 0 from rfl, b2, Option.bind_some]
    cases b <;> rfl
  have m82 : fn_Md_met F w' 82 (-1) = _ := md_met hF i2.1 (m := 82) (o := 0) (by omega) (by omega)
  have m92 : fn_Md_met F w' 92 (-1) = _ := md_met hF i2.1 (m := 92) (o := 0) (by omega) (by omega)
  have l82 : S.countP (mo 82 0) ≤ 16400 := Nat.le_trans List.countP_le_length i2.1.2.1
  have l92 : S.countP (mo 92 0) ≤ 16400 := Nat.le_trans List.countP_le_length i2.1.2.1
  have e82 : (nI (S.countP (mo 82 0)) ≤ 0) = (S.countP (mo 82 0) = 0) := propext (by rw [show (0 : Int32) = nI 0 from rfl, bn_le (by omega) (by omega)]; omega)
  have e92 : (nI (S.countP (mo 92 0)) ≤ 0) = (S.countP (mo 92 0) = 0) := propext (by rw [show (0 : Int32) = nI 0 from rfl, bn_le (by omega) (by omega)]; omega)
  have hM : fn_Md_isAllThere F w' = if S.countP (mo 82 0) = 0 ∨ S.countP (mo 92 0) = 0 then some false else some b := by
    unfold fn_Md_isAllThere
    rw [m82, m92, Option.bind_some, Option.bind_some, a24]
    unfold fn_Md_isAllThere_25
    rw [show (0 : Int32) = nI 0 from rfl, b1]
    simp only [show nI 0 = (0 : Int32) from rfl, e82, e92]
    by_cases d1 : S.countP (mo 82 0) = 0
    · rw [if_pos d1, if_pos (.inl d1)]
    · rw [if_neg d1]
      by_cases d2 : S.countP (mo 92 0) = 0
      · rw [if_pos d2, if_pos (.inr d2)]
      · rw [if_neg d2, if_neg (by omega)]
  have hS : fn_Sc_isMissing F Z w = if S.countP (mo 82 0) = 0 ∨ S.countP (mo 92 0) = 0 then some true else some (!b) := by
    unfold fn_Sc_isMissing fn_Sc_isMissing_28 fn_Sc_isMissing_32 fn_Sc_isMissing_33
    rw [hst, h7, e68]
    rcases hst2 with ⟨e, _⟩ | ⟨e, _, x1, x2⟩
    · rw [e, if_pos (show nI 2 = 2 from rfl), if_neg (by decide), if_pos rfl, if_pos rfl]
      by_cases d1 : S.countP (mo 82 0) = 0
      · rw [if_pos (q1.2 d1), if_pos (.inl d1)]
      · rw [if_neg (fun x => d1 (q1.1 x))]
        by_cases d2 : S.countP (mo 92 0) = 0
        · rw [if_pos (q2.2 d2), if_pos (.inr d2)]
        · rw [if_neg (fun x => d2 (q2.1 x)), if_neg (by omega)]
    · rw [e, if_neg (show ¬ nI 4 = 2 by decide), if_neg (by decide), if_neg (by omega)]
  rw [eR, hM]
  unfold fn_Sc_refusalHere_89
  rw [hS]
  by_cases d : S.countP (mo 82 0) = 0 ∨ S.countP (mo 92 0) = 0
  · rw [if_pos d, if_pos d]
    exact ⟨false, rfl, rfl, fun h => nomatch h⟩
  · rw [if_neg d, if_neg d, Option.bind_some]
    refine ⟨b, ?_, rfl, fun hb => ⟨by omega, by omega, fun u hu => b3 hb u (by omega) hu⟩⟩
    cases b <;> rfl
theorem end_take {F : Nat} (hF : 70000 ≤ F) {w w' : wd} {Z : zd} {l : List Nat} {S : List sg} {Q : List pt} {cn T p : Nat} (hI : inv w w' Z l S Q Q.length cn T p) (h7 : w 105 7 = 217) (h8 : w 105 8 = nI 0) (h5 : w 105 5 = nI p) (hp : p ≤ l.length) (hx1 : 0 < S.countP (mo 82 0)) (hx2 : 0 < S.countP (mo 92 0)) (hx3 : ∀ u, u < T → 0 < Q.countP (isT u)) (huq : uqs l S cn) : ∃ w2, fn_Sc_takeMark F Z w = some (w2, Z) ∧ w2 105 4 = 5 ∧ wfr4 w w2 ∧ fin w2 w' Z l := by
  obtain ⟨i1, i2, i3, i4, i5, i6⟩ := id hI
  obtain ⟨c1, c2, c3, c4, c5, c6, c7⟩ := id i3
  obtain ⟨⟨a1, a2⟩, tP, cq, dq⟩ := i5
  obtain ⟨e1, e2, e3, e4, e5⟩ := id i6
  have hl := i1.1.1.1
  have l96 : S.countP (mo 96 0) ≤ 16400 := Nat.le_trans List.countP_le_length i2.1.2.1
  have eq0 : (nI (S.countP (mo 96 0)) ≤ 0) = (S.countP (mo 96 0) = 0) := propext (by rw [show (0 : Int32) = nI 0 from rfl, bn_le (by omega) (by omega)]; omega)
  have FIN : ∀ w2 : wd, (∀ a j, ¬ (a = 105 ∧ (j = 4 ∨ j = 5)) → a ≠ 111 → w2 a j = w a j) → tabQ w2 (if S.countP (mo 96 0) = 0 then Q else deal Z.2.2.1 0 Q) Q.length → fin w2 w' Z l := by
    intro w2 hw2 ht
    refine ⟨S, Q, cn, T, p, i1, i2, ?_, ?_, tP, dq, ⟨e1, e2, e3, fun t ht => by rw [hw2 _ _ (by omega) (by omega)]; exact e4 t ht, e5⟩, ht, hp, hx1, hx2, hx3, huq⟩
    · refine ⟨?_, c2, c3, ?_, c5, c6, ?_⟩
      · rw [hw2 _ _ (by omega) (by omega)]; exact c1
      · rw [hw2 _ _ (by omega) (by omega)]; exact c4
      · rw [hw2 _ _ (by omega) (by omega)]; exact c7
    · refine ⟨fun m c hc hk => by rw [hw2 _ _ (by omega) (by omega)]; exact i4.1 m c hc hk, fun u hu hq m c hc hk => by rw [hw2 _ _ (by omega) (by omega)]; exact i4.2.1 u hu hq m c hc hk, i4.2.2⟩
  unfold fn_Sc_takeMark fn_Sc_takeMark_159
  rw [h7, if_neg (by decide), if_neg (by decide), if_neg (by decide), if_neg (by decide), if_pos rfl, c7]
  simp only [eq0]
  by_cases d : S.countP (mo 96 0) = 0
  · rw [if_pos d]
    refine ⟨_, rfl, by simp (disch := omega) only [u2n, u2e], fun a j ha => by simp (disch := omega) only [u2n], FIN _ (fun a j q1 q2 => by simp (disch := omega) only [u2n]) ?_⟩
    rw [if_pos d]
    exact ⟨by simp (disch := omega) only [u2n]; exact a1, fun k hk j hj hd => by simp (disch := omega) only [u2n]; exact a2 k hk j hj hd⟩
  · rw [if_neg d]
    have hbH : byt Z.2.2.1 := ⟨by omega, by rw [e1]; exact hdl_byt i1.1.1.2⟩
    obtain ⟨w1, x1, x2, x3⟩ := deal_l (F := F) hbH dq F w 0 0 (by omega) (by have := dq.1; omega) (by omega) a1 (fun i _ hi f hf => a2 i hi f hf (fun _ => hi))
    unfold fn_Sc_dealHeads
    rw [show (0 : Int32) = nI 0 from rfl, x1, Option.bind_some]
    refine ⟨_, rfl, by simp (disch := omega) only [u2n, u2e], fun a j ha => by simp (disch := omega) only [u2n]; exact x3 _ _ (by omega), FIN _ (fun a j q1 q2 => by simp (disch := omega) only [u2n]; exact x3 _ _ (by omega)) ?_⟩
    rw [if_neg d]
    refine ⟨?_, fun k hk j hj hd => ?_⟩
    · simp (disch := omega) only [u2n]
      rw [x3 _ _ (by omega), deal_len]
      exact a1
    · rw [deal_len] at hk
      simp (disch := omega) only [u2n]
      have := x2 k (by omega) j hj
      rw [Nat.zero_add, List.drop_zero] at this
      exact this
theorem sloop_5 {F n i : Nat} {Z : zd} {w : wd} (h5 : w 105 4 = 5) : fn_Sc_refusal_8 F (n + 1) Z w 0 (nI i) = some (0, w, Z) := by
  rw [fn_Sc_refusal_8]
  split
  · rfl
  · simp [h5]
