/-! mathematics of both state tables, part 10; from wip/math -/
theorem ap1 {α : Type} {Z : zd} {bs : List Nat} {z : α → zd} {o : Option α} {R : α} (hl : Z.1.1.length + bs.length ≤ 65536) (ho : o = some R) (hz : zc (zs1 Z (rwp Z.1 bs)) ≤ zc (z R)) : (if Z.1.1.length + bs.length ≤ 65536 then mchk (zs1 Z (rwp Z.1 bs)) z o else none) = some R := by
  rw [if_pos hl, ho, mchk_some hz]
theorem dr_ok {Z : zd} {w : wd} {n : Nat} (hl : Z.1.1.length ≤ 65536) (hn : n < 2147483648) : fn_SM_demandRoom Z w (nI n) = if Z.1.1.length + n ≤ 65536 then .inl () else .inr "java/lang/UnsupportedOperationException" := by
  unfold fn_SM_demandRoom
  simp only [show (65536 : Int32) = nI 65536 from rfl]
  rw [bn_sub hl]
  simp only [bn_le hn (show 65536 - Z.1.1.length < 2147483648 by omega)]
  by_cases h : Z.1.1.length + n ≤ 65536
  · rw [if_pos h, if_pos (by omega)]
  · rw [if_neg h, if_neg (by omega)]
theorem zs1_1 (Z : zd) (bs : List Nat) : (zs1 Z (rwp Z.1 bs)).1.1 = Z.1.1 ++ bs := rfl
theorem zs1_zs1 (Z : zd) (p q : List Nat × Nat) : zs1 (zs1 Z p) q = zs1 Z q := rfl
theorem sok_app {τ : Type} {Z : zd} {w w' w1' : wd} {bs L : List Nat} {cap : Nat} (h : rpl w w') (hs : rst w Z w') (hw : wrs (up2 (up2 w' 0 0 0) 0 36 (nI Z.1.1.length)) w1' Z.1.1.length bs) (hl : Z.1.1.length + bs.length ≤ 65536) (r : τ) (he : Z.1.1 ++ bs = L) : sok Z w w' ((.inl r : τ ⊕ String), up2 w 0 5 0, zs1 Z (L, cap)) (up2 (up2 w1' 0 20 (w1' 0 36)) 0 21 0) 0 := by
  subst he
  have h' : rpl w (up2 (up2 w' 0 0 0) 0 36 (nI Z.1.1.length)) := rpl_s h (fun _ _ _ _ => rfl) (fun a j h1 h2 => by simp (disch := omega) only [u2n])
  have hs' : rst w Z (up2 (up2 w' 0 0 0) 0 36 (nI Z.1.1.length)) := by
    unfold rst at *
    simp (disch := omega) only [u2n]
    exact hs
  refine ⟨rpl_app h' hw _, rst_app hs' hw hl, ?_, .inr (u2e rfl rfl)⟩
  simp (disch := omega) only [u2n]
  rw [hw.2.2.1 _ _ (by omega) (by omega)]
  simp (disch := omega) only [u2n, u2e]
theorem wrs_st {w' : wd} {n : Nat} (h : w' 0 20 = nI n) : up2 (up2 w' 0 0 0) 0 36 ((up2 w' 0 0 0) 0 20) = up2 (up2 w' 0 0 0) 0 36 (nI n) := by
  rw [u2n (by omega), h]
theorem b_mark {F : Nat} (hF : 100 ≤ F) {Z : zd} {w w' : wd} (h : rpl w w') (hs : rst w Z w') (x1 : Int32) : ∃ R w1', fn_SM_mark Z w x1 = some R ∧ fn_Md_mark F w' x1 = some w1' ∧ sok Z w w' R w1' (cd2 "java/lang/IllegalArgumentException" R.1) := by
  obtain ⟨h1, h2, h3, h4, h5, h6, h7⟩ := id hs
  have m1 := md_in0 x1 (a := 0) (b := 255) (c := 0) (d := 255) rfl rfl
  by_cases hp : 0 ≤ x1.toInt ∧ x1.toInt ≤ 255
  · have e2 : fn_Md_mark F w' x1 = fn_Md_mark_34 F w' x1 (decide (¬ Z.1.1.length + 2 ≤ 65536)) false := by
      unfold fn_Md_mark fn_Md_mark_18
      rw [if_pos (m1.2 hp), h1, show (2 : Int32) = nI 2 from rfl, bn_add]
      simp only [show (65536 : Int32) = nI 65536 from rfl]
      simp (disch := omega) only [bn_le]
      by_cases hr : Z.1.1.length + 2 ≤ 65536
      · rw [if_pos hr, decide_eq_false (by omega)]
      · rw [if_neg hr, decide_eq_true (by omega)]
    rw [e2]
    by_cases hr : Z.1.1.length + 2 ≤ 65536
    · have hd : fn_SM_demandRoom Z w 2 = .inl () := by rw [show (2 : Int32) = nI 2 from rfl, dr_ok h2 (by omega), if_pos hr]
      have e1 : fn_SM_mark Z w x1 = some (.inl (), (up2 w 0 5 (0 : Int32)), (zs1 Z (rwp Z.1 (rw_bm x1)))) := by
        unfold fn_SM_mark
        rw [if_neg (by rw [bi_lt]; simp only [i0]; omega), if_pos (by rw [bi_le]; show _ ≤ (255 : Int); omega), hd]
        exact ap1 (by simp [rw_bm]; omega) rfl (Nat.le_refl _)
      rw [e1, decide_eq_false (by omega)]
      unfold fn_Md_mark_34
      simp only [md_ref0, Bool.false_eq_true, if_false]
      rw [wrs_st h1]
      have hc : (up2 (up2 w' 0 0 0) 0 36 (nI Z.1.1.length)) 0 36 = nI Z.1.1.length := u2e rfl rfl
      obtain ⟨w1, q1, r1⟩ := md_add1 hF hc (by omega) 255
      obtain ⟨w2, q2, r2⟩ := md_add1 hF r1.1 (by simp; omega) x1
      rw [q1, Option.bind_some, q2, Option.bind_some]
      exact ⟨_, _, rfl, rfl, sok_app h hs (wrs_app r1 r2) (by simp; omega) _ rfl⟩
    · have hd : fn_SM_demandRoom Z w 2 = .inr "java/lang/UnsupportedOperationException" := by rw [show (2 : Int32) = nI 2 from rfl, dr_ok h2 (by omega), if_neg hr]
      have e1 : fn_SM_mark Z w x1 = some (.inr "java/lang/UnsupportedOperationException", w, Z) := by
        unfold fn_SM_mark
        rw [if_neg (by rw [bi_lt]; simp only [i0]; omega), if_pos (by rw [bi_le]; show _ ≤ (255 : Int); omega), hd]
      rw [e1, decide_eq_true (by omega)]
      unfold fn_Md_mark_34
      simp only [md_refF, if_true]
      exact ⟨_, _, rfl, rfl, sok_t h hs _ _⟩
  · have e1 : fn_SM_mark Z w x1 = some (.inr "java/lang/IllegalArgumentException", w, Z) := by
      unfold fn_SM_mark
      simp only [bi_lt, bi_le, bi_l]
      by_cases h0 : x1.toInt < 0
      · rw [if_pos h0]
      · rw [if_neg h0, if_neg (by omega)]
    have e2 : fn_Md_mark F w' x1 = some (up2 w' 0 0 1) := by
      unfold fn_Md_mark fn_Md_mark_18
      rw [if_neg (fun x => hp (m1.1 x))]
      unfold fn_Md_mark_34
      simp only [md_refT, if_true, ite_self]
    rw [e1]
    exact ⟨_, _, rfl, e2, sok_t h hs _ _⟩
theorem b_put {Z : zd} {w w' : wd} (h : rpl w w') (hs : rst w Z w') (x1 : Int32) : ∃ R v w1', fn_SM_put Z w x1 = some R ∧ fn_Md_put w' x1 = some (v, w1') ∧ sok Z w w' R w1' (cd2 "java/lang/IllegalArgumentException" R.1) ∧ ∀ u, R.1 = .inl u → u = v := by
  obtain ⟨h1, h2, h3, h4, h5, h6, h7⟩ := id hs
  have m1 := md_in0 x1 (a := 0) (b := 255) (c := 0) (d := 255) rfl rfl
  by_cases hp : 0 ≤ x1.toInt ∧ x1.toInt ≤ 255
  · have e2 : fn_Md_put w' x1 = fn_Md_put_32 w' x1 (decide (Z.1.1.length = 65536)) false := by
      unfold fn_Md_put fn_Md_put_18
      rw [if_pos (m1.2 hp), h1]
      simp only [show (65536 : Int32) = nI 65536 from rfl]
      simp (disch := omega) only [bn_eq]
      by_cases hr : Z.1.1.length = 65536
      · rw [if_pos hr, decide_eq_true hr]
      · rw [if_neg hr, decide_eq_false hr]
    rw [e2]
    by_cases hr : Z.1.1.length + 1 ≤ 65536
    · have hd : fn_SM_demandRoom Z w 1 = .inl () := by rw [show (1 : Int32) = nI 1 from rfl, dr_ok h2 (by omega), if_pos hr]
      have e1 : fn_SM_put Z w x1 = some (.inl (nI (zs1 Z (rwp Z.1 [by8 x1])).1.1.length), (up2 w 0 5 (0 : Int32)), (zs1 Z (rwp Z.1 [by8 x1]))) := by
        unfold fn_SM_put
        rw [if_neg (by rw [bi_lt]; simp only [i0]; omega), if_pos (by rw [bi_le]; show _ ≤ (255 : Int); omega), hd]
        exact ap1 (by simp [rw_bm]; omega) rfl (Nat.le_refl _)
      rw [e1, decide_eq_false (by omega)]
      unfold fn_Md_put_32
      simp only [md_ref0, Bool.false_eq_true, if_false]
      have hz : up2 w' 0 0 0 0 20 = nI Z.1.1.length := by rw [u2n (by omega), h1]
      rw [hz, bn_i (by omega), if_pos (by omega)]
      obtain ⟨n, hn, rfl⟩ := bn_ex hp.1
      rw [bn_i hn] at hp
      have hb : by8 (nI n) = n := by8_of (by omega)
      simp (disch := omega) only [u2n, u2e, h1, Int.toNat_natCast, show (1 : Int32) = nI 1 from rfl, bn_add]
      refine ⟨_, _, _, rfl, rfl, ⟨rpl_s h (fun a j h1 h2 => by simp (disch := omega) only [u2n]) (fun a j h1 h2 => by simp (disch := omega) only [u2n]), ?_, by simp (disch := omega) only [u2n, u2e, cd2], .inr (u2e rfl rfl)⟩, fun u hu => ?_⟩
      · unfold rst at *
        simp (disch := omega) only [u2n, u2e, zs1_1, List.length_append, List.length_cons, List.length_nil]
        refine ⟨trivial, by omega, fun i hi => ?_, fun b hb2 => ?_, trivial, .inl trivial, h7⟩
        · simp only [List.getD_eq_getElem?_getD]
          by_cases hx : i < Z.1.1.length
          · rw [u2n (by omega), u2n (by omega), List.getElem?_append_left hx, h3 i hx]
            simp only [List.getD_eq_getElem?_getD]
          · have : i = Z.1.1.length := by omega
            subst this
            rw [u2e rfl rfl, List.getElem?_append_right (by omega)]
            simp [hb]
        · rcases List.mem_append.1 hb2 with h | h
          · exact h4 b h
          · simp at h; rw [h]; exact by8_256 _
      · rw [← Sum.inl.inj hu, zs1_1, List.length_append]
        rfl
    · have hd : fn_SM_demandRoom Z w 1 = .inr "java/lang/UnsupportedOperationException" := by rw [show (1 : Int32) = nI 1 from rfl, dr_ok h2 (by omega), if_neg hr]
      have e1 : fn_SM_put Z w x1 = some (.inr "java/lang/UnsupportedOperationException", w, Z) := by
        unfold fn_SM_put
        rw [if_neg (by rw [bi_lt]; simp only [i0]; omega), if_pos (by rw [bi_le]; show _ ≤ (255 : Int); omega), hd]
      rw [e1, decide_eq_true (by omega)]
      unfold fn_Md_put_32
      simp only [md_refF, if_true]
      exact ⟨_, _, _, rfl, rfl, sok_t h hs _ _, fun u hu => nomatch hu⟩
  · have e1 : fn_SM_put Z w x1 = some (.inr "java/lang/IllegalArgumentException", w, Z) := by
      unfold fn_SM_put
      simp only [bi_lt, bi_le, bi_l]
      by_cases h0 : x1.toInt < 0
      · rw [if_pos h0]
      · rw [if_neg h0, if_neg (by omega)]
    have e2 : fn_Md_put w' x1 = some (0, up2 w' 0 0 1) := by
      unfold fn_Md_put fn_Md_put_18
      rw [if_neg (fun x => hp (m1.1 x))]
      unfold fn_Md_put_32
      simp only [md_refT, if_true, ite_self]
    rw [e1]
    exact ⟨_, _, _, rfl, e2, sok_t h hs _ _, fun u hu => nomatch hu⟩
