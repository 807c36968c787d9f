/-! mathematics of both state tables, part 17; from wip/math -/
theorem rg_eq (l : List Nat) (p : Nat) (hp : l.length < 1000000) (n : Nat) : ∀ i, p + i + n ≤ l.length → rw_rg l (nI p) i n = (l.drop (p + i)).take n := by
  induction n with
  | zero => intro i h; simp [rw_rg]
  | succ n ih =>
    intro i h
    unfold rw_rg
    rw [ih (i + 1) (by omega)]
    have hi : p + i < l.length := by omega
    have h1 : rw_u1 l ((nI p + nI i).toInt) = l[p + i] := by
      rw [bn_add, bn_i (by omega)]
      unfold rw_u1
      rw [if_pos (by omega), Int.toNat_natCast, List.getD_eq_getElem?_getD, List.getElem?_eq_getElem hi, Option.getD_some]
    rw [h1, ← Nat.add_assoc p i 1]
    conv => rhs; rw [List.drop_eq_getElem_cons hi]
    rfl
theorem rg_all (l : List Nat) (hp : l.length < 1000000) : rw_rg l 0 0 l.length = l := by
  have := rg_eq l 0 hp l.length 0 (by omega)
  simp at this
  exact this
theorem mchk_eq {α : Type} {Z : zd} {z : α → zd} {o : Option α} {R : α} (ho : o = some R) (h : zc Z ≤ zc (z R)) : mchk Z z o = some R := by
  rw [ho, mchk_some h]
theorem b_write {F : Nat} (hF : 200 ≤ F) {Z : zd} {w w' : wd} (h : rpl w w') (hs : rst w Z w') : ∃ R v w1', fn_SM_write F Z w = some R ∧ fn_Md_write F w' = some (v, w1') ∧ sok Z w w' R w1' (cd2 "java/lang/IllegalStateException" R.1) ∧ ∀ u, R.1 = .inl u → u = v := by
  obtain ⟨h1, h2, h3, h4, h5, h6, h7⟩ := id hs
  obtain ⟨g1, g2, ⟨n, g3⟩, k, g4⟩ := id h
  obtain ⟨n1, n2, n3, n4⟩ := id g3
  have hpw : fn_Pl_hasPicture w = true ↔ w' 0 2 = 1 := by
    unfold fn_Pl_hasPicture
    rw [g1.1 2 (by omega)]
    rcases g1.2 with ⟨p1, p2, p3, _⟩ | ⟨p1, p2⟩
    · rw [p1]
      have : ¬ w' 1 2 ≤ 0 := by grind
      rw [if_neg this]
      simp
    · rw [p1, p2]
      simp
  by_cases hp : w' 0 2 = 1 ∧ n ≠ 0
  · have hn0 : w 1 2 ≠ 0 := by rw [n1, show (0 : Int32) = nI 0 from rfl, Ne, bn_eq (by omega) (by omega)]; exact hp.2
    have e2 : fn_Md_write F w' = fn_Md_write_20 F w' false := by
      unfold fn_Md_write
      rw [hp.1, n2, if_neg (by decide), if_neg (by rw [show (0 : Int32) = nI 0 from rfl, bn_eq (by omega) (by omega)]; exact hp.2)]
    rw [e2]
    unfold fn_Md_write_20
    simp only [md_ref0, Bool.false_eq_true, if_false]
    rw [wrs_st h1]
    have hc : (up2 (up2 w' 0 0 0) 0 36 (nI Z.1.1.length)) 0 36 = nI Z.1.1.length := u2e rfl rfl
    have h' : rpl w (up2 (up2 w' 0 0 0) 0 36 (nI Z.1.1.length)) := rpl_s h (fun _ _ _ _ => rfl) (fun a j h1 h2 => by simp (disch := omega) only [u2n])
    have hrs' : rst w Z (up2 (up2 w' 0 0 0) 0 36 (nI Z.1.1.length)) := by
      unfold rst at *
      simp (disch := omega) only [u2n]
      exact hs
    have fr0 : sfr Z w' (up2 (up2 w' 0 0 0) 0 36 (nI Z.1.1.length)) := fun a j h1 h2 => by simp (disch := omega) only [u2n]
    have hz0 : (up2 (up2 w' 0 0 0) 0 36 (nI Z.1.1.length)) 0 0 = 0 := by simp (disch := omega) only [u2n, u2e]
    generalize up2 (up2 w' 0 0 0) 0 36 (nI Z.1.1.length) = v0 at *
    obtain ⟨g1', g2', ⟨n', g3'⟩, k', g4'⟩ := id h'
    have hnn : n' = n := by
      have := g3'.1
      rw [n1, bn_eq (by omega) (by have := g3'.2.2.1; omega)] at this
      exact this.symm
    subst hnn
    obtain ⟨b1, w1, t1, s1, r1, l1⟩ := size_w hF g1' g3' hc (by omega)
    obtain ⟨b2, b3, b4, b5, w2, t2, t3, t4, t5, s2, r2, l2⟩ := codings_w hF (by omega) (wrs_pl h' r1).2.1 (wrs_rcs g3' r1) r1.1 (by simp [l_bm]; omega)
    have z2 := wrs_app r1 r2
    obtain ⟨b6, b7, w3, t6, t7, s3, r3, l3⟩ := rest_w hF (wrs_rcs g3' z2) (wrs_rch g4' z2) z2.1 (by simp [l_bm] at *; omega)
    have z3 := wrs_app z2 r3
    rw [s1, Option.bind_some, s2, Option.bind_some, s3, Option.bind_some]
    have tp : fn_Wr_writePlan F w = some (rw_bm 79 ++ (b1 ++ (b2 ++ (rw_bs 92 (2 + fn_Wr_stepBytes w 0) ++ (b3 ++ (b4 ++ (b5 ++ (b6 ++ b7)))))))) := by
      unfold fn_Wr_writePlan
      rw [show ((0 : Int32).toInt.toNat) = 0 from rfl, if_pos (by rw [n1, bn_i (by omega)]; simp only [i0]; omega), t1, Option.bind_some, t2, Option.bind_some, t3, Option.bind_some, t4, Option.bind_some, t5, Option.bind_some, t6, Option.bind_some, t7, Option.bind_some]
      simp
    have z3' : wrs v0 w3 Z.1.1.length (rw_bm 79 ++ (b1 ++ (b2 ++ (rw_bs 92 (2 + fn_Wr_stepBytes w 0) ++ (b3 ++ (b4 ++ (b5 ++ (b6 ++ b7)))))))) := by
      simp only [List.append_assoc] at z3
      exact z3
    have hlen : (rw_bm 79 ++ (b1 ++ (b2 ++ (rw_bs 92 (2 + fn_Wr_stepBytes w 0) ++ (b3 ++ (b4 ++ (b5 ++ (b6 ++ b7)))))))).length ≤ 8000 := by
      simp only [List.length_append, l_bm] at *
      omega
    generalize hB : rw_bm 79 ++ (b1 ++ (b2 ++ (rw_bs 92 (2 + fn_Wr_stepBytes w 0) ++ (b3 ++ (b4 ++ (b5 ++ (b6 ++ b7))))))) = B at *
    clear z3 r1 r2 r3 z2
    have c36 : w3 0 36 = nI (Z.1.1.length + B.length) := z3'.1
    have e1 : fn_SM_write F Z w = if Z.1.1.length + B.length ≤ 65536 then some (.inl (nI B.length), up2 w 0 5 0, zs1 (zs2 Z (rwp ([], Z.2.1.2) B)) (rwp Z.1 B)) else some (.inr "java/lang/UnsupportedOperationException", w, zs2 Z (rwp ([], Z.2.1.2) B)) := by
      unfold fn_SM_write
      rw [if_pos (hpw.2 hp.1), if_neg hn0, tp, Option.bind_some]
      rw [if_pos (by simp [zs2]; omega)]
      have d1 : (zs2 (zs2 Z ([], Z.2.1.2)) (rwp (zs2 Z ([], Z.2.1.2)).2.1 B)).2.1.1 = B := rfl
      have d2 : (zs2 (zs2 Z ([], Z.2.1.2)) (rwp (zs2 Z ([], Z.2.1.2)).2.1 B)) = zs2 Z (rwp ([], Z.2.1.2) B) := rfl
      have d3 : (zs2 Z (rwp ([], Z.2.1.2) B)).2.1.1 = B := rfl
      have d4 : (zs2 Z (rwp ([], Z.2.1.2) B)).1 = Z.1 := rfl
      rw [d2, d3]
      rw [show (nI B.length).toInt.toNat = B.length from bn_nn _ (by omega), rg_all B (by omega)]
      by_cases hr : Z.1.1.length + B.length ≤ 65536
      · have hd : fn_SM_demandRoom (zs2 Z (rwp ([], Z.2.1.2) B)) w (nI B.length) = .inl () := by
          rw [dr_ok (by rw [d4]; exact h2) (by omega), d4, if_pos hr]
        rw [hd, if_pos hr]
        refine mchk_eq (ap1 ?_ rfl (Nat.le_refl _)) (zc_s1 _ _)
        rw [d4]; exact hr
      · have hd : fn_SM_demandRoom (zs2 Z (rwp ([], Z.2.1.2) B)) w (nI B.length) = .inr "java/lang/UnsupportedOperationException" := by
          rw [dr_ok (by rw [d4]; exact h2) (by omega), d4, if_neg hr]
        rw [hd, if_neg hr]
        exact mchk_eq rfl (Nat.le_refl _)
    rw [e1, c36]
    simp only [show (65536 : Int32) = nI 65536 from rfl]
    simp only [bn_le (show Z.1.1.length + B.length < 2147483648 by omega) (show 65536 < 2147483648 by omega)]
    have fr3 : sfr Z w' w3 := fun a j h1 h2 => by rw [z3'.2.2.1 _ _ (by omega) (by omega), fr0 _ _ h1 h2]
    have rp3 : rpl w w3 := wrs_pl h' z3'
    unfold fn_Md_write_65
    by_cases hr : Z.1.1.length + B.length ≤ 65536
    · rw [if_pos hr, if_pos hr]
      simp only [md_ref0, Bool.false_eq_true, if_false]
      have c36' : up2 w3 0 0 0 0 36 = nI (Z.1.1.length + B.length) := by rw [u2n (by omega), c36]
      have z4 : wrs v0 (up2 w3 0 0 0) Z.1.1.length B := by
        refine ⟨c36', fun i hi hc2 => by rw [u2n (by omega)]; exact z3'.2.1 i hi hc2, fun a j h1 h2 => ?_, z3'.2.2.2⟩
        by_cases h00 : a = 0 ∧ j = 0
        · obtain ⟨rfl, rfl⟩ := h00
          rw [u2e rfl rfl, hz0]
        · rw [u2n (by omega), z3'.2.2.1 a j h1 h2]
      have c20 : up2 w3 0 0 0 0 20 = nI Z.1.1.length := by
        rw [z4.2.2.1 _ _ (by omega) (by omega)]
        exact hrs'.1
      refine ⟨_, _, _, rfl, rfl, ⟨rpl_app h' z4 _, by have := rst_app (cap := 0) hrs' z4 hr; exact this, ?_, .inr (u2e rfl rfl)⟩, fun u hu => ?_⟩
      · simp (disch := omega) only [u2n, u2e, cd2]
      · rw [← Sum.inl.inj hu, c36', c20, bn_sub (by omega)]
        congr 1
        omega
    · rw [if_neg hr, if_neg hr]
      simp only [md_refF, if_true]
      refine ⟨_, _, _, rfl, rfl, ⟨rpl_t _ rp3, ?_, u2e rfl rfl, .inl ⟨rfl, rfl, rfl, fun a j h1 h2 => ?_⟩⟩, fun u hu => nomatch hu⟩
      · refine rst_t ?_ _
        obtain ⟨q1, q2, q3, q4, q5, q6, q7⟩ := hs
        refine ⟨?_, q2, fun i hi => ?_, q4, ?_, ?_, ?_⟩
        · rw [fr3 _ _ (by omega) (by omega)]; exact q1
        · have hi' : i < Z.1.1.length := hi
          rw [fr3 _ _ (by omega) (by omega)]; exact q3 i hi
        · rw [fr3 _ _ (by omega) (by omega)]; exact q5
        · rw [fr3 _ _ (by omega) (by omega)]; exact q6
        · rw [fr3 _ _ (by omega) (by omega)]; exact q7
      · rw [u2n (by omega)]
        exact fr3 a j h1 h2
  · have e1 : fn_SM_write F Z w = some (.inr "java/lang/IllegalStateException", w, Z) := by
      unfold fn_SM_write
      by_cases hq : w' 0 2 = 1
      · rw [if_pos (hpw.2 hq), if_pos]
        have : n = 0 := by
          by_cases hn : n = 0
          · exact hn
          · exact absurd ⟨hq, hn⟩ hp
        rw [n1, this]
        rfl
      · rw [if_neg (fun x => hq (hpw.1 x))]
    have e2 : fn_Md_write F w' = some (0, up2 w' 0 0 1) := by
      have : fn_Md_write F w' = fn_Md_write_20 F w' true := by
        unfold fn_Md_write fn_Md_write_15
        rcases g1.2 with ⟨p1, _⟩ | ⟨p1, _⟩
        · have : n = 0 := by
            by_cases hn : n = 0
            · exact hn
            · exact absurd ⟨p1, hn⟩ hp
          rw [n2, this]
          simp only [show nI 0 = 0 from rfl, if_true, ite_self]
        · rw [p1, if_pos rfl]
      rw [this]
      unfold fn_Md_write_20
      simp only [md_refT, if_true]
    rw [e1]
    exact ⟨_, _, _, rfl, e2, sok_t h hs _ _, fun u hu => nomatch hu⟩
