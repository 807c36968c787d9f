/-! mathematics of both state tables, part 36; from wip/math -/
theorem data_m {F n : Nat} {w' : wd} {l : List Nat} {k d0 e t p : Nat} {f : Bool} (hs : str w' l) (hk : w' 0 28 = nI k) (hk2 : k < 256) (hd : d0 + 7 < l.length) (hpe : p + 2 ≤ e) (he : e ≤ l.length) (hc : fn_Md_isCut w' (nI p) (nI e) = some false) (hm : fn_Md_markAt w' (nI p) = some 147) : fn_Md_partAt_258 F (n + 1) w' (nI d0) (nI e) (nI t) f (nI p) = some (0, up2 (up2 (up2 (up2 (up2 (up2 (up2 w' 16 k (nI t)) 17 k (nI (u1 l (d0 + 6)))) 18 k (nI (u1 l (d0 + 7)))) 19 k (nI (p + 2))) 20 k (nI (e - p - 2))) 0 28 (nI (k + 1))) 0 36 (nI e)) := by
  have hl := hs.1.1
  have R : 0 ≤ (nI k).toInt ∧ (nI k).toInt < 256 := by rw [bn_i (by omega)]; omega
  have h1 : str (up2 w' 16 k (nI t)) l := ⟨hs.1, fun i hi => by rw [u2n (by omega)]; exact hs.2 i hi⟩
  have h2 : ∀ v, str (up2 (up2 w' 16 k (nI t)) 17 k v) l := fun v => ⟨hs.1, fun i hi => by rw [u2n (by omega)]; exact h1.2 i hi⟩
  rw [fn_Md_partAt_258, hc, Option.bind_some, if_neg (by decide), hm, Option.bind_some, if_pos rfl]
  simp (disch := omega) only [u2n, hk, if_pos R, bn_nn k (show k < 2147483648 by omega), bn_a]
  rw [md_u1 h1 (by omega), Option.bind_some, md_u1 (h2 _) (by omega), Option.bind_some, bn_sub (show p ≤ e by omega), show (2 : Int32) = nI 2 from rfl, bn_sub (show 2 ≤ e - p by omega)]
theorem data_s {F n : Nat} {w w' : wd} {Z : zd} {l : List Nat} {S : List sg} {Q : List pt} {cn T p e t d0 : Nat} {cur : pt} {f : Bool} (hI : inv w w' Z l S (Q ++ [cur]) Q.length cn T p) (h5 : w 105 5 = nI p) (h6 : w 105 6 = nI e) (h7 : w 105 7 = 147) (h8 : w 105 8 = nI 0) (hcur : cur.1 = t) (hn1 : fld cur 1 = u1 l (d0 + 6)) (hn2 : fld cur 2 = u1 l (d0 + 7)) (hd : d0 + 7 < l.length) (hpe : p + 2 ≤ e) (he : e ≤ l.length) (hc : fn_Md_isCut w' (nI p) (nI e) = some false) (hm : fn_Md_markAt w' (nI p) = some 147) :
    ∃ w2 w2' cur2, fn_Sc_takeMark F Z w = some (w2, Z) ∧ fn_Md_partAt_258 F (n + 1) w' (nI d0) (nI e) (nI t) f (nI p) = some (0, w2') ∧ inv w2 w2' Z l S (Q ++ [cur2]) (Q.length + 1) cn T e ∧ w2 105 4 = 4 ∧ w2 105 5 = nI e ∧ w2 105 6 = nI l.length ∧ w2' 0 36 = nI e ∧ (∀ a j, a ≤ 104 → w2 a j = w a j) ∧ (∀ a j, ¬ (a = 0 ∧ (j = 28 ∨ j = 36)) → ¬ (16 ≤ a ∧ a ≤ 20) → w2' a j = w' a j) := by
  obtain ⟨i1, i2, i3, i4, i5, i6⟩ := id hI
  obtain ⟨⟨a1, a2⟩, ⟨b1, b2, b3⟩, cq, dq⟩ := i5
  obtain ⟨e1, e2, e3, e4, e5⟩ := i6
  obtain ⟨hs, hz, h20⟩ := id i1
  have hl := hs.1.1
  have hQl : Q.length < 256 := by have := dq.1; rw [List.length_append] at this; simp at this; omega
  have hcm : cur ∈ Q ++ [cur] := List.mem_append_right _ List.mem_cons_self
  have hb := dq.2 cur hcm
  have hcnt : w 110 1 - 1 = nI Q.length := by
    rw [a1, List.length_append, show (1 : Int32) = nI 1 from rfl]
    rw [bn_sub (by simp)]
    simp
  have sB : ∀ x y, fn_Pt_setBytesOfLast w x y = up2 (up2 w 111 (7 * Q.length + 3) x) 111 (7 * Q.length + 4) y := by
    intro x y
    unfold fn_Pt_setBytesOfLast
    rw [hcnt, show (3 : Int32) = nI 3 from rfl, snum hQl (by omega), u2n (by omega), hcnt, show (4 : Int32) = nI 4 from rfl, snum hQl (by omega)]
  have tm : fn_Sc_takeMark F Z w = some (up2 (up2 (up2 (up2 (up2 w 111 (7 * Q.length + 3) (nI (p + 2))) 111 (7 * Q.length + 4) (nI (e - (p + 2)))) 105 6 (nI l.length)) 105 4 4) 105 5 (nI e), Z) := by
    unfold fn_Sc_takeMark
    rw [h7, if_neg (by decide), if_neg (by decide), if_neg (by decide), if_pos rfl, h5, h6, h8, (bn_a p).2.1, bn_add, Nat.add_zero, sB, bn_sub (by omega), u2n (by omega), u2n (by omega), h6, hz]
  have dm := data_m (F := F) (n := n) (f := f) (t := t) hs b1 hQl hd hpe he hc hm
  refine ⟨_, _, (t, u1 l (d0 + 6), u1 l (d0 + 7), p + 2, e - p - 2, fld cur 5, fld cur 6), tm, dm, ⟨⟨⟨hs.1, fun i hi => by simp (disch := omega) only [u2n]; exact hs.2 i hi⟩, hz, by simp (disch := omega) only [u2n]; exact h20⟩, ⟨?_, ?_, i2.2.2⟩, ?_, ?_, ⟨⟨?_, fun k hk j hj hd => ?_⟩, ⟨u2n (by omega) |>.trans (u2e rfl rfl), ?_, fun k hk j hj => ?_⟩, fun u hu => ?_, ?_⟩, ?_⟩, ?_, ?_, ?_, ?_, fun a j ha => by simp (disch := omega) only [u2n], fun a j q1 q2 => by simp (disch := omega) only [u2n]⟩
  · obtain ⟨x1, x2, x3, x4⟩ := i2.1
    exact ⟨by simp (disch := omega) only [u2n]; exact x1, x2, fun k hk => by simp (disch := omega) only [u2n]; exact x3 k hk, x4⟩
  · have := i2.2.1; omega
  · obtain ⟨c1, c2, c3, c4, c5, c6, c7⟩ := i3
    refine ⟨by simp (disch := omega) only [u2n]; exact c1, by simp (disch := omega) only [u2n]; exact c2, c3, by simp (disch := omega) only [u2n]; exact c4, by simp (disch := omega) only [u2n]; exact c5, c6, by simp (disch := omega) only [u2n]; exact c7⟩
  · have cP : ∀ u, (Q ++ [((t, u1 l (d0 + 6), u1 l (d0 + 7), p + 2, e - p - 2, fld cur 5, fld cur 6) : pt)]).countP (isT u) = (Q ++ [cur]).countP (isT u) := fun u => by rw [cQ_app, cQ_app]; unfold isT; rw [hcur]
    refine ⟨fun m c hc hk => by simp (disch := omega) only [u2n]; exact i4.1 m c hc hk, fun u hu hq m c hc hk => ?_, fun s hs hs0 => by rw [cP]; exact i4.2.2 s hs hs0⟩
    rw [cP] at hq
    simp (disch := omega) only [u2n]
    exact i4.2.1 u hu hq m c hc hk
  · simp (disch := omega) only [u2n]
    rw [a1, List.length_append, List.length_append]
    rfl
  · rw [List.length_append] at hk
    simp only [List.length_cons, List.length_nil] at hk
    by_cases hk2 : k < Q.length
    · simp (disch := omega) only [u2n]
      rw [gd_l hk2, a2 k (by rw [List.length_append]; simp; omega) j hj (fun _ => hk2), gd_l hk2]
    · have hkl : k = Q.length := by omega
      subst hkl
      rw [gd_e]
      have A : ∀ j, j < 7 → ¬ (j = 3 ∨ j = 4) → w 111 (7 * Q.length + j) = nI (fld cur j) := fun j hj hd => by
        rw [a2 Q.length (by rw [List.length_append]; simp) j hj (fun x => absurd x hd), gd_e]
      rcases (show j = 0 ∨ j = 1 ∨ j = 2 ∨ j = 3 ∨ j = 4 ∨ j = 5 ∨ j = 6 by omega) with rfl | rfl | rfl | rfl | rfl | rfl | rfl
      · simp (disch := omega) only [u2n]; rw [A 0 (by omega) (by omega), ← hcur]; rfl
      · simp (disch := omega) only [u2n]; rw [A 1 (by omega) (by omega), hn1]; rfl
      · simp (disch := omega) only [u2n]; rw [A 2 (by omega) (by omega), hn2]; rfl
      · simp (disch := omega) only [u2n, u2e]; rfl
      · simp (disch := omega) only [u2n, u2e]
        show nI (e - (p + 2)) = nI (e - p - 2)
        congr 1
      · simp (disch := omega) only [u2n]; rw [A 5 (by omega) (by omega)]; rfl
      · simp (disch := omega) only [u2n]; rw [A 6 (by omega) (by omega)]; rfl
  · rw [List.length_append]; simp
  · by_cases hk2 : k < Q.length
    · simp (disch := omega) only [u2n]
      rw [gd_l hk2, b3 k hk2 j hj, gd_l hk2]
    · have hkl : k = Q.length := by omega
      subst hkl
      rw [gd_e]
      rcases (show j = 0 ∨ j = 1 ∨ j = 2 ∨ j = 3 ∨ j = 4 by omega) with rfl | rfl | rfl | rfl | rfl
      · simp (disch := omega) only [u2n, u2e]; rfl
      · simp (disch := omega) only [u2n, u2e]; rfl
      · simp (disch := omega) only [u2n, u2e]; rfl
      · simp (disch := omega) only [u2n, u2e]; rfl
      · simp (disch := omega) only [u2n, u2e]; rfl
  · have := cq u hu
    rw [cQ_app, tld_app] at this
    simp (disch := omega) only [u2n]
    rw [cQ_app, tld_app]
    unfold isT tstep at *
    have h2 : cur.2.2.1 = u1 l (d0 + 7) := hn2
    rw [hcur, h2] at this
    exact this
  · refine ⟨by have := dq.1; rw [List.length_append] at *; exact this, fun q hq => ?_⟩
    rcases List.mem_append.1 hq with x | x
    · exact dq.2 q (List.mem_append_left _ x)
    · simp at x
      rw [x]
      refine ⟨by show t < 64; rw [← hcur]; exact hb.1, fun j => ?_⟩
      have y1 := u1_lt hs.1 (d0 + 6)
      have y2 := u1_lt hs.1 (d0 + 7)
      match j with
      | 0 => show t ≤ 65536; rw [← hcur]; exact hb.2 0
      | 1 => show u1 l (d0 + 6) ≤ 65536; omega
      | 2 => show u1 l (d0 + 7) ≤ 65536; omega
      | 3 => show p + 2 ≤ 65536; omega
      | 4 => show e - p - 2 ≤ 65536; omega
      | 5 => exact hb.2 5
      | _ + 6 => exact hb.2 6
  · refine ⟨e1, by omega, fun q hq => ?_, fun u hu => by simp (disch := omega) only [u2n]; exact e4 u hu, fun u => ?_⟩
    · rcases List.mem_append.1 hq with x | x
      · exact e3 q (List.mem_append_left _ x)
      · simp at x
        rw [x]
        exact e3 cur hcm
    · rw [← e5 u]
      unfold hdQ
      rw [List.filter_append, List.flatMap_append, List.filter_append, List.flatMap_append]
      congr 1
      rw [List.filter_cons, List.filter_cons]
      have : isT u (t, u1 l (d0 + 6), u1 l (d0 + 7), p + 2, e - p - 2, fld cur 5, fld cur 6) = isT u cur := by unfold isT; rw [hcur]
      rw [this]
      split
      · simp [qhd, fld]
      · rfl
  · simp (disch := omega) only [u2n, u2e]
  · simp (disch := omega) only [u2e]
  · simp (disch := omega) only [u2n, u2e]
  · simp (disch := omega) only [u2e]
