/-! mathematics of both state tables, part 53; from wip/math -/
theorem bn_shl (a k : Nat) (hk : k < 32) : nI a <<< (nI k &&& 31) = nI (a * 2 ^ k) := by
  rw [← Int32.toBitVec_inj]
  have e : nI k &&& 31 = nI k := by
    have : ∀ k : Fin 32, nI k.1 &&& 31 = nI k.1 := by decide
    exact this ⟨k, hk⟩
  rw [e, Int32.toBitVec_shiftLeft]
  have : ∀ k : Fin 32, ((nI k.1).toBitVec.smod 32).toNat = k.1 := by decide
  have e2 := this ⟨k, hk⟩
  have h1 : (nI a).toBitVec = BitVec.ofNat 32 a := rfl
  have h3 : (nI (a * 2 ^ k)).toBitVec = BitVec.ofNat 32 (a * 2 ^ k) := rfl
  rw [h1, h3]
  apply BitVec.eq_of_toNat_eq
  rw [BitVec.shiftLeft_eq', BitVec.toNat_shiftLeft, e2, BitVec.toNat_ofNat, BitVec.toNat_ofNat, Nat.shiftLeft_eq, Nat.mod_mul_mod]
theorem bl_shl24 (a : Nat) : lN a <<< ((24 : Int32).toInt64 &&& 63) = lN (a * 2 ^ 24) := by
  rw [← Int64.toBitVec_inj]
  show (lN a).toBitVec <<< 24 = _
  have h1 : (lN a).toBitVec = BitVec.ofNat 64 a := rfl
  have h3 : (lN (a * 2 ^ 24)).toBitVec = BitVec.ofNat 64 (a * 2 ^ 24) := rfl
  rw [h1, h3]
  apply BitVec.eq_of_toNat_eq
  rw [BitVec.toNat_shiftLeft, BitVec.toNat_ofNat, BitVec.toNat_ofNat, Nat.shiftLeft_eq, Nat.mod_mul_mod]
theorem u4_sum {H : List Nat} (hH : byt H) (k : Nat) : ((((nI (u1 H k)).toInt64 <<< ((24 : Int32).toInt64 &&& 63)) + (nI (u1 H (k + 1)) <<< ((16 : Int32) &&& 31)).toInt64) + (nI (u1 H (k + 2)) <<< ((8 : Int32) &&& 31)).toInt64) + (nI (u1 H (k + 3))).toInt64 = lN (u4 H k) := by
  have b0 := u1_lt hH k
  have b1 := u1_lt hH (k + 1)
  have b2 := u1_lt hH (k + 2)
  have b3 := u1_lt hH (k + 3)
  rw [show (16 : Int32) = nI 16 from rfl, show (8 : Int32) = nI 8 from rfl, bn_shl _ 16 (by omega), bn_shl _ 8 (by omega), bl_of (by omega), bl_of (by omega), bl_of (by omega), bl_of (by omega), bl_shl24, bl_add, bl_add, bl_add]
  congr 1
  unfold u4 u2 u1
  rw [show k + 2 + 1 = k + 3 from rfl]
  omega
theorem hdQ_cons (H : List Nat) (q : pt) (Q : List pt) (t : Nat) : hdQ H (q :: Q) t = if isT t q = true then qhd H q ++ hdQ H Q t else hdQ H Q t := by
  unfold hdQ
  rw [List.filter_cons]
  split <;> rfl
theorem qhd_len {H : List Nat} {q : pt} (h : fld q 5 + fld q 6 ≤ H.length) : (qhd H q).length = fld q 6 := by
  unfold qhd
  rw [List.length_take, List.length_drop]; omega
theorem qhd_get {H : List Nat} {q : pt} {i : Nat} (hi : i < fld q 6) : (qhd H q).getD i 0 = u1 H (fld q 5 + i) := by
  unfold qhd u1
  rw [List.getD_eq_getElem?_getD, List.getElem?_take_of_lt hi, List.getElem?_drop, ← List.getD_eq_getElem?_getD]
theorem hT_l {F : Nat} {w : wd} {H : List Nat} {Q : List pt} (h : tabQ w Q Q.length) (hq : Q.length ≤ 256) (hb : ∀ q ∈ Q, q.1 < 64 ∧ fld q 5 + fld q 6 ≤ H.length) {t : Nat} (ht : t < 64) (n : Nat) : ∀ k a, k ≤ Q.length → Q.length - k < n → fn_Pt_headsOfTile_4 F n w (nI t) (nI a) (nI k) = some (nI (a + (hdQ H (Q.drop k) t).length)) := by
  obtain ⟨h1, h2⟩ := h
  induction n with
  | zero => intro k a _ h; omega
  | succ n ih =>
    intro k a hk hn
    rw [fn_Pt_headsOfTile_4, h1]
    simp only [bn_le (show Q.length < 2147483648 by omega) (show k < 2147483648 by omega)]
    by_cases c : Q.length ≤ k
    · rw [if_pos c, List.drop_eq_nil_of_le c]; rfl
    · have hk' : k < Q.length := by omega
      have g := hb _ (gd_mem (d := pt0) hk')
      have n0 : fn_Pt_number w (nI k) 0 = nI (fld (Q.getD k pt0) 0) := (gnum (j := 0) (by omega) (by omega)).trans (h2 k hk' 0 (by omega) (by omega))
      have n6 : fn_Pt_number w (nI k) 6 = nI (fld (Q.getD k pt0) 6) := (gnum (j := 6) (by omega) (by omega)).trans (h2 k hk' 6 (by omega) (by omega))
      rw [if_neg c, gd_drop (d := pt0) hk', hdQ_cons, n0, n6]
      generalize Q.getD k pt0 = q at *
      have E : (nI (fld q 0) = nI t) = (q.1 = t) := propext (bn_eq (a := q.1) (by omega) (by omega))
      simp only [E]
      unfold isT fn_Pt_headsOfTile_32
      rw [(bn_a k).1]
      by_cases d : q.1 = t
      · rw [if_pos d, decide_eq_true d, if_pos rfl, bn_add, ih _ _ (by omega) (by omega), List.length_append, qhd_len g.2, Nat.add_assoc]
      · rw [if_neg d, decide_eq_false d, if_neg (show ¬ (false = true) by decide), ih _ _ (by omega) (by omega)]
theorem pH_l {F : Nat} {w : wd} {H : List Nat} {Q : List pt} (h : tabQ w Q Q.length) (hH : H.length ≤ 65536) (hq : Q.length ≤ 256) (hb : ∀ q ∈ Q, q.1 < 64 ∧ fld q 5 + fld q 6 ≤ H.length) {t : Nat} (ht : t < 64) (n : Nat) : ∀ k v, v < 2147483648 → k ≤ Q.length → Q.length - k < n → ∃ r, fn_Pt_placeOfHead_5 F n w (nI t) (nI v) (nI k) = some r ∧ (v < (hdQ H (Q.drop k) t).length → ∃ p, r = nI p ∧ p < H.length ∧ u1 H p = (hdQ H (Q.drop k) t).getD v 0) ∧ ((hdQ H (Q.drop k) t).length ≤ v → r = -1) := by
  obtain ⟨h1, h2⟩ := h
  induction n with
  | zero => intro k v _ _ h; omega
  | succ n ih =>
    intro k v hv hk hn
    rw [fn_Pt_placeOfHead_5, h1]
    simp only [bn_le (show Q.length < 2147483648 by omega) (show k < 2147483648 by omega)]
    by_cases c : Q.length ≤ k
    · rw [if_pos c, List.drop_eq_nil_of_le c]
      exact ⟨_, rfl, fun x => by simp [hdQ] at x, fun _ => rfl⟩
    · have hk' : k < Q.length := by omega
      have g := hb _ (gd_mem (d := pt0) hk')
      have n0 : fn_Pt_number w (nI k) 0 = nI (fld (Q.getD k pt0) 0) := (gnum (j := 0) (by omega) (by omega)).trans (h2 k hk' 0 (by omega) (by omega))
      have n5 : fn_Pt_number w (nI k) 5 = nI (fld (Q.getD k pt0) 5) := (gnum (j := 5) (by omega) (by omega)).trans (h2 k hk' 5 (by omega) (by omega))
      have n6 : fn_Pt_number w (nI k) 6 = nI (fld (Q.getD k pt0) 6) := (gnum (j := 6) (by omega) (by omega)).trans (h2 k hk' 6 (by omega) (by omega))
      rw [if_neg c, gd_drop (d := pt0) hk', hdQ_cons, n0, n5, n6, if_neg (by rw [show (0 : Int32) = nI 0 from rfl, bn_lt hv (by omega)]; omega)]
      generalize Q.getD k pt0 = q at *
      have E : (nI (fld q 0) = nI t) = (q.1 = t) := propext (bn_eq (a := q.1) (by omega) (by omega))
      simp only [E, bn_le (show fld q 6 < 2147483648 by omega) hv]
      unfold isT fn_Pt_placeOfHead_62
      rw [(bn_a k).1]
      by_cases d : q.1 = t
      · rw [if_pos d, decide_eq_true d, if_pos rfl, List.length_append, qhd_len g.2]
        by_cases e : fld q 6 ≤ v
        · rw [if_pos e, bn_sub e]
          obtain ⟨r, a1, a2, a3⟩ := ih (k + 1) (v - fld q 6) (by omega) (by omega) (by omega)
          refine ⟨r, a1, fun x => ?_, fun x => a3 (by omega)⟩
          obtain ⟨p, p1, p2, p3⟩ := a2 (by omega)
          refine ⟨p, p1, p2, ?_⟩
          rw [p3, List.getD_eq_getElem?_getD, List.getD_eq_getElem?_getD, List.getElem?_append_right (by rw [qhd_len g.2]; omega), qhd_len g.2]
        · rw [if_neg e, bn_add]
          refine ⟨_, rfl, fun _ => ⟨fld q 5 + v, rfl, by omega, ?_⟩, fun x => by omega⟩
          rw [List.getD_eq_getElem?_getD, List.getElem?_append_left (by rw [qhd_len g.2]; omega), ← List.getD_eq_getElem?_getD, qhd_get (by omega)]
      · rw [if_neg d, decide_eq_false d, if_neg (show ¬ (false = true) by decide)]
        exact ih _ _ hv (by omega) (by omega)
theorem ofA_l {F : Nat} {w' : wd} {H : List Nat} {Q : List pt} (hH : byt H) (hp : ∀ x : Int32, -1 ≤ x.toInt → fn_Md_packed F w' x = some (if 0 ≤ x then pk 0 H x.toInt (-1) else nI H.length)) (h : tabP w' Q Q.length) (hb : bndQ Q) {t : Nat} (ht : t < 64) {x2 : Int32} (hx : -1 ≤ x2.toInt) (n : Nat) : ∀ (j a k k' : Nat) (x6 : Int32), j ≤ Q.length → Q.length - j < n → a ≤ 65536 * j → k ≤ H.length → (k' = k ∨ (H.length - k < 4 ∧ H.length < k' + 4 ∧ k' ≤ H.length)) → fn_Md_ofAll_18 F n w' (nI t) x2 (nI H.length) (nI k') (nI a) x6 (nI j) = some (if 0 ≤ x2 then pk a (hdQ H (deal H k (Q.drop j)) t) x2.toInt x6 else nI (a + (hdQ H (deal H k (Q.drop j)) t).length)) := by
  obtain ⟨h1, h2, h3⟩ := h
  have hl := hH.1
  have hq := hb.1
  have pI : ∀ p, p < H.length → fn_Md_packed F w' (nI p) = some (nI (u1 H p)) := fun p hlt => by
    rw [hp _ (by rw [bn_i (by omega)]; omega), if_pos (by rw [show (0 : Int32) = nI 0 from rfl, bn_le (by omega) (by omega)]; omega), bn_i (by omega)]
    unfold pk u1
    rw [if_pos (by omega)]
    congr 3
  induction n with
  | zero => intro j a k k' x6 _ h; omega
  | succ n ih =>
    intro j a k k' x6 hj hn ha hk hkk
    rw [fn_Md_ofAll_18, h1]
    simp only [bn_le (show Q.length < 2147483648 by omega) (show j < 2147483648 by omega)]
    by_cases c : Q.length ≤ j
    · rw [if_pos c, List.drop_eq_nil_of_le c, show hdQ H (deal H k []) t = [] from rfl, pk_nil]
      by_cases d : 0 ≤ x2
      · rw [if_pos d, if_pos d]
      · rw [if_neg d, if_neg d]; rfl
    · have hj' : j < Q.length := by omega
      have q1 : w' 16 j = nI (Q.getD j pt0).1 := h3 j hj' 0 (by omega)
      have hs := (hb.2 _ (gd_mem (d := pt0) hj')).1
      have R : 0 ≤ (nI j).toInt ∧ (nI j).toInt < 256 := by rw [bn_i (by omega)]; omega
      rw [if_neg c, gd_drop (d := pt0) hj', (bn_a k').2.2.2.1]
      show _ = some (if 0 ≤ x2 then pk a (hdQ H (sfh (Q.getD j pt0) (dl H k).1 (dl H k).2 :: deal H ((dl H k).1 + (dl H k).2) (Q.drop (j + 1))) t) x2.toInt x6 else nI (a + (hdQ H (sfh (Q.getD j pt0) (dl H k).1 (dl H k).2 :: deal H ((dl H k).1 + (dl H k).2) (Q.drop (j + 1))) t).length))
      rw [hdQ_cons]
      have B := dl_b hk
      have step : ∀ (y k2 : Nat), y ≤ 65536 → k2 + y ≤ H.length → (dl H k).2 = y → (0 < y → k2 = (dl H k).1) → (k2 + y = (dl H k).1 + (dl H k).2 ∨ (H.length - ((dl H k).1 + (dl H k).2) < 4 ∧ H.length < k2 + y + 4 ∧ k2 + y ≤ H.length)) → fn_Md_ofAll_119 (fn_Md_ofAll_18 F n) F w' (nI t) x2 (nI H.length) (nI k2) (nI a) x6 (nI j) (nI y) = some (if 0 ≤ x2 then pk a (if isT t (sfh (Q.getD j pt0) (dl H k).1 (dl H k).2) = true then qhd H (sfh (Q.getD j pt0) (dl H k).1 (dl H k).2) ++ hdQ H (deal H ((dl H k).1 + (dl H k).2) (Q.drop (j + 1))) t else hdQ H (deal H ((dl H k).1 + (dl H k).2) (Q.drop (j + 1))) t) x2.toInt x6 else nI (a + (if isT t (sfh (Q.getD j pt0) (dl H k).1 (dl H k).2) = true then qhd H (sfh (Q.getD j pt0) (dl H k).1 (dl H k).2) ++ hdQ H (deal H ((dl H k).1 + (dl H k).2) (Q.drop (j + 1))) t else hdQ H (deal H ((dl H k).1 + (dl H k).2) (Q.drop (j + 1))) t).length)) := by
        intro y k2 hy hk2 ey ek hkk2
        unfold fn_Md_ofAll_119
        rw [if_pos R, bn_nn j (by omega), q1]
        have E : (nI (Q.getD j pt0).1 = nI t) = ((Q.getD j pt0).1 = t) := propext (bn_eq (by omega) (by omega))
        simp only [E]
        have I : isT t (sfh (Q.getD j pt0) (dl H k).1 (dl H k).2) = decide ((Q.getD j pt0).1 = t) := rfl
        rw [I]
        unfold fn_Md_ofAll_161 fn_Md_ofAll_163 fn_Md_ofAll_172
        simp only [bn_add, (bn_a j).1]
        by_cases d : (Q.getD j pt0).1 = t
        · have L : (qhd H (sfh (Q.getD j pt0) (dl H k).1 (dl H k).2)).length = y := by
            rw [qhd_len (q := sfh (Q.getD j pt0) (dl H k).1 (dl H k).2) B.1]; exact ey
          rw [if_pos d, decide_eq_true d, if_pos rfl]
          simp only [bv_lt (x := x2) (show a < 2147483648 by omega), bv_le (x := x2) (show a + y < 2147483648 by omega)]
          rw [pk_app, List.length_append, L, ← Nat.add_assoc]
          by_cases e : x2.toInt < a
          · have : pk a (qhd H (sfh (Q.getD j pt0) (dl H k).1 (dl H k).2)) x2.toInt x6 = x6 := by unfold pk; rw [if_neg (by omega)]
            rw [if_pos e, ih (j + 1) _ ((dl H k).1 + (dl H k).2) _ _ (by omega) (by omega) (by omega) B.1 hkk2, this]
          · rw [if_neg e]
            by_cases e' : ((a + y : Nat) : Int) ≤ x2.toInt
            · have : pk a (qhd H (sfh (Q.getD j pt0) (dl H k).1 (dl H k).2)) x2.toInt x6 = x6 := by unfold pk; rw [if_neg (by rw [L]; omega)]
              rw [if_pos e', ih (j + 1) _ ((dl H k).1 + (dl H k).2) _ _ (by omega) (by omega) (by omega) B.1 hkk2, this]
            · have k2e := ek (by omega)
              rw [if_neg e']
              have : fn_Md_packed F w' (nI k2 + x2 - nI a) = some (pk a (qhd H (sfh (Q.getD j pt0) (dl H k).1 (dl H k).2)) x2.toInt x6) := by
                obtain ⟨v, v1, rfl⟩ := bv_nn (x := x2) (by omega)
                rw [bn_i v1] at *
                rw [bn_add, bn_sub (by omega), pI _ (by omega)]
                unfold pk
                rw [if_pos (by rw [L]; omega), qhd_get (show (v : Int).toNat - a < (dl H k).2 by omega)]
                show some (nI (u1 H (k2 + v - a))) = some (nI (u1 H ((dl H k).1 + ((v : Int).toNat - a))))
                congr 3; omega
              rw [this, Option.bind_some, ih (j + 1) _ ((dl H k).1 + (dl H k).2) _ _ (by omega) (by omega) (by omega) B.1 hkk2]
        · rw [if_neg d, decide_eq_false d, if_neg (show ¬ (false = true) by decide), ih (j + 1) _ ((dl H k).1 + (dl H k).2) _ _ (by omega) (by omega) (by omega) B.1 hkk2]
      simp only [bn_lt (show H.length < 2147483648 by omega) (show k' + 4 < 2147483648 by omega)]
      unfold fn_Md_ofAll_98
      by_cases d : H.length < k' + 4
      · have e : dl H k = (k, 0) := by unfold dl; rw [if_pos (by omega)]
        rw [if_pos d, bn_sub (Nat.le_refl _), Nat.sub_self, if_pos (by decide)]
        exact step 0 H.length (by omega) (by omega) (by rw [e]) (by omega) (.inr (by rw [e]; show H.length - (k + 0) < 4 ∧ _; omega))
      · have ke : k' = k := by omega
        subst ke
        have e : dl H k' = (k' + 4, min (u4 H k') (H.length - (k' + 4))) := by unfold dl; rw [if_neg (by omega)]
        have u := u4_lt hH k'
        rw [if_neg d, pI _ (by omega), Option.bind_some, (bn_a k').1, pI _ (by omega), Option.bind_some, (bn_a k').2.1, pI _ (by omega), Option.bind_some, (bn_a k').2.2.1, pI _ (by omega), Option.bind_some, u4_sum hH, bn_sub (by omega), bl_of (by omega)]
        simp only [bl_e (show u4 H k' < 9223372036854775808 by omega) (show H.length - (k' + 4) < 9223372036854775808 by omega)]
        by_cases f : u4 H k' ≤ H.length - (k' + 4)
        · rw [if_pos f, bl_to]
          have e2 : (dl H k').2 = u4 H k' := by rw [e]; exact Nat.min_eq_left f
          exact step _ (k' + 4) (by omega) (by omega) e2 (fun _ => by rw [e]) (.inl (by rw [e2, e]))
        · rw [if_neg f]
          have e2 : (dl H k').2 = H.length - (k' + 4) := by rw [e]; exact Nat.min_eq_right (by omega)
          exact step _ (k' + 4) (by omega) (by omega) e2 (fun _ => by rw [e]) (.inl (by rw [e2, e]))
