/-! constructors: cells made one behind the other -/
def ct (M M1 : sm_M) (a : Nat) (c : va_E) (cs : List va_E) : Prop := M1.2 = M.2 + cs.length ∧ M1.1 a = some c ∧ (∀ (i : Nat) (e : va_E), cs[i]? = some e → M1.1 (M.2 + i) = some e) ∧ ∀ x : Nat, x < M.2 → x ≠ a → M1.1 x = M.1 x
def ct_P (M : sm_M) (a : Nat) (c : va_E) (cs : List va_E) : sm_O → sm_M → Prop := fun o M' => o = .inl none ∧ ct M M' a c cs
section CTA
variable {G : sm_G} {f : sm_F} {pc : Nat} {lv : List (Nat × Value)} {st rest : List Value} {M M1 : sm_M} {bc bs : Nat} {Q : sm_O → sm_M → Prop} {a : Nat} {c : va_E} {cs : List va_E}
theorem ct_0 (h : M.1 a = some c) : ct M M a c [] := ⟨rfl, h, fun i e h => (by cases h), fun _ _ _ => rfl⟩
theorem ct.push (h : ct M M1 a c cs) (ha : a < M.2) (e : va_E) : ct M (va_up M1.1 M1.2 (some e), M1.2 + 1) a c (cs ++ [e]) := by
  obtain ⟨h1, h2, h3, h4⟩ := h
  refine ⟨by show M1.2 + 1 = _; rw [h1, List.length_append]; rfl, (va_up_ne _ _ (by omega)).trans h2, fun i e9 hi => ?_, fun x hx hn => (va_up_ne _ _ (by omega)).trans (h4 x hx hn)⟩
  by_cases hl : i < cs.length
  · rw [List.getElem?_append_left hl] at hi
    exact (va_up_ne _ _ (by omega)).trans (h3 i e9 hi)
  · have hi2 : i < (cs ++ [e]).length := (List.getElem?_eq_some_iff.mp hi).1
    rw [List.length_append] at hi2
    have hi3 : i = cs.length := by simp at hi2; omega
    subst hi3
    rw [List.getElem?_append_right (Nat.le_refl _), Nat.sub_self] at hi
    cases hi
    show va_up M1.1 M1.2 (some e) (M.2 + cs.length) = _
    rw [← h1]
    exact va_up_self _ _ _
theorem ct.put (h : ct M M1 a c cs) (ha : a < M.2) (c' : va_E) : ct M (va_up M1.1 a (some c'), M1.2) a c' cs := by
  obtain ⟨h1, h2, h3, h4⟩ := h
  exact ⟨h1, va_up_self _ _ _, fun i e hi => (va_up_ne _ _ (by omega)).trans (h3 i e hi), fun x hx hn => (va_up_ne _ _ hn).trans (h4 x hx hn)⟩
theorem ct.set (h : ct M M1 a c cs) (ha : a < M.2) {j : Nat} (hj : j < cs.length) (e : va_E) : ct M (va_up M1.1 (M.2 + j) (some e), M1.2) a c (cs.set j e) := by
  obtain ⟨h1, h2, h3, h4⟩ := h
  refine ⟨by rw [List.length_set]; exact h1, (va_up_ne _ _ (by omega)).trans h2, fun i e9 hi => ?_, fun x hx hn => (va_up_ne _ _ (by omega)).trans (h4 x hx hn)⟩
  by_cases hij : i = j
  · subst hij
    rw [List.getElem?_set_self hj] at hi
    cases hi
    exact va_up_self _ _ _
  · rw [List.getElem?_set_ne (fun e => hij e.symm)] at hi
    exact (va_up_ne _ _ (by omega)).trans (h3 i e9 hi)
theorem ct.call {M2 : sm_M} {e c' : va_E} {cs' : List va_E} (h : ct M M1 a c (cs ++ [e])) (ha : a < M.2) (h2 : ct M1 M2 (M.2 + cs.length) c' cs') : ct M M2 a c (cs ++ c' :: cs') := by
  obtain ⟨a1, a2, a3, a4⟩ := h
  obtain ⟨b1, b2, b3, b4⟩ := h2
  have hl : M1.2 = M.2 + cs.length + 1 := by rw [a1, List.length_append]; rfl
  refine ⟨by rw [b1, hl, List.length_append, List.length_cons]; omega, (b4 a (by omega) (by omega)).trans a2, fun i e9 hi => ?_, fun x hx hn => (b4 x (by omega) (by omega)).trans (a4 x hx hn)⟩
  by_cases h1 : i < cs.length
  · rw [List.getElem?_append_left h1] at hi
    exact (b4 _ (by omega) (by omega)).trans (a3 i e9 (by rw [List.getElem?_append_left h1]; exact hi))
  · rw [List.getElem?_append_right (by omega)] at hi
    by_cases h2 : i = cs.length
    · subst h2
      rw [Nat.sub_self] at hi
      cases hi
      exact b2
    · obtain ⟨j, hj⟩ : ∃ j, i - cs.length = j + 1 := ⟨i - cs.length - 1, by omega⟩
      rw [hj, List.getElem?_cons_succ] at hi
      have := b3 j e9 hi
      rw [show M.2 + i = M1.2 + j by omega]
      exact this
theorem ct_new {index ci N bc' bs' q : Nat} {fs : List Value} {cs2 : List va_E} (hd : decode f.2.1 pc = .ok (.new index, 3)) (hN : sm_Nw f.1.cls index ci N fs) (hT : ct M M1 a c cs) (ha : a < M.2) (hq : M.2 + cs.length = q) (hcs : cs ++ [.inr (ci, fs)] = cs2) (h1 : bc' + 1 ≤ bc) (h2 : bs' + N ≤ bs)
    (k9 : ∀ M2, ct M M2 a c cs2 → sm_W G f (pc + 3) lv (.ref q :: rest) M2 bc' bs' Q) : sm_W G f pc lv rest M1 bc bs Q := by
  refine sm_W.more (bc' := bc' + 1) (bs' := bs' + N) (sm_new hd hN ?_) h1 h2
  have h9 := k9 _ (by rw [← hcs]; exact hT.push ha _)
  rw [← hq, ← hT.1] at h9
  exact h9
theorem ct_arr {atype : ArrayType} {ty : FieldType} {n : Int32} {N' ti q bc' bs' : Nat} {a0 : vp_A} {cs2 : List va_E} (hd : decode f.2.1 pc = .ok (.newarray atype, 2)) (hw : Cond.arrayClass (newarray.typeOf atype) ∈ sm_WS) (hty : newarray.typeOf atype = ty) (ho : ∀ C, ty ≠ .object C) (ht : (sm_tys G)[ti]? = some (G.2.1 ti, ty))
    (ha0 : ∀ cA : ClassId, vp_cell cA a0 = arrV cA N' (fun _ => defaultValue ty)) (hT : ct M M1 a c cs) (ha : a < M.2) (hq : M.2 + cs.length = q) (hcs : cs ++ [.inl (G.2.1 ti, a0)] = cs2) (hn : ¬ n < 0) (hN : n.toNatClampNeg = N') (hbytes : N' * componentBytes ty ≤ 536870912) (h1 : bc' + 1 ≤ bc) (h2 : bs' + N' ≤ bs)
    (k9 : ∀ M2, ct M M2 a c cs2 → sm_W G f (pc + 2) lv (.ref q :: rest) M2 bc' bs' Q) : sm_W G f pc lv (.int n :: rest) M1 bc bs Q := by
  refine sm_W.more (bc' := bc' + 1) (bs' := bs' + N') (sm_newarr hd hw hty ho ht ha0 hn hN hbytes ?_) h1 h2
  have h9 := k9 _ (by rw [← hcs]; exact hT.push ha _)
  rw [← hq, ← hT.1] at h9
  exact h9
theorem ct_int {n : Int32} {N' q bc' bs' : Nat} {cs2 : List va_E} (hd : decode f.2.1 pc = .ok (.newarray .int, 2)) (hT : ct M M1 a c cs) (ha : a < M.2) (hq : M.2 + cs.length = q) (hcs : cs ++ [.inl (G.2.1 1, N', .inl fun _ => 0)] = cs2) (hn : ¬ n < 0) (hN : n.toNatClampNeg = N') (hbytes : N' * 4 ≤ 536870912) (h1 : bc' + 1 ≤ bc) (h2 : bs' + N' ≤ bs)
    (k9 : ∀ M2, ct M M2 a c cs2 → sm_W G f (pc + 2) lv (.ref q :: rest) M2 bc' bs' Q) : sm_W G f pc lv (.int n :: rest) M1 bc bs Q :=
  ct_arr (ty := .int) (ti := 1) (a0 := (N', .inl fun _ => 0)) hd mw_83 rfl (fun C h => by cases h) rfl (fun cA => rfl) hT ha hq hcs hn hN hbytes h1 h2 k9
theorem ct_byt {n : Int32} {N' q bc' bs' : Nat} {cs2 : List va_E} (hd : decode f.2.1 pc = .ok (.newarray .byte, 2)) (hT : ct M M1 a c cs) (ha : a < M.2) (hq : M.2 + cs.length = q) (hcs : cs ++ [.inl (G.2.1 0, N', .inl fun _ => 0)] = cs2) (hn : ¬ n < 0) (hN : n.toNatClampNeg = N') (hbytes : N' * 1 ≤ 536870912) (h1 : bc' + 1 ≤ bc) (h2 : bs' + N' ≤ bs)
    (k9 : ∀ M2, ct M M2 a c cs2 → sm_W G f (pc + 2) lv (.ref q :: rest) M2 bc' bs' Q) : sm_W G f pc lv (.int n :: rest) M1 bc bs Q :=
  ct_arr (ty := .byte) (ti := 0) (a0 := (N', .inl fun _ => 0)) hd mw_213 rfl (fun C h => by cases h) rfl (fun cA => rfl) hT ha hq hcs hn hN hbytes h1 h2 k9
theorem ct_put {index ci k : Nat} {fs fs2 : List Value} {v : Value} {ty : FieldType} {fin : Bool} (hd : decode f.2.1 pc = .ok (.putfield index, 3)) (hF : sm_Fp f.1.cls index ci k ty fin) (hi9 : fin = true → f.1.name = "<init>") (hT : ct M M1 a (.inr (ci, fs)) cs) (ha : a < M.2) (hn : narrow ty v = v) (hfit : fits ty v = true) (hl : k < fs.length) (hfs : fs.set k v = fs2)
    (k9 : ∀ M2, ct M M2 a (.inr (ci, fs2)) cs → sm_W G f (pc + 3) lv rest M2 bc bs Q) : sm_W G f pc lv (v :: .ref a :: rest) M1 bc bs Q :=
  sm_put hd hF hi9 hT.2.1 hn hfit hl (k9 _ (by rw [← hfs]; exact hT.put ha _))
theorem ct_init {index n mc ms bc' bs' q : Nat} {g : sm_F} {As : List Value} {e c' : va_E} {cs' cs2 : List va_E} (hd : decode f.2.1 pc = .ok (.invokespecial index, 3)) (hg : sm_Call f index g n ∧ Cond.instanceMethod g.1 ∈ sm_WS ∧ g.1.name = "<init>" ∧ g.2.2.2.1 = none ∧ g.2.2.2.2.1 = []) (hno : f.2.2.2.2.1 = []) (hn : As.length = n) (hst : st = As.reverse ++ .ref q :: rest) (hrest : (rest.map fun v => v.category).sum ≤ 12) (hT : ct M M1 a c (cs ++ [e])) (ha : a < M.2) (hq : M.2 + cs.length = q)
    (hC : sm_C G g (.ref q :: As) M1 mc ms (ct_P M1 q c' cs')) (hcs : cs ++ c' :: cs' = cs2) (h1 : mc + bc' ≤ bc) (h2 : ms + bs' ≤ bs) (k9 : ∀ M2, ct M M2 a c cs2 → sm_W G f (pc + 3) lv rest M2 bc' bs' Q) : sm_W G f pc lv st M1 bc bs Q := by
  refine sm_callI hd hg hno hn hst hrest h1 h2 hC (fun X M' h => by cases h.1) (fun v M' h => ?_)
  obtain ⟨e1, h9⟩ := h
  cases e1
  subst hq
  exact k9 M' (by rw [← hcs]; exact hT.call ha h9)
end CTA

theorem nw_SM_7 : sm_Nw "StreamMarks" 7 1 10 [.null, .null, .int 0, .int 0, .int 0, .int 0, .int 0, .int 0, .null, .int 0] := ⟨cR_Pl, cT_Pl, cY_Pl, rfl, uw_Pl, cO_Pl, mw_32, mw_33, mw_2, by
  intro j hj
  rcases (show j = 0 ∨ j = 1 ∨ j = 2 ∨ j = 3 ∨ j = 4 ∨ j = 5 ∨ j = 6 ∨ j = 7 ∨ j = 8 ∨ j = 9 by omega) with rfl | rfl | rfl | rfl | rfl | rfl | rfl | rfl | rfl | rfl <;> rfl⟩
theorem nw_SM_16 : sm_Nw "StreamMarks" 16 5 2 [.null, .int 0] := ⟨cR_Rw, cT_Rw, cY_Rw, rfl, uw_Rw, cO_Rw, mw_198, mw_199, mw_7, by
  intro j hj
  rcases (show j = 0 ∨ j = 1 by omega) with rfl | rfl <;> rfl⟩
theorem nw_SM_26 : sm_Nw "StreamMarks" 26 6 14 [.null, .null, .null, .null, .int 0, .int 0, .int 0, .int 0, .int 0, .int 0, .int 0, .int 0, .int 0, .int 0] := ⟨cR_Sc, cT_Sc, cY_Sc, rfl, uw_Sc, cO_Sc, mw_214, mw_215, mw_8, by
  intro j hj
  rcases (show j = 0 ∨ j = 1 ∨ j = 2 ∨ j = 3 ∨ j = 4 ∨ j = 5 ∨ j = 6 ∨ j = 7 ∨ j = 8 ∨ j = 9 ∨ j = 10 ∨ j = 11 ∨ j = 12 ∨ j = 13 by omega) with rfl | rfl | rfl | rfl | rfl | rfl | rfl | rfl | rfl | rfl | rfl | rfl | rfl | rfl <;> rfl⟩
theorem nw_SM_35 : sm_Nw "StreamMarks" 35 9 3 [.null, .null, .null] := ⟨cR_Ld, cT_Ld, cY_Ld, rfl, uw_Ld, cO_Ld, mw_304, mw_305, mw_11, by
  intro j hj
  rcases (show j = 0 ∨ j = 1 ∨ j = 2 by omega) with rfl | rfl | rfl <;> rfl⟩
theorem nw_Pl_15 : sm_Nw "StreamMarks$Plan" 15 2 7 [.int 0, .int 0, .int 0, .int 0, .int 0, .null, .null] := ⟨cR_Cp, cT_Cp, cY_Cp, rfl, uw_Cp, cO_Cp, mw_38, mw_40, mw_3, by
  intro j hj
  rcases (show j = 0 ∨ j = 1 ∨ j = 2 ∨ j = 3 ∨ j = 4 ∨ j = 5 ∨ j = 6 by omega) with rfl | rfl | rfl | rfl | rfl | rfl | rfl <;> rfl⟩
theorem nw_Cp_7 : sm_Nw "StreamMarks$Component" 7 3 7 [.int 0, .int 0, .int 0, .int 0, .int 0, .null, .null] := ⟨cR_Cd, cT_Cd, cY_Cd, rfl, uw_Cd, cO_Cd, mw_45, mw_46, mw_4, by
  intro j hj
  rcases (show j = 0 ∨ j = 1 ∨ j = 2 ∨ j = 3 ∨ j = 4 ∨ j = 5 ∨ j = 6 by omega) with rfl | rfl | rfl | rfl | rfl | rfl | rfl <;> rfl⟩
theorem nw_Cp_16 : sm_Nw "StreamMarks$Component" 16 4 3 [.int 0, .int 0, .null] := ⟨cR_St, cT_St, cY_St, rfl, uw_St, cO_St, mw_84, mw_85, mw_5, by
  intro j hj
  rcases (show j = 0 ∨ j = 1 ∨ j = 2 by omega) with rfl | rfl | rfl <;> rfl⟩
theorem nw_Sc_9 : sm_Nw "StreamMarks$Scanner" 9 5 2 [.null, .int 0] := ⟨cR_Rw, cT_Rw, cY_Rw, rfl, uw_Rw, cO_Rw, mw_220, mw_199, mw_7, by
  intro j hj
  rcases (show j = 0 ∨ j = 1 by omega) with rfl | rfl <;> rfl⟩
theorem nw_Sc_18 : sm_Nw "StreamMarks$Scanner" 18 7 1 [.null] := ⟨cR_Ps, cT_Ps, cY_Ps, rfl, uw_Ps, cO_Ps, mw_222, mw_223, mw_9, by
  intro j hj
  have h : j = 0 := by omega
  subst h
  rfl⟩
theorem nw_Sc_25 : sm_Nw "StreamMarks$Scanner" 25 8 5 [.null, .int 0, .null, .null, .null] := ⟨cR_Pt, cT_Pt, cY_Pt, rfl, uw_Pt, cO_Pt, mw_232, mw_233, mw_10, by
  intro j hj
  rcases (show j = 0 ∨ j = 1 ∨ j = 2 ∨ j = 3 ∨ j = 4 by omega) with rfl | rfl | rfl | rfl | rfl <;> rfl⟩
theorem nw_Lw_8 : sm_Nw "StreamMarksLaw" 8 0 7 [.null, .null, .null, .null, .null, .int 0, .int 0] := ⟨cR_SM, cT_SM, cY_SM, rfl, uw_SM, cO_SM, mw_24, mw_25, mw_1, by
  intro j hj
  rcases (show j = 0 ∨ j = 1 ∨ j = 2 ∨ j = 3 ∨ j = 4 ∨ j = 5 ∨ j = 6 by omega) with rfl | rfl | rfl | rfl | rfl | rfl | rfl <;> rfl⟩
theorem nw_Lw_87 : sm_Nw "StreamMarksLaw" 87 10 37 [.int 0, .null, .int 0, .int 0, .null, .null, .null, .null, .int 0, .int 0, .int 0, .int 0, .int 0, .null, .null, .null, .null, .int 0, .null, .null, .int 0, .int 0, .int 0, .int 0, .null, .null, .null, .null, .int 0, .null, .null, .null, .null, .null, .int 0, .int 0, .int 0] := ⟨cR_Md, cT_Md, cY_Md, rfl, uw_Md, cO_Md, mw_1186, mw_1187, mw_12, by
  intro j hj
  rcases (show j = 0 ∨ j = 1 ∨ j = 2 ∨ j = 3 ∨ j = 4 ∨ j = 5 ∨ j = 6 ∨ j = 7 ∨ j = 8 ∨ j = 9 ∨ j = 10 ∨ j = 11 ∨ j = 12 ∨ j = 13 ∨ j = 14 ∨ j = 15 ∨ j = 16 ∨ j = 17 ∨ j = 18 ∨ j = 19 ∨ j = 20 ∨ j = 21 ∨ j = 22 ∨ j = 23 ∨ j = 24 ∨ j = 25 ∨ j = 26 ∨ j = 27 ∨ j = 28 ∨ j = 29 ∨ j = 30 ∨ j = 31 ∨ j = 32 ∨ j = 33 ∨ j = 34 ∨ j = 35 ∨ j = 36 by omega) with rfl | rfl | rfl | rfl | rfl | rfl | rfl | rfl | rfl | rfl | rfl | rfl | rfl | rfl | rfl | rfl | rfl | rfl | rfl | rfl | rfl | rfl | rfl | rfl | rfl | rfl | rfl | rfl | rfl | rfl | rfl | rfl | rfl | rfl | rfl | rfl | rfl <;> rfl⟩
theorem oi_SM : Cond.methodLink "StreamMarks" 1 objectInit ∈ sm_WS ∧ Cond.instanceMethod objectInit ∈ sm_WS ∧ Cond.code objectInit ⟨#[0xb1]⟩ 1 none ∈ sm_WS := ⟨mw_29, mw_30, mw_31⟩
theorem oi_Pl : Cond.methodLink "StreamMarks$Plan" 3 objectInit ∈ sm_WS ∧ Cond.instanceMethod objectInit ∈ sm_WS ∧ Cond.code objectInit ⟨#[0xb1]⟩ 1 none ∈ sm_WS := ⟨mw_37, mw_30, mw_31⟩
theorem oi_Cp : Cond.methodLink "StreamMarks$Component" 1 objectInit ∈ sm_WS ∧ Cond.instanceMethod objectInit ∈ sm_WS ∧ Cond.code objectInit ⟨#[0xb1]⟩ 1 none ∈ sm_WS := ⟨mw_44, mw_30, mw_31⟩
theorem oi_Cd : Cond.methodLink "StreamMarks$Coding" 3 objectInit ∈ sm_WS ∧ Cond.instanceMethod objectInit ∈ sm_WS ∧ Cond.code objectInit ⟨#[0xb1]⟩ 1 none ∈ sm_WS := ⟨mw_50, mw_30, mw_31⟩
theorem oi_St : Cond.methodLink "StreamMarks$Steps" 3 objectInit ∈ sm_WS ∧ Cond.instanceMethod objectInit ∈ sm_WS ∧ Cond.code objectInit ⟨#[0xb1]⟩ 1 none ∈ sm_WS := ⟨mw_89, mw_30, mw_31⟩
theorem oi_Rw : Cond.methodLink "StreamMarks$Row" 3 objectInit ∈ sm_WS ∧ Cond.instanceMethod objectInit ∈ sm_WS ∧ Cond.code objectInit ⟨#[0xb1]⟩ 1 none ∈ sm_WS := ⟨mw_203, mw_30, mw_31⟩
theorem oi_Sc : Cond.methodLink "StreamMarks$Scanner" 3 objectInit ∈ sm_WS ∧ Cond.instanceMethod objectInit ∈ sm_WS ∧ Cond.code objectInit ⟨#[0xb1]⟩ 1 none ∈ sm_WS := ⟨mw_219, mw_30, mw_31⟩
theorem oi_Ps : Cond.methodLink "StreamMarks$Places" 3 objectInit ∈ sm_WS ∧ Cond.instanceMethod objectInit ∈ sm_WS ∧ Cond.code objectInit ⟨#[0xb1]⟩ 1 none ∈ sm_WS := ⟨mw_227, mw_30, mw_31⟩
theorem oi_Pt : Cond.methodLink "StreamMarks$Parts" 3 objectInit ∈ sm_WS ∧ Cond.instanceMethod objectInit ∈ sm_WS ∧ Cond.code objectInit ⟨#[0xb1]⟩ 1 none ∈ sm_WS := ⟨mw_237, mw_30, mw_31⟩
theorem oi_Ld : Cond.methodLink "StreamMarks$Loader" 3 objectInit ∈ sm_WS ∧ Cond.instanceMethod objectInit ∈ sm_WS ∧ Cond.code objectInit ⟨#[0xb1]⟩ 1 none ∈ sm_WS := ⟨mw_309, mw_30, mw_31⟩
theorem oi_Md : Cond.methodLink "StreamMarksModel" 1 objectInit ∈ sm_WS ∧ Cond.instanceMethod objectInit ∈ sm_WS ∧ Cond.code objectInit ⟨#[0xb1]⟩ 1 none ∈ sm_WS := ⟨mw_1191, mw_30, mw_31⟩
theorem mn_39c : Cond.arrayOver (.object "StreamMarks$Component") ∈ sm_NW := sm_mn sm_t1 39 rfl rfl
theorem c_Rw_init {G : sm_G} {M : sm_M} {a q : Nat} (hq : M.2 = q) (hm : M.1 a = some (.inr (5, [.null, .int 0]))) (ha : a < M.2) : sm_C G mf_Rw_init [.ref a] M 1 256 (ct_P M a (.inr (5, [.ref (q), .int (0)])) [.inl (G.2.1 0, 256, .inl fun _ => 0)]) := by
  refine sm_ofW rfl (Nat.le_of_ble_eq_true rfl) ?_
  have T0 := ct_0 hm
  refine sm_aload_n d_Rw_init_0 rfl (j := 0) rfl ?_
  refine sm_objInit d_Rw_init_1 oi_Rw (Nat.le_of_ble_eq_true rfl) (Nat.le_of_ble_eq_true rfl) ?_
  refine sm_aload_n d_Rw_init_4 rfl (j := 0) rfl ?_
  refine sm_sipush (v := 256) d_Rw_init_5 (by decide) ?_
  refine ct_byt (cs2 := [.inl (G.2.1 0, 256, .inl fun _ => 0)]) (q := q) (bc' := 0) (bs' := 0) (N' := 256) d_Rw_init_8 T0 ha (by rw [hq]; rfl) rfl (by decide) (by decide) (by decide) (by decide) (by decide) (fun M1 T1 => ?_)
  refine ct_put (k := 0) (fs2 := [.ref (q), .int 0]) d_Rw_init_10 fp_Rw_9 (fun _ => rfl) T1 ha rfl rfl (Nat.le_of_ble_eq_true rfl) rfl (fun M2 T2 => ?_)
  refine sm_aload_n d_Rw_init_13 rfl (j := 0) rfl ?_
  refine sm_iconst (v := 0) d_Rw_init_14 (by decide) ?_
  refine ct_put (k := 1) (fs2 := [.ref (q), .int (0)]) d_Rw_init_15 fp_Rw_15 (fun _ => rfl) T2 ha rfl rfl (Nat.le_of_ble_eq_true rfl) rfl (fun M3 T3 => ?_)
  exact sm_return d_Rw_init_18 rfl ⟨rfl, T3⟩
theorem c_Cd_init {G : sm_G} {M : sm_M} {a q : Nat} (hq : M.2 = q) (hm : M.1 a = some (.inr (3, [.int 0, .int 0, .int 0, .int 0, .int 0, .null, .null]))) (ha : a < M.2) : sm_C G mf_Cd_init [.ref a] M 2 66 (ct_P M a (.inr (3, [.int 0, .int 0, .int 0, .int 0, .int 0, .ref (q), .ref (q + 1)])) [.inl (G.2.1 1, 33, .inl fun _ => 0), .inl (G.2.1 1, 33, .inl fun _ => 0)]) := by
  refine sm_ofW rfl (Nat.le_of_ble_eq_true rfl) ?_
  have T0 := ct_0 hm
  refine sm_aload_n d_Cd_init_0 rfl (j := 0) rfl ?_
  refine sm_objInit d_Cd_init_1 oi_Cd (Nat.le_of_ble_eq_true rfl) (Nat.le_of_ble_eq_true rfl) ?_
  refine sm_aload_n d_Cd_init_4 rfl (j := 0) rfl ?_
  refine sm_bipush (v := 33) d_Cd_init_5 (by decide) ?_
  refine ct_int (cs2 := [.inl (G.2.1 1, 33, .inl fun _ => 0)]) (q := q) (bc' := 1) (bs' := 33) (N' := 33) d_Cd_init_7 T0 ha (by rw [hq]; rfl) rfl (by decide) (by decide) (by decide) (by decide) (by decide) (fun M1 T1 => ?_)
  refine ct_put (k := 5) (fs2 := [.int 0, .int 0, .int 0, .int 0, .int 0, .ref (q), .null]) d_Cd_init_9 fp_Cd_9 (fun _ => rfl) T1 ha rfl rfl (Nat.le_of_ble_eq_true rfl) rfl (fun M2 T2 => ?_)
  refine sm_aload_n d_Cd_init_12 rfl (j := 0) rfl ?_
  refine sm_bipush (v := 33) d_Cd_init_13 (by decide) ?_
  refine ct_int (cs2 := [.inl (G.2.1 1, 33, .inl fun _ => 0), .inl (G.2.1 1, 33, .inl fun _ => 0)]) (q := q + 1) (bc' := 0) (bs' := 0) (N' := 33) d_Cd_init_15 T2 ha (by rw [hq]; rfl) rfl (by decide) (by decide) (by decide) (by decide) (by decide) (fun M3 T3 => ?_)
  refine ct_put (k := 6) (fs2 := [.int 0, .int 0, .int 0, .int 0, .int 0, .ref (q), .ref (q + 1)]) d_Cd_init_17 fp_Cd_15 (fun _ => rfl) T3 ha rfl rfl (Nat.le_of_ble_eq_true rfl) rfl (fun M4 T4 => ?_)
  exact sm_return d_Cd_init_20 rfl ⟨rfl, T4⟩
theorem c_St_init {G : sm_G} {M : sm_M} {a q : Nat} (hq : M.2 = q) (hm : M.1 a = some (.inr (4, [.int 0, .int 0, .null]))) (ha : a < M.2) : sm_C G mf_St_init [.ref a] M 1 97 (ct_P M a (.inr (4, [.int 0, .int 0, .ref (q)])) [.inl (G.2.1 1, 97, .inl fun _ => 0)]) := by
  refine sm_ofW rfl (Nat.le_of_ble_eq_true rfl) ?_
  have T0 := ct_0 hm
  refine sm_aload_n d_St_init_0 rfl (j := 0) rfl ?_
  refine sm_objInit d_St_init_1 oi_St (Nat.le_of_ble_eq_true rfl) (Nat.le_of_ble_eq_true rfl) ?_
  refine sm_aload_n d_St_init_4 rfl (j := 0) rfl ?_
  refine sm_bipush (v := 97) d_St_init_5 (by decide) ?_
  refine ct_int (cs2 := [.inl (G.2.1 1, 97, .inl fun _ => 0)]) (q := q) (bc' := 0) (bs' := 0) (N' := 97) d_St_init_7 T0 ha (by rw [hq]; rfl) rfl (by decide) (by decide) (by decide) (by decide) (by decide) (fun M1 T1 => ?_)
  refine ct_put (k := 2) (fs2 := [.int 0, .int 0, .ref (q)]) d_St_init_9 fp_St_9 (fun _ => rfl) T1 ha rfl rfl (Nat.le_of_ble_eq_true rfl) rfl (fun M2 T2 => ?_)
  exact sm_return d_St_init_12 rfl ⟨rfl, T2⟩
theorem c_Ps_init {G : sm_G} {M : sm_M} {a q : Nat} (hq : M.2 = q) (hm : M.1 a = some (.inr (7, [.null]))) (ha : a < M.2) : sm_C G mf_Ps_init [.ref a] M 1 3315 (ct_P M a (.inr (7, [.ref (q)])) [.inl (G.2.1 1, 3315, .inl fun _ => 0)]) := by
  refine sm_ofW rfl (Nat.le_of_ble_eq_true rfl) ?_
  have T0 := ct_0 hm
  refine sm_aload_n d_Ps_init_0 rfl (j := 0) rfl ?_
  refine sm_objInit d_Ps_init_1 oi_Ps (Nat.le_of_ble_eq_true rfl) (Nat.le_of_ble_eq_true rfl) ?_
  refine sm_aload_n d_Ps_init_4 rfl (j := 0) rfl ?_
  refine sm_sipush (v := 3315) d_Ps_init_5 (by decide) ?_
  refine ct_int (cs2 := [.inl (G.2.1 1, 3315, .inl fun _ => 0)]) (q := q) (bc' := 0) (bs' := 0) (N' := 3315) d_Ps_init_8 T0 ha (by rw [hq]; rfl) rfl (by decide) (by decide) (by decide) (by decide) (by decide) (fun M1 T1 => ?_)
  refine ct_put (k := 0) (fs2 := [.ref (q)]) d_Ps_init_10 fp_Ps_11 (fun _ => rfl) T1 ha rfl rfl (Nat.le_of_ble_eq_true rfl) rfl (fun M2 T2 => ?_)
  exact sm_return d_Ps_init_13 rfl ⟨rfl, T2⟩
theorem c_Pt_init {G : sm_G} {M : sm_M} {a q : Nat} (hq : M.2 = q) (hm : M.1 a = some (.inr (8, [.null, .int 0, .null, .null, .null]))) (ha : a < M.2) : sm_C G mf_Pt_init [.ref a] M 4 1984 (ct_P M a (.inr (8, [.ref (q), .int 0, .ref (q + 1), .ref (q + 2), .ref (q + 3)])) [.inl (G.2.1 1, 1792, .inl fun _ => 0), .inl (G.2.1 1, 64, .inl fun _ => 0), .inl (G.2.1 1, 64, .inl fun _ => 0), .inl (G.2.1 1, 64, .inl fun _ => 0)]) := by
  refine sm_ofW rfl (Nat.le_of_ble_eq_true rfl) ?_
  have T0 := ct_0 hm
  refine sm_aload_n d_Pt_init_0 rfl (j := 0) rfl ?_
  refine sm_objInit d_Pt_init_1 oi_Pt (Nat.le_of_ble_eq_true rfl) (Nat.le_of_ble_eq_true rfl) ?_
  refine sm_aload_n d_Pt_init_4 rfl (j := 0) rfl ?_
  refine sm_sipush (v := 1792) d_Pt_init_5 (by decide) ?_
  refine ct_int (cs2 := [.inl (G.2.1 1, 1792, .inl fun _ => 0)]) (q := q) (bc' := 3) (bs' := 192) (N' := 1792) d_Pt_init_8 T0 ha (by rw [hq]; rfl) rfl (by decide) (by decide) (by decide) (by decide) (by decide) (fun M1 T1 => ?_)
  refine ct_put (k := 0) (fs2 := [.ref (q), .int 0, .null, .null, .null]) d_Pt_init_10 fp_Pt_11 (fun _ => rfl) T1 ha rfl rfl (Nat.le_of_ble_eq_true rfl) rfl (fun M2 T2 => ?_)
  refine sm_aload_n d_Pt_init_13 rfl (j := 0) rfl ?_
  refine sm_bipush (v := 64) d_Pt_init_14 (by decide) ?_
  refine ct_int (cs2 := [.inl (G.2.1 1, 1792, .inl fun _ => 0), .inl (G.2.1 1, 64, .inl fun _ => 0)]) (q := q + 1) (bc' := 2) (bs' := 128) (N' := 64) d_Pt_init_16 T2 ha (by rw [hq]; rfl) rfl (by decide) (by decide) (by decide) (by decide) (by decide) (fun M3 T3 => ?_)
  refine ct_put (k := 2) (fs2 := [.ref (q), .int 0, .ref (q + 1), .null, .null]) d_Pt_init_18 fp_Pt_15 (fun _ => rfl) T3 ha rfl rfl (Nat.le_of_ble_eq_true rfl) rfl (fun M4 T4 => ?_)
  refine sm_aload_n d_Pt_init_21 rfl (j := 0) rfl ?_
  refine sm_bipush (v := 64) d_Pt_init_22 (by decide) ?_
  refine ct_int (cs2 := [.inl (G.2.1 1, 1792, .inl fun _ => 0), .inl (G.2.1 1, 64, .inl fun _ => 0), .inl (G.2.1 1, 64, .inl fun _ => 0)]) (q := q + 2) (bc' := 1) (bs' := 64) (N' := 64) d_Pt_init_24 T4 ha (by rw [hq]; rfl) rfl (by decide) (by decide) (by decide) (by decide) (by decide) (fun M5 T5 => ?_)
  refine ct_put (k := 3) (fs2 := [.ref (q), .int 0, .ref (q + 1), .ref (q + 2), .null]) d_Pt_init_26 fp_Pt_18 (fun _ => rfl) T5 ha rfl rfl (Nat.le_of_ble_eq_true rfl) rfl (fun M6 T6 => ?_)
  refine sm_aload_n d_Pt_init_29 rfl (j := 0) rfl ?_
  refine sm_bipush (v := 64) d_Pt_init_30 (by decide) ?_
  refine ct_int (cs2 := [.inl (G.2.1 1, 1792, .inl fun _ => 0), .inl (G.2.1 1, 64, .inl fun _ => 0), .inl (G.2.1 1, 64, .inl fun _ => 0), .inl (G.2.1 1, 64, .inl fun _ => 0)]) (q := q + 3) (bc' := 0) (bs' := 0) (N' := 64) d_Pt_init_32 T6 ha (by rw [hq]; rfl) rfl (by decide) (by decide) (by decide) (by decide) (by decide) (fun M7 T7 => ?_)
  refine ct_put (k := 4) (fs2 := [.ref (q), .int 0, .ref (q + 1), .ref (q + 2), .ref (q + 3)]) d_Pt_init_34 fp_Pt_21 (fun _ => rfl) T7 ha rfl rfl (Nat.le_of_ble_eq_true rfl) rfl (fun M8 T8 => ?_)
  exact sm_return d_Pt_init_37 rfl ⟨rfl, T8⟩
theorem c_Ld_init {G : sm_G} {M : sm_M} {a q x1 x2 x3 : Nat} (hq : M.2 = q) (hm : M.1 a = some (.inr (9, [.null, .null, .null]))) (ha : a < M.2) : sm_C G mf_Ld_init [.ref a, .ref x1, .ref x2, .ref x3] M 0 0 (ct_P M a (.inr (9, [.ref x1, .ref x2, .ref x3])) []) := by
  refine sm_ofW rfl (Nat.le_of_ble_eq_true rfl) ?_
  have T0 := ct_0 hm
  refine sm_aload_n d_Ld_init_0 rfl (j := 0) rfl ?_
  refine sm_objInit d_Ld_init_1 oi_Ld (Nat.le_of_ble_eq_true rfl) (Nat.le_of_ble_eq_true rfl) ?_
  refine sm_aload_n d_Ld_init_4 rfl (j := 0) rfl ?_
  refine sm_aload_n d_Ld_init_5 rfl (j := 1) rfl ?_
  refine ct_put (k := 0) (fs2 := [.ref x1, .null, .null]) d_Ld_init_6 fp_Ld_9 (fun _ => rfl) T0 ha rfl rfl (Nat.le_of_ble_eq_true rfl) rfl (fun M1 T1 => ?_)
  refine sm_aload_n d_Ld_init_9 rfl (j := 0) rfl ?_
  refine sm_aload_n d_Ld_init_10 rfl (j := 2) rfl ?_
  refine ct_put (k := 1) (fs2 := [.ref x1, .ref x2, .null]) d_Ld_init_11 fp_Ld_15 (fun _ => rfl) T1 ha rfl rfl (Nat.le_of_ble_eq_true rfl) rfl (fun M2 T2 => ?_)
  refine sm_aload_n d_Ld_init_14 rfl (j := 0) rfl ?_
  refine sm_aload_n d_Ld_init_15 rfl (j := 3) rfl ?_
  refine ct_put (k := 2) (fs2 := [.ref x1, .ref x2, .ref x3]) d_Ld_init_16 fp_Ld_19 (fun _ => rfl) T2 ha rfl rfl (Nat.le_of_ble_eq_true rfl) rfl (fun M3 T3 => ?_)
  exact sm_return d_Ld_init_19 rfl ⟨rfl, T3⟩
/-! an array of references, an element of it; the constructors that call others -/
section CTB
variable {G : sm_G} {f : sm_F} {pc : Nat} {lv : List (Nat × Value)} {st rest : List Value} {M M1 : sm_M} {bc bs : Nat} {Q : sm_O → sm_M → Prop} {a : Nat} {c : va_E} {cs : List va_E}
theorem sm_W.gho {M' : sm_M} (h : ∀ H, sm_R G M H → sm_R G M' H) (k : sm_W G f pc lv st M' bc bs Q) : sm_W G f pc lv st M bc bs Q :=
  fun p l e R s m args below meth c H locs ls cells slots E r S L hc hs => k p l e R s m args below meth c H locs ls cells slots E (h H r) S L hc hs
theorem sm_anw {index N' : Nat} {n : Int32} (hd : decode f.2.1 pc = .ok (.anewarray index, 3)) (hcl : Cond.classLink f.1.cls index "StreamMarks$Component" ∈ sm_WS) (hn : ¬ n < 0) (hN : n.toNatClampNeg = N') (hbytes : N' * 4 ≤ 536870912)
    (k9 : sm_W G f (pc + 3) lv (.ref M.2 :: rest) (va_up M.1 M.2 (some (.inl (G.2.1 3, N', .inr (.inr (.inr (.inr fun _ => none)))))), M.2 + 1) bc bs Q) : sm_W G f pc lv (.int n :: rest) M (bc + 1) (bs + N') Q := by
  intro p l e R s m args below meth c H locs ls cells slots E r S L hc hs
  subst hN
  have hbM := sm_base E r S
  obtain ⟨hx, hb, hml, hown, hts, hr, hlocks, hname, htab, hst, hfr, hlo, hK, hE⟩ := id E
  refine W.anew hx hb hown (hts _ hcl) (sm_nwAt mn_39c (hK.2.1 _ mn_39c) rfl) (g := F0 m pc ls (.int n :: rest)) rfl hd rfl hn hbytes (by omega) (by omega) fun cA kA comp h1 h2 h3 h4 => ?_
  obtain ⟨kB, comp2, g1, g2, g3, g4⟩ := (hK.1.2 3 _ rfl).2
  have hcA : cA = G.2.1 3 := Option.some.inj (h1.symm.trans g4)
  subst hcA
  have hz : (H.push { cls := G.2.1 3, slots := Array.replicate n.toNatClampNeg .null, vm := .none } : Heap).size = M.2 + 1 := by rw [Array.size_push, r.1]
  have ho : ∀ q : Nat, q < M.2 → (H.push { cls := G.2.1 3, slots := Array.replicate n.toNatClampNeg .null, vm := .none } : Heap)[q]? = H[q]? := fun q hq => by
    rw [Array.getElem?_push, if_neg (by rw [r.1]; omega)]
  have he : va_at G.1 sm_cl (M.2, .inl (G.2.1 3, n.toNatClampNeg, .inr (.inr (.inr (.inr fun _ => none))))) (H.push { cls := G.2.1 3, slots := Array.replicate n.toNatClampNeg .null, vm := .none } : Heap) := by
    have e9 : (H.push { cls := G.2.1 3, slots := Array.replicate n.toNatClampNeg .null, vm := .none } : Heap)[M.2]? = some (vp_cell (G.2.1 3) (n.toNatClampNeg, .inr (.inr (.inr (.inr fun _ => none))))) := by
      rw [← r.1, Array.getElem?_push_size, vp_cell_q]
      congr 1
      unfold arrV
      congr 1
      apply Array.ext
      · simp
      · intro i h1 h2
        simp [va_rf]
    exact e9
  have K := k9 p l e R s m args below meth c _ locs ls (cells + 1) (slots + n.toNatClampNeg) E (r.push hbM he hz ho)
    ⟨Nat.le_trans S.1 (by rw [hz, r.1]; omega), fun x h1 h2 => (ho x (by rw [← r.1]; exact Nat.lt_of_lt_of_le h1 S.1)).trans (S.2.1 x h1 h2), S.2.2⟩ L (by omega) (by omega)
  rw [← r.1] at K
  exact K
theorem sm_aast {v n : Nat} {g : Nat → Option Nat} {fs : List Value} {i : Int32} (hd : decode f.2.1 pc = .ok (.aastore, 1)) (hm : M.1 a = some (.inl (G.2.1 3, n, .inr (.inr (.inr (.inr g)))))) (hv : M.1 v = some (.inr (2, fs))) (hin : vp_in i n)
    (k9 : sm_W G f (pc + 1) lv rest (va_up M.1 a (some (.inl (G.2.1 3, n, .inr (.inr (.inr (.inr (va_up g i.toNatClampNeg (some v)))))))), M.2) bc bs Q) : sm_W G f pc lv (.ref v :: .int i :: .ref a :: rest) M bc bs Q := by
  intro p l e R s m args below meth c H locs ls cells slots E r S L hc hs
  have hlt : i.toNatClampNeg < n := Nat.not_le.mp fun q => hin (Or.inr q)
  have h0 : ¬ i < 0 := fun q => hin (Or.inl q)
  have hK := E.2.2.2.2.2.2.2.2.2.2.2.2.1.1
  obtain ⟨hb9, hat⟩ := r.2 a _ hm
  obtain ⟨-, r', hr', cellV, g1, g2, g3, -⟩ := r.2 v _ hv
  have hcls := (hK.1 2 _ rfl).2
  obtain ⟨kA, comp, k1, k2, k3, -⟩ := (hK.2 3 _ rfl).2
  have hcomp : comp = G.1.1 2 := Option.some.inj (k3.symm.trans hcls.1)
  subst hcomp
  obtain ⟨kC, hkC, -⟩ := hcls.2
  refine W.aast E.1 E.2.1 hat (fun q h => by cases h) (fun h => by cases h) k1 k2 rfl hkC ⟨h0, by show _ < (arrV _ _ _).slots.size; rw [arrV_size]; exact hlt⟩ g1 (fun q h => by rw [g3] at h; cases h) (by rw [g2]; exact hkC) (by rw [g2]; exact va_assign hcls) rfl rfl hd fun H1 e z oq => ?_
  refine k9 p l _ R s m args below meth c H1 _ ls cells slots E (r.set hm ?_ z oq) (S.put z oq hb9) L hc hs
  show H1[a]? = some (vp_cell _ _)
  rw [e]
  rw [vp_cell_q, vp_cell_q, arrV_store]
  congr 2
  funext q
  by_cases hq : q = i.toNatClampNeg
  · subst hq
    simp [updV, va_up, va_rf]
  · simp [updV, va_up, hq]
theorem ct_anw {index N' q bc' bs' : Nat} {n : Int32} {cs2 : List va_E} (hd : decode f.2.1 pc = .ok (.anewarray index, 3)) (hcl : Cond.classLink f.1.cls index "StreamMarks$Component" ∈ sm_WS) (hT : ct M M1 a c cs) (ha : a < M.2) (hq : M.2 + cs.length = q) (hcs : cs ++ [.inl (G.2.1 3, N', .inr (.inr (.inr (.inr fun _ => none))))] = cs2) (hn : ¬ n < 0) (hN : n.toNatClampNeg = N') (hbytes : N' * 4 ≤ 536870912) (h1 : bc' + 1 ≤ bc) (h2 : bs' + N' ≤ bs)
    (k9 : ∀ M2, ct M M2 a c cs2 → sm_W G f (pc + 3) lv (.ref q :: rest) M2 bc' bs' Q) : sm_W G f pc lv (.int n :: rest) M1 bc bs Q := by
  refine sm_W.more (bc' := bc' + 1) (bs' := bs' + N') (sm_anw hd hcl hn hN hbytes ?_) h1 h2
  have h9 := k9 _ (by rw [← hcs]; exact hT.push ha _)
  rw [← hq, ← hT.1] at h9
  exact h9
end CTB
theorem c_Cp_init {G : sm_G} {M : sm_M} {a q : Nat} (hq : M.2 = q) (hm : M.1 a = some (.inr (2, [.int 0, .int 0, .int 0, .int 0, .int 0, .null, .null]))) (ha : a < M.2) : sm_C G mf_Cp_init [.ref a] M 5 173 (ct_P M a (.inr (2, [.int 0, .int 0, .int 0, .int 0, .int 0, .ref q, .ref (q + 3)])) [.inr (3, [.int 0, .int 0, .int 0, .int 0, .int 0, .ref (q + 1), .ref (q + 2)]), .inl (G.2.1 1, 33, .inl fun _ => 0), .inl (G.2.1 1, 33, .inl fun _ => 0), .inr (4, [.int 0, .int 0, .ref (q + 4)]), .inl (G.2.1 1, 97, .inl fun _ => 0)]) := by
  refine sm_ofW rfl (Nat.le_of_ble_eq_true rfl) ?_
  have T0 := ct_0 hm
  refine sm_aload_n d_Cp_init_0 rfl (j := 0) rfl ?_
  refine sm_objInit d_Cp_init_1 oi_Cp (Nat.le_of_ble_eq_true rfl) (Nat.le_of_ble_eq_true rfl) ?_
  refine sm_aload_n d_Cp_init_4 rfl (j := 0) rfl ?_
  refine ct_new (q := q) (bc' := 4) (bs' := 166) d_Cp_init_5 nw_Cp_7 T0 ha hq rfl (by decide) (by decide) (fun M1 T1 => ?_)
  have L1 : M1.2 = q + 1 := by rw [T1.1, hq]; rfl
  refine sm_dup d_Cp_init_8 rfl ?_
  refine ct_init (q := q) (bc' := 2) (bs' := 100) (As := []) d_Cp_init_9 cs_Cp_init_9 rfl rfl rfl (Nat.le_of_ble_eq_true rfl) T1 ha hq (c_Cd_init (q := q + 1) L1 (by rw [← hq]; exact T1.2.2.1 0 _ rfl) (by omega)) rfl (by decide) (by decide) (fun M2 T2 => ?_)
  refine ct_put (k := 5) d_Cp_init_12 fp_Cp_10 (fun _ => rfl) T2 ha rfl rfl (Nat.le_of_ble_eq_true rfl) rfl (fun M3 T3 => ?_)
  refine sm_aload_n d_Cp_init_15 rfl (j := 0) rfl ?_
  refine ct_new (q := q + 3) (bc' := 1) (bs' := 97) d_Cp_init_16 nw_Cp_16 T3 ha (by rw [hq]; rfl) rfl (by decide) (by decide) (fun M4 T4 => ?_)
  have L4 : M4.2 = q + 4 := by rw [T4.1, hq]; rfl
  refine sm_dup d_Cp_init_19 rfl ?_
  refine ct_init (q := q + 3) (bc' := 0) (bs' := 0) (As := []) d_Cp_init_20 cs_Cp_init_18 rfl rfl rfl (Nat.le_of_ble_eq_true rfl) T4 ha (by rw [hq]; rfl) (c_St_init (q := q + 4) L4 (by rw [← hq]; exact T4.2.2.1 3 _ rfl) (by omega)) rfl (by decide) (by decide) (fun M5 T5 => ?_)
  refine ct_put (k := 6) d_Cp_init_23 fp_Cp_19 (fun _ => rfl) T5 ha rfl rfl (Nat.le_of_ble_eq_true rfl) rfl (fun M6 T6 => ?_)
  exact sm_return d_Cp_init_26 rfl ⟨rfl, T6⟩
theorem c_Sc_init {G : sm_G} {M : sm_M} {a q x1 : Nat} (hq : M.2 = q) (hm : M.1 a = some (.inr (6, [.null, .null, .null, .null, .int 0, .int 0, .int 0, .int 0, .int 0, .int 0, .int 0, .int 0, .int 0, .int 0]))) (ha : a < M.2) : sm_C G mf_Sc_init [.ref a, .ref x1] M 9 5563 (ct_P M a (.inr (6, [.ref x1, .ref q, .ref (q + 2), .ref (q + 4), .int 0, .int 0, .int 0, .int 0, .int 0, .int 0, .int 0, .int 0, .int 0, .int 0])) [.inr (5, [.ref (q + 1), .int 0]), .inl (G.2.1 0, 256, .inl fun _ => 0), .inr (7, [.ref (q + 3)]), .inl (G.2.1 1, 3315, .inl fun _ => 0), .inr (8, [.ref (q + 5), .int 0, .ref (q + 6), .ref (q + 7), .ref (q + 8)]), .inl (G.2.1 1, 1792, .inl fun _ => 0), .inl (G.2.1 1, 64, .inl fun _ => 0), .inl (G.2.1 1, 64, .inl fun _ => 0), .inl (G.2.1 1, 64, .inl fun _ => 0)]) := by
  refine sm_ofW rfl (Nat.le_of_ble_eq_true rfl) ?_
  have T0 := ct_0 hm
  refine sm_aload_n d_Sc_init_0 rfl (j := 0) rfl ?_
  refine sm_objInit d_Sc_init_1 oi_Sc (Nat.le_of_ble_eq_true rfl) (Nat.le_of_ble_eq_true rfl) ?_
  refine sm_aload_n d_Sc_init_4 rfl (j := 0) rfl ?_
  refine ct_new (q := q) (bc' := 8) (bs' := 5561) d_Sc_init_5 nw_Sc_9 T0 ha hq rfl (by decide) (by decide) (fun M1 T1 => ?_)
  have L1 : M1.2 = q + 1 := by rw [T1.1, hq]; rfl
  refine sm_dup d_Sc_init_8 rfl ?_
  refine ct_init (q := q) (bc' := 7) (bs' := 5305) (As := []) d_Sc_init_9 cs_Sc_init_11 rfl rfl rfl (Nat.le_of_ble_eq_true rfl) T1 ha hq (c_Rw_init (q := q + 1) L1 (by rw [← hq]; exact T1.2.2.1 0 _ rfl) (by omega)) rfl (by decide) (by decide) (fun M2 T2 => ?_)
  refine ct_put (k := 1) d_Sc_init_12 fp_Sc_12 (fun _ => rfl) T2 ha rfl rfl (Nat.le_of_ble_eq_true rfl) rfl (fun M3 T3 => ?_)
  refine sm_aload_n d_Sc_init_15 rfl (j := 0) rfl ?_
  refine ct_new (q := q + 2) (bc' := 6) (bs' := 5304) d_Sc_init_16 nw_Sc_18 T3 ha (by rw [hq]; rfl) rfl (by decide) (by decide) (fun M4 T4 => ?_)
  have L4 : M4.2 = q + 3 := by rw [T4.1, hq]; rfl
  refine sm_dup d_Sc_init_19 rfl ?_
  refine ct_init (q := q + 2) (bc' := 5) (bs' := 1989) (As := []) d_Sc_init_20 cs_Sc_init_20 rfl rfl rfl (Nat.le_of_ble_eq_true rfl) T4 ha (by rw [hq]; rfl) (c_Ps_init (q := q + 3) L4 (by rw [← hq]; exact T4.2.2.1 2 _ rfl) (by omega)) rfl (by decide) (by decide) (fun M5 T5 => ?_)
  refine ct_put (k := 2) d_Sc_init_23 fp_Sc_21 (fun _ => rfl) T5 ha rfl rfl (Nat.le_of_ble_eq_true rfl) rfl (fun M6 T6 => ?_)
  refine sm_aload_n d_Sc_init_26 rfl (j := 0) rfl ?_
  refine ct_new (q := q + 4) (bc' := 4) (bs' := 1984) d_Sc_init_27 nw_Sc_25 T6 ha (by rw [hq]; rfl) rfl (by decide) (by decide) (fun M7 T7 => ?_)
  have L7 : M7.2 = q + 5 := by rw [T7.1, hq]; rfl
  refine sm_dup d_Sc_init_30 rfl ?_
  refine ct_init (q := q + 4) (bc' := 0) (bs' := 0) (As := []) d_Sc_init_31 cs_Sc_init_27 rfl rfl rfl (Nat.le_of_ble_eq_true rfl) T7 ha (by rw [hq]; rfl) (c_Pt_init (q := q + 5) L7 (by rw [← hq]; exact T7.2.2.1 4 _ rfl) (by omega)) rfl (by decide) (by decide) (fun M8 T8 => ?_)
  refine ct_put (k := 3) d_Sc_init_34 fp_Sc_28 (fun _ => rfl) T8 ha rfl rfl (Nat.le_of_ble_eq_true rfl) rfl (fun M9 T9 => ?_)
  refine sm_aload_n d_Sc_init_37 rfl (j := 0) rfl ?_
  refine sm_aload_n d_Sc_init_38 rfl (j := 1) rfl ?_
  refine ct_put (k := 0) d_Sc_init_39 fp_Sc_32 (fun _ => rfl) T9 ha rfl rfl (Nat.le_of_ble_eq_true rfl) rfl (fun M10 T10 => ?_)
  exact sm_return d_Sc_init_42 rfl ⟨rfl, T10⟩

set_option maxHeartbeats 4000000 in
set_option maxRecDepth 100000 in
theorem c_Md_init {G : sm_G} {M : sm_M} {a q : Nat} (hq : M.2 = q) (hm : M.1 a = some (.inr (10, [.int 0, .null, .int 0, .int 0, .null, .null, .null, .null, .int 0, .int 0, .int 0, .int 0, .int 0, .null, .null, .null, .null, .int 0, .null, .null, .int 0, .int 0, .int 0, .int 0, .null, .null, .null, .null, .int 0, .null, .null, .null, .null, .null, .int 0, .int 0, .int 0]))) (ha : a < M.2) : sm_C G mf_Md_init [.ref a] M 20 135816 (ct_P M a (.inr (10, [.int 0, .ref (q), .int 0, .int 0, .ref (q + 1), .ref (q + 2), .ref (q + 3), .ref (q + 4), .int 0, .int (1), .int 0, .int 0, .int 0, .ref (q + 5), .ref (q + 6), .ref (q + 7), .ref (q + 8), .int 0, .ref (q + 9), .ref (q + 10), .int 0, .int 0, .int (-1), .int 0, .ref (q + 11), .ref (q + 12), .ref (q + 13), .ref (q + 14), .int 0, .ref (q + 15), .ref (q + 16), .ref (q + 17), .ref (q + 18), .ref (q + 19), .int 0, .int 0, .int 0])) [.inl (G.2.1 1, 8, .inl fun _ => 0), .inl (G.2.1 1, 16, .inl fun _ => 0), .inl (G.2.1 1, 16, .inl fun _ => 0), .inl (G.2.1 1, 16, .inl fun _ => 0), .inl (G.2.1 1, 16, .inl fun _ => 0), .inl (G.2.1 1, 128, .inl fun _ => 0), .inl (G.2.1 1, 528, .inl fun _ => 0), .inl (G.2.1 1, 528, .inl fun _ => 0), .inl (G.2.1 1, 1552, .inl fun _ => 0), .inl (G.2.1 1, 192, .inl fun _ => 0), .inl (G.2.1 1, 65536, .inl fun _ => 0), .inl (G.2.1 1, 16500, .inl fun _ => 0), .inl (G.2.1 1, 16500, .inl fun _ => 0), .inl (G.2.1 1, 16500, .inl fun _ => 0), .inl (G.2.1 1, 16500, .inl fun _ => 0), .inl (G.2.1 1, 256, .inl fun _ => 0), .inl (G.2.1 1, 256, .inl fun _ => 0), .inl (G.2.1 1, 256, .inl fun _ => 0), .inl (G.2.1 1, 256, .inl fun _ => 0), .inl (G.2.1 1, 256, .inl fun _ => 0)]) := by
  refine sm_ofW rfl (Nat.le_of_ble_eq_true rfl) ?_
  have T0 := ct_0 hm
  refine sm_aload_n d_Md_init_0 rfl (j := 0) rfl ?_
  refine sm_objInit d_Md_init_1 oi_Md (Nat.le_of_ble_eq_true rfl) (Nat.le_of_ble_eq_true rfl) ?_
  refine sm_aload_n d_Md_init_4 rfl (j := 0) rfl ?_
  refine sm_bipush (v := 8) d_Md_init_5 (by decide) ?_
  refine ct_int (cs2 := [.inl (G.2.1 1, 8, .inl fun _ => 0)]) (q := q) (bc' := 19) (bs' := 135808) (N' := 8) d_Md_init_7 T0 ha (by rw [hq]; rfl) rfl (by decide) (by decide) (by decide) (by decide) (by decide) (fun M1 T1 => ?_)
  refine ct_put (k := 1) (fs2 := [.int 0, .ref (q), .int 0, .int 0, .null, .null, .null, .null, .int 0, .int 0, .int 0, .int 0, .int 0, .null, .null, .null, .null, .int 0, .null, .null, .int 0, .int 0, .int 0, .int 0, .null, .null, .null, .null, .int 0, .null, .null, .null, .null, .null, .int 0, .int 0, .int 0]) d_Md_init_9 fp_Md_7 (fun _ => rfl) T1 ha rfl rfl (Nat.le_of_ble_eq_true rfl) rfl (fun M2 T2 => ?_)
  refine sm_aload_n d_Md_init_12 rfl (j := 0) rfl ?_
  refine sm_bipush (v := 16) d_Md_init_13 (by decide) ?_
  refine ct_int (cs2 := [.inl (G.2.1 1, 8, .inl fun _ => 0), .inl (G.2.1 1, 16, .inl fun _ => 0)]) (q := q + 1) (bc' := 18) (bs' := 135792) (N' := 16) d_Md_init_15 T2 ha (by rw [hq]; rfl) rfl (by decide) (by decide) (by decide) (by decide) (by decide) (fun M3 T3 => ?_)
  refine ct_put (k := 4) (fs2 := [.int 0, .ref (q), .int 0, .int 0, .ref (q + 1), .null, .null, .null, .int 0, .int 0, .int 0, .int 0, .int 0, .null, .null, .null, .null, .int 0, .null, .null, .int 0, .int 0, .int 0, .int 0, .null, .null, .null, .null, .int 0, .null, .null, .null, .null, .null, .int 0, .int 0, .int 0]) d_Md_init_17 fp_Md_13 (fun _ => rfl) T3 ha rfl rfl (Nat.le_of_ble_eq_true rfl) rfl (fun M4 T4 => ?_)
  refine sm_aload_n d_Md_init_20 rfl (j := 0) rfl ?_
  refine sm_bipush (v := 16) d_Md_init_21 (by decide) ?_
  refine ct_int (cs2 := [.inl (G.2.1 1, 8, .inl fun _ => 0), .inl (G.2.1 1, 16, .inl fun _ => 0), .inl (G.2.1 1, 16, .inl fun _ => 0)]) (q := q + 2) (bc' := 17) (bs' := 135776) (N' := 16) d_Md_init_23 T4 ha (by rw [hq]; rfl) rfl (by decide) (by decide) (by decide) (by decide) (by decide) (fun M5 T5 => ?_)
  refine ct_put (k := 5) (fs2 := [.int 0, .ref (q), .int 0, .int 0, .ref (q + 1), .ref (q + 2), .null, .null, .int 0, .int 0, .int 0, .int 0, .int 0, .null, .null, .null, .null, .int 0, .null, .null, .int 0, .int 0, .int 0, .int 0, .null, .null, .null, .null, .int 0, .null, .null, .null, .null, .null, .int 0, .int 0, .int 0]) d_Md_init_25 fp_Md_16 (fun _ => rfl) T5 ha rfl rfl (Nat.le_of_ble_eq_true rfl) rfl (fun M6 T6 => ?_)
  refine sm_aload_n d_Md_init_28 rfl (j := 0) rfl ?_
  refine sm_bipush (v := 16) d_Md_init_29 (by decide) ?_
  refine ct_int (cs2 := [.inl (G.2.1 1, 8, .inl fun _ => 0), .inl (G.2.1 1, 16, .inl fun _ => 0), .inl (G.2.1 1, 16, .inl fun _ => 0), .inl (G.2.1 1, 16, .inl fun _ => 0)]) (q := q + 3) (bc' := 16) (bs' := 135760) (N' := 16) d_Md_init_31 T6 ha (by rw [hq]; rfl) rfl (by decide) (by decide) (by decide) (by decide) (by decide) (fun M7 T7 => ?_)
  refine ct_put (k := 6) (fs2 := [.int 0, .ref (q), .int 0, .int 0, .ref (q + 1), .ref (q + 2), .ref (q + 3), .null, .int 0, .int 0, .int 0, .int 0, .int 0, .null, .null, .null, .null, .int 0, .null, .null, .int 0, .int 0, .int 0, .int 0, .null, .null, .null, .null, .int 0, .null, .null, .null, .null, .null, .int 0, .int 0, .int 0]) d_Md_init_33 fp_Md_19 (fun _ => rfl) T7 ha rfl rfl (Nat.le_of_ble_eq_true rfl) rfl (fun M8 T8 => ?_)
  refine sm_aload_n d_Md_init_36 rfl (j := 0) rfl ?_
  refine sm_bipush (v := 16) d_Md_init_37 (by decide) ?_
  refine ct_int (cs2 := [.inl (G.2.1 1, 8, .inl fun _ => 0), .inl (G.2.1 1, 16, .inl fun _ => 0), .inl (G.2.1 1, 16, .inl fun _ => 0), .inl (G.2.1 1, 16, .inl fun _ => 0), .inl (G.2.1 1, 16, .inl fun _ => 0)]) (q := q + 4) (bc' := 15) (bs' := 135744) (N' := 16) d_Md_init_39 T8 ha (by rw [hq]; rfl) rfl (by decide) (by decide) (by decide) (by decide) (by decide) (fun M9 T9 => ?_)
  refine ct_put (k := 7) (fs2 := [.int 0, .ref (q), .int 0, .int 0, .ref (q + 1), .ref (q + 2), .ref (q + 3), .ref (q + 4), .int 0, .int 0, .int 0, .int 0, .int 0, .null, .null, .null, .null, .int 0, .null, .null, .int 0, .int 0, .int 0, .int 0, .null, .null, .null, .null, .int 0, .null, .null, .null, .null, .null, .int 0, .int 0, .int 0]) d_Md_init_41 fp_Md_22 (fun _ => rfl) T9 ha rfl rfl (Nat.le_of_ble_eq_true rfl) rfl (fun M10 T10 => ?_)
  refine sm_aload_n d_Md_init_44 rfl (j := 0) rfl ?_
  refine sm_iconst (v := 1) d_Md_init_45 (by decide) ?_
  refine ct_put (k := 9) (fs2 := [.int 0, .ref (q), .int 0, .int 0, .ref (q + 1), .ref (q + 2), .ref (q + 3), .ref (q + 4), .int 0, .int (1), .int 0, .int 0, .int 0, .null, .null, .null, .null, .int 0, .null, .null, .int 0, .int 0, .int 0, .int 0, .null, .null, .null, .null, .int 0, .null, .null, .null, .null, .null, .int 0, .int 0, .int 0]) d_Md_init_46 fp_Md_25 (fun _ => rfl) T10 ha rfl rfl (Nat.le_of_ble_eq_true rfl) rfl (fun M11 T11 => ?_)
  refine sm_aload_n d_Md_init_49 rfl (j := 0) rfl ?_
  refine sm_sipush (v := 128) d_Md_init_50 (by decide) ?_
  refine ct_int (cs2 := [.inl (G.2.1 1, 8, .inl fun _ => 0), .inl (G.2.1 1, 16, .inl fun _ => 0), .inl (G.2.1 1, 16, .inl fun _ => 0), .inl (G.2.1 1, 16, .inl fun _ => 0), .inl (G.2.1 1, 16, .inl fun _ => 0), .inl (G.2.1 1, 128, .inl fun _ => 0)]) (q := q + 5) (bc' := 14) (bs' := 135616) (N' := 128) d_Md_init_53 T11 ha (by rw [hq]; rfl) rfl (by decide) (by decide) (by decide) (by decide) (by decide) (fun M12 T12 => ?_)
  refine ct_put (k := 13) (fs2 := [.int 0, .ref (q), .int 0, .int 0, .ref (q + 1), .ref (q + 2), .ref (q + 3), .ref (q + 4), .int 0, .int (1), .int 0, .int 0, .int 0, .ref (q + 5), .null, .null, .null, .int 0, .null, .null, .int 0, .int 0, .int 0, .int 0, .null, .null, .null, .null, .int 0, .null, .null, .null, .null, .null, .int 0, .int 0, .int 0]) d_Md_init_55 fp_Md_29 (fun _ => rfl) T12 ha rfl rfl (Nat.le_of_ble_eq_true rfl) rfl (fun M13 T13 => ?_)
  refine sm_aload_n d_Md_init_58 rfl (j := 0) rfl ?_
  refine sm_sipush (v := 528) d_Md_init_59 (by decide) ?_
  refine ct_int (cs2 := [.inl (G.2.1 1, 8, .inl fun _ => 0), .inl (G.2.1 1, 16, .inl fun _ => 0), .inl (G.2.1 1, 16, .inl fun _ => 0), .inl (G.2.1 1, 16, .inl fun _ => 0), .inl (G.2.1 1, 16, .inl fun _ => 0), .inl (G.2.1 1, 128, .inl fun _ => 0), .inl (G.2.1 1, 528, .inl fun _ => 0)]) (q := q + 6) (bc' := 13) (bs' := 135088) (N' := 528) d_Md_init_62 T13 ha (by rw [hq]; rfl) rfl (by decide) (by decide) (by decide) (by decide) (by decide) (fun M14 T14 => ?_)
  refine ct_put (k := 14) (fs2 := [.int 0, .ref (q), .int 0, .int 0, .ref (q + 1), .ref (q + 2), .ref (q + 3), .ref (q + 4), .int 0, .int (1), .int 0, .int 0, .int 0, .ref (q + 5), .ref (q + 6), .null, .null, .int 0, .null, .null, .int 0, .int 0, .int 0, .int 0, .null, .null, .null, .null, .int 0, .null, .null, .null, .null, .null, .int 0, .int 0, .int 0]) d_Md_init_64 fp_Md_32 (fun _ => rfl) T14 ha rfl rfl (Nat.le_of_ble_eq_true rfl) rfl (fun M15 T15 => ?_)
  refine sm_aload_n d_Md_init_67 rfl (j := 0) rfl ?_
  refine sm_sipush (v := 528) d_Md_init_68 (by decide) ?_
  refine ct_int (cs2 := [.inl (G.2.1 1, 8, .inl fun _ => 0), .inl (G.2.1 1, 16, .inl fun _ => 0), .inl (G.2.1 1, 16, .inl fun _ => 0), .inl (G.2.1 1, 16, .inl fun _ => 0), .inl (G.2.1 1, 16, .inl fun _ => 0), .inl (G.2.1 1, 128, .inl fun _ => 0), .inl (G.2.1 1, 528, .inl fun _ => 0), .inl (G.2.1 1, 528, .inl fun _ => 0)]) (q := q + 7) (bc' := 12) (bs' := 134560) (N' := 528) d_Md_init_71 T15 ha (by rw [hq]; rfl) rfl (by decide) (by decide) (by decide) (by decide) (by decide) (fun M16 T16 => ?_)
  refine ct_put (k := 15) (fs2 := [.int 0, .ref (q), .int 0, .int 0, .ref (q + 1), .ref (q + 2), .ref (q + 3), .ref (q + 4), .int 0, .int (1), .int 0, .int 0, .int 0, .ref (q + 5), .ref (q + 6), .ref (q + 7), .null, .int 0, .null, .null, .int 0, .int 0, .int 0, .int 0, .null, .null, .null, .null, .int 0, .null, .null, .null, .null, .null, .int 0, .int 0, .int 0]) d_Md_init_73 fp_Md_35 (fun _ => rfl) T16 ha rfl rfl (Nat.le_of_ble_eq_true rfl) rfl (fun M17 T17 => ?_)
  refine sm_aload_n d_Md_init_76 rfl (j := 0) rfl ?_
  refine sm_sipush (v := 1552) d_Md_init_77 (by decide) ?_
  refine ct_int (cs2 := [.inl (G.2.1 1, 8, .inl fun _ => 0), .inl (G.2.1 1, 16, .inl fun _ => 0), .inl (G.2.1 1, 16, .inl fun _ => 0), .inl (G.2.1 1, 16, .inl fun _ => 0), .inl (G.2.1 1, 16, .inl fun _ => 0), .inl (G.2.1 1, 128, .inl fun _ => 0), .inl (G.2.1 1, 528, .inl fun _ => 0), .inl (G.2.1 1, 528, .inl fun _ => 0), .inl (G.2.1 1, 1552, .inl fun _ => 0)]) (q := q + 8) (bc' := 11) (bs' := 133008) (N' := 1552) d_Md_init_80 T17 ha (by rw [hq]; rfl) rfl (by decide) (by decide) (by decide) (by decide) (by decide) (fun M18 T18 => ?_)
  refine ct_put (k := 16) (fs2 := [.int 0, .ref (q), .int 0, .int 0, .ref (q + 1), .ref (q + 2), .ref (q + 3), .ref (q + 4), .int 0, .int (1), .int 0, .int 0, .int 0, .ref (q + 5), .ref (q + 6), .ref (q + 7), .ref (q + 8), .int 0, .null, .null, .int 0, .int 0, .int 0, .int 0, .null, .null, .null, .null, .int 0, .null, .null, .null, .null, .null, .int 0, .int 0, .int 0]) d_Md_init_82 fp_Md_38 (fun _ => rfl) T18 ha rfl rfl (Nat.le_of_ble_eq_true rfl) rfl (fun M19 T19 => ?_)
  refine sm_aload_n d_Md_init_85 rfl (j := 0) rfl ?_
  refine sm_sipush (v := 192) d_Md_init_86 (by decide) ?_
  refine ct_int (cs2 := [.inl (G.2.1 1, 8, .inl fun _ => 0), .inl (G.2.1 1, 16, .inl fun _ => 0), .inl (G.2.1 1, 16, .inl fun _ => 0), .inl (G.2.1 1, 16, .inl fun _ => 0), .inl (G.2.1 1, 16, .inl fun _ => 0), .inl (G.2.1 1, 128, .inl fun _ => 0), .inl (G.2.1 1, 528, .inl fun _ => 0), .inl (G.2.1 1, 528, .inl fun _ => 0), .inl (G.2.1 1, 1552, .inl fun _ => 0), .inl (G.2.1 1, 192, .inl fun _ => 0)]) (q := q + 9) (bc' := 10) (bs' := 132816) (N' := 192) d_Md_init_89 T19 ha (by rw [hq]; rfl) rfl (by decide) (by decide) (by decide) (by decide) (by decide) (fun M20 T20 => ?_)
  refine ct_put (k := 18) (fs2 := [.int 0, .ref (q), .int 0, .int 0, .ref (q + 1), .ref (q + 2), .ref (q + 3), .ref (q + 4), .int 0, .int (1), .int 0, .int 0, .int 0, .ref (q + 5), .ref (q + 6), .ref (q + 7), .ref (q + 8), .int 0, .ref (q + 9), .null, .int 0, .int 0, .int 0, .int 0, .null, .null, .null, .null, .int 0, .null, .null, .null, .null, .null, .int 0, .int 0, .int 0]) d_Md_init_91 fp_Md_41 (fun _ => rfl) T20 ha rfl rfl (Nat.le_of_ble_eq_true rfl) rfl (fun M21 T21 => ?_)
  refine sm_aload_n d_Md_init_94 rfl (j := 0) rfl ?_
  refine sm_ldc d_Md_init_95 mw_1192 ?_
  refine ct_int (cs2 := [.inl (G.2.1 1, 8, .inl fun _ => 0), .inl (G.2.1 1, 16, .inl fun _ => 0), .inl (G.2.1 1, 16, .inl fun _ => 0), .inl (G.2.1 1, 16, .inl fun _ => 0), .inl (G.2.1 1, 16, .inl fun _ => 0), .inl (G.2.1 1, 128, .inl fun _ => 0), .inl (G.2.1 1, 528, .inl fun _ => 0), .inl (G.2.1 1, 528, .inl fun _ => 0), .inl (G.2.1 1, 1552, .inl fun _ => 0), .inl (G.2.1 1, 192, .inl fun _ => 0), .inl (G.2.1 1, 65536, .inl fun _ => 0)]) (q := q + 10) (bc' := 9) (bs' := 67280) (N' := 65536) d_Md_init_97 T21 ha (by rw [hq]; rfl) rfl (by decide) (by decide) (by decide) (by decide) (by decide) (fun M22 T22 => ?_)
  refine ct_put (k := 19) (fs2 := [.int 0, .ref (q), .int 0, .int 0, .ref (q + 1), .ref (q + 2), .ref (q + 3), .ref (q + 4), .int 0, .int (1), .int 0, .int 0, .int 0, .ref (q + 5), .ref (q + 6), .ref (q + 7), .ref (q + 8), .int 0, .ref (q + 9), .ref (q + 10), .int 0, .int 0, .int 0, .int 0, .null, .null, .null, .null, .int 0, .null, .null, .null, .null, .null, .int 0, .int 0, .int 0]) d_Md_init_99 fp_Md_45 (fun _ => rfl) T22 ha rfl rfl (Nat.le_of_ble_eq_true rfl) rfl (fun M23 T23 => ?_)
  refine sm_aload_n d_Md_init_102 rfl (j := 0) rfl ?_
  refine sm_iconst (v := -1) d_Md_init_103 (by decide) ?_
  refine ct_put (k := 22) (fs2 := [.int 0, .ref (q), .int 0, .int 0, .ref (q + 1), .ref (q + 2), .ref (q + 3), .ref (q + 4), .int 0, .int (1), .int 0, .int 0, .int 0, .ref (q + 5), .ref (q + 6), .ref (q + 7), .ref (q + 8), .int 0, .ref (q + 9), .ref (q + 10), .int 0, .int 0, .int (-1), .int 0, .null, .null, .null, .null, .int 0, .null, .null, .null, .null, .null, .int 0, .int 0, .int 0]) d_Md_init_104 fp_Md_48 (fun _ => rfl) T23 ha rfl rfl (Nat.le_of_ble_eq_true rfl) rfl (fun M24 T24 => ?_)
  refine sm_aload_n d_Md_init_107 rfl (j := 0) rfl ?_
  refine sm_sipush (v := 16500) d_Md_init_108 (by decide) ?_
  refine ct_int (cs2 := [.inl (G.2.1 1, 8, .inl fun _ => 0), .inl (G.2.1 1, 16, .inl fun _ => 0), .inl (G.2.1 1, 16, .inl fun _ => 0), .inl (G.2.1 1, 16, .inl fun _ => 0), .inl (G.2.1 1, 16, .inl fun _ => 0), .inl (G.2.1 1, 128, .inl fun _ => 0), .inl (G.2.1 1, 528, .inl fun _ => 0), .inl (G.2.1 1, 528, .inl fun _ => 0), .inl (G.2.1 1, 1552, .inl fun _ => 0), .inl (G.2.1 1, 192, .inl fun _ => 0), .inl (G.2.1 1, 65536, .inl fun _ => 0), .inl (G.2.1 1, 16500, .inl fun _ => 0)]) (q := q + 11) (bc' := 8) (bs' := 50780) (N' := 16500) d_Md_init_111 T24 ha (by rw [hq]; rfl) rfl (by decide) (by decide) (by decide) (by decide) (by decide) (fun M25 T25 => ?_)
  refine ct_put (k := 24) (fs2 := [.int 0, .ref (q), .int 0, .int 0, .ref (q + 1), .ref (q + 2), .ref (q + 3), .ref (q + 4), .int 0, .int (1), .int 0, .int 0, .int 0, .ref (q + 5), .ref (q + 6), .ref (q + 7), .ref (q + 8), .int 0, .ref (q + 9), .ref (q + 10), .int 0, .int 0, .int (-1), .int 0, .ref (q + 11), .null, .null, .null, .int 0, .null, .null, .null, .null, .null, .int 0, .int 0, .int 0]) d_Md_init_113 fp_Md_51 (fun _ => rfl) T25 ha rfl rfl (Nat.le_of_ble_eq_true rfl) rfl (fun M26 T26 => ?_)
  refine sm_aload_n d_Md_init_116 rfl (j := 0) rfl ?_
  refine sm_sipush (v := 16500) d_Md_init_117 (by decide) ?_
  refine ct_int (cs2 := [.inl (G.2.1 1, 8, .inl fun _ => 0), .inl (G.2.1 1, 16, .inl fun _ => 0), .inl (G.2.1 1, 16, .inl fun _ => 0), .inl (G.2.1 1, 16, .inl fun _ => 0), .inl (G.2.1 1, 16, .inl fun _ => 0), .inl (G.2.1 1, 128, .inl fun _ => 0), .inl (G.2.1 1, 528, .inl fun _ => 0), .inl (G.2.1 1, 528, .inl fun _ => 0), .inl (G.2.1 1, 1552, .inl fun _ => 0), .inl (G.2.1 1, 192, .inl fun _ => 0), .inl (G.2.1 1, 65536, .inl fun _ => 0), .inl (G.2.1 1, 16500, .inl fun _ => 0), .inl (G.2.1 1, 16500, .inl fun _ => 0)]) (q := q + 12) (bc' := 7) (bs' := 34280) (N' := 16500) d_Md_init_120 T26 ha (by rw [hq]; rfl) rfl (by decide) (by decide) (by decide) (by decide) (by decide) (fun M27 T27 => ?_)
  refine ct_put (k := 25) (fs2 := [.int 0, .ref (q), .int 0, .int 0, .ref (q + 1), .ref (q + 2), .ref (q + 3), .ref (q + 4), .int 0, .int (1), .int 0, .int 0, .int 0, .ref (q + 5), .ref (q + 6), .ref (q + 7), .ref (q + 8), .int 0, .ref (q + 9), .ref (q + 10), .int 0, .int 0, .int (-1), .int 0, .ref (q + 11), .ref (q + 12), .null, .null, .int 0, .null, .null, .null, .null, .null, .int 0, .int 0, .int 0]) d_Md_init_122 fp_Md_54 (fun _ => rfl) T27 ha rfl rfl (Nat.le_of_ble_eq_true rfl) rfl (fun M28 T28 => ?_)
  refine sm_aload_n d_Md_init_125 rfl (j := 0) rfl ?_
  refine sm_sipush (v := 16500) d_Md_init_126 (by decide) ?_
  refine ct_int (cs2 := [.inl (G.2.1 1, 8, .inl fun _ => 0), .inl (G.2.1 1, 16, .inl fun _ => 0), .inl (G.2.1 1, 16, .inl fun _ => 0), .inl (G.2.1 1, 16, .inl fun _ => 0), .inl (G.2.1 1, 16, .inl fun _ => 0), .inl (G.2.1 1, 128, .inl fun _ => 0), .inl (G.2.1 1, 528, .inl fun _ => 0), .inl (G.2.1 1, 528, .inl fun _ => 0), .inl (G.2.1 1, 1552, .inl fun _ => 0), .inl (G.2.1 1, 192, .inl fun _ => 0), .inl (G.2.1 1, 65536, .inl fun _ => 0), .inl (G.2.1 1, 16500, .inl fun _ => 0), .inl (G.2.1 1, 16500, .inl fun _ => 0), .inl (G.2.1 1, 16500, .inl fun _ => 0)]) (q := q + 13) (bc' := 6) (bs' := 17780) (N' := 16500) d_Md_init_129 T28 ha (by rw [hq]; rfl) rfl (by decide) (by decide) (by decide) (by decide) (by decide) (fun M29 T29 => ?_)
  refine ct_put (k := 26) (fs2 := [.int 0, .ref (q), .int 0, .int 0, .ref (q + 1), .ref (q + 2), .ref (q + 3), .ref (q + 4), .int 0, .int (1), .int 0, .int 0, .int 0, .ref (q + 5), .ref (q + 6), .ref (q + 7), .ref (q + 8), .int 0, .ref (q + 9), .ref (q + 10), .int 0, .int 0, .int (-1), .int 0, .ref (q + 11), .ref (q + 12), .ref (q + 13), .null, .int 0, .null, .null, .null, .null, .null, .int 0, .int 0, .int 0]) d_Md_init_131 fp_Md_57 (fun _ => rfl) T29 ha rfl rfl (Nat.le_of_ble_eq_true rfl) rfl (fun M30 T30 => ?_)
  refine sm_aload_n d_Md_init_134 rfl (j := 0) rfl ?_
  refine sm_sipush (v := 16500) d_Md_init_135 (by decide) ?_
  refine ct_int (cs2 := [.inl (G.2.1 1, 8, .inl fun _ => 0), .inl (G.2.1 1, 16, .inl fun _ => 0), .inl (G.2.1 1, 16, .inl fun _ => 0), .inl (G.2.1 1, 16, .inl fun _ => 0), .inl (G.2.1 1, 16, .inl fun _ => 0), .inl (G.2.1 1, 128, .inl fun _ => 0), .inl (G.2.1 1, 528, .inl fun _ => 0), .inl (G.2.1 1, 528, .inl fun _ => 0), .inl (G.2.1 1, 1552, .inl fun _ => 0), .inl (G.2.1 1, 192, .inl fun _ => 0), .inl (G.2.1 1, 65536, .inl fun _ => 0), .inl (G.2.1 1, 16500, .inl fun _ => 0), .inl (G.2.1 1, 16500, .inl fun _ => 0), .inl (G.2.1 1, 16500, .inl fun _ => 0), .inl (G.2.1 1, 16500, .inl fun _ => 0)]) (q := q + 14) (bc' := 5) (bs' := 1280) (N' := 16500) d_Md_init_138 T30 ha (by rw [hq]; rfl) rfl (by decide) (by decide) (by decide) (by decide) (by decide) (fun M31 T31 => ?_)
  refine ct_put (k := 27) (fs2 := [.int 0, .ref (q), .int 0, .int 0, .ref (q + 1), .ref (q + 2), .ref (q + 3), .ref (q + 4), .int 0, .int (1), .int 0, .int 0, .int 0, .ref (q + 5), .ref (q + 6), .ref (q + 7), .ref (q + 8), .int 0, .ref (q + 9), .ref (q + 10), .int 0, .int 0, .int (-1), .int 0, .ref (q + 11), .ref (q + 12), .ref (q + 13), .ref (q + 14), .int 0, .null, .null, .null, .null, .null, .int 0, .int 0, .int 0]) d_Md_init_140 fp_Md_60 (fun _ => rfl) T31 ha rfl rfl (Nat.le_of_ble_eq_true rfl) rfl (fun M32 T32 => ?_)
  refine sm_aload_n d_Md_init_143 rfl (j := 0) rfl ?_
  refine sm_sipush (v := 256) d_Md_init_144 (by decide) ?_
  refine ct_int (cs2 := [.inl (G.2.1 1, 8, .inl fun _ => 0), .inl (G.2.1 1, 16, .inl fun _ => 0), .inl (G.2.1 1, 16, .inl fun _ => 0), .inl (G.2.1 1, 16, .inl fun _ => 0), .inl (G.2.1 1, 16, .inl fun _ => 0), .inl (G.2.1 1, 128, .inl fun _ => 0), .inl (G.2.1 1, 528, .inl fun _ => 0), .inl (G.2.1 1, 528, .inl fun _ => 0), .inl (G.2.1 1, 1552, .inl fun _ => 0), .inl (G.2.1 1, 192, .inl fun _ => 0), .inl (G.2.1 1, 65536, .inl fun _ => 0), .inl (G.2.1 1, 16500, .inl fun _ => 0), .inl (G.2.1 1, 16500, .inl fun _ => 0), .inl (G.2.1 1, 16500, .inl fun _ => 0), .inl (G.2.1 1, 16500, .inl fun _ => 0), .inl (G.2.1 1, 256, .inl fun _ => 0)]) (q := q + 15) (bc' := 4) (bs' := 1024) (N' := 256) d_Md_init_147 T32 ha (by rw [hq]; rfl) rfl (by decide) (by decide) (by decide) (by decide) (by decide) (fun M33 T33 => ?_)
  refine ct_put (k := 29) (fs2 := [.int 0, .ref (q), .int 0, .int 0, .ref (q + 1), .ref (q + 2), .ref (q + 3), .ref (q + 4), .int 0, .int (1), .int 0, .int 0, .int 0, .ref (q + 5), .ref (q + 6), .ref (q + 7), .ref (q + 8), .int 0, .ref (q + 9), .ref (q + 10), .int 0, .int 0, .int (-1), .int 0, .ref (q + 11), .ref (q + 12), .ref (q + 13), .ref (q + 14), .int 0, .ref (q + 15), .null, .null, .null, .null, .int 0, .int 0, .int 0]) d_Md_init_149 fp_Md_63 (fun _ => rfl) T33 ha rfl rfl (Nat.le_of_ble_eq_true rfl) rfl (fun M34 T34 => ?_)
  refine sm_aload_n d_Md_init_152 rfl (j := 0) rfl ?_
  refine sm_sipush (v := 256) d_Md_init_153 (by decide) ?_
  refine ct_int (cs2 := [.inl (G.2.1 1, 8, .inl fun _ => 0), .inl (G.2.1 1, 16, .inl fun _ => 0), .inl (G.2.1 1, 16, .inl fun _ => 0), .inl (G.2.1 1, 16, .inl fun _ => 0), .inl (G.2.1 1, 16, .inl fun _ => 0), .inl (G.2.1 1, 128, .inl fun _ => 0), .inl (G.2.1 1, 528, .inl fun _ => 0), .inl (G.2.1 1, 528, .inl fun _ => 0), .inl (G.2.1 1, 1552, .inl fun _ => 0), .inl (G.2.1 1, 192, .inl fun _ => 0), .inl (G.2.1 1, 65536, .inl fun _ => 0), .inl (G.2.1 1, 16500, .inl fun _ => 0), .inl (G.2.1 1, 16500, .inl fun _ => 0), .inl (G.2.1 1, 16500, .inl fun _ => 0), .inl (G.2.1 1, 16500, .inl fun _ => 0), .inl (G.2.1 1, 256, .inl fun _ => 0), .inl (G.2.1 1, 256, .inl fun _ => 0)]) (q := q + 16) (bc' := 3) (bs' := 768) (N' := 256) d_Md_init_156 T34 ha (by rw [hq]; rfl) rfl (by decide) (by decide) (by decide) (by decide) (by decide) (fun M35 T35 => ?_)
  refine ct_put (k := 30) (fs2 := [.int 0, .ref (q), .int 0, .int 0, .ref (q + 1), .ref (q + 2), .ref (q + 3), .ref (q + 4), .int 0, .int (1), .int 0, .int 0, .int 0, .ref (q + 5), .ref (q + 6), .ref (q + 7), .ref (q + 8), .int 0, .ref (q + 9), .ref (q + 10), .int 0, .int 0, .int (-1), .int 0, .ref (q + 11), .ref (q + 12), .ref (q + 13), .ref (q + 14), .int 0, .ref (q + 15), .ref (q + 16), .null, .null, .null, .int 0, .int 0, .int 0]) d_Md_init_158 fp_Md_66 (fun _ => rfl) T35 ha rfl rfl (Nat.le_of_ble_eq_true rfl) rfl (fun M36 T36 => ?_)
  refine sm_aload_n d_Md_init_161 rfl (j := 0) rfl ?_
  refine sm_sipush (v := 256) d_Md_init_162 (by decide) ?_
  refine ct_int (cs2 := [.inl (G.2.1 1, 8, .inl fun _ => 0), .inl (G.2.1 1, 16, .inl fun _ => 0), .inl (G.2.1 1, 16, .inl fun _ => 0), .inl (G.2.1 1, 16, .inl fun _ => 0), .inl (G.2.1 1, 16, .inl fun _ => 0), .inl (G.2.1 1, 128, .inl fun _ => 0), .inl (G.2.1 1, 528, .inl fun _ => 0), .inl (G.2.1 1, 528, .inl fun _ => 0), .inl (G.2.1 1, 1552, .inl fun _ => 0), .inl (G.2.1 1, 192, .inl fun _ => 0), .inl (G.2.1 1, 65536, .inl fun _ => 0), .inl (G.2.1 1, 16500, .inl fun _ => 0), .inl (G.2.1 1, 16500, .inl fun _ => 0), .inl (G.2.1 1, 16500, .inl fun _ => 0), .inl (G.2.1 1, 16500, .inl fun _ => 0), .inl (G.2.1 1, 256, .inl fun _ => 0), .inl (G.2.1 1, 256, .inl fun _ => 0), .inl (G.2.1 1, 256, .inl fun _ => 0)]) (q := q + 17) (bc' := 2) (bs' := 512) (N' := 256) d_Md_init_165 T36 ha (by rw [hq]; rfl) rfl (by decide) (by decide) (by decide) (by decide) (by decide) (fun M37 T37 => ?_)
  refine ct_put (k := 31) (fs2 := [.int 0, .ref (q), .int 0, .int 0, .ref (q + 1), .ref (q + 2), .ref (q + 3), .ref (q + 4), .int 0, .int (1), .int 0, .int 0, .int 0, .ref (q + 5), .ref (q + 6), .ref (q + 7), .ref (q + 8), .int 0, .ref (q + 9), .ref (q + 10), .int 0, .int 0, .int (-1), .int 0, .ref (q + 11), .ref (q + 12), .ref (q + 13), .ref (q + 14), .int 0, .ref (q + 15), .ref (q + 16), .ref (q + 17), .null, .null, .int 0, .int 0, .int 0]) d_Md_init_167 fp_Md_69 (fun _ => rfl) T37 ha rfl rfl (Nat.le_of_ble_eq_true rfl) rfl (fun M38 T38 => ?_)
  refine sm_aload_n d_Md_init_170 rfl (j := 0) rfl ?_
  refine sm_sipush (v := 256) d_Md_init_171 (by decide) ?_
  refine ct_int (cs2 := [.inl (G.2.1 1, 8, .inl fun _ => 0), .inl (G.2.1 1, 16, .inl fun _ => 0), .inl (G.2.1 1, 16, .inl fun _ => 0), .inl (G.2.1 1, 16, .inl fun _ => 0), .inl (G.2.1 1, 16, .inl fun _ => 0), .inl (G.2.1 1, 128, .inl fun _ => 0), .inl (G.2.1 1, 528, .inl fun _ => 0), .inl (G.2.1 1, 528, .inl fun _ => 0), .inl (G.2.1 1, 1552, .inl fun _ => 0), .inl (G.2.1 1, 192, .inl fun _ => 0), .inl (G.2.1 1, 65536, .inl fun _ => 0), .inl (G.2.1 1, 16500, .inl fun _ => 0), .inl (G.2.1 1, 16500, .inl fun _ => 0), .inl (G.2.1 1, 16500, .inl fun _ => 0), .inl (G.2.1 1, 16500, .inl fun _ => 0), .inl (G.2.1 1, 256, .inl fun _ => 0), .inl (G.2.1 1, 256, .inl fun _ => 0), .inl (G.2.1 1, 256, .inl fun _ => 0), .inl (G.2.1 1, 256, .inl fun _ => 0)]) (q := q + 18) (bc' := 1) (bs' := 256) (N' := 256) d_Md_init_174 T38 ha (by rw [hq]; rfl) rfl (by decide) (by decide) (by decide) (by decide) (by decide) (fun M39 T39 => ?_)
  refine ct_put (k := 32) (fs2 := [.int 0, .ref (q), .int 0, .int 0, .ref (q + 1), .ref (q + 2), .ref (q + 3), .ref (q + 4), .int 0, .int (1), .int 0, .int 0, .int 0, .ref (q + 5), .ref (q + 6), .ref (q + 7), .ref (q + 8), .int 0, .ref (q + 9), .ref (q + 10), .int 0, .int 0, .int (-1), .int 0, .ref (q + 11), .ref (q + 12), .ref (q + 13), .ref (q + 14), .int 0, .ref (q + 15), .ref (q + 16), .ref (q + 17), .ref (q + 18), .null, .int 0, .int 0, .int 0]) d_Md_init_176 fp_Md_72 (fun _ => rfl) T39 ha rfl rfl (Nat.le_of_ble_eq_true rfl) rfl (fun M40 T40 => ?_)
  refine sm_aload_n d_Md_init_179 rfl (j := 0) rfl ?_
  refine sm_sipush (v := 256) d_Md_init_180 (by decide) ?_
  refine ct_int (cs2 := [.inl (G.2.1 1, 8, .inl fun _ => 0), .inl (G.2.1 1, 16, .inl fun _ => 0), .inl (G.2.1 1, 16, .inl fun _ => 0), .inl (G.2.1 1, 16, .inl fun _ => 0), .inl (G.2.1 1, 16, .inl fun _ => 0), .inl (G.2.1 1, 128, .inl fun _ => 0), .inl (G.2.1 1, 528, .inl fun _ => 0), .inl (G.2.1 1, 528, .inl fun _ => 0), .inl (G.2.1 1, 1552, .inl fun _ => 0), .inl (G.2.1 1, 192, .inl fun _ => 0), .inl (G.2.1 1, 65536, .inl fun _ => 0), .inl (G.2.1 1, 16500, .inl fun _ => 0), .inl (G.2.1 1, 16500, .inl fun _ => 0), .inl (G.2.1 1, 16500, .inl fun _ => 0), .inl (G.2.1 1, 16500, .inl fun _ => 0), .inl (G.2.1 1, 256, .inl fun _ => 0), .inl (G.2.1 1, 256, .inl fun _ => 0), .inl (G.2.1 1, 256, .inl fun _ => 0), .inl (G.2.1 1, 256, .inl fun _ => 0), .inl (G.2.1 1, 256, .inl fun _ => 0)]) (q := q + 19) (bc' := 0) (bs' := 0) (N' := 256) d_Md_init_183 T40 ha (by rw [hq]; rfl) rfl (by decide) (by decide) (by decide) (by decide) (by decide) (fun M41 T41 => ?_)
  refine ct_put (k := 33) (fs2 := [.int 0, .ref (q), .int 0, .int 0, .ref (q + 1), .ref (q + 2), .ref (q + 3), .ref (q + 4), .int 0, .int (1), .int 0, .int 0, .int 0, .ref (q + 5), .ref (q + 6), .ref (q + 7), .ref (q + 8), .int 0, .ref (q + 9), .ref (q + 10), .int 0, .int 0, .int (-1), .int 0, .ref (q + 11), .ref (q + 12), .ref (q + 13), .ref (q + 14), .int 0, .ref (q + 15), .ref (q + 16), .ref (q + 17), .ref (q + 18), .ref (q + 19), .int 0, .int 0, .int 0]) d_Md_init_185 fp_Md_75 (fun _ => rfl) T41 ha rfl rfl (Nat.le_of_ble_eq_true rfl) rfl (fun M42 T42 => ?_)
  exact sm_return d_Md_init_188 rfl ⟨rfl, T42⟩
