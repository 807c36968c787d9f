/-! calls of methods that only answer, or only write -/
/-- it answers v, the memory stays -/
def sm_pu (M : sm_M) (v : Value) : sm_O → sm_M → Prop := fun o M' => M' = M ∧ o = .inl (some v)
/-- it answers nothing, the memory is M1 -/
def sm_ef (M1 : sm_M) : sm_O → sm_M → Prop := fun o M' => M' = M1 ∧ o = .inl none
section SME
variable {G : sm_G} {f : sm_F} {pc : Nat} {lv : List (Nat × Value)} {st rest : List Value} {M M1 : sm_M} {bc bs : Nat} {Q : sm_O → sm_M → Prop}
theorem sm_C.to {g : sm_F} {As : List Value} {mc ms : Nat} {P P' : sm_O → sm_M → Prop} (h : sm_C G g As M mc ms P) (hP : ∀ o M', P o M' → P' o M') : sm_C G g As M mc ms P' := by
  intro l hl p e h1 h2 h3 s m args below h4 h5 h6 h7
  obtain ⟨n, o, a1, a2, a3, M', L, b1, b2, b3, b4, b5, b6⟩ := h l hl p e h1 h2 h3 s m args below h4 h5 h6 h7
  refine ⟨n, o, a1, a2, a3, M', L, b1, b2, b3, b4, b5, ?_⟩
  rcases b6 with ⟨v, c1, c2⟩ | ⟨q, X, ce, c1, c2, c3⟩
  · exact Or.inl ⟨v, c1, hP _ _ c2⟩
  · exact Or.inr ⟨q, X, ce, c1, hP _ _ c2, c3⟩
theorem sm_W.to {P P' : sm_O → sm_M → Prop} (h : sm_W G f pc lv st M bc bs P) (hP : ∀ o M', P o M' → P' o M') : sm_W G f pc lv st M bc bs P' := by
  intro p l e R s m args below meth c H locs ls cells slots E r S L hc hs T hT X
  obtain ⟨t, a1, o, a2, a3, M', L9, b1, b2, b3, b4, b5, b6⟩ := h p l e R s m args below meth c H locs ls cells slots E r S L hc hs T hT X
  refine ⟨t, a1, o, a2, a3, M', L9, b1, b2, b3, b4, b5, ?_⟩
  rcases b6 with ⟨v, c1, c2⟩ | ⟨q, X9, ce, c1, c2, c3⟩
  · exact Or.inl ⟨v, c1, hP _ _ c2⟩
  · exact Or.inr ⟨q, X9, ce, c1, hP _ _ c2, c3⟩
theorem sm_W.more {bc' bs' : Nat} (h : sm_W G f pc lv st M bc' bs' Q) (h1 : bc' ≤ bc) (h2 : bs' ≤ bs) : sm_W G f pc lv st M bc bs Q :=
  fun p l e R s m args below meth c H locs ls cells slots E r S L hc hs => h p l e R s m args below meth c H locs ls cells slots E r S L (by omega) (by omega)
theorem sm_callVp {index n b ci N : Nat} {fs : List Value} {C : String} {T9 : u_T} {g : sm_F} {As : List Value} {v : Value} (hd : decode f.2.1 pc = .ok (.invokevirtual index, 3)) (hg : sm_Call f index g n ∧ Cond.instanceMethod g.1 ∈ sm_WS ∧ Cond.selects C g.1 g.1 ∈ sm_WS ∧ sm_cl[ci]? = some (C, T9, N)) (hno : f.2.2.2.2.1 = []) (hm : M.1 b = some (.inr (ci, fs))) (hn : As.length = n) (hst : st = As.reverse ++ .ref b :: rest) (hrest : (rest.map fun v => v.category).sum ≤ 12) (hC : sm_C G g (.ref b :: As) M 0 0 (sm_pu M v)) (k : sm_W G f (pc + 3) lv (v :: rest) M bc bs Q) : sm_W G f pc lv st M bc bs Q :=
  sm_callV hd hg hno hm hn hst hrest (mc := 0) (ms := 0) (Nat.le_of_eq (Nat.zero_add _)) (Nat.le_of_eq (Nat.zero_add _)) hC (fun X M' h => by cases h.2) (fun v9 M' h => by obtain ⟨rfl, h2⟩ := h; cases h2; exact k)
theorem sm_callVe {index n b ci N : Nat} {fs : List Value} {C : String} {T9 : u_T} {g : sm_F} {As : List Value} (hd : decode f.2.1 pc = .ok (.invokevirtual index, 3)) (hg : sm_Call f index g n ∧ Cond.instanceMethod g.1 ∈ sm_WS ∧ Cond.selects C g.1 g.1 ∈ sm_WS ∧ sm_cl[ci]? = some (C, T9, N)) (hno : f.2.2.2.2.1 = []) (hm : M.1 b = some (.inr (ci, fs))) (hn : As.length = n) (hst : st = As.reverse ++ .ref b :: rest) (hrest : (rest.map fun v => v.category).sum ≤ 12) (hC : sm_C G g (.ref b :: As) M 0 0 (sm_ef M1)) (k : sm_W G f (pc + 3) lv rest M1 bc bs Q) : sm_W G f pc lv st M bc bs Q :=
  sm_callV hd hg hno hm hn hst hrest (mc := 0) (ms := 0) (Nat.le_of_eq (Nat.zero_add _)) (Nat.le_of_eq (Nat.zero_add _)) hC (fun X M' h => by cases h.2) (fun v9 M' h => by obtain ⟨rfl, h2⟩ := h; cases h2; exact k)
theorem sm_callSp {index n : Nat} {g : sm_F} {As : List Value} {v : Value} (hd : decode f.2.1 pc = .ok (.invokestatic index, 3)) (hg : sm_Call f index g n ∧ Cond.static g.1 ∈ sm_WS) (hno : f.2.2.2.2.1 = []) (hn : As.length = n) (hst : st = As.reverse ++ rest) (hrest : (rest.map fun v => v.category).sum ≤ 12) (hC : sm_C G g As M 0 0 (sm_pu M v)) (k : sm_W G f (pc + 3) lv (v :: rest) M bc bs Q) : sm_W G f pc lv st M bc bs Q :=
  sm_callS hd hg hno hn hst hrest (mc := 0) (ms := 0) (Nat.le_of_eq (Nat.zero_add _)) (Nat.le_of_eq (Nat.zero_add _)) hC (fun X M' h => by cases h.2) (fun v9 M' h => by obtain ⟨rfl, h2⟩ := h; cases h2; exact k)
theorem sm_callSe {index n : Nat} {g : sm_F} {As : List Value} (hd : decode f.2.1 pc = .ok (.invokestatic index, 3)) (hg : sm_Call f index g n ∧ Cond.static g.1 ∈ sm_WS) (hno : f.2.2.2.2.1 = []) (hn : As.length = n) (hst : st = As.reverse ++ rest) (hrest : (rest.map fun v => v.category).sum ≤ 12) (hC : sm_C G g As M 0 0 (sm_ef M1)) (k : sm_W G f (pc + 3) lv rest M1 bc bs Q) : sm_W G f pc lv st M bc bs Q :=
  sm_callS hd hg hno hn hst hrest (mc := 0) (ms := 0) (Nat.le_of_eq (Nat.zero_add _)) (Nat.le_of_eq (Nat.zero_add _)) hC (fun X M' h => by cases h.2) (fun v9 M' h => by obtain ⟨rfl, h2⟩ := h; cases h2; exact k)
end SME
/-! numbers -/
theorem sm_toInt {n : Nat} (h : n < 2147483648) : (nI n).toInt = (n : Int) := nI_toInt (by omega)
theorem sm_lt0 {x : Int32} : x < 0 ↔ x.toInt < 0 := by rw [Int32.lt_iff_toInt_lt]; exact Iff.rfl
theorem sm_lt {x y : Int32} : x < y ↔ x.toInt < y.toInt := Int32.lt_iff_toInt_lt
theorem sm_le {x y : Int32} : x ≤ y ↔ x.toInt ≤ y.toInt := Int32.le_iff_toInt_le
theorem sm_in {k : Int32} {n : Nat} (h1 : 0 ≤ k.toInt) (h2 : k.toInt < n) : vp_in k n := vp_in_iff.mpr ⟨h1, h2⟩
theorem sm_cl0 {k : Int32} (h : 0 ≤ k.toInt) : k.toNatClampNeg = k.toInt.toNat := rfl
theorem sm_toI {k : Int32} {n : Nat} (h : k.toInt = n) : k = nI n := by
  apply Int32.toInt_inj.mp
  have h1 := Int32.toInt_lt k
  rw [nI_toInt (by omega), h]
