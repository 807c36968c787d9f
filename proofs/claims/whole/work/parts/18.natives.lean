/-! Math.min, System.arraycopy; an array of components -/
theorem mw_610 : Cond.native Jvm.arraycopyName ∈ sm_WS := sm_mw sm_t3 130 rfl rfl
section SMF
variable {G : sm_G} {f : sm_F} {pc : Nat} {lv : List (Nat × Value)} {st rest : List Value} {M : sm_M} {bc bs : Nat} {Q : sm_O → sm_M → Prop}
theorem sm_minI {index : Nat} {x y : Int32} (hd : decode f.2.1 pc = .ok (.invokestatic index, 3)) (hw : Cond.methodLink f.1.cls index Lib.Math.min.name ∈ sm_WS ∧ Cond.static Lib.Math.min.name ∈ sm_WS ∧ Cond.initialized "java/lang/Math" ∈ sm_WS ∧ Cond.code Lib.Math.min.name Lib.Math.min.code 2 (some .int) ∈ sm_WS) (hfr : 1 ≤ f.2.2.2.2.2.1) (hlo : (rest.map fun v => v.category).sum + 13 ≤ f.2.2.2.2.2.2)
    (k9 : sm_W G f (pc + 3) lv (.int (if y < x then y else x) :: rest) M bc bs Q) : sm_W G f pc lv (.int y :: .int x :: rest) M bc bs Q := by
  intro p l e R s m args below meth c H locs ls cells slots E r S L hc hs
  obtain ⟨hx, hb, hml, hown, hts, hr, hlocks, hname, htab, hst, hfr9, hlo9, hK, hE⟩ := id E
  exact va_mmin hx hb (hml.trans L.1.symm) hown (hts _ hw.1) (hts _ hw.2.1) (hts _ hw.2.2.1) (hts _ hw.2.2.2) (Nat.le_trans hfr hfr9) (Nat.le_trans hlo hlo9) (by omega) (by omega) hd (k9 p l e R s m args below meth c H locs ls cells slots E r S L hc hs)
theorem sm_minL {index : Nat} {x y : Int64} (hd : decode f.2.1 pc = .ok (.invokestatic index, 3)) (hw : Cond.methodLink f.1.cls index Lib.MathLoose.min_long.x ∈ sm_WS ∧ Cond.static Lib.MathLoose.min_long.x ∈ sm_WS ∧ Cond.initialized "java/lang/Math" ∈ sm_WS ∧ Cond.code Lib.MathLoose.min_long.x Lib.MathLoose.min_long.code 4 (some .long) ∈ sm_WS) (hfr : 1 ≤ f.2.2.2.2.2.1) (hlo : (rest.map fun v => v.category).sum + 15 ≤ f.2.2.2.2.2.2)
    (k9 : sm_W G f (pc + 3) lv (.long (if y < x then y else x) :: rest) M bc bs Q) : sm_W G f pc lv (.long y :: .long x :: rest) M bc bs Q := by
  intro p l e R s m args below meth c H locs ls cells slots E r S L hc hs
  obtain ⟨hx, hb, hml, hown, hts, hr, hlocks, hname, htab, hst, hfr9, hlo9, hK, hE⟩ := id E
  exact va_mmin_long hx hb (hml.trans L.1.symm) hown (hts _ hw.1) (hts _ hw.2.1) (hts _ hw.2.2.1) (hts _ hw.2.2.2) (Nat.le_trans hfr hfr9) (Nat.le_trans hlo hlo9) (by omega) (by omega) hd (k9 p l e R s m args below meth c H locs ls cells slots E r S L hc hs)
set_option maxHeartbeats 1000000 in
/-- all of one array of bytes into the beginning of another one -/
theorem sm_copyb {index a b n0 n1 : Nat} {g0 g1 : Nat → Int32} {n : Int32} (hd : decode f.2.1 pc = .ok (.invokestatic index, 3)) (hw : Cond.methodLink f.1.cls index Jvm.arraycopyName ∈ sm_WS ∧ Cond.native Jvm.arraycopyName ∈ sm_WS ∧ Cond.static Jvm.arraycopyName ∈ sm_WS ∧ Cond.initialized "java/lang/System" ∈ sm_WS) (hfr : 1 ≤ f.2.2.2.2.2.1) (hlo : (rest.map fun v => v.category).sum + (nativeFrameWords "java/lang/System" "arraycopy" 5 + 11) ≤ f.2.2.2.2.2.2)
    (hm0 : M.1 b = some (.inl (G.2.1 0, n0, .inl g0))) (hm1 : M.1 a = some (.inl (G.2.1 0, n1, .inl g1))) (h3 : ¬ n < 0) (h4 : n.toNatClampNeg ≤ n0) (h5 : n.toNatClampNeg ≤ n1) (hfit : ∀ i, i < n.toNatClampNeg → fits .byte (.int (g0 i)) = true)
    (k9 : sm_W G f (pc + 3) lv rest (va_up M.1 a (some (.inl (G.2.1 0, n1, .inl (va_cpy g0 g1 0 0 n.toNatClampNeg)))), M.2) bc bs Q) : sm_W G f pc lv (.int n :: .int 0 :: .ref a :: .int 0 :: .ref b :: rest) M bc bs Q := by
  intro p l e R s m args below meth c H locs ls cells slots E r S L hc hs T hT X
  obtain ⟨hx, hb, hml, hown, hts, hr, hlocks, hname, htab, hst, hfr9, hlo9, hK, hE⟩ := id E
  have hc0 : H[b]? = some (vp_cell (G.2.1 0) (n0, .inl g0)) := (r.2 b _ hm0).2
  have hc1 : H[a]? = some (vp_cell (G.2.1 0) (n1, .inl g1)) := (r.2 a _ hm1).2
  have hbA := (r.2 a _ hm1).1
  have nn : n.toInt = (n.toNatClampNeg : Int) := by
    have h9 : (0 : Int) ≤ n.toInt := by
      have h8 := Int32.not_lt.mp h3
      simpa using Int32.le_iff_toInt_le.mp h8
    show n.toInt = ((n.toInt.toNat : Nat) : Int)
    omega
  have z0 : (0 : Int32).toNatClampNeg = 0 := rfl
  have z1 : (0 : Int32).toInt = 0 := rfl
  obtain ⟨-, k0, hk0, cm0, hkk0⟩ := (hK.1.2 0 _ rfl).1 n0 (fun j => .int (g0 j))
  obtain ⟨-, k1, hk1, cm1, hkk1⟩ := (hK.1.2 0 _ rfl).1 n1 (fun j => .int (g1 j))
  obtain ⟨vm', X', step⟩ := X.arraycopy hx hown (hts _ hw.1) (hts _ hw.2.1) (hts _ hw.2.2.1) (hts _ hw.2.2.2) (src := b) (dst := a) (cs := vp_cell (G.2.1 0) (n0, .inl g0)) (cd := vp_cell (G.2.1 0) (n1, .inl g1)) (srcPos := 0) (destPos := 0) (n := n) (by rw [hT]; exact hc0) (by rw [hT]; exact hc1)
    (fun _ h => by cases h) (fun _ h => by cases h) (fun h => by cases h) (fun h => by cases h) hk0 hk1 hkk0 hkk1 rfl (by decide) (by decide) h3
    (by rw [nn, z1]; show ¬ _ > ((arrV (G.2.1 0) n0 (fun j => .int (g0 j))).slots.size : Int); rw [arrV_size]; omega)
    (by rw [nn, z1]; show ¬ _ > ((arrV (G.2.1 0) n1 (fun j => .int (g1 j))).slots.size : Int); rw [arrV_size]; omega)
    (fun vm₁ _ i hi => by
      have e9 : (vp_cell (G.2.1 0) (n0, .inl g0)).slots.getD ((0 : Int32).toNatClampNeg + i) .null = .int (g0 i) := by
        show (arrV (G.2.1 0) n0 (fun j => .int (g0 j))).slots.getD _ _ = _
        rw [z0, Nat.zero_add, Array.getD_eq_getD_getElem?, arrV_read _ _ (by omega)]
        rfl
      refine ⟨?_, ?_⟩
      · rw [e9]; exact hfit i hi
      · rw [e9]; exact trivial)
    (g := F0 m pc ls (.int n :: .int 0 :: .ref a :: .int 0 :: .ref b :: rest)) rfl (by rw [hml]; exact L.1) (rest := rest) rfl (by rw [hb]; exact hd) (Nat.le_trans hfr hfr9) (by show 2 * 0 + _ + _ ≤ _; omega)
  have e1 : copied (vp_cell (G.2.1 0) (n0, .inl g0)) (vp_cell (G.2.1 0) (n1, .inl g1)) 0 0 n = vp_cell (G.2.1 0) (n1, .inl (va_cpy g0 g1 0 0 n.toNatClampNeg)) := va_copied (fun z => .int z) (G.2.1 0) (G.2.1 0) g0 g1 (sp := 0) (dp := 0) (by show 0 + _ ≤ n0; omega)
  rw [e1] at X' step
  have hl : a < H.size := (Array.getElem?_eq_some_iff.mp hc1).1
  have hheap : ((T.setVm vm').setCell a (vp_cell (G.2.1 0) (n1, .inl (va_cpy g0 g1 0 0 n.toNatClampNeg)))).heap = H.setIfInBounds a (vp_cell (G.2.1 0) (n1, .inl (va_cpy g0 g1 0 0 n.toNatClampNeg))) := by rw [← hT]; rfl
  have oq : ∀ q : Nat, q ≠ a → (H.setIfInBounds a (vp_cell (G.2.1 0) (n1, .inl (va_cpy g0 g1 0 0 n.toNatClampNeg))))[q]? = H[q]? := fun q hq => by simp [Array.getElem?_setIfInBounds, Ne.symm hq]
  have hz : (H.setIfInBounds a (vp_cell (G.2.1 0) (n1, .inl (va_cpy g0 g1 0 0 n.toNatClampNeg)))).size = H.size := by simp
  obtain ⟨t, a1, b1⟩ := k9 p l e R s m args below meth c _ _ ls cells slots E (r.set hm1 (show (H.setIfInBounds a _)[a]? = some _ by simp [Array.getElem?_setIfInBounds, hl]) hz oq) ⟨by rw [hz]; exact S.1, fun q g9 g8 => by
      rw [oq q (fun e9 => g8 (by rw [e9]; exact hbA))]
      exact S.2.1 q g9 g8, fun q hq => by
      rcases List.mem_append.mp hq with h | h
      · exact S.2.2 q h
      · obtain ⟨z, -, hz9⟩ := List.mem_map.mp h
        rw [← hz9]
        exact hbA⟩ L hc hs _ hheap X'
  exact ⟨t, step t a1, b1⟩
end SMF
