/-! rules that read and write the memory -/
section SMB
variable {G : sm_G} {f : sm_F} {pc : Nat} {lv : List (Nat × Value)} {st rest : List Value} {M : sm_M} {bc bs : Nat} {Q : sm_O → sm_M → Prop}
/-- a cell of the memory as a world of its own -/
theorem sm_one {H : Heap} (r : sm_R G M H) {a : Nat} {e : va_E} (h : M.1 a = some e) : va_P G.1 sm_cl [(a, e)] H := by
  intro k q hk
  have hz : k < 1 := (List.getElem?_eq_some_iff.mp hk).1
  rw [show k = 0 by omega] at hk
  cases hk
  exact (r.2 a e h).2
/-- the memory behind a store into the cell a -/
theorem sm_R.set {H H1 : Heap} {a : Nat} {e e0 : va_E} (r : sm_R G M H) (h0 : M.1 a = some e0) (he : va_at G.1 sm_cl (a, e) H1) (hz : H1.size = H.size) (ho : ∀ q : Nat, q ≠ a → H1[q]? = H[q]?) : sm_R G (va_up M.1 a (some e), M.2) H1 := by
  refine ⟨by rw [hz]; exact r.1, fun q e9 hq => ?_⟩
  have hq : va_up M.1 a (some e) q = some e9 := hq
  by_cases hqa : q = a
  · subst hqa
    rw [va_up_self] at hq
    cases hq
    exact ⟨(r.2 q e0 h0).1, he⟩
  · rw [va_up_ne _ _ hqa] at hq
    exact ⟨(r.2 q e9 hq).1, (r.2 q e9 hq).2.kept (ho q hqa)⟩
/-- the memory behind a new cell -/
theorem sm_R.push {H H1 : Heap} {e : va_E} (r : sm_R G M H) (hb : G.2.2.1 ≤ M.2) (he : va_at G.1 sm_cl (M.2, e) H1) (hz : H1.size = M.2 + 1) (ho : ∀ q : Nat, q < M.2 → H1[q]? = H[q]?) : sm_R G (va_up M.1 M.2 (some e), M.2 + 1) H1 := by
  refine ⟨hz, fun q e9 hq => ?_⟩
  have hq : va_up M.1 M.2 (some e) q = some e9 := hq
  by_cases hqa : q = M.2
  · subst hqa
    rw [va_up_self] at hq
    cases hq
    exact ⟨hb, he⟩
  · rw [va_up_ne _ _ hqa] at hq
    have h1 := r.2 q e9 hq
    exact ⟨h1.1, h1.2.kept (ho q (by rw [← r.1]; exact h1.2.lt))⟩
/-- what a site that reads a field knows -/
def sm_Fg (own : String) (index ci k : Nat) : Prop := ∃ (C : String) (T : u_T) (N : Nat), sm_cl[ci]? = some (C, T, N) ∧ (∀ w ∈ u_ws C T N, w ∈ sm_WS) ∧ k < N ∧
  (Cond.fieldLink own index (T k).1 (T k).2.1 (T k).2.2.1 ∈ sm_WS ∨ ∃ host, Cond.fieldLinkNest own index (T k).1 (T k).2.1 (T k).2.2.1 host ∈ sm_NW)
/-- .. and one that writes it -/
def sm_Fp (own : String) (index ci k : Nat) (ty : FieldType) (fin : Bool) : Prop := ∃ (C : String) (T : u_T) (N : Nat) (ty0 : Nat → FieldType), sm_cl[ci]? = some (C, T, N) ∧ (∀ w ∈ u_ws C T N, w ∈ sm_WS) ∧ k < N ∧
  (Cond.fieldLink own index (T k).1 (T k).2.1 (T k).2.2.1 ∈ sm_WS ∨ (fin = false ∧ ∃ host, Cond.fieldLinkNest own index (T k).1 (T k).2.1 (T k).2.2.1 host ∈ sm_NW)) ∧
  (∀ j, j < N → parseFieldDescriptor (T j).2.2.1 = some (ty0 j)) ∧ (∀ a, a < N → ∀ b, b < N → a ≠ b → (T a).2.1 ≠ (T b).2.1) ∧ parseFieldDescriptor (T k).2.2.1 = some ty ∧ (T k).2.2.2 = fin ∧ (fin = true → (T k).1 = own)
theorem sm_get {index ci k a : Nat} {fs : List Value} {v : Value} (hd : decode f.2.1 pc = .ok (.getfield index, 3)) (hF : sm_Fg f.1.cls index ci k) (hm : M.1 a = some (.inr (ci, fs))) (hv : fs[k]? = some v)
    (k9 : sm_W G f (pc + 3) lv (v :: rest) M bc bs Q) : sm_W G f pc lv (.ref a :: rest) M bc bs Q := by
  intro p l e R s m args below meth c H locs ls cells slots E r S L hc hs
  obtain ⟨C, T, N, hcl, hin, hk, hlk⟩ := hF
  obtain ⟨hx, hb, hml, hown, hts, hr, hlocks, hname, htab, hst, hfr, hlo, hK, hE⟩ := id E
  rcases hlk with hlk | ⟨host, hlk⟩
  · exact va_get (D := G.1) (ci := ci) (v := v) (C := C) (T := T) (N := N) hx hb hts hin hown hK.1 (sm_one r hm) 0 rfl hcl k hk (hts _ hlk) (fun _ h9 => h9) hv hd (k9 p l e R s m args below meth c H locs ls cells slots E r S L hc hs)
  · exact va_getN (D := G.1) (ci := ci) (v := v) (C := C) (T := T) (N := N) hx hb hts hin hown hK.1 (sm_one r hm) 0 rfl hcl k hk (va_Nw.use rfl (hK.2.1 _ hlk)) (fun _ h9 => h9) hv hd (k9 p l e R s m args below meth c H locs ls cells slots E r S L hc hs)
set_option maxHeartbeats 1000000 in
theorem sm_put {index ci k a : Nat} {fs : List Value} {v : Value} {ty : FieldType} {fin : Bool} (hd : decode f.2.1 pc = .ok (.putfield index, 3)) (hF : sm_Fp f.1.cls index ci k ty fin) (hi9 : fin = true → f.1.name = "<init>") (hm : M.1 a = some (.inr (ci, fs))) (hn : narrow ty v = v) (hfit : fits ty v = true) (hl : k < fs.length)
    (k9 : sm_W G f (pc + 3) lv rest (va_up M.1 a (some (.inr (ci, fs.set k v))), M.2) bc bs Q) : sm_W G f pc lv (v :: .ref a :: rest) M bc bs Q := by
  intro p l e R s m args below meth c H locs ls cells slots E r S L hc hs
  obtain ⟨C, T, N, ty0, hcl, hin, hk, hlk, hty, hnm, hd9, hfin, hdecl⟩ := hF
  obtain ⟨hx, hb, hml, hown, hts, hr, hlocks, hname, htab, hst, hfr, hlo, hK, hE⟩ := id E
  have hap := va_apart (own := f.1.cls) hts hin ty0 hty hnm hK.1 hcl
  obtain ⟨hb9, hat⟩ := r.2 a _ hm
  obtain ⟨r9, h1, cell, q1, q2, q3, q4⟩ := id hat
  have hr9 : r9 = (C, T, N) := Option.some.inj (h1.symm.trans hcl)
  subst hr9
  obtain ⟨hS, hfc, kC, hkC, hkind⟩ := hK.1.1 ci _ hcl
  obtain ⟨cf, kf, fi, fd, hi, hsl⟩ := hS k hk
  have hlay := hts _ (hin _ (u_in_lay hk))
  have hst9 := (u_facts hfc hkC (u_lays hts hin hk) hi).1
  have key : ∀ H' : Heap, H'[a]? = some (cell.setSlot fd.slot v) → H'.size = H.size → (∀ q, q ≠ a → H'[q]? = H[q]?) → W p l e R s m args below meth c H' (locs ++ [⟨a, fd.slot⟩]) cells slots (sm_End G below Q s R.cells R.slots) (F0 m (pc + 3) ls rest) := by
    intro H' e1 e2 e3
    rw [hsl] at e1
    exact k9 p l e R s m args below meth c H' _ ls cells slots E (r.set hm ⟨_, hcl, t_OB.to (V := updV (vp_V fs) k v) ⟨_, e1, q2, q3, t_set q4 hap hk v⟩ (fun j _ => vp_updV_set hl v j)⟩ e2 e3) (S.put e2 e3 hb9) L hc hs
  have hlt : fd.slot < cell.slots.size := by rw [hsl]; exact k2_hasslot (q4 k hk)
  cases fin with
  | false =>
    unfold u_lay at hlay
    rw [if_neg (by rw [hfin]; decide)] at hlay
    have h6 := u_store hfc hkC hkind hlay hi hd9 hn hfit
    rcases hlk with hlk | ⟨-, host, hlk⟩
    · exact W.putK hx hb (f := fd) ⟨hown, hts _ hlk, ⟨_, _, _, hi⟩, hst9⟩ (by rw [q2]; exact h6) q1 q3 hlt rfl rfl hd key
    · exact va_WputK hx hb (f := fd) hown (va_Nw.use rfl (hK.2.1 _ hlk)) hi hst9 (by rw [q2]; exact h6) q1 q3 hlt rfl rfl hd key
  | true =>
    unfold u_lay at hlay
    rw [if_pos hfin] at hlay
    have hcf : m.cls = cf := by
      obtain ⟨_, _, c', _, _, _, -, -, hf', -, -, -, hown2, -⟩ := Cond.laysFinal_spec hlay
      have e1 : c' = cf := by have := hi.symm.trans hf'; simp at this; exact this.1.symm
      rw [hdecl rfl] at hown2
      rw [← e1]; exact Option.some.inj (hown.symm.trans hown2)
    have h6 := u_fits hfc hkC hkind (Or.inr hlay) hi hd9 hn hfit
    rcases hlk with hlk | ⟨h9, -⟩
    · exact W.putFinK hx hb hown (hts _ hlk) hi hst9 hcf (hname.trans (hi9 rfl)) (by rw [q2]; exact h6) q1 q3 hlt rfl rfl hd key
    · cases h9
/-- what a site that makes an object knows -/
def sm_Nw (own : String) (index ci N : Nat) (fs : List Value) : Prop := ∃ (C : String) (T : u_T) (ty : Nat → FieldType), sm_cl[ci]? = some (C, T, N) ∧ (∀ w ∈ u_ws C T N, w ∈ sm_WS) ∧ (∀ j, j < N → parseFieldDescriptor (T j).2.2.1 = some (ty j)) ∧
  Cond.classLink own index C ∈ sm_WS ∧ Cond.instantiable C N ∈ sm_WS ∧ Cond.initialized C ∈ sm_WS ∧ ∀ j, j < N → defaultValue (ty j) = vp_V fs j
theorem sm_base {p : Program} {l : Launch} {R : Room} {s : State} {m : MethodId} {args : Array Value} {meth : Method} {c : Code} {H : Heap} {locs : List Loc} (E : sm_E G f p l R s m args meth c) (r : sm_R G M H) (S : va_S (sm_A G) s.heap H locs) : G.2.2.1 ≤ M.2 := by
  obtain ⟨hx, hb, hml, hown, hts, hr, hlocks, hname, htab, hst, hfr, hlo, hK, hZ, hbase, hX⟩ := E
  rw [← r.1]
  exact Nat.le_trans hbase S.1
theorem sm_new {index ci N : Nat} {fs : List Value} (hd : decode f.2.1 pc = .ok (.new index, 3)) (hN : sm_Nw f.1.cls index ci N fs) (k9 : sm_W G f (pc + 3) lv (.ref M.2 :: rest) (va_up M.1 M.2 (some (.inr (ci, fs))), M.2 + 1) bc bs Q) : sm_W G f pc lv rest M (bc + 1) (bs + N) Q := by
  intro p l e R s m args below meth c H locs ls cells slots E r S L hc hs
  have hbM := sm_base E r S
  obtain ⟨C, T, ty, hcl, hin, hty, hlk, hins, hini, hfs⟩ := hN
  obtain ⟨hx, hb, hml, hown, hts, hr, hlocks, hname, htab, hst, hfr, hlo, hK, hE⟩ := id E
  have hKn := hK.1.1 ci _ hcl
  refine W.newcK hx hb hown (hts _ hlk) (hts _ hins) (hts _ hini) rfl hd (by omega) (by omega) hKn.2.1 r.1 fun H1 kC hkC e1 z1 o1 => ?_
  exact k9 p l e R s m args below meth c H1 locs ls (cells + 1) (slots + N) E (r.push hbM ⟨_, hcl, (u_born ty hts hin hKn hkC e1 hty).to hfs⟩ z1 o1)
    ⟨Nat.le_trans S.1 (by rw [z1, r.1]; omega), fun x h1 h2 => (o1 x (by rw [← r.1]; exact Nat.lt_of_lt_of_le h1 S.1)).trans (S.2.1 x h1 h2), S.2.2⟩ L (by omega) (by omega)
theorem sm_RA {U : State} {cA : ClassId} {ty : FieldType} (h : va_RA U cA ty) (ho : ∀ C, ty ≠ .object C) : U.vm.findClass ("[" ++ ty.toString) = some cA := by
  cases ty with
  | object C => exact absurd rfl (ho C)
  | _ => exact h
theorem sm_newarr {atype : ArrayType} {ty : FieldType} {n : Int32} {N' ti : Nat} {a0 : vp_A} (hd : decode f.2.1 pc = .ok (.newarray atype, 2)) (hw : Cond.arrayClass (newarray.typeOf atype) ∈ sm_WS) (hty : newarray.typeOf atype = ty) (ho : ∀ C, ty ≠ .object C) (ht : (sm_tys G)[ti]? = some (G.2.1 ti, ty))
    (ha : ∀ cA : ClassId, vp_cell cA a0 = arrV cA N' (fun _ => defaultValue ty)) (hn : ¬ n < 0) (hN : n.toNatClampNeg = N') (hbytes : N' * componentBytes ty ≤ 536870912)
    (k9 : sm_W G f (pc + 2) lv (.ref M.2 :: rest) (va_up M.1 M.2 (some (.inl (G.2.1 ti, a0))), M.2 + 1) bc bs Q) : sm_W G f pc lv (.int n :: rest) M (bc + 1) (bs + N') Q := by
  intro p l e R s m args below meth c H locs ls cells slots E r S L hc hs
  subst hty
  have hbM := sm_base E r S
  obtain ⟨hx, hb, hml, hown, hts, hr, hlocks, hname, htab, hst, hfr, hlo, hK, hE⟩ := id E
  refine va_newaK hx hb (hts _ hw) rfl hd rfl hn hN hbytes (by omega) (by omega) r.1 fun H1 cA e1 z1 o1 hAr hNm => ?_
  have hcA : cA = G.2.1 ti := Option.some.inj (hNm.symm.trans (sm_RA (hK.1.2 ti _ ht).2 ho))
  subst hcA
  exact k9 p l e R s m args below meth c H1 locs ls (cells + 1) (slots + N') E (r.push hbM (by show H1[M.2]? = some (vp_cell _ _); rw [ha]; exact e1) z1 o1)
    ⟨Nat.le_trans S.1 (by rw [z1, r.1]; omega), fun x h1 h2 => (o1 x (by rw [← r.1]; exact Nat.lt_of_lt_of_le h1 S.1)).trans (S.2.1 x h1 h2), S.2.2⟩ L (by omega) (by omega)
theorem sm_iaload {a n : Nat} {g : Nat → Int32} {i : Int32} (hd : decode f.2.1 pc = .ok (.iaload, 1)) (hm : M.1 a = some (.inl (G.2.1 1, n, .inl g))) (hin : vp_in i n) (k9 : sm_W G f (pc + 1) lv (.int (g i.toNatClampNeg) :: rest) M bc bs Q) : sm_W G f pc lv (.int i :: .ref a :: rest) M bc bs Q := fun p l e R s m args below meth c H locs ls cells slots E r S L hc hs => va_iald E.1 E.2.1 E.2.2.2.2.2.2.2.2.2.2.2.2.1.1 (sm_one r hm) 0 1 rfl rfl hin hd (k9 p l e R s m args below meth c H locs ls cells slots E r S L hc hs)
theorem sm_baload {a n : Nat} {g : Nat → Int32} {i : Int32} (hd : decode f.2.1 pc = .ok (.baload, 1)) (hm : M.1 a = some (.inl (G.2.1 0, n, .inl g))) (hin : vp_in i n) (k9 : sm_W G f (pc + 1) lv (.int (g i.toNatClampNeg) :: rest) M bc bs Q) : sm_W G f pc lv (.int i :: .ref a :: rest) M bc bs Q := fun p l e R s m args below meth c H locs ls cells slots E r S L hc hs => va_bald E.1 E.2.1 E.2.2.2.2.2.2.2.2.2.2.2.2.1.1 (sm_one r hm) 0 0 rfl rfl hin hd (k9 p l e R s m args below meth c H locs ls cells slots E r S L hc hs)
theorem sm_laload {a n : Nat} {g : Nat → Int64} {i : Int32} (hd : decode f.2.1 pc = .ok (.laload, 1)) (hm : M.1 a = some (.inl (G.2.1 2, n, .inr (.inl g)))) (hin : vp_in i n) (k9 : sm_W G f (pc + 1) lv (.long (g i.toNatClampNeg) :: rest) M bc bs Q) : sm_W G f pc lv (.int i :: .ref a :: rest) M bc bs Q := fun p l e R s m args below meth c H locs ls cells slots E r S L hc hs => va_lald E.1 E.2.1 E.2.2.2.2.2.2.2.2.2.2.2.2.1.1 (sm_one r hm) 0 2 rfl rfl hin hd (k9 p l e R s m args below meth c H locs ls cells slots E r S L hc hs)
theorem sm_aaload {a n : Nat} {g : Nat → Option Nat} {i : Int32} (hd : decode f.2.1 pc = .ok (.aaload, 1)) (hm : M.1 a = some (.inl (G.2.1 3, n, .inr (.inr (.inr (.inr g)))))) (hin : vp_in i n) (k9 : sm_W G f (pc + 1) lv (va_rf (g i.toNatClampNeg) :: rest) M bc bs Q) : sm_W G f pc lv (.int i :: .ref a :: rest) M bc bs Q := fun p l e R s m args below meth c H locs ls cells slots E r S L hc hs => va_aldq E.1 E.2.1 E.2.2.2.2.2.2.2.2.2.2.2.2.1.1 (sm_one r hm) 0 3 rfl rfl hin hd (k9 p l e R s m args below meth c H locs ls cells slots E r S L hc hs)
theorem sm_alen {a ti : Nat} {x : vp_A} {ty : FieldType} {v : Int32} (hd : decode f.2.1 pc = .ok (.arraylength, 1)) (hm : M.1 a = some (.inl (G.2.1 ti, x))) (ht : (sm_tys G)[ti]? = some (G.2.1 ti, ty)) (hv : Int32.ofNat x.1 = v) (k9 : sm_W G f (pc + 1) lv (.int v :: rest) M bc bs Q) : sm_W G f pc lv (.ref a :: rest) M bc bs Q := fun p l e R s m args below meth c H locs ls cells slots E r S L hc hs => va_alen E.1 E.2.1 E.2.2.2.2.2.2.2.2.2.2.2.2.1.1 (sm_one r hm) 0 ti rfl ht hv hd (k9 p l e R s m args below meth c H locs ls cells slots E r S L hc hs)
theorem sm_iastore {a n : Nat} {g : Nat → Int32} {i : Int32} {x : Int32} (hd : decode f.2.1 pc = .ok (.iastore, 1)) (hm : M.1 a = some (.inl (G.2.1 1, n, .inl (g)))) (hin : vp_in i n) (k9 : sm_W G f (pc + 1) lv rest (va_up M.1 a (some (.inl (G.2.1 1, n, .inl (upd g i.toNatClampNeg x)))), M.2) bc bs Q) : sm_W G f pc lv (.int x :: .int i :: .ref a :: rest) M bc bs Q := by
  intro p l e R s m args below meth c H locs ls cells slots E r S L hc hs
  have hK := E.2.2.2.2.2.2.2.2.2.2.2.2.1.1
  obtain ⟨hb9, hat⟩ := r.2 a _ hm
  refine W.iast E.1 E.2.1 hat ((hK.2 1 _ rfl).1 n (fun j => .int (g j))) (fun q => by cases q) (by show ¬ (i < 0 ∨ (arrV _ _ _).slots.size ≤ _); rw [arrV_size]; exact hin) rfl rfl hd fun H1 e1 z oq => ?_
  refine k9 p l e R s m args below meth c H1 _ ls cells slots E (r.set hm ?_ z oq) (S.put z oq hb9) L hc hs
  show H1[a]? = some (vp_cell _ _)
  rw [e1]
  rw [vp_cell_i, vp_cell_i, arrV_store]
  congr 2
  funext q
  by_cases hq : q = i.toNatClampNeg
  · subst hq
    simp [updV, upd]
    try rfl
  · simp [updV, upd, hq]
theorem sm_bastore {a n : Nat} {g : Nat → Int32} {i : Int32} {x : Int32} (hd : decode f.2.1 pc = .ok (.bastore, 1)) (hm : M.1 a = some (.inl (G.2.1 0, n, .inl (g)))) (hin : vp_in i n) (k9 : sm_W G f (pc + 1) lv rest (va_up M.1 a (some (.inl (G.2.1 0, n, .inl (upd g i.toNatClampNeg (vp_nar .byte x))))), M.2) bc bs Q) : sm_W G f pc lv (.int x :: .int i :: .ref a :: rest) M bc bs Q := by
  intro p l e R s m args below meth c H locs ls cells slots E r S L hc hs
  have hK := E.2.2.2.2.2.2.2.2.2.2.2.2.1.1
  obtain ⟨hb9, hat⟩ := r.2 a _ hm
  refine W.bast E.1 E.2.1 hat ((hK.2 0 _ rfl).1 n (fun j => .int (g j))) (fun q => by cases q) (by show ¬ (i < 0 ∨ (arrV _ _ _).slots.size ≤ _); rw [arrV_size]; exact hin) rfl rfl hd fun H1 e1 z oq => ?_
  refine k9 p l e R s m args below meth c H1 _ ls cells slots E (r.set hm ?_ z oq) (S.put z oq hb9) L hc hs
  show H1[a]? = some (vp_cell _ _)
  rw [e1]
  rw [vp_cell_i, vp_cell_i, arrV_store]
  congr 2
  funext q
  by_cases hq : q = i.toNatClampNeg
  · subst hq
    simp [updV, upd, vp_nar]
    try rfl
  · simp [updV, upd, hq]
theorem sm_lastore {a n : Nat} {g : Nat → Int64} {i : Int32} {x : Int64} (hd : decode f.2.1 pc = .ok (.lastore, 1)) (hm : M.1 a = some (.inl (G.2.1 2, n, .inr (.inl (g))))) (hin : vp_in i n) (k9 : sm_W G f (pc + 1) lv rest (va_up M.1 a (some (.inl (G.2.1 2, n, .inr (.inl (vp_updL g i.toNatClampNeg x))))), M.2) bc bs Q) : sm_W G f pc lv (.long x :: .int i :: .ref a :: rest) M bc bs Q := by
  intro p l e R s m args below meth c H locs ls cells slots E r S L hc hs
  have hK := E.2.2.2.2.2.2.2.2.2.2.2.2.1.1
  obtain ⟨hb9, hat⟩ := r.2 a _ hm
  refine W.last E.1 E.2.1 hat ((hK.2 2 _ rfl).1 n (fun j => .long (g j))) (fun q => by cases q) (by show ¬ (i < 0 ∨ (arrV _ _ _).slots.size ≤ _); rw [arrV_size]; exact hin) rfl rfl hd fun H1 e1 z oq => ?_
  refine k9 p l e R s m args below meth c H1 _ ls cells slots E (r.set hm ?_ z oq) (S.put z oq hb9) L hc hs
  show H1[a]? = some (vp_cell _ _)
  rw [e1]
  rw [vp_cell_l, vp_cell_l, arrV_store]
  congr 2
  funext q
  by_cases hq : q = i.toNatClampNeg
  · subst hq
    simp [updV, vp_updL]
    try rfl
  · simp [updV, vp_updL, hq]
end SMB
