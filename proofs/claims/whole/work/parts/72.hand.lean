/-! the script; a call whose throw a handler of the calling method takes -/
section LHA
variable {G : sm_G} {f : sm_F} {pc : Nat} {lv : List (Nat × Value)} {st rest : List Value} {M : sm_M} {bc bs bc' bs' : Nat} {Q : sm_O → sm_M → Prop}
theorem sm_sld {i : Int32} (hd : decode f.2.1 pc = .ok (.iaload, 1)) (hin : vp_in i G.2.2.2.2.1) (k9 : sm_W G f (pc + 1) lv (.int (G.2.2.2.2.2 i.toNatClampNeg) :: rest) M bc bs Q) : sm_W G f pc lv (.int i :: .ref G.2.2.2.1 :: rest) M bc bs Q := by
  intro p l e R s m args below meth c H locs ls cells slots E r S L hc hs
  obtain ⟨hx, hb, hml, hown, hts, hr, hlocks, hname, htab, hst, hfr, hlo, hK, hZ, hbase, hX⟩ := id E
  exact va_sld hx hb hX.1 (Nat.lt_of_lt_of_le hX.2 hbase) (Nat.not_le.mpr hX.2) S hin hd (k9 p l e R s m args below meth c H locs ls cells slots E r S L hc hs)
theorem sm_slen {v : Int32} (hd : decode f.2.1 pc = .ok (.arraylength, 1)) (hv : Int32.ofNat G.2.2.2.2.1 = v) (k9 : sm_W G f (pc + 1) lv (.int v :: rest) M bc bs Q) : sm_W G f pc lv (.ref G.2.2.2.1 :: rest) M bc bs Q := by
  intro p l e R s m args below meth c H locs ls cells slots E r S L hc hs
  obtain ⟨hx, hb, hml, hown, hts, hr, hlocks, hname, htab, hst, hfr, hlo, hK, hZ, hbase, hX⟩ := id E
  subst hv
  exact va_slen hx hb hX.1 (Nat.lt_of_lt_of_le hX.2 hbase) (Nat.not_le.mpr hX.2) S hd (k9 p l e R s m args below meth c H locs ls cells slots E r S L hc hs)
end LHA
section LHB
variable {G : sm_G} {f : sm_F} {pc : Nat} {lv : List (Nat × Value)} {st rest : List Value} {M : sm_M} {bc bs bc' bs' : Nat} {Q : sm_O → sm_M → Prop}
variable {p : Program} {l : Launch} {e : Env} {R : Room} {s : State} {m : MethodId} {args : Array Value} {below : List Frame} {meth : Method} {c : Code} {H : Heap} {locs : List Loc} {cells slots : Nat}
theorem sm_caught {T : State} {locs9 : List Loc} {cells9 slots9 h : Nat} {M9 : sm_M} {q : Addr} {Z : String} {ce : Cell} {ls : Array Slot} (E : sm_E G f p l R s m args meth c) (hH : sm_Hnd f pc Z h) (X : Stand p l e R s m args below meth c T locs9 cells9 slots9) (S : va_S (sm_A G) s.heap T.heap locs9) (hR : sm_R G M9 T.heap) (L : lv_has ls f.2.2.1 lv) (hce : T.heap[q]? = some ce) (hcv : ce.vm = .none) (hcl : s.vm.findClass Z = some ce.cls) (hc : cells9 + bc' ≤ R.cells) (hs : slots9 + bs' ≤ R.slots)
    (k : sm_W G f h lv [.ref q] M9 bc' bs' Q) : ∃ t, Steps p.tables e below ((T.setTop (F0 m pc ls rest)).pushFrame (.throwing q)) t ∧ sm_End G below Q s R.cells R.slots t := by
  obtain ⟨pre, x, suf, nm, htb, hcov, hh, h0, hlink, hcast, hpre⟩ := hH
  obtain ⟨hx, hb, hml, hown, hts, hr, hlocks, hname, htab, hst, hfr, hlo, hK, hE⟩ := id E
  have hpl : e.platform.magicAccessors = ({} : Platform).magicAccessors := by rw [X.admits.platform]
  obtain ⟨cc, hcc, hl⟩ := Cond.classLink_spec hown (hts _ hlink) e.platform hpl
  obtain ⟨c5, t5, e1, e2, e3⟩ := Cond.castable_spec (hK.2.1 _ hcast)
  cases hcl.symm.trans e1
  cases hcc.symm.trans e2
  have hk0 := Vm.classAt_of_findClass hcl
  have hobj : ∀ k, ce.vm ≠ .statics k := fun k h9 => by rw [hcv] at h9; cases h9
  have hpass : ∀ y ∈ tableOf pre, covers y (F0 m pc ls rest).pc = true ∧ y.catchType ≠ 0 ∧ ∃ c9, s.vm.ClassLinks e.platform (F0 m pc ls rest).method.cls y.catchType c9 ∧ s.vm.assignable ce.cls c9 = false := by
    intro y hy
    obtain ⟨z, hz, rfl⟩ := List.mem_map.mp hy
    obtain ⟨g1, g2, n9, g3, g4⟩ := hpre z hz
    obtain ⟨c9, hc9, hl9⟩ := Cond.classLink_spec hown (hts _ g3) e.platform hpl
    obtain ⟨c8, t8, a1, a2, a3⟩ := hK.2.2.2 _ g4
    cases hcl.symm.trans a1
    cases hc9.symm.trans a2
    exact ⟨by simp only [covers]; simp; exact g1, g2, c9, hl9, a3⟩
  obtain ⟨vm', hW', hq⟩ := sm_search (e := e) (j := F0 m pc ls rest) (a := q) hobj hk0 ⟨x.1, x.2.1, x.2.2.1, x.2.2.2⟩ (tableOf suf) (by simp only [covers]; simp; exact hcov) h0 hl e3 (tableOf pre) ((T.setTop (F0 m pc ls rest)).pushFrame (.throwing q)) X.warmed hce hpass
  have hfind : sm_Fnd e ((T.setTop (F0 m pc ls rest)).pushFrame (.throwing q)) (F0 m pc ls rest) q h vm' := by
    intro Q9 E9 d acts
    have e9 : c.exceptionTable.toList = tableOf pre ++ (⟨x.1, x.2.1, x.2.2.1, x.2.2.2⟩ :: tableOf suf) := by
      rw [htab, htb]
      unfold tableOf
      rw [List.map_append, List.map_cons]
    refine (W.findHandler_eq (meth := meth) (code := c) X.method' X.code).trans ?_
    rw [e9, ← hh]
    exact hq Q9 E9 d acts
  obtain ⟨t, a1, b1⟩ := k p l e R s m args below meth c T.heap locs9 ls cells9 slots9 E hR S L hc hs (T.setVm vm') rfl (X.noted hW')
  exact ⟨t, sm_toHandler (j := F0 m pc ls rest) X.here hfind a1, b1⟩
theorem sm_callH {index n mc ms : Nat} {g : sm_F} {As : List Value} {P : sm_O → sm_M → Prop} {ig : Instr} {ls : Array Slot} (E : sm_E G f p l R s m args meth c) (r : sm_R G M H) (S : va_S (sm_A G) s.heap H locs) (L : lv_has ls f.2.2.1 lv) (hc : cells + bc ≤ R.cells) (hs : slots + bs ≤ R.slots)
    (hd : decode f.2.1 pc = .ok (ig, 3)) (hg : sm_Call f index g n) (hrest : (rest.map fun v => v.category).sum ≤ 12) (hmc : mc + bc' ≤ bc) (hms : ms + bs' ≤ bs) (hC : sm_C G g As M mc ms P)
    (kx : ∀ (X : String) (M' : sm_M), P (.inr X) M' → ∃ h, sm_Hnd f pc X h ∧ ∀ q : Nat, sm_W G f h lv [.ref q] M' bc' bs' Q) (kk : ∀ (v : Option Value) (M' : sm_M), P (.inl v) M' → sm_W G f (pc + 3) lv (v.toList ++ rest) M' bc' bs' Q)
    (step : ∀ T : State, T.heap = H → Stand p l e R s m args below meth c T locs cells slots → ∃ mk vm₁, s.methodNamed? g.1 = some mk ∧ Stand p l e R s m args below meth c (T.setVm vm₁) locs cells slots ∧ ∀ target, (∀ acts, Steps p.tables e below (doInvoke e ((T.setVm vm₁).setTop (F0 m pc ls rest)) acts mk As.toArray).1 target) → Steps p.tables e below (T.setTop (F0 m pc ls st)) target) :
    W p l e R s m args below meth c H locs cells slots (sm_End G below Q s R.cells R.slots) (F0 m pc ls st) := by
  intro T hT X
  obtain ⟨mk, vm₁, hnamed, X₁, hstep⟩ := step T hT X
  obtain ⟨hcw, hini, -, -, hR, -⟩ := hg
  have hfr := E.2.2.2.2.2.2.2.2.2.2.1
  have hlo := E.2.2.2.2.2.2.2.2.2.2.2.1
  have hml := E.2.2.1
  obtain ⟨U', L9, M', X', hL, hR', hz, hk, hcase⟩ := sm_back X₁ hC E.2.2.2.2.2.2.2.2.2.1 hcw hini E.2.2.2.2.1 (Nat.le_trans hR.1 hfr) (Nat.le_trans hR.2 hlo) (by omega) (by omega) (j := F0 m pc ls rest) (ig := ig) rfl (by rw [hml]; exact L.1) (by rw [E.2.1]; exact hd) (by show 2 * 0 + (rest.map fun v => v.category).sum ≤ 12; omega) (X₁.named hnamed) (sm_pre E r S As _ hT X₁.warmed)
  have hz : H.size ≤ U'.heap.size := by rw [← hT]; exact hz
  have hk : ∀ q : Nat, q < H.size → ¬ sm_A G q → U'.heap[q]? = H[q]? := by rw [← hT]; exact hk
  have S' := sm_keep S hz hk hL
  rcases hcase with ⟨v, hP, stp⟩ | ⟨q, Z, ce, hP, hce, hcv, hcl, stp⟩
  · obtain ⟨t2, a1, b1⟩ := kk v M' hP p l e R s m args below meth c U'.heap (locs ++ L9) ls (cells + mc) (slots + ms) E hR' S' L (by omega) (by omega) U' rfl X'
    exact ⟨t2, hstep _ (fun acts => by rw [doInvoke_state]; exact stp.trans a1), b1⟩
  · obtain ⟨h, hH, kh⟩ := kx Z M' hP
    obtain ⟨t2, a1, b1⟩ := sm_caught (pc := pc) (rest := rest) E hH X' S' hR' L hce hcv hcl (by omega) (by omega) (kh q)
    exact ⟨t2, hstep _ (fun acts => by rw [doInvoke_state]; exact stp.trans a1), b1⟩
theorem sm_callVH {index n mc ms b ci N : Nat} {fs : List Value} {C : String} {T9 : u_T} {g : sm_F} {As : List Value} {P : sm_O → sm_M → Prop} (hd : decode f.2.1 pc = .ok (.invokevirtual index, 3)) (hg : sm_Call f index g n ∧ Cond.instanceMethod g.1 ∈ sm_WS ∧ Cond.selects C g.1 g.1 ∈ sm_WS ∧ sm_cl[ci]? = some (C, T9, N)) (hm : M.1 b = some (.inr (ci, fs))) (hn : As.length = n) (hst : st = As.reverse ++ .ref b :: rest) (hrest : (rest.map fun v => v.category).sum ≤ 12) (hmc : mc + bc' ≤ bc) (hms : ms + bs' ≤ bs) (hC : sm_C G g (.ref b :: As) M mc ms P)
    (kx : ∀ (X : String) (M' : sm_M), P (.inr X) M' → ∃ h, sm_Hnd f pc X h ∧ ∀ q : Nat, sm_W G f h lv [.ref q] M' bc' bs' Q) (kk : ∀ (v : Option Value) (M' : sm_M), P (.inl v) M' → sm_W G f (pc + 3) lv (v.toList ++ rest) M' bc' bs' Q) : sm_W G f pc lv st M bc bs Q := by
  intro p l e R s m args below meth c H locs ls cells slots E r S L hc hs
  refine sm_callH E r S L hc hs hd hg.1 hrest hmc hms hC kx kk ?_
  intro T hT X
  obtain ⟨⟨hcw, hini, hy, hpar, hR, hlk⟩, hinst, hsel, hcl⟩ := hg
  have hts := E.2.2.2.2.1
  obtain ⟨cellB, hcell, hobj, hcls⟩ := va_recv E.2.2.2.2.2.2.2.2.2.2.2.2.1.1 (sm_one r hm) (ci := ci) (q0 := 0) hcl rfl
  rw [← hT] at hcell
  obtain ⟨mk, methM, hnamed, hmethM, hstM, habM⟩ := Cond.instanceMethod_spec (hts _ hinst)
  obtain ⟨mk9, methM', cM, hnamed9, hmethM', hcM, -, -, -, -, -, hsigM⟩ := sm_codeAt (hts _ hcw)
  cases Option.some.inj (hnamed9.symm.trans hnamed)
  cases Option.some.inj (hmethM.symm.trans hmethM')
  obtain ⟨c2, r2, m2, q1, q2, q3, q4, kP, hkP, hkPi⟩ := Cond.selects_spec (hts _ hsel)
  cases hcls.symm.trans q1
  cases (State.methodFound?_of_named hnamed hy).symm.trans q2
  cases hnamed.symm.trans q3
  have hselP : selectMethod e.platform s.vm cellB.cls mk = .method mk := by rw [Launch.admits_selectMethod X.admits]; exact q4
  have hlen : As.length = methM.sig.parameters.length := by rw [hsigM] at hpar; exact hn.trans (Option.some.inj hpar).symm
  rcases hlk with hlk | ⟨host, hlk⟩
  · obtain ⟨vm₁, X₁, hstep⟩ := X.invokevirtual E.1 E.2.2.2.1 (hts _ hlk) hnamed hmethM hstM hkP hkPi hy (a := b) (cell := cellB) hcell (fun z h => by rw [h] at hobj; cases hobj) hselP hmethM habM hkP hkPi (g := F0 m pc ls st) rfl (argsL := As) (rest := rest) hlen hst (by rw [E.2.1]; exact hd)
    exact ⟨mk, vm₁, hnamed, X₁, hstep⟩
  · obtain ⟨vm₁, X₁, hstep⟩ := X.invokevirtualNest E.1 E.2.2.2.1 (va_Nw.use rfl (E.2.2.2.2.2.2.2.2.2.2.2.2.1.2.1 _ hlk)) hnamed hmethM hstM hkP hkPi hy (a := b) (cell := cellB) hcell (fun z h => by rw [h] at hobj; cases hobj) hselP hmethM habM hkP hkPi (g := F0 m pc ls st) rfl (argsL := As) (rest := rest) hlen hst (by rw [E.2.1]; exact hd)
    exact ⟨mk, vm₁, hnamed, X₁, hstep⟩
end LHB
