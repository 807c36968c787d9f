/-! ends, entries, calls -/
section SMC
variable {G : sm_G} {f : sm_F} {pc : Nat} {lv : List (Nat × Value)} {st rest : List Value} {M : sm_M} {bc bs : Nat} {Q : sm_O → sm_M → Prop}
variable {p : Program} {l : Launch} {e : Env} {R : Room} {s : State} {m : MethodId} {args : Array Value} {below : List Frame} {meth : Method} {c : Code} {H : Heap} {locs : List Loc} {cells slots : Nat}
theorem sm_ret {mc ms : Nat} {g : JFrame} (k : W p l e R s m args below meth c H locs cells slots (MQ below (fun _ st o t => ∃ v, o = .returned v ∧ Q (.inl v) M ∧ sm_R G M t.heap ∧ va_F (sm_A G) st t) args s mc ms (sm_A G)) g) : W p l e R s m args below meth c H locs cells slots (sm_End G below Q s mc ms) g := by
  intro T hT X
  obtain ⟨t, a1, o, b1, b2, ⟨v, hv, hq, hr, hf⟩, L, ⟨-, hW, hsm⟩, hL⟩ := k T hT X
  exact ⟨t, a1, o, b1, b2, M, L, hr, hf, hW, hsm, hL, Or.inl ⟨v, hv, hq⟩⟩
theorem sm_ireturn {v : Int32} {ty : FieldType} (hd : decode f.2.1 pc = .ok (.ireturn, 1)) (hr : f.2.2.2.1 = some ty) (hn : narrow ty (.int v) = .int v) (hq : Q (.inl (some (.int v))) M) : sm_W G f pc lv [.int v] M bc bs Q := by
  intro p l e R s m args below meth c H locs ls cells slots E r S L hc hs
  have hlocks : meth.locks = false := E.2.2.2.2.2.2.1
  exact W.widen (k := R.cells) (n := R.slots) (by omega) (by omega) (sm_ret (M := M) (W.zret E.1 E.2.1 (E.2.2.2.2.2.1.trans hr) hn (fun t ht hW => ⟨_, rfl, hq, by rw [ht]; exact r, S.F ht⟩) S.2.2 hd hlocks))
theorem sm_lreturn {v : Int64} (hd : decode f.2.1 pc = .ok (.lreturn, 1)) (hr : f.2.2.2.1 = some .long) (hq : Q (.inl (some (.long v))) M) : sm_W G f pc lv [.long v] M bc bs Q := by
  intro p l e R s m args below meth c H locs ls cells slots E r S L hc hs
  have hlocks : meth.locks = false := E.2.2.2.2.2.2.1
  exact W.widen (k := R.cells) (n := R.slots) (by omega) (by omega) (sm_ret (M := M) (W.lret E.1 E.2.1 (E.2.2.2.2.2.1.trans hr) (fun t ht hW => ⟨_, rfl, hq, by rw [ht]; exact r, S.F ht⟩) S.2.2 hd hlocks))
theorem sm_areturn {v : Value} {rt : FieldType} (hd : decode f.2.1 pc = .ok (.areturn, 1)) (hr : f.2.2.2.1 = some rt) (hrt : (∃ n, rt = .object n) ∨ ∃ t, rt = .array t) (hv : v = .null ∨ ∃ a, v = .ref a) (hq : Q (.inl (some v)) M) : sm_W G f pc lv [v] M bc bs Q := by
  intro p l e R s m args below meth c H locs ls cells slots E r S L hc hs
  have hlocks : meth.locks = false := E.2.2.2.2.2.2.1
  exact W.widen (k := R.cells) (n := R.slots) (by omega) (by omega) (sm_ret (M := M) (W.aret E.1 E.2.1 (E.2.2.2.2.2.1.trans hr) hrt hv (fun t ht hW => ⟨_, rfl, hq, by rw [ht]; exact r, S.F ht⟩) S.2.2 hd hlocks))
theorem sm_return (hd : decode f.2.1 pc = .ok (.return_, 1)) (hr : f.2.2.2.1 = none) (hq : Q (.inl none) M) : sm_W G f pc lv [] M bc bs Q := by
  intro p l e R s m args below meth c H locs ls cells slots E r S L hc hs
  have hlocks : meth.locks = false := E.2.2.2.2.2.2.1
  exact W.widen (k := R.cells) (n := R.slots) (by omega) (by omega) (sm_ret (M := M) (W.vret E.1 E.2.1 (E.2.2.2.2.2.1.trans hr) (fun t ht hW => ⟨_, rfl, hq, by rw [ht]; exact r, S.F ht⟩) S.2.2 hd hlocks))
/-- what the word of a method's code says -/
theorem sm_codeAt {g : sm_F} {a : Array Value} {U : State} (h : (sm_cw g).before a U = true) : ∃ mk meth c, U.methodNamed? g.1 = some mk ∧ U.vm.method? mk = some meth ∧ meth.code = some c ∧ c.code = g.2.1 ∧ c.maxLocals = g.2.2.1 ∧ meth.sig.returnType = g.2.2.2.1 ∧ meth.locks = false ∧ c.exceptionTable.toList = tableOf g.2.2.2.2.1 ∧ parseMethodDescriptor g.1.desc = some meth.sig := by
  unfold sm_cw at h
  cases hh : g.2.2.2.2.1 with
  | nil =>
    rw [hh] at h
    obtain ⟨mk, hn⟩ := Cond.code_named h
    obtain ⟨meth, c, h1, h2, h3, h4, h5, h6, h7, h8⟩ := Cond.code_spec hn h
    exact ⟨mk, meth, c, hn, h1, h2, h3, h4, h5, h6, by rw [Array.isEmpty_iff.mp h7]; rfl, h8⟩
  | cons x t =>
    rw [hh] at h
    obtain ⟨mk, meth, c, hn, h1, h2, h3, h4, h5, h6, h7, h8⟩ := Cond.codeWith_spec h
    exact ⟨mk, meth, c, hn, h1, h2, h3, h4, h6, h7, by rw [← h5, table_eq], h8⟩
/-- a contract out of the walk of a body -/
theorem sm_ofW {As : List Value} {mc ms : Nat} (hy : plainName f.1.cls = true) (hA : (lg_sl As).length ≤ f.2.2.1) (h : sm_W G f 0 (lv_args 0 As) [] M mc ms Q) : sm_C G f As M mc ms Q := by
  intro l hl
  refine MetFree.of_bodyS (code := f.2.1) (maxLocals := f.2.2.1) (ret := f.2.2.2.1) hy ?_ ?_
  · intro args s m h1 hn
    obtain ⟨mk, meth, c, hn9, h2, h3, h4, h5, h6, h7, -⟩ := sm_codeAt (atoms_spec (ws := sm_cw f :: sm_WS) h1 _ List.mem_cons_self)
    cases hn.symm.trans hn9
    exact ⟨meth, c, h2, h3, h4, h5, h6, h7⟩
  · intro p e s m args below meth c s₁ B hml hv _
    have hh0 : s₁.heap = s.heap := by rw [B.state]; rfl
    obtain ⟨rfl, hR, hK, hZ, hb, hX⟩ := hv
    have hts := atoms_spec (ws := sm_cw f :: sm_WS) B.pre
    have htab : c.exceptionTable.toList = tableOf f.2.2.2.2.1 := by
      obtain ⟨mk, meth9, c9, hn9, h2, h3, h4, h5, h6, h7, h8, -⟩ := sm_codeAt (hts _ List.mem_cons_self)
      cases Option.some.inj (hn9.symm.trans B.named)
      cases Option.some.inj (h2.symm.trans B.method)
      cases Option.some.inj (h3.symm.trans (Stand.of_body B).code)
      exact h8
    have K := h p l e { frames := f.2.2.2.2.2.1, cells := mc, slots := ms, locals := f.2.2.2.2.2.2 } s m As.toArray below meth c s.heap [] _ 0 0 ⟨B.exec, B.bytes, hml, findClass_of_methodNamed B.named, fun w hw => hts w (List.mem_cons_of_mem _ hw), B.returns, B.notSynchronized, (name_of_methodNamed B.named B.method).1, htab, hl, Nat.le_refl _, Nat.le_refl _, hK, hZ, hb, hX⟩ hR va_S.rf (lv_entry As hA) (Nat.le_of_eq (Nat.zero_add _)) (Nat.le_of_eq (Nat.zero_add _))
    rw [← lg_entry_eq] at K
    obtain ⟨t, a1, o, b1, b2, b3⟩ := K s₁ hh0 (Stand.of_body B)
    exact ⟨t, o, a1, b1, b2, b3⟩
set_option maxHeartbeats 1000000 in
/-- a call comes back, or throws -/
theorem sm_back {U : State} {g : sm_F} {As : List Value} {P : sm_O → sm_M → Prop} {mc ms : Nat} (X : Stand p l e R s m args below meth c U locs cells slots) (hC : sm_C G g As M mc ms P) (hl : l.stackTraces = false) (hcw : sm_cw g ∈ sm_WS) (hini : Cond.initialized g.1.cls ∈ sm_WS) (hws : ∀ w ∈ sm_WS, w.before args s = true)
    (hfr : g.2.2.2.2.2.1 + 1 ≤ R.frames) (hlo : 12 + (g.2.2.1 + 11) + g.2.2.2.2.2.2 ≤ R.locals) (hc : cells + mc ≤ R.cells) (hs : slots + ms ≤ R.slots)
    {j : JFrame} {ig : Instr} (hg : j.method = m) (hsize : j.locals.size = c.maxLocals) (hdg : decode c.code j.pc = .ok (ig, 3)) (hW : 2 * j.monitorRoom + (j.stack.map fun v => v.category).sum ≤ 12) {mk : MethodId} (hn : U.methodNamed? g.1 = some mk) (hPc : sm_Pc G As M As.toArray U) :
    ∃ (U' : State) (L : List Loc) (M' : sm_M), Stand p l e R s m args below meth c U' (locs ++ L) (cells + mc) (slots + ms) ∧ (∀ z ∈ L, sm_A G z.base) ∧ sm_R G M' U'.heap ∧ U.heap.size ≤ U'.heap.size ∧ (∀ q : Nat, q < U.heap.size → ¬ sm_A G q → U'.heap[q]? = U.heap[q]?) ∧
      ((∃ v, P (.inl v) M' ∧ Steps p.tables e below (doInvoke e (U.setTop j) [] mk As.toArray).1 (U'.setTop { j with pc := j.pc + 3, stack := v.toList ++ j.stack })) ∨
       (∃ (q : Addr) (Z : String) (ce : Cell), P (.inr Z) M' ∧ U'.heap[q]? = some ce ∧ ce.vm = .none ∧ s.vm.findClass Z = some ce.cls ∧ Steps p.tables e below (doInvoke e (U.setTop j) [] mk As.toArray).1 ((U'.setTop j).pushFrame (.throwing q)))) := by
  have hw1 : ∀ w ∈ sm_cw g :: sm_WS, w.before As.toArray U = true := fun w hw => pay_in hws (sm_GoodIn hcw) w hw As.toArray U X.warmed
  obtain ⟨mk9, methY, cY, hn9, hmY, hcY, -, hlY, -⟩ := sm_codeAt (hw1 _ List.mem_cons_self)
  cases Option.some.inj (hn9.symm.trans hn)
  obtain ⟨kY, hkY, -⟩ := className_of_methodNamed hn
  have hinitY : kY.init = .initialized := Cond.initialized_spec (findClass_of_methodNamed hn) hkY (hw1 _ (List.mem_cons_of_mem _ hini))
  have h : At U j.method c below := by rw [hg]; exact X.here
  have happ : (headSpec (sm_cw g :: sm_WS) { frames := g.2.2.2.2.2.1, cells := mc, slots := ms, locals := g.2.2.2.2.2.2 }).appliesLoose g.1 e.platform (U.calling j mk As.toArray) = true :=
    Spec.appliesLoose_calling (g := j) h hdg hn hkY hinitY (X.room_calling (g := j) (R' := { frames := g.2.2.2.2.2.1, cells := mc, slots := ms, locals := g.2.2.2.2.2.2 }) hsize hmY hcY hfr (by rw [hlY]; show _ + _ + (g.2.2.1 + 11) + g.2.2.2.2.2.2 ≤ _; omega) hc hs) (atoms_intro hw1)
  obtain ⟨mid, hmid⟩ := h.above
  have hfs : (U.setTop j).frames = (.java j :: mid) ++ below := by rw [State.frames_setTop' j h.top, hmid]; rfl
  obtain ⟨o, s₂, hsteps, -, hend, hq⟩ := Steps.callFree (hC l hl) p X.admits X.cas X.clock (acts := []) hfs happ (sm_blind _ _ _ _ hPc) trivial
  rw [State.frames_setTop' j h.top] at hend
  have hq : sm_Q G P mc ms (U.calling j mk As.toArray) o s₂ := hq
  obtain ⟨M', L, hR', hF, hW₂, hsm, hL, hcase⟩ := hq
  obtain ⟨g₀, hg0⟩ := Option.isSome_iff_exists.mp h.top
  obtain ⟨r, hr⟩ := State.topJava?_eq_some.mp hg0
  obtain ⟨e2, q2, q3, q4, q5, q6⟩ := id hsm
  have e3 : s₂ = ({ (U.calling j mk As.toArray).setFrames s₂.frames with heap := s₂.heap, slotsUsed := s₂.slotsUsed } : State).setVm s₂.vm := by
    have h9 : s₂ = ({ s₂ with vm := (U.calling j mk As.toArray).vm } : State).setVm s₂.vm := rfl
    rw [e2] at h9
    exact h9
  have hW' : U.WarmedH s₂.vm := hW₂
  have hr' : (({ U with heap := s₂.heap, slotsUsed := s₂.slotsUsed } : State).setVm s₂.vm).frames = .java g₀ :: r := hr
  have hsame : U.sameButNew ({ U with heap := s₂.heap, slotsUsed := s₂.slotsUsed } : State) L mc ms := by
    refine ⟨?_, q2, q3, q4, q5, q6⟩
    obtain ⟨t, ht, -⟩ := State.frames_cons hr
    show ({ U with heap := s₂.heap, slotsUsed := s₂.slotsUsed } : State) = { U.setFrames U.frames with heap := s₂.heap, slotsUsed := s₂.slotsUsed }
    rw [State.setFrames_self ht]
  subst hg
  refine ⟨({ U with heap := s₂.heap, slotsUsed := s₂.slotsUsed } : State).setVm s₂.vm, L, M',
    ⟨X.admits, X.cas, X.clock, X.frames, X.room, X.hears, X.method, X.code, (X.here.setHeapUsed s₂.heap s₂.slotsUsed).setVm hW'.alike, X.tail, State.WarmedH.trans X.warmed hW', X.limits, X.bytes, X.same.trans (hsame.setVm s.vm)⟩, hL, hR', hF.1, hF.2, ?_⟩
  rcases hcase with ⟨v, rfl, hP⟩ | ⟨q, Z, ce, rfl, hP, hce, hcv, hcl⟩
  · refine Or.inl ⟨v, hP, ?_⟩
    obtain ⟨c₂, i₂, len₂, hc₂, hd₂, hf₂⟩ := hend
    have hcc : c₂ = c := by
      have h1 : s₂.code? j.method = U.code? j.method := by
        rw [State.code?_eq, State.code?_eq, hW'.alike.method?]
      exact Option.some.inj (hc₂.symm.trans (h1.trans h.code))
    subst hcc
    have hlen : len₂ = 3 := by rw [hdg] at hd₂; cases hd₂; rfl
    subst hlen
    have hs₂ : s₂ = (({ U with heap := s₂.heap, slotsUsed := s₂.slotsUsed } : State).setVm s₂.vm).setTop { j with pc := j.pc + 3, stack := v.toList ++ j.stack } := by
      refine e3.trans ?_
      rw [hf₂, State.calling_eq h.top, State.setFrames_setFrames, State.setTop_of_frames _ hr', hr]
      rfl
    rw [← hs₂]
    exact hsteps
  · refine Or.inr ⟨q, Z, ce, hP, hce, hcv, ?_, ?_⟩
    · have h9 : U.vm.findClass Z = some ce.cls := hcl
      rw [X.warmed.alike.findClass] at h9
      exact h9
    · have hf₂ : s₂.frames = .throwing q :: .java j :: U.frames.tail := hend
      have hs₂ : s₂ = ((({ U with heap := s₂.heap, slotsUsed := s₂.slotsUsed } : State).setVm s₂.vm).setTop j).pushFrame (.throwing q) := by
        refine e3.trans ?_
        rw [hf₂, State.calling_eq h.top, State.setFrames_setFrames, State.pushFrame, State.frames_setTop _ hr', State.setTop_of_frames _ hr', State.setFrames_setFrames, hr]
        rfl
      rw [← hs₂]
      exact hsteps
/-- a thrown cell leaves a method that has no handlers -/
theorem sm_out {T : State} {locs9 : List Loc} {cells9 slots9 : Nat} {M9 : sm_M} {q : Addr} {Z : String} {ce : Cell} {ls : Array Slot} (E : sm_E G f p l R s m args meth c) (hno : f.2.2.2.2.1 = []) (X : Stand p l e R s m args below meth c T locs9 cells9 slots9) (S : va_S (sm_A G) s.heap T.heap locs9) (hR : sm_R G M9 T.heap) (hQ : Q (.inr Z) M9) (hce : T.heap[q]? = some ce) (hcv : ce.vm = .none) (hcl : s.vm.findClass Z = some ce.cls) (hc : cells9 ≤ R.cells) (hs : slots9 ≤ R.slots) :
    ∃ t, Steps p.tables e below ((T.setTop (F0 m pc ls rest)).pushFrame (.throwing q)) t ∧ sm_End G below Q s R.cells R.slots t := by
  have htab : c.exceptionTable.toList = tableOf f.2.2.2.2.1 := E.2.2.2.2.2.2.2.2.1
  obtain ⟨st1, hrun, hend, hW, hsm⟩ := X.leaveThrown q (g := F0 m pc ls rest) rfl rfl rfl (by rw [htab, hno]; intro x hx; cases hx) E.2.2.2.2.2.2.1
  exact ⟨_, st1, .threw q, hrun, hend, M9, locs9, hR, ⟨S.1, S.2.1⟩, hW, hsm.mono hc hs, S.2.2, Or.inr ⟨q, Z, ce, rfl, hQ, hce, hcv, hcl⟩⟩
/-- what a call site knows -/
def sm_Call (f : sm_F) (index : Nat) (g : sm_F) (n : Nat) : Prop := sm_cw g ∈ sm_WS ∧ Cond.initialized g.1.cls ∈ sm_WS ∧ (g.1.cls ≠ "java/lang/invoke/MethodHandle" ∧ g.1.cls ≠ "java/lang/invoke/VarHandle") ∧ (parseMethodDescriptor g.1.desc).map (fun d => d.parameters.length) = some n ∧
  (g.2.2.2.2.2.1 + 1 ≤ f.2.2.2.2.2.1 ∧ 12 + (g.2.2.1 + 11) + g.2.2.2.2.2.2 ≤ f.2.2.2.2.2.2) ∧ (Cond.methodLink f.1.cls index g.1 ∈ sm_WS ∨ ∃ host, Cond.methodLinkNest f.1.cls index g.1 host ∈ sm_NW)
theorem sm_pre (E : sm_E G f p l R s m args meth c) (r : sm_R G M H) (S : va_S (sm_A G) s.heap H locs) (As : List Value) : ∀ U : State, U.heap = H → s.WarmedH U.vm → sm_Pc G As M As.toArray U := by
  intro U hU hW
  obtain ⟨hx, hb, hml, hown, hts, hr, hlocks, hname, htab, hst, hfr, hlo, hK, hZ, hbase, hX⟩ := E
  exact ⟨rfl, by rw [hU]; exact r, hK.warm hW, by rw [hU]; exact hZ.warm hW.alike S, by rw [hU]; exact Nat.le_trans hbase S.1, by rw [hU]; exact hX.warm hW.alike hbase S⟩
theorem sm_keep {H1 : Heap} {L : List Loc} (S : va_S (sm_A G) s.heap H locs) (hz : H.size ≤ H1.size) (hk : ∀ q : Nat, q < H.size → ¬ sm_A G q → H1[q]? = H[q]?) (hL : ∀ z ∈ L, sm_A G z.base) : va_S (sm_A G) s.heap H1 (locs ++ L) :=
  ⟨Nat.le_trans S.1 hz, fun q h1 h2 => (hk q (Nat.lt_of_lt_of_le h1 S.1) h2).trans (S.2.1 q h1 h2), fun z hz9 => (List.mem_append.mp hz9).elim (S.2.2 z) (hL z)⟩
/-- the same end of the three kinds of call: 'step' is the invoking instruction itself -/
theorem sm_call {index n mc ms bc' bs' : Nat} {g : sm_F} {As : List Value} {P : sm_O → sm_M → Prop} {ig : Instr} {ls : Array Slot} (E : sm_E G f p l R s m args meth c) (r : sm_R G M H) (S : va_S (sm_A G) s.heap H locs) (L : lv_has ls f.2.2.1 lv) (hc : cells + bc ≤ R.cells) (hs : slots + bs ≤ R.slots)
    (hd : decode f.2.1 pc = .ok (ig, 3)) (hg : sm_Call f index g n) (hno : f.2.2.2.2.1 = []) (hrest : (rest.map fun v => v.category).sum ≤ 12) (hmc : mc + bc' ≤ bc) (hms : ms + bs' ≤ bs) (hC : sm_C G g As M mc ms P)
    (kx : ∀ (X : String) (M' : sm_M), P (.inr X) M' → Q (.inr X) M') (kk : ∀ (v : Option Value) (M' : sm_M), P (.inl v) M' → sm_W G f (pc + 3) lv (v.toList ++ rest) M' bc' bs' Q)
    (step : ∀ T : State, T.heap = H → Stand p l e R s m args below meth c T locs cells slots → ∃ mk vm₁, s.methodNamed? g.1 = some mk ∧ Stand p l e R s m args below meth c (T.setVm vm₁) locs cells slots ∧ ∀ target, (∀ acts, Steps p.tables e below (doInvoke e ((T.setVm vm₁).setTop (F0 m pc ls rest)) acts mk As.toArray).1 target) → Steps p.tables e below (T.setTop (F0 m pc ls st)) target) :
    W p l e R s m args below meth c H locs cells slots (sm_End G below Q s R.cells R.slots) (F0 m pc ls st) := by
  intro T hT X
  obtain ⟨mk, vm₁, hnamed, X₁, hstep⟩ := step T hT X
  obtain ⟨hcw, hini, -, -, hR, -⟩ := hg
  have hfr := E.2.2.2.2.2.2.2.2.2.2.1
  have hlo := E.2.2.2.2.2.2.2.2.2.2.2.1
  have hml := E.2.2.1
  obtain ⟨U', L9, M', X', hL, hR', hz, hk, hcase⟩ := sm_back X₁ hC E.2.2.2.2.2.2.2.2.2.1 hcw hini E.2.2.2.2.1 (Nat.le_trans hR.1 hfr) (Nat.le_trans hR.2 hlo) (by omega) (by omega) (j := F0 m pc ls rest) (ig := ig) rfl (by rw [hml]; exact L.1) (by rw [E.2.1]; exact hd) (by show 2 * 0 + (rest.map fun v => v.category).sum ≤ 12; omega) (X₁.named hnamed) (sm_pre E r S As _ hT X₁.warmed)
  have hz : H.size ≤ U'.heap.size := by rw [← hT]; exact hz
  have hk : ∀ q : Nat, q < H.size → ¬ sm_A G q → U'.heap[q]? = H[q]? := by rw [← hT]; exact hk
  have S' := sm_keep S hz hk hL
  rcases hcase with ⟨v, hP, stp⟩ | ⟨q, Z, ce, hP, hce, hcv, hcl, stp⟩
  · obtain ⟨t2, a1, b1⟩ := kk v M' hP p l e R s m args below meth c U'.heap (locs ++ L9) ls (cells + mc) (slots + ms) E hR' S' L (by omega) (by omega) U' rfl X'
    exact ⟨t2, hstep _ (fun acts => by rw [doInvoke_state]; exact stp.trans a1), b1⟩
  · obtain ⟨t2, a1, b1⟩ := sm_out (pc := pc) (ls := ls) (rest := rest) E hno X' S' hR' (kx _ _ hP) hce hcv hcl (by omega) (by omega)
    exact ⟨t2, hstep _ (fun acts => by rw [doInvoke_state]; exact stp.trans a1), b1⟩
theorem sm_callS {index n mc ms bc' bs' : Nat} {g : sm_F} {As : List Value} {P : sm_O → sm_M → Prop} (hd : decode f.2.1 pc = .ok (.invokestatic index, 3)) (hg : sm_Call f index g n ∧ Cond.static g.1 ∈ sm_WS) (hno : f.2.2.2.2.1 = []) (hn : As.length = n) (hst : st = As.reverse ++ rest) (hrest : (rest.map fun v => v.category).sum ≤ 12) (hmc : mc + bc' ≤ bc) (hms : ms + bs' ≤ bs) (hC : sm_C G g As M mc ms P)
    (kx : ∀ (X : String) (M' : sm_M), P (.inr X) M' → Q (.inr X) M') (kk : ∀ (v : Option Value) (M' : sm_M), P (.inl v) M' → sm_W G f (pc + 3) lv (v.toList ++ rest) M' bc' bs' Q) : sm_W G f pc lv st M bc bs Q := by
  intro p l e R s m args below meth c H locs ls cells slots E r S L hc hs
  refine sm_call E r S L hc hs hd hg.1 hno hrest hmc hms hC kx kk ?_
  intro T hT X
  obtain ⟨⟨hcw, hini, hy, hpar, hR, hlk⟩, hstat⟩ := hg
  have hts := E.2.2.2.2.1
  obtain ⟨mk, methM, cM, hnamed, hmethM, hcM, -, -, -, -, -, hsigM⟩ := sm_codeAt (hts _ hcw)
  have hstatic : methM.isStatic = true := Cond.static_spec hnamed hmethM (hts _ hstat)
  obtain ⟨kP, hkP, -⟩ := className_of_methodNamed hnamed
  have hinitP : kP.init = .initialized := Cond.initialized_spec (findClass_of_methodNamed hnamed) hkP (hts _ hini)
  have hlen : As.length = methM.sig.parameters.length := by rw [hsigM] at hpar; exact hn.trans (Option.some.inj hpar).symm
  rcases hlk with hlk | ⟨host, hlk⟩
  · obtain ⟨vm₁, X₁, hstep⟩ := X.invokestatic E.1 E.2.2.2.1 (hts _ hlk) hnamed hmethM hstatic hkP hinitP hy (g := F0 m pc ls st) rfl (argsL := As) (rest := rest) hlen hst (by rw [E.2.1]; exact hd)
    exact ⟨mk, vm₁, hnamed, X₁, hstep⟩
  · obtain ⟨vm₁, X₁, hstep⟩ := X.invokestaticNest E.1 E.2.2.2.1 (va_Nw.use rfl (E.2.2.2.2.2.2.2.2.2.2.2.2.1.2.1 _ hlk)) hnamed hmethM hstatic hkP hinitP hy (g := F0 m pc ls st) rfl (argsL := As) (rest := rest) hlen hst (by rw [E.2.1]; exact hd)
    exact ⟨mk, vm₁, hnamed, X₁, hstep⟩
theorem sm_callV {index n mc ms bc' bs' b ci N : Nat} {fs : List Value} {C : String} {T9 : u_T} {g : sm_F} {As : List Value} {P : sm_O → sm_M → Prop} (hd : decode f.2.1 pc = .ok (.invokevirtual index, 3)) (hg : sm_Call f index g n ∧ Cond.instanceMethod g.1 ∈ sm_WS ∧ Cond.selects C g.1 g.1 ∈ sm_WS ∧ sm_cl[ci]? = some (C, T9, N)) (hno : f.2.2.2.2.1 = []) (hm : M.1 b = some (.inr (ci, fs))) (hn : As.length = n) (hst : st = As.reverse ++ .ref b :: rest) (hrest : (rest.map fun v => v.category).sum ≤ 12) (hmc : mc + bc' ≤ bc) (hms : ms + bs' ≤ bs) (hC : sm_C G g (.ref b :: As) M mc ms P)
    (kx : ∀ (X : String) (M' : sm_M), P (.inr X) M' → Q (.inr X) M') (kk : ∀ (v : Option Value) (M' : sm_M), P (.inl v) M' → sm_W G f (pc + 3) lv (v.toList ++ rest) M' bc' bs' Q) : sm_W G f pc lv st M bc bs Q := by
  intro p l e R s m args below meth c H locs ls cells slots E r S L hc hs
  refine sm_call E r S L hc hs hd hg.1 hno hrest hmc hms hC kx kk ?_
  intro T hT X
  obtain ⟨⟨hcw, hini, hy, hpar, hR, hlk⟩, hinst, hsel, hcl⟩ := hg
  have hts := E.2.2.2.2.1
  obtain ⟨cellB, hcell, hobj, hcls⟩ := va_recv E.2.2.2.2.2.2.2.2.2.2.2.2.1.1 (sm_one r hm) (ci := ci) (q0 := 0) hcl rfl
  rw [← hT] at hcell
  obtain ⟨mk, methM, hnamed, hmethM, hstM, habM⟩ := Cond.instanceMethod_spec (hts _ hinst)
  obtain ⟨mk9, methM', cM, hnamed9, hmethM', hcM, -, -, -, -, -, hsigM⟩ := sm_codeAt (hts _ hcw)
  cases Option.some.inj (hnamed9.symm.trans hnamed)
  cases Option.some.inj (hmethM.symm.trans hmethM')
  obtain ⟨c2, r2, m2, q1, q2, q3, q4, kP, hkP, hkPi⟩ := Cond.selects_spec (hts _ hsel)
  cases hcls.symm.trans q1
  cases (State.methodFound?_of_named hnamed hy).symm.trans q2
  cases hnamed.symm.trans q3
  have hselP : selectMethod e.platform s.vm cellB.cls mk = .method mk := by rw [Launch.admits_selectMethod X.admits]; exact q4
  have hlen : As.length = methM.sig.parameters.length := by rw [hsigM] at hpar; exact hn.trans (Option.some.inj hpar).symm
  rcases hlk with hlk | ⟨host, hlk⟩
  · obtain ⟨vm₁, X₁, hstep⟩ := X.invokevirtual E.1 E.2.2.2.1 (hts _ hlk) hnamed hmethM hstM hkP hkPi hy (a := b) (cell := cellB) hcell (fun z h => by rw [h] at hobj; cases hobj) hselP hmethM habM hkP hkPi (g := F0 m pc ls st) rfl (argsL := As) (rest := rest) hlen hst (by rw [E.2.1]; exact hd)
    exact ⟨mk, vm₁, hnamed, X₁, hstep⟩
  · obtain ⟨vm₁, X₁, hstep⟩ := X.invokevirtualNest E.1 E.2.2.2.1 (va_Nw.use rfl (E.2.2.2.2.2.2.2.2.2.2.2.2.1.2.1 _ hlk)) hnamed hmethM hstM hkP hkPi hy (a := b) (cell := cellB) hcell (fun z h => by rw [h] at hobj; cases hobj) hselP hmethM habM hkP hkPi (g := F0 m pc ls st) rfl (argsL := As) (rest := rest) hlen hst (by rw [E.2.1]; exact hd)
    exact ⟨mk, vm₁, hnamed, X₁, hstep⟩
theorem sm_callI {index n mc ms bc' bs' b : Nat} {g : sm_F} {As : List Value} {P : sm_O → sm_M → Prop} (hd : decode f.2.1 pc = .ok (.invokespecial index, 3)) (hg : sm_Call f index g n ∧ Cond.instanceMethod g.1 ∈ sm_WS ∧ g.1.name = "<init>" ∧ g.2.2.2.1 = none ∧ g.2.2.2.2.1 = []) (hno : f.2.2.2.2.1 = []) (hn : As.length = n) (hst : st = As.reverse ++ .ref b :: rest) (hrest : (rest.map fun v => v.category).sum ≤ 12) (hmc : mc + bc' ≤ bc) (hms : ms + bs' ≤ bs) (hC : sm_C G g (.ref b :: As) M mc ms P)
    (kx : ∀ (X : String) (M' : sm_M), P (.inr X) M' → Q (.inr X) M') (kk : ∀ (v : Option Value) (M' : sm_M), P (.inl v) M' → sm_W G f (pc + 3) lv (v.toList ++ rest) M' bc' bs' Q) : sm_W G f pc lv st M bc bs Q := by
  intro p l e R s m args below meth c H locs ls cells slots E r S L hc hs
  refine sm_call E r S L hc hs hd hg.1 hno hrest hmc hms hC kx kk ?_
  intro T hT X
  obtain ⟨⟨hcw, hini, hy, hpar, hR, hlk⟩, hinst, hnm, hret, hgh⟩ := hg
  have hts := E.2.2.2.2.1
  have hcode : (Cond.code g.1 g.2.1 g.2.2.1 none).before args s = true := by
    have h9 := hts _ hcw
    unfold sm_cw at h9
    rw [hgh, hret] at h9
    exact h9
  have hpl : e.platform.magicAccessors = ({} : Platform).magicAccessors := by rw [X.admits.platform]
  have hlen : ∀ sig, parseMethodDescriptor g.1.desc = some sig → As.length = sig.parameters.length := fun sig h9 => by rw [h9] at hpar; exact hn.trans (Option.some.inj hpar).symm
  rcases hlk with hlk | ⟨host, hlk⟩
  · obtain ⟨mk, methM, cM, kP, vm₁, hnamed, hmethM, hcodeM, -, hlocalsM, -, hkP, -, hW₁, hstep⟩ := Steps.initColdArgs (e := e) X.here E.1 X.warmed hpl E.2.2.2.1 hnm hy (hts _ hlk) (hts _ hinst) hcode (f := F0 m pc ls st) rfl hlen hst (by rw [E.2.1]; exact hd)
    exact ⟨mk, vm₁, hnamed, X.noted hW₁, hstep⟩
  · obtain ⟨mk, methM, cM, kP, vm₁, hnamed, hmethM, hcodeM, -, hlocalsM, -, hkP, -, hW₁, hstep⟩ := Steps.initColdArgsNest (e := e) X.here E.1 X.warmed hpl E.2.2.2.1 hnm hy (va_Nw.use rfl (E.2.2.2.2.2.2.2.2.2.2.2.2.1.2.1 _ hlk)) (hts _ hinst) hcode (f := F0 m pc ls st) rfl hlen hst (by rw [E.2.1]; exact hd)
    exact ⟨mk, vm₁, hnamed, X.noted hW₁, hstep⟩
end SMC
