/-! a throw of a NoSuchElementException: its constructor names that of its super class by place 13 -/
section NSE
variable {p : Program} {l : Launch} {e : Env} {R : Room} {s : State} {m : MethodId} {args : Array Value} {below : List Frame} {meth : Method} {c : Code} {T : State} {locs : List Loc} {cells slots : Nat}
def sm_bN : ByteArray := prog_26_method_4_code
theorem sm_bN0 : decode sm_bN 0 = .ok (.aload_n 0, 1) := by decide +kernel
theorem sm_bN1 : decode sm_bN 1 = .ok (.aload_n 1, 1) := by decide +kernel
theorem sm_bN2 : decode sm_bN 2 = .ok (.invokespecial 13, 3) := by decide +kernel
theorem sm_bN5 : decode sm_bN 5 = .ok (.return_, 1) := by decide +kernel
abbrev sm_nX : String := "java/util/NoSuchElementException"
abbrev sm_rX : String := "java/lang/RuntimeException"
abbrev sm_eX : String := "java/lang/Exception"
/-- the words of a throw behind those of the chain of constructors -/
def sm_tlN (own : String) (ic : Nat) : List Cond := (Bundle.ownAtoms own ic sm_nX []).drop (Bundle.throwableAtoms ++ Bundle.throwableSAtoms ++ Bundle.chainSAtoms sm_nX []).length
def sm_atN (own : String) (ic : Nat) : List Cond := Bundle.throwableAtoms ++ (Bundle.throwableSAtoms ++ (Bundle.passSAtoms sm_nX sm_rX 13 sm_bN ++ (Bundle.chainSAtoms sm_rX [sm_eX] ++ sm_tlN own ic)))
theorem sm_tl {own : String} {ic : Nat} {w : Cond} (h : w ∈ (Bundle.ownAtoms own ic sm_nX []).drop (Bundle.throwableAtoms ++ Bundle.throwableSAtoms ++ Bundle.chainSAtoms sm_nX []).length) : w ∈ sm_atN own ic := by
  unfold sm_atN sm_tlN
  exact List.mem_append_right _ (List.mem_append_right _ (List.mem_append_right _ (List.mem_append_right _ h)))
set_option maxHeartbeats 2000000 in
theorem sm_ctorN (X : Stand p l e R s m args below meth c T locs cells slots) (hx : p.tables.exec = Jvm.exec) (htr : e.platform.stackTraces = false) {own : String} {ic : Nat} (hown : s.vm.findClass own = some m.cls) (h : ∀ a ∈ sm_atN own ic, a.before args s = true) (hl0 : ∀ x ∈ locs, ∀ cell, s.heap[x.base]? = some cell → cell.vm.isStatics = false)
    {a : Addr} {cX : ClassId} {kX : Class} (hfX : s.vm.findClass sm_nX = some cX) (hkX : s.vm.classes[cX]? = some kX) (hcell : T.heap[a]? = some (freshCell cX kX)) (hnew : s.heap.size ≤ a) {msg : Value} (hmsg : msg.isRef = true)
    {g : JFrame} (hg : g.method = m) (hsize : g.locals.size = c.maxLocals) (hlk : g.locked = none) (hent : g.entered = []) {rest : List Value} (hstk : g.stack = msg :: .ref a :: .ref a :: rest)
    (d6 : decode c.code g.pc = .ok (.invokespecial ic, 3)) (d9 : decode c.code (g.pc + 3) = .ok (.athrow, 1)) (hout : ∀ x ∈ c.exceptionTable.toList, covers x (g.pc + 3) = false) (hRf : 5 < R.frames) (hRl : 2 * g.monitorRoom + ((Value.ref a :: rest).map fun v => v.category).sum + 81 ≤ R.locals) (hlocks : meth.locks = false) :
    ∃ U : State, Steps p.tables e below (T.setTop g) U ∧ U.status = .running ∧ Ended U below (.threw a) ∧ s.WarmedH U.vm ∧ s.sameButNew ({ U with vm := s.vm } : State) locs cells slots ∧ ∃ ce, U.heap[a]? = some ce ∧ ce.vm = .none ∧ s.vm.findClass sm_nX = some ce.cls := by
  have hpl : e.platform.magicAccessors = ({} : Platform).magicAccessors := by rw [X.admits.platform]
  have tl : ∀ w, w ∈ (Bundle.ownAtoms own ic sm_nX []).drop (Bundle.throwableAtoms ++ Bundle.throwableSAtoms ++ Bundle.chainSAtoms sm_nX []).length → w.holds args s none s [] = true := fun w hw => h w (sm_tl hw)
  rw [Bundle.ownAtoms, List.drop_left] at tl
  obtain ⟨Tc, Z0, L, -, Y⟩ := ThrowableC.of_atoms (args := args) (by rw [X.admits.platform]) (by rw [X.admits.platform]) hpl (fun w hw => h w (List.mem_append_left _ hw))
  obtain ⟨Z, Ms, LZ, LM, hnZ⟩ := Init0T.ofS_atoms (args := args) hpl L Y (fun w hw => h w (List.mem_append_right _ (List.mem_append_left _ hw)))
  have hpass : ∀ w ∈ Bundle.passSAtoms sm_nX sm_rX 13 sm_bN, w.before args s = true := fun w hw => h w (List.mem_append_right _ (List.mem_append_right _ (List.mem_append_left _ hw)))
  obtain ⟨P0, L0, hP0, hS0⟩ := PassC.ofS_atoms (args := args) (s := s) hpl (X := sm_nX) (Y := sm_rX) (by decide +kernel) ⟨by decide, by decide⟩ sm_bN0 sm_bN1 sm_bN2 sm_bN5 hpass
  obtain ⟨P1, Ps, hlen, L1, hL, hP1, hlk1, hlks⟩ := Bundle.chainS (args := args) hpl hnZ [sm_eX] sm_rX (by decide +kernel) (by decide +kernel) (fun w hw => h w (List.mem_append_right _ (List.mem_append_right _ (List.mem_append_right _ (List.mem_append_left _ hw)))))
  have hc0 : s.vm.findClass sm_nX = some P0.m.cls := findClass_of_methodNamed hP0
  have ecX : cX = P0.m.cls := Option.some.inj (hfX.symm.trans hc0)
  subst ecX
  obtain ⟨c1, k1, hc1, hk1, hord, -, -, hn6⟩ := Cond.instantiable_spec (tl (.instantiable sm_nX 6) (by simp))
  have ec1 : c1 = P0.m.cls := Option.some.inj (hc1.symm.trans hc0)
  subst ec1
  have ek1 : k1 = kX := Option.some.inj (hk1.symm.trans hkX)
  subst ek1
  have sel : ∀ {y : MethodName} {k : MethodId}, y.cls = Bundle.tN → (Cond.selects sm_nX y y).holds args s none s [] = true → s.methodNamed? y = some k → s.methodFound? y.cls y.name y.desc = some k → selectMethod e.platform s.vm P0.m.cls k = .method k := by
    intro y k _ hw hk hf
    obtain ⟨c2, r2, m2, q1, q2, q3, q4, -⟩ := Cond.selects_spec hw
    have f1 : c2 = P0.m.cls := Option.some.inj (q1.symm.trans hc0)
    have f2 : r2 = k := Option.some.inj (q2.symm.trans hf)
    have f3 : m2 = k := Option.some.inj (q3.symm.trans hk)
    subst f1 f2 f3
    rw [Launch.admits_selectMethod X.admits]
    exact q4
  have hsel0 := sel (y := Bundle.tFill0) rfl (tl _ (by simp)) Y.fill0 (State.methodFound?_of_named Y.fill0 (by decide))
  have hselF := sel (y := Bundle.tFill) rfl (tl _ (by simp)) Y.fill (State.methodFound?_of_named Y.fill (by decide))
  obtain ⟨cS0, hcS0, hiss⟩ := Y.statics
  obtain ⟨u0, hu0⟩ := Cond.staticRefV Y.unassigned L.unassignedStatic L.statics hcS0 hiss (tl (.isRef (.static Bundle.tN "UNASSIGNED_STACK" Bundle.steD)) (by simp))
  obtain ⟨sen, hsen⟩ := Cond.staticRefV Y.sentinel L.sentinelStatic L.statics hcS0 hiss (tl (.isRef (.static Bundle.tN "SUPPRESSED_SENTINEL" Bundle.listD)) (by simp))
  obtain ⟨b1, b2, fB, g1, g2, g3, g4, -, hnB, htB, hffB⟩ := Cond.ownField (t := .object "java/lang/Object") Y.found L.cls (by decide +kernel) (tl (.fieldLink Bundle.tN 198 Bundle.tN "backtrace" "Ljava/lang/Object;") (by simp)) (tl (.lays Bundle.tN Bundle.tN "backtrace" "Ljava/lang/Object;") (by simp)) e.platform hpl
  obtain ⟨cS, hcS', heS, -, hkeep⟩ := X.same.2.2.2.2.2 Tc.aS cS0 hcS0
  have hcS : T.heap[Tc.aS]? = some cS := hcS'
  have hnl : ∀ i, (⟨Tc.aS, i⟩ : Loc) ∉ locs := by
    intro i hi
    have h9 := hl0 _ hi cS0 hcS0
    rw [hiss] at h9
    cases h9
  have hkS : cS.vm ≠ .unknown := by
    rw [heS]
    intro hu
    have hu' : cS0.vm = .unknown := hu
    rw [hu'] at hiss
    cases hiss
  have hneS : Tc.aS ≠ a := Nat.ne_of_lt (Nat.lt_of_lt_of_le (Array.getElem?_eq_some_iff.mp hcS0).1 hnew)
  obtain ⟨iM, hffM⟩ := Y.msg
  obtain ⟨tC, lC, eC, nC⟩ := Cond.laysAt hc0 hkX Y.cause (tl (.lays sm_nX Bundle.tN "cause" "Ljava/lang/Throwable;") (by simp))
  obtain ⟨tS, lS, eS, nS⟩ := Cond.laysAt hc0 hkX Y.stack (tl (.lays sm_nX Bundle.tN "stackTrace" Bundle.steD) (by simp))
  obtain ⟨tP, lP, eP, nP⟩ := Cond.laysAt hc0 hkX Y.supp (tl (.lays sm_nX Bundle.tN "suppressedExceptions" Bundle.listD) (by simp))
  obtain ⟨tM, lM, eM, nM⟩ := Cond.laysAt hc0 hkX hffM (tl (.lays sm_nX Bundle.tN "detailMessage" "Ljava/lang/String;") (by simp))
  obtain ⟨tB, lB, eB, nB⟩ := Cond.laysAt hc0 hkX hffB (tl (.lays sm_nX Bundle.tN "backtrace" "Ljava/lang/Object;") (by simp))
  have bC := Cond.laysApart eB eC nB nC (by rw [hnB, Y.causeName]; decide)
  have bS := Cond.laysApart eB eS nB nS (by rw [hnB, Y.stackName]; decide)
  have bP := Cond.laysApart eB eP nB nP (by rw [hnB, Y.suppName]; decide)
  have hskip : SkipFacts Tc e.platform s (fun u => u) u0 ((preparedCellV Tc.toThrowableT (freshCell P0.m.cls k1) a u0 sen).withEntry T.cur) := by
    refine ⟨{ ci198 := b1, i198 := b2, fBack := fB }, ⟨g1, g2, g3, g4⟩, ?_, fun _ _ => rfl⟩
    have h9 := fresh_default (c := P0.m.cls) tB
    rw [htB] at h9
    simpa [preparedCellV, Cell.setSlot, Cell.withEntry, Array.getElem?_setIfInBounds, bC, bS, bP, bC.symm, bS.symm, bP.symm, defaultValue] using h9
  obtain ⟨tm, mC, cC, kC, vm1, hnC, -, -, -, -, -, -, -, hW1, st1⟩ := Steps.initColdS (tb := p.tables) (e := e) (below := below) (s := s) (U := T) X.here hx X.warmed hpl hown (t := Bundle.initS sm_nX) rfl rfl ⟨by decide, by decide⟩
    (tl (.methodLink own ic (Bundle.initS sm_nX)) (by simp)) (hpass (.instanceMethod (Bundle.initS sm_nX)) (by simp [Bundle.passSAtoms])) (bytes := sm_bN) (maxL := 2) (hpass (.code (Bundle.initS sm_nX) sm_bN 2 none) (by simp [Bundle.passSAtoms])) (f := g) hg (a := a) (msg := msg) (rest := .ref a :: rest) hstk d6
  have etm : tm = P0.m := Option.some.inj (hnC.symm.trans hP0)
  subst etm
  have hsup : P0.sup = firstOf (Z.m Tc.toThrowableT) ((P1 :: Ps).map (·.toPassT)) := Option.some.inj (hS0.symm.trans hP1)
  obtain ⟨vm2, X2, st2⟩ := (X.noted hW1).ctorMessageOffV hx (g := { g with stack := .ref a :: rest }) hg hsize Tc L Z LZ Ms LM (P0 :: P1 :: Ps)
    (fun P hP => by
      rcases List.mem_cons.mp hP with rfl | hP
      · exact L0
      · rcases List.mem_cons.mp hP with rfl | hP
        · exact L1
        · exact hL P hP) ⟨hsup, hlk1, hlks⟩ (u0 := u0) (sen := sen) (self := a) hmsg (cell := freshCell P0.m.cls k1) (cellS := cS) hcell (fun _ => by simp) (by simp) rfl rfl hsel0 hselF hcS hneS hkS (by rw [hkeep _ (hnl _)]; exact hu0) (by rw [hkeep _ (hnl _)]; exact hsen)
    (Takes.of_laid hk1 hord tC (by rw [Y.causeType]; rfl)) (Takes.of_laid hk1 hord tS (by rw [Y.stackType]; exact fits_refV_array _ u0)) (Takes.of_laid hk1 hord tP (by rw [Y.suppType]; exact fits_refV_object _ sen)) (Takes.of_laid hk1 hord tM (by rw [Y.msgType]; exact fits_refV_object _ ⟨msg, hmsg⟩)) Y.objLocals hskip htr [] d6
    (by simp only [List.length_cons, hlen, List.length_nil]; omega) (by simp only [List.length_cons, hlen, List.length_nil]; exact hRl)
  obtain ⟨hwalk, hrun, hend, hWU, hsame⟩ := X2.athrowLeaves hx (g := { g with stack := .ref a :: rest, pc := g.pc + 3 }) hg hlk hent hout (a := a) (rest := rest) rfl d9
  have hlt : a < ((T.setVm vm1).setVm vm2).heap.size := (Array.getElem?_eq_some_iff.mp hcell).1
  refine ⟨_, st1 _ (fun acts => ?_), hrun, hend, hWU, hsame.weaken (fun y hy hlt' => ?_) (Nat.le_refl _) (Nat.le_refl _), _, heapAt_setCell_self (s := (T.setVm vm1).setVm vm2) _ hlt, rfl, hc0⟩
  · rw [doInvoke_state]
    exact st2 _ hwalk
  · rcases List.mem_append.mp hy with h1 | h1
    · exact h1
    · have hb : y.base = a := by
        simp only [List.mem_cons, List.not_mem_nil, or_false] at h1
        rcases h1 with rfl | rfl | rfl | rfl | rfl <;> rfl
      rw [hb] at hlt'
      exact absurd hlt' (Nat.not_lt.mpr hnew)
end NSE
section SMN
variable {G : sm_G} {f : sm_F} {pc : Nat} {lv : List (Nat × Value)} {st rest : List Value} {M : sm_M} {bc bs : Nat} {Q : sm_O → sm_M → Prop}
variable {p : Program} {l : Launch} {e : Env} {R : Room} {s : State} {m : MethodId} {args : Array Value} {below : List Frame} {meth : Method} {c : Code} {H : Heap} {locs : List Loc} {cells slots : Nat}
/-- what a site that throws knows -/
def sm_ThrN (own : String) (ik is ic : Nat) (text : String) : Prop := Cond.classLink own ik sm_nX ∈ sm_WS ∧ Cond.initialized sm_nX ∈ sm_WS ∧ (own, is, text) ∈ sm_strs ∧ (∀ w ∈ (sm_atN own ic).filter sm_no, w ∈ sm_WS ∨ w ∈ sm_NW)
set_option maxHeartbeats 1000000 in
/-- the end of a throw, behind the text's ldc: 'pc2' is the place of the constructor's call -/
theorem sm_thrownN {ik is ic pc2 : Nat} {text : String} {ls : Array Slot} (E : sm_E G f p l R s m args meth c) (r : sm_R G M H) (S : va_S (sm_A G) s.heap H locs) (L : lv_has ls f.2.2.1 lv) (hc : cells + bc ≤ R.cells) (hs : slots + bs ≤ R.slots)
    (d0 : decode f.2.1 pc = .ok (.new ik, 3)) (d3 : decode f.2.1 (pc + 3) = .ok (.dup, 1)) (d6 : decode f.2.1 pc2 = .ok (.invokespecial ic, 3)) (d9 : decode f.2.1 (pc2 + 3) = .ok (.athrow, 1))
    (hT : sm_ThrN f.1.cls ik is ic text) (hno : f.2.2.2.2.1 = []) (hfr : 5 < f.2.2.2.2.2.1) (hlo : (rest.map fun v => v.category).sum + 82 ≤ f.2.2.2.2.2.2) (hc1 : 1 ≤ bc) (hs1 : 6 ≤ bs) (hq : ∀ n' : Nat, M.2 ≤ n' → Q (.inr sm_nX) (M.1, n'))
    (ldc : ∀ (U s' : State) (R' : Room) (locs' : List Loc) (k n sa : Nat), s'.vm = s.vm → Stand p l e R' s' m args below meth c U locs' k n → vk_R f.1.cls is text sa s' → ∀ (v : Value) (target : State), Steps p.tables e below (U.setTop (F0 m pc2 ls (.ref sa :: v :: v :: rest))) target → Steps p.tables e below (U.setTop (F0 m (pc + 4) ls (v :: v :: rest))) target) :
    W p l e R s m args below meth c H locs cells slots (sm_End G below Q s R.cells R.slots) (F0 m pc ls rest) := by
  intro T hTH X
  obtain ⟨h3, h4, h5, h6⟩ := hT
  obtain ⟨hx, hb, hml, hown, hts, hr, hlocks, hname, htab, hst, hfr9, hlo9, hK, hZ, hbase, hX⟩ := id E
  obtain ⟨sa, hsa⟩ := hK.2.2.1 _ h5
  have htr : e.platform.stackTraces = false := (show e.platform.stackTraces = l.stackTraces by rw [X.admits.platform]).trans hst
  have Y := sm_anew X (k := 1) (n := 6) (by omega) (by omega)
  obtain ⟨s', hA⟩ : ∃ z, z = (T.setVm s.vm).setFrames (.invoking m args :: below) := ⟨_, rfl⟩
  rw [← hA] at Y
  have hvm : s'.vm = s.vm := by rw [hA]; rfl
  have hhp : s'.heap = H := by rw [hA]; exact hTH
  have hW0 : s.WarmedH s'.vm := by rw [hvm]; exact State.WarmedH.refl s
  have hts' : ∀ w ∈ sm_WS, w.before args s' = true := fun w hw => word_at hW0 (sm_good w hw) (hts w hw)
  have hZ' : sm_Z G s' s'.heap := by rw [hhp]; exact hZ.warm hW0.alike S
  have h : ∀ w ∈ sm_atN f.1.cls ic, w.before args s' = true := by
    intro w hw
    by_cases e1 : w = .isRef (.static Bundle.tN "UNASSIGNED_STACK" Bundle.steD)
    · rw [e1]; exact sm_isRef hZ'.1.1
    · by_cases e2 : w = .isRef (.static Bundle.tN "SUPPRESSED_SENTINEL" Bundle.listD)
      · rw [e2]; exact sm_isRef hZ'.2.1
      · by_cases e3 : w = .laysStatic Bundle.tN "UNASSIGNED_STACK" Bundle.steD
        · rw [e3]; exact hZ'.1.2.word
        · by_cases e4 : w = .laysStatic Bundle.tN "SUPPRESSED_SENTINEL" Bundle.listD
          · rw [e4]; exact hZ'.2.2.word
          · rcases h6 w (List.mem_filter.mpr ⟨hw, by unfold sm_no; rw [decide_eq_true e1, decide_eq_true e2, decide_eq_true e3, decide_eq_true e4]; rfl⟩) with h8 | h8
            · exact hts' w h8
            · exact sm_nwAt h8 (hK.2.1 _ h8) hvm.symm
  have hown' : s'.vm.findClass f.1.cls = some m.cls := by rw [hvm]; exact hown
  have hins : (Cond.instantiable sm_nX 6).before args s' = true := h _ (sm_tl (by rw [Bundle.ownAtoms, List.drop_left]; simp))
  obtain ⟨vm₁, cX, kX, hfX, hkX, -, -, X₁, st1⟩ := Y.newCold hx (own := f.1.cls) (C := sm_nX) (index := ik) (n := 6) hown' (hts' _ h3) hins (hts' _ h4) (g := F0 m pc ls rest) rfl (by rw [hb]; exact d0) (Nat.le_refl _) (Nat.le_refl _)
  generalize hT1 : (T.setVm vm₁).pushCell { cls := cX, slots := kX.instanceTypes.map defaultValue, vm := .none } = T1 at X₁ st1
  have hcat : (Value.ref T.heap.size).category = 1 := rfl
  have hcellA : T1.heap[T.heap.size]? = some (freshCell cX kX) := by rw [← hT1]; exact State.heap_pushCell_size _ _
  have d3' : decode c.code (pc + 3) = .ok (.dup, 1) := by rw [hb]; exact d3
  obtain ⟨U, hsteps, hrun, hend, hW, hsame, ce, hce, hcv, hO⟩ := sm_ctorN X₁ hx htr (own := f.1.cls) (ic := ic) hown' h (fun x hx => nomatch hx) hfX hkX hcellA (by rw [hhp, hTH]; exact Nat.le_refl _) (msg := .ref sa) rfl
    (g := F0 m pc2 ls (.ref sa :: .ref T.heap.size :: .ref T.heap.size :: rest)) rfl (by rw [hml]; exact L.1) rfl rfl (rest := rest) rfl
    (by rw [hb]; exact d6) (by rw [hb]; exact d9) (by rw [htab, hno]; intro x hx; cases hx) (by show 5 < R.frames; omega) (by show 2 * 0 + _ + _ ≤ R.locals; simp only [List.map_cons, List.sum_cons, hcat]; omega) hlocks
  have hWs : s.WarmedH U.vm := State.WarmedH.trans hW0 hW
  have hcl : s.vm.findClass sm_nX = some ce.cls := by
    have h9 := hO
    rw [hvm] at h9
    exact h9
  have f1 : H.size ≤ U.heap.size := by rw [← hhp]; exact hsame.2.1
  have f2 : ∀ q : Nat, q < H.size → U.heap[q]? = H[q]? := by
    intro q hq
    rw [← hhp] at hq ⊢
    obtain ⟨-, -, -, -, -, h6⟩ := hsame
    obtain ⟨c9, e1, e2, e3, e4⟩ := h6 q _ (Array.getElem?_eq_getElem hq)
    have hs9 : c9.slots = (s'.heap[q]).slots := Array.ext_getElem? fun i => e4 i (fun hm => nomatch hm)
    have h9 : c9 = s'.heap[q] := by
      rw [hs9] at e2
      exact e2
    have e5 : U.heap[q]? = some c9 := e1
    rw [e5, h9, Array.getElem?_eq_getElem hq]
  have hall : s.sameButNew ({ U with vm := s.vm } : State) locs R.cells R.slots := by
    subst hA
    obtain ⟨e1, e2⟩ := hsame
    rw [State.setFrames_setFrames] at e1
    have h2 : (T.setVm s.vm).sameButNew ({ U with vm := s.vm } : State) [] (0 + 1) (0 + 6) := ⟨e1, e2⟩
    have h3 := X.same.trans h2
    rw [List.append_nil] at h3
    exact h3.mono (by omega) (by omega)
  refine ⟨U, ?_, .threw T.heap.size, hrun, hend, (M.1, U.heap.size), locs, ⟨rfl, fun a e9 h9 => ⟨(r.2 a e9 h9).1, (r.2 a e9 h9).2.kept (f2 a (r.2 a e9 h9).2.lt)⟩⟩, ⟨Nat.le_trans S.1 f1, fun q h8 h9 => (f2 q (Nat.lt_of_lt_of_le h8 S.1)).trans (S.2.1 q h8 h9)⟩, hWs, hall, S.2.2, Or.inr ⟨_, sm_nX, ce, rfl, hq _ (by rw [← r.1]; exact f1), hce, hcv, hcl⟩⟩
  refine st1 _ ?_
  show Steps p.tables e below (T1.setTop { method := m, pc := pc + 3, locals := ls, stack := .ref T.heap.size :: rest, locked := none }) _
  jvm_step X₁.here [X₁.here.top, hx, d3', Value.category]
  exact ldc _ s' _ _ _ _ sa hvm X₁ (vk_R.warm hW0 hsa) _ _ hsteps
theorem sm_throwN {ik is ic : Nat} {text : String} (d0 : decode f.2.1 pc = .ok (.new ik, 3)) (d3 : decode f.2.1 (pc + 3) = .ok (.dup, 1)) (d4 : decode f.2.1 (pc + 4) = .ok (.ldc is, 2)) (d6 : decode f.2.1 (pc + 6) = .ok (.invokespecial ic, 3)) (d9 : decode f.2.1 (pc + 9) = .ok (.athrow, 1))
    (hT : sm_ThrN f.1.cls ik is ic text) (hno : f.2.2.2.2.1 = []) (hfr : 5 < f.2.2.2.2.2.1) (hlo : (rest.map fun v => v.category).sum + 82 ≤ f.2.2.2.2.2.2) (hc1 : 1 ≤ bc) (hs1 : 6 ≤ bs) (hq : ∀ n' : Nat, M.2 ≤ n' → Q (.inr sm_nX) (M.1, n')) : sm_W G f pc lv rest M bc bs Q := by
  intro p l e R s m args below meth c H locs ls cells slots E r S L hc hs
  refine sm_thrownN (pc2 := pc + 6) E r S L hc hs d0 d3 d6 d9 hT hno hfr hlo hc1 hs1 hq ?_
  intro U s' R' locs' k n sa hvm Y hsa v target h9
  exact Y.ldcString E.1 (own := f.1.cls) (text := text) (index := is) (a := sa) (by rw [hvm]; exact E.2.2.2.1) hsa.1 hsa.2 (g := F0 m (pc + 4) ls (v :: v :: rest)) rfl (by rw [E.2.1]; exact d4) _ h9
theorem sm_throwNW {ik is ic : Nat} {text : String} (d0 : decode f.2.1 pc = .ok (.new ik, 3)) (d3 : decode f.2.1 (pc + 3) = .ok (.dup, 1)) (d4 : decode f.2.1 (pc + 4) = .ok (.ldc_w is, 3)) (d7 : decode f.2.1 (pc + 7) = .ok (.invokespecial ic, 3)) (d10 : decode f.2.1 (pc + 10) = .ok (.athrow, 1))
    (hT : sm_ThrN f.1.cls ik is ic text) (hno : f.2.2.2.2.1 = []) (hfr : 5 < f.2.2.2.2.2.1) (hlo : (rest.map fun v => v.category).sum + 82 ≤ f.2.2.2.2.2.2) (hc1 : 1 ≤ bc) (hs1 : 6 ≤ bs) (hq : ∀ n' : Nat, M.2 ≤ n' → Q (.inr sm_nX) (M.1, n')) : sm_W G f pc lv rest M bc bs Q := by
  intro p l e R s m args below meth c H locs ls cells slots E r S L hc hs
  refine sm_thrownN (pc2 := pc + 7) E r S L hc hs d0 d3 d7 d10 hT hno hfr hlo hc1 hs1 hq ?_
  intro U s' R' locs' k n sa hvm Y hsa v target h9
  exact Y.ldcStringW E.1 (own := f.1.cls) (text := text) (index := is) (a := sa) (by rw [hvm]; exact E.2.2.2.1) hsa.1 hsa.2 (g := F0 m (pc + 4) ls (v :: v :: rest)) rfl (by rw [E.2.1]; exact d4) _ h9
end SMN
theorem at_NoSuch : ∀ w ∈ (sm_atN "StreamMarks" 224).filter sm_no, w ∈ sm_WS ∨ w ∈ sm_NW := by decide +kernel
theorem th_SM_220_222 : sm_ThrN "StreamMarks" 220 222 224 "the plan has none such" := ⟨mw_880, mw_19, by decide +kernel, at_NoSuch⟩
theorem th_SM_220_243 : sm_ThrN "StreamMarks" 220 243 224 "no such byte" := ⟨mw_880, mw_19, by decide +kernel, at_NoSuch⟩
theorem th_SM_220_311 : sm_ThrN "StreamMarks" 220 311 224 "no such byte of heads" := ⟨mw_880, mw_19, by decide +kernel, at_NoSuch⟩
theorem th_SM_220_316 : sm_ThrN "StreamMarks" 220 316 224 "no such part" := ⟨mw_880, mw_19, by decide +kernel, at_NoSuch⟩
theorem th_SM_220_323 : sm_ThrN "StreamMarks" 220 323 224 "no such component" := ⟨mw_880, mw_19, by decide +kernel, at_NoSuch⟩
theorem th_SM_220_325 : sm_ThrN "StreamMarks" 220 325 224 "no such level" := ⟨mw_880, mw_19, by decide +kernel, at_NoSuch⟩
theorem th_SM_220_187 : sm_ThrN "StreamMarks" 220 187 224 "no such value of steps" := ⟨mw_880, mw_19, by decide +kernel, at_NoSuch⟩
theorem th_SM_220_336 : sm_ThrN "StreamMarks" 220 336 224 "no such tile" := ⟨mw_880, mw_19, by decide +kernel, at_NoSuch⟩
