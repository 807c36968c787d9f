/-! a throw of a new exception with a text; the constructor of Object -/
section SMD
variable {G : sm_G} {f : sm_F} {pc : Nat} {lv : List (Nat × Value)} {st rest : List Value} {M : sm_M} {bc bs : Nat} {Q : sm_O → sm_M → Prop}
variable {p : Program} {l : Launch} {e : Env} {R : Room} {s : State} {m : MethodId} {args : Array Value} {below : List Frame} {meth : Method} {c : Code} {H : Heap} {locs : List Loc} {cells slots : Nat}
/-- a throw's words but those four that speak of cells -/
def sm_no (w : Cond) : Bool := decide (w ≠ .isRef (.static Bundle.tN "UNASSIGNED_STACK" Bundle.steD)) && decide (w ≠ .isRef (.static Bundle.tN "SUPPRESSED_SENTINEL" Bundle.listD)) && decide (w ≠ .laysStatic Bundle.tN "UNASSIGNED_STACK" Bundle.steD) && decide (w ≠ .laysStatic Bundle.tN "SUPPRESSED_SENTINEL" Bundle.listD)
def sm_atS (own : String) (ic : Nat) (X : String) (names : List String) : List Cond := (Bundle.ownAtoms own ic X names).filter sm_no
theorem sm_L.word {C n d : String} {A : Nat → Prop} {U : State} {a : Array Value} (h : sm_L C n d A U U.heap) : (Cond.laysStatic C n d).before a U = true := by
  obtain ⟨c, k, i, f, a9, cell, ⟨h1, h2, h3, h4, h5⟩, ⟨h6, h7, h8, h9⟩, -⟩ := h
  show (Cond.laysStatic C n d).holds a U none U [] = true
  exact Cond.laysStatic_of h1 h2 h3 h4 h6 h7 h8 h9 h5
theorem sm_isRef0 {C n d : String} {v : Value} {A : Nat → Prop} {U : State} {a : Array Value} (h : va_Z C n d v A U U.heap) (hv : v.isRef = true) : (Cond.isRef (.static C n d)).before a U = true := by
  obtain ⟨cf, kf, fi, f, a9, cell, h1, h2, h3, h4, h5, h6, h7, -⟩ := h
  have he : (Term.static C n d).eval a U none [] U = some v := by
    simp [Term.eval, State.fieldNamed?, h1, h2, h4, h5, h6, h7]
  simp only [Cond.before, Cond.holds, Cond.value, he]
  cases v <;> simp_all [Value.isRef]
theorem sm_isRef {C n d : String} {A : Nat → Prop} {U : State} {a : Array Value} (h : va_Zq C n d A U U.heap) : (Cond.isRef (.static C n d)).before a U = true := by
  rcases h with h | ⟨t, h⟩
  · exact sm_isRef0 h rfl
  · exact sm_isRef0 h rfl
/-- this frame as if its method began in this heap -/
theorem sm_anew {T : State} {k n : Nat} (X : Stand p l e R s m args below meth c T locs cells slots) (hc : cells + k ≤ R.cells) (hs : slots + n ≤ R.slots) :
    Stand p l e { frames := R.frames, cells := k, slots := n, locals := R.locals } ((T.setVm s.vm).setFrames (.invoking m args :: below)) m args below meth c T [] 0 0 := by
  have htop : (T.setVm s.vm).topJava?.isSome := X.here.top
  have hF : ((T.setVm s.vm).setFrames (.invoking m args :: below)).frames = .invoking m args :: below := State.frames_setFrames _ (State.cur_lt_of_top htop)
  obtain ⟨g₀, hg0⟩ := Option.isSome_iff_exists.mp htop
  obtain ⟨r, hr⟩ := State.topJava?_eq_some.mp hg0
  have hl9 : e.platform.stackLimits (T.setVm s.vm).me = e.platform.stackLimits s.me := X.limits
  have hb9 : (T.setVm s.vm).me.stackBytes = s.me.stackBytes := X.bytes
  refine { admits := X.admits, cas := X.cas, clock := X.clock, frames := hF, room := ?_, hears := X.hears, method := X.method, code := X.code, here := X.here, tail := X.tail, warmed := X.warmed, limits := ?_, bytes := ?_, same := ?_ }
  · have h := X.room
    have hU : ((T.setVm s.vm).setFrames (.invoking m args :: below)).localsInUse = s.localsInUse := by
      rw [State.localsInUse_invoking hF (meth := meth) (c := c) X.method X.code, State.localsInUse_invoking X.frames X.method X.code]
    simp only [State.hasRoom, Bool.and_eq_true, decide_eq_true_eq] at h ⊢
    obtain ⟨⟨⟨⟨h1, h2, h3, h4, h5, h6⟩, h7⟩, h8⟩, h9⟩ := h
    rw [X.frames, List.length_cons] at h2 h3
    have q1 := X.heapSize
    have q2 := X.used
    simp only [hF, hU, List.length_cons, State.stackLimits_setFrames, State.stackBytes_setFrames, hl9, hb9]
    refine ⟨⟨⟨⟨by omega, by omega, by omega, by omega, by omega, h6⟩, ?_⟩, ?_⟩, X.book⟩
    · show T.heap.size + k ≤ e.platform.maxCells
      omega
    · show T.slotsUsed + n ≤ e.platform.maxSlots
      omega
  · rw [State.stackLimits_setFrames]; rfl
  · rw [State.stackBytes_setFrames]; rfl
  · refine ⟨?_, Nat.le_refl _, Nat.le_refl _, ?_, ?_, fun a c9 h9 => ⟨c9, h9, rfl, rfl, fun _ _ => rfl⟩⟩
    · obtain ⟨t, ht, -⟩ := State.frames_cons hr
      show T.setVm s.vm = { ((T.setVm s.vm).setFrames (.invoking m args :: below)).setFrames (T.setVm s.vm).frames with heap := T.heap, slotsUsed := T.slotsUsed }
      rw [State.setFrames_setFrames, State.setFrames_self ht]
      rfl
    · show T.slotsUsed = T.slotsUsed + ((T.heap.toList.drop T.heap.size).map (·.slots.size)).sum
      rw [List.drop_eq_nil_of_le (Nat.le_of_eq Array.length_toList)]
      rfl
    · show ((T.heap.toList.drop T.heap.size).map (·.slots.size)).sum ≤ 0
      rw [List.drop_eq_nil_of_le (Nat.le_of_eq Array.length_toList)]
      exact Nat.le_refl _
/-- what a site that throws knows -/
def sm_Thr (own : String) (ik is ic : Nat) (cls text : String) (names : List String) : Prop := Bundle.fit cls = true ∧ (∀ n ∈ names, Bundle.fit n = true) ∧ Cond.classLink own ik cls ∈ sm_WS ∧ Cond.initialized cls ∈ sm_WS ∧ (own, is, text) ∈ sm_strs ∧ (∀ w ∈ sm_atS own ic cls names, w ∈ sm_WS ∨ w ∈ sm_NW)
set_option maxHeartbeats 1000000 in
/-- the end of a throw, behind the text's ldc: 'pc2' is the place of the constructor's call -/
theorem sm_thrown {ik is ic pc2 : Nat} {cls text : String} {names : List String} {ls : Array Slot} (E : sm_E G f p l R s m args meth c) (r : sm_R G M H) (S : va_S (sm_A G) s.heap H locs) (L : lv_has ls f.2.2.1 lv) (hc : cells + bc ≤ R.cells) (hs : slots + bs ≤ R.slots)
    (d0 : decode f.2.1 pc = .ok (.new ik, 3)) (d3 : decode f.2.1 (pc + 3) = .ok (.dup, 1)) (d6 : decode f.2.1 pc2 = .ok (.invokespecial ic, 3)) (d9 : decode f.2.1 (pc2 + 3) = .ok (.athrow, 1))
    (hT : sm_Thr f.1.cls ik is ic cls text names) (hno : f.2.2.2.2.1 = []) (hfr : names.length + 3 < f.2.2.2.2.2.1) (hlo : (rest.map fun v => v.category).sum + (13 * (names.length + 1) + 43) ≤ f.2.2.2.2.2.2) (hc1 : 1 ≤ bc) (hs1 : 6 ≤ bs) (hq : ∀ n' : Nat, M.2 ≤ n' → Q (.inr cls) (M.1, n'))
    (ldc : ∀ (U s' : State) (R' : Room) (locs' : List Loc) (k n sa : Nat), s'.vm = s.vm → Stand p l e R' s' m args below meth c U locs' k n → vk_R f.1.cls is text sa s' → ∀ (v : Value) (target : State), Steps p.tables e below (U.setTop (F0 m pc2 ls (.ref sa :: v :: v :: rest))) target → Steps p.tables e below (U.setTop (F0 m (pc + 4) ls (v :: v :: rest))) target) :
    W p l e R s m args below meth c H locs cells slots (sm_End G below Q s R.cells R.slots) (F0 m pc ls rest) := by
  intro T hTH X
  obtain ⟨h1, h2, h3, h4, h5, h6⟩ := hT
  obtain ⟨hx, hb, hml, hown, hts, hr, hlocks, hname, htab, hst, hfr9, hlo9, hK, hZ, hbase, hX⟩ := id E
  obtain ⟨sa, hsa⟩ := hK.2.2.1 _ h5
  have htr : e.platform.stackTraces = false := (show e.platform.stackTraces = l.stackTraces by rw [X.admits.platform]).trans hst
  have Y := sm_anew X (k := 1) (n := 6) (by omega) (by omega)
  obtain ⟨s', hA⟩ : ∃ z, z = (T.setVm s.vm).setFrames (.invoking m args :: below) := ⟨_, rfl⟩
  rw [← hA] at Y
  have hvm : s'.vm = s.vm := by rw [hA]; rfl
  have hhp : s'.heap = H := by rw [hA]; exact hTH
  have hW0 : s.WarmedH s'.vm := by rw [hvm]; exact State.WarmedH.refl s
  have hts' : ∀ w ∈ sm_WS, w.before args s' = true := fun w hw => word_at hW0 (sm_good w hw) (hts w hw)
  have hZ' : sm_Z G s' s'.heap := by rw [hhp]; exact hZ.warm hW0.alike S
  have h : ∀ w ∈ Bundle.ownAtoms f.1.cls ic cls names, w.before args s' = true := by
    intro w hw
    by_cases e1 : w = .isRef (.static Bundle.tN "UNASSIGNED_STACK" Bundle.steD)
    · rw [e1]; exact sm_isRef hZ'.1.1
    · by_cases e2 : w = .isRef (.static Bundle.tN "SUPPRESSED_SENTINEL" Bundle.listD)
      · rw [e2]; exact sm_isRef hZ'.2.1
      · by_cases e3 : w = .laysStatic Bundle.tN "UNASSIGNED_STACK" Bundle.steD
        · rw [e3]; exact hZ'.1.2.word
        · by_cases e4 : w = .laysStatic Bundle.tN "SUPPRESSED_SENTINEL" Bundle.listD
          · rw [e4]; exact hZ'.2.2.word
          · rcases h6 w (List.mem_filter.mpr ⟨hw, by unfold sm_no; rw [decide_eq_true e1, decide_eq_true e2, decide_eq_true e3, decide_eq_true e4]; rfl⟩) with h8 | h8
            · exact hts' w h8
            · exact sm_nwAt h8 (hK.2.1 _ h8) hvm.symm
  have hown' : s'.vm.findClass f.1.cls = some m.cls := by rw [hvm]; exact hown
  have hins : (Cond.instantiable cls 6).before args s' = true := h _ (by simp [Bundle.ownAtoms])
  obtain ⟨vm₁, cX, kX, hfX, hkX, -, -, X₁, st1⟩ := Y.newCold hx (own := f.1.cls) (C := cls) (index := ik) (n := 6) hown' (hts' _ h3) hins (hts' _ h4) (g := F0 m pc ls rest) rfl (by rw [hb]; exact d0) (Nat.le_refl _) (Nat.le_refl _)
  generalize hT1 : (T.setVm vm₁).pushCell { cls := cX, slots := kX.instanceTypes.map defaultValue, vm := .none } = T1 at X₁ st1
  have hcat : (Value.ref T.heap.size).category = 1 := rfl
  have hcellA : T1.heap[T.heap.size]? = some (freshCell cX kX) := by rw [← hT1]; exact State.heap_pushCell_size _ _
  have d3' : decode c.code (pc + 3) = .ok (.dup, 1) := by rw [hb]; exact d3
  obtain ⟨U, hsteps, hrun, hend, hW, hsame, ce, hce, hO⟩ := X₁.ctorThrowS hx htr (own := f.1.cls) (cls := cls) (names := names) (ic := ic) hown' h1 h2 h (fun x hx => nomatch hx) hfX hkX hcellA (by rw [hhp, hTH]; exact Nat.le_refl _) (msg := .ref sa) rfl
    (g := F0 m pc2 ls (.ref sa :: .ref T.heap.size :: .ref T.heap.size :: rest)) rfl (by rw [hml]; exact L.1) rfl rfl (rest := rest) rfl
    (by rw [hb]; exact d6) (by rw [hb]; exact d9) (by rw [htab, hno]; intro x hx; cases hx) (by show _ < R.frames; omega) (by show 2 * 0 + _ + _ ≤ R.locals; simp only [List.map_cons, List.sum_cons, hcat]; omega) hlocks
  have hWs : s.WarmedH U.vm := State.WarmedH.trans hW0 hW
  have hcl : s.vm.findClass cls = some ce.cls := by
    have h9 := hO.cls
    rw [hvm] at h9
    exact h9
  have f1 : H.size ≤ U.heap.size := by rw [← hhp]; exact hsame.2.1
  have f2 : ∀ q : Nat, q < H.size → U.heap[q]? = H[q]? := by
    intro q hq
    rw [← hhp] at hq ⊢
    obtain ⟨-, -, -, -, -, h6⟩ := hsame
    obtain ⟨c9, e1, e2, e3, e4⟩ := h6 q _ (Array.getElem?_eq_getElem hq)
    have hs9 : c9.slots = (s'.heap[q]).slots := Array.ext_getElem? fun i => e4 i (fun hm => nomatch hm)
    have h9 : c9 = s'.heap[q] := by
      rw [hs9] at e2
      exact e2
    have e5 : U.heap[q]? = some c9 := e1
    rw [e5, h9, Array.getElem?_eq_getElem hq]
  have hall : s.sameButNew ({ U with vm := s.vm } : State) locs R.cells R.slots := by
    subst hA
    obtain ⟨e1, e2⟩ := hsame
    rw [State.setFrames_setFrames] at e1
    have h2 : (T.setVm s.vm).sameButNew ({ U with vm := s.vm } : State) [] (0 + 1) (0 + 6) := ⟨e1, e2⟩
    have h3 := X.same.trans h2
    rw [List.append_nil] at h3
    exact h3.mono (by omega) (by omega)
  refine ⟨U, ?_, .threw T.heap.size, hrun, hend, (M.1, U.heap.size), locs, ⟨rfl, fun a e9 h9 => ⟨(r.2 a e9 h9).1, (r.2 a e9 h9).2.kept (f2 a (r.2 a e9 h9).2.lt)⟩⟩, ⟨Nat.le_trans S.1 f1, fun q h8 h9 => (f2 q (Nat.lt_of_lt_of_le h8 S.1)).trans (S.2.1 q h8 h9)⟩, hWs, hall, S.2.2, Or.inr ⟨_, cls, ce, rfl, hq _ (by rw [← r.1]; exact f1), hce, hO.vm, hcl⟩⟩
  refine st1 _ ?_
  show Steps p.tables e below (T1.setTop { method := m, pc := pc + 3, locals := ls, stack := .ref T.heap.size :: rest, locked := none }) _
  jvm_step X₁.here [X₁.here.top, hx, d3', Value.category]
  exact ldc _ s' _ _ _ _ sa hvm X₁ (vk_R.warm hW0 hsa) _ _ hsteps
theorem sm_throwS {ik is ic : Nat} {cls text : String} {names : List String} (d0 : decode f.2.1 pc = .ok (.new ik, 3)) (d3 : decode f.2.1 (pc + 3) = .ok (.dup, 1)) (d4 : decode f.2.1 (pc + 4) = .ok (.ldc is, 2)) (d6 : decode f.2.1 (pc + 6) = .ok (.invokespecial ic, 3)) (d9 : decode f.2.1 (pc + 9) = .ok (.athrow, 1))
    (hT : sm_Thr f.1.cls ik is ic cls text names) (hno : f.2.2.2.2.1 = []) (hfr : names.length + 3 < f.2.2.2.2.2.1) (hlo : (rest.map fun v => v.category).sum + (13 * (names.length + 1) + 43) ≤ f.2.2.2.2.2.2) (hc1 : 1 ≤ bc) (hs1 : 6 ≤ bs) (hq : ∀ n' : Nat, M.2 ≤ n' → Q (.inr cls) (M.1, n')) : sm_W G f pc lv rest M bc bs Q := by
  intro p l e R s m args below meth c H locs ls cells slots E r S L hc hs
  refine sm_thrown (pc2 := pc + 6) E r S L hc hs d0 d3 d6 d9 hT hno hfr hlo hc1 hs1 hq ?_
  intro U s' R' locs' k n sa hvm Y hsa v target h9
  exact Y.ldcString E.1 (own := f.1.cls) (text := text) (index := is) (a := sa) (by rw [hvm]; exact E.2.2.2.1) hsa.1 hsa.2 (g := F0 m (pc + 4) ls (v :: v :: rest)) rfl (by rw [E.2.1]; exact d4) _ h9
theorem sm_throwSW {ik is ic : Nat} {cls text : String} {names : List String} (d0 : decode f.2.1 pc = .ok (.new ik, 3)) (d3 : decode f.2.1 (pc + 3) = .ok (.dup, 1)) (d4 : decode f.2.1 (pc + 4) = .ok (.ldc_w is, 3)) (d7 : decode f.2.1 (pc + 7) = .ok (.invokespecial ic, 3)) (d10 : decode f.2.1 (pc + 10) = .ok (.athrow, 1))
    (hT : sm_Thr f.1.cls ik is ic cls text names) (hno : f.2.2.2.2.1 = []) (hfr : names.length + 3 < f.2.2.2.2.2.1) (hlo : (rest.map fun v => v.category).sum + (13 * (names.length + 1) + 43) ≤ f.2.2.2.2.2.2) (hc1 : 1 ≤ bc) (hs1 : 6 ≤ bs) (hq : ∀ n' : Nat, M.2 ≤ n' → Q (.inr cls) (M.1, n')) : sm_W G f pc lv rest M bc bs Q := by
  intro p l e R s m args below meth c H locs ls cells slots E r S L hc hs
  refine sm_thrown (pc2 := pc + 7) E r S L hc hs d0 d3 d7 d10 hT hno hfr hlo hc1 hs1 hq ?_
  intro U s' R' locs' k n sa hvm Y hsa v target h9
  exact Y.ldcStringW E.1 (own := f.1.cls) (text := text) (index := is) (a := sa) (by rw [hvm]; exact E.2.2.2.1) hsa.1 hsa.2 (g := F0 m (pc + 4) ls (v :: v :: rest)) rfl (by rw [E.2.1]; exact d4) _ h9
theorem sm_objInit {index a : Nat} (hd : decode f.2.1 pc = .ok (.invokespecial index, 3)) (hw : Cond.methodLink f.1.cls index objectInit ∈ sm_WS ∧ Cond.instanceMethod objectInit ∈ sm_WS ∧ Cond.code objectInit ⟨#[0xb1]⟩ 1 none ∈ sm_WS) (hfr : 1 ≤ f.2.2.2.2.2.1) (hlo : (rest.map fun v => v.category).sum + 12 ≤ f.2.2.2.2.2.2)
    (k9 : sm_W G f (pc + 3) lv rest M bc bs Q) : sm_W G f pc lv (.ref a :: rest) M bc bs Q := by
  intro p l e R s m args below meth c H locs ls cells slots E r S L hc hs
  obtain ⟨hx, hb, hml, hown, hts, hr, hlocks, hname, htab, hst, hfr9, hlo9, hK, hE⟩ := id E
  exact W.objInit hx hb hown (hts _ hw.1) (hts _ hw.2.1) (hts _ hw.2.2) rfl (by rw [hml]; exact L.1) rfl hd (Nat.le_trans hfr hfr9) (by show 2 * 0 + _ + 12 ≤ _; omega) (k9 p l e R s m args below meth c H locs ls cells slots E r S L hc hs)
end SMD
