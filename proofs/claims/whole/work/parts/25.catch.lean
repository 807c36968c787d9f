/-! a throw that a handler of the calling method takes -/
section SMH
variable {e : Env} {S : State} {j : JFrame} {a : Addr}
/-- the search for a handler finds the place pc, and leaves the tables vm' -/
def sm_Fnd (e : Env) (S : State) (j : JFrame) (a : Addr) (pc : Nat) (vm' : Vm) : Prop := ∀ (Q : Handler → Pre) (E : CtlPost) (d : Bool) (acts : List Action), wp (findHandler j a) Q E e d acts S ↔ Q (.found pc) d acts (S.setVm vm')
theorem sm_go {x : ExceptionTableEntry} {t : List ExceptionTableEntry} {c : ClassId} {cell : Cell} {Q : Handler → Pre} {E : CtlPost} {d : Bool} {acts : List Action} (hx : covers x j.pc = true) (h0 : x.catchType ≠ 0)
    (hl : S.vm.ClassLinks e.platform j.method.cls x.catchType c) (hcell : S.heap[a]? = some cell) (hobj : ∀ k, cell.vm ≠ .statics k) (hk : ∃ k, S.vm.classes[cell.cls]? = some k) (hc : ∃ k, S.vm.classes[c]? = some k) :
    (S.vm.assignable cell.cls c = true → (wp (findHandler.go j a (x :: t)) Q E e d acts S ↔ Q (.found x.handlerPc) d acts (S.setVm (S.vm.noted j.method.cls x.catchType (.cls c))))) ∧
    (S.vm.assignable cell.cls c = false → (wp (findHandler.go j a (x :: t)) Q E e d acts S ↔ wp (findHandler.go j a t) Q E e d acts (S.setVm (S.vm.noted j.method.cls x.catchType (.cls c))))) := by
  simp only [covers] at hx
  obtain ⟨ha, ht⟩ := (resolveClass_links e.toSetting hl).op (op := VmOp.resolveClass j.method.cls x.catchType) rfl
  have hal : S.vm.Alike (S.vm.noted j.method.cls x.catchType (.cls c)) := (Vm.Alike.refl S.vm).noted _ _ _
  obtain ⟨k1, hk1⟩ := hk
  obtain ⟨k2, hk2⟩ := hc
  obtain ⟨k1', hk1', -⟩ := hal.2.2 _ _ hk1
  obtain ⟨k2', hk2', -⟩ := hal.2.2 _ _ hk2
  refine ⟨fun h => ?_, fun h => ?_⟩
  · have h9 : (S.vm.noted j.method.cls x.catchType (.cls c)).assignable cell.cls c = true := by rw [hal.assignable]; exact h
    simp [findHandler.go, hx, h0, ha, ht, hcell, hobj, hk1', hk2', h9, VmOp.dirties, VmOp.acts]
  · have h9 : (S.vm.noted j.method.cls x.catchType (.cls c)).assignable cell.cls c = false := by rw [hal.assignable]; exact h
    simp [findHandler.go, hx, h0, ha, ht, hcell, hobj, hk1', hk2', h9, VmOp.dirties, VmOp.acts]
/-- rows that name other classes are passed, then one takes it -/
theorem sm_search {s : State} {cell : Cell} (hobj : ∀ k, cell.vm ≠ .statics k) (hk0 : ∃ k, s.vm.classes[cell.cls]? = some k) (x : ExceptionTableEntry) (rest : List ExceptionTableEntry) (hx : covers x j.pc = true) (h0 : x.catchType ≠ 0) {c : ClassId} (hl : s.vm.ClassLinks e.platform j.method.cls x.catchType c) (hfit : s.vm.assignable cell.cls c = true) :
    ∀ (pre : List ExceptionTableEntry) (S : State), s.WarmedH S.vm → S.heap[a]? = some cell → (∀ y ∈ pre, covers y j.pc = true ∧ y.catchType ≠ 0 ∧ ∃ c, s.vm.ClassLinks e.platform j.method.cls y.catchType c ∧ s.vm.assignable cell.cls c = false) →
      ∃ vm', s.WarmedH vm' ∧ ∀ (Q : Handler → Pre) (E : CtlPost) (d : Bool) (acts : List Action), wp (findHandler.go j a (pre ++ x :: rest)) Q E e d acts S ↔ Q (.found x.handlerPc) d acts (S.setVm vm') := by
  obtain ⟨k0, hk0⟩ := hk0
  intro pre
  induction pre with
  | nil =>
    intro S hW hcell _
    obtain ⟨k0', hk0', -⟩ := hW.alike.2.2 _ _ hk0
    obtain ⟨dk, _, _, kt, hd, _, _, _, _, hkt, _, hopen⟩ := hl.here
    obtain ⟨kt', hkt', -⟩ := hW.alike.2.2 _ _ hkt
    refine ⟨_, hW.noted hd hopen (State.rightAt_cls hl), fun Q E d acts => ?_⟩
    exact (sm_go hx h0 (hW.classLinks hl) hcell hobj ⟨k0', hk0'⟩ ⟨kt', hkt'⟩).1 (by rw [hW.alike.assignable]; exact hfit)
  | cons y ys ih =>
    intro S hW hcell hpass
    obtain ⟨k0', hk0', -⟩ := hW.alike.2.2 _ _ hk0
    obtain ⟨g1, g2, c9, g3, g4⟩ := hpass y List.mem_cons_self
    obtain ⟨dk, _, _, kt, hd, _, _, _, _, hkt, _, hopen⟩ := g3.here
    obtain ⟨kt', hkt', -⟩ := hW.alike.2.2 _ _ hkt
    obtain ⟨vm', hW', hq⟩ := ih (S.setVm (S.vm.noted j.method.cls y.catchType (.cls c9))) (hW.noted hd hopen (State.rightAt_cls g3)) hcell (fun z hz => hpass z (List.mem_cons_of_mem _ hz))
    refine ⟨vm', hW', fun Q E d acts => ?_⟩
    rw [List.cons_append]
    exact ((sm_go g1 g2 (hW.classLinks g3) hcell hobj ⟨k0', hk0'⟩ ⟨kt', hkt'⟩).2 (by rw [hW.alike.assignable]; exact g4)).trans (hq Q E d acts)
theorem sm_stepC {r : List Frame} {pc : Nat} {vm' : Vm} (hfind : sm_Fnd e S j a pc vm') : (stepThrowing e S a (.java j :: r)).Is ((S.setVm vm').setFrames (.java { j with pc := pc, stack := [.ref a] } :: r)) [] := by
  simp only [stepThrowing, searchFrame, vmDo]
  generalize hr : Sem.go _ e false [] S = res
  obtain ⟨as, rfl, ha⟩ := Sem.eq_ok_of hr (a := Handler.found pc) (s' := S.setVm vm') (acts' := []) (by simp [hfind _ _ _ _])
  exact ⟨rfl, ha⟩
theorem sm_toHandler {tb : Tables} {s target : State} {c : Code} {below : List Frame} (h : At s j.method c below) {pc : Nat} {vm' : Vm} (hfind : sm_Fnd e ((s.setTop j).pushFrame (.throwing a)) j a pc vm') (hrest : Steps tb e below ((s.setVm vm').setTop { j with pc := pc, stack := [.ref a] }) target) :
    Steps tb e below ((s.setTop j).pushFrame (.throwing a)) target := by
  have key : ∀ (u : State) (F K : List Frame), ((u.setFrames F).setVm vm').setFrames K = (u.setVm vm').setFrames K := by
    intro u F K
    have h1 : (u.setFrames F).setVm vm' = (u.setVm vm').setFrames F := rfl
    rw [h1, State.setFrames_setFrames]
  obtain ⟨hgo, hw⟩ := h.throwing a
  refine Steps.head hgo hw ?_
  rw [stepThread_throwing (frames_entered h.top _), (sm_stepC (S := (s.setTop j).pushFrame (.throwing a)) hfind).1]
  obtain ⟨g₀, hg⟩ := Option.isSome_iff_exists.mp h.top
  obtain ⟨r, hr⟩ := State.topJava?_eq_some.mp hg
  have hr' : (s.setVm vm').frames = .java g₀ :: r := hr
  rw [State.setTop_of_frames _ hr'] at hrest
  rw [hr, List.tail_cons, State.pushFrame, key, State.setTop_of_frames _ hr, key]
  exact hrest
end SMH
section SMI
variable {G : sm_G} {f : sm_F} {pc : Nat} {lv : List (Nat × Value)} {st rest : List Value} {M : sm_M} {bc bs : Nat} {Q : sm_O → sm_M → Prop}
/-- where a throw of the class X at pc goes: the handler's place -/
def sm_Hnd (f : sm_F) (pc : Nat) (X : String) (h : Nat) : Prop := ∃ (pre : List (Nat × Nat × Nat × Nat)) (x : Nat × Nat × Nat × Nat) (suf : List (Nat × Nat × Nat × Nat)) (nm : String), f.2.2.2.2.1 = pre ++ x :: suf ∧ (x.1 ≤ pc ∧ pc < x.2.1) ∧ x.2.2.1 = h ∧ x.2.2.2 ≠ 0 ∧ Cond.classLink f.1.cls x.2.2.2 nm ∈ sm_WS ∧ Cond.castable X nm ∈ sm_NW ∧
  ∀ y ∈ pre, (y.1 ≤ pc ∧ pc < y.2.1) ∧ y.2.2.2 ≠ 0 ∧ ∃ n9, Cond.classLink f.1.cls y.2.2.2 n9 ∈ sm_WS ∧ (X, n9) ∈ sm_ncs
end SMI
