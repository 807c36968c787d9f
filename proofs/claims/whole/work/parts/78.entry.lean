/-! what holds at the entry -/
theorem sr_0 : Cond.stringRef "StreamMarks" 67 "no picture has these corners" ∈ lw_tbl := sm_t4 _ (List.mem_of_getElem? (i := 65) rfl)
theorem sr_1 : Cond.stringRef "StreamMarks" 85 "there is no picture" ∈ lw_tbl := sm_t4 _ (List.mem_of_getElem? (i := 114) rfl)
theorem sr_2 : Cond.stringRef "StreamMarks" 96 "the first tile misses the picture" ∈ lw_tbl := sm_t4 _ (List.mem_of_getElem? (i := 122) rfl)
theorem sr_3 : Cond.stringRef "StreamMarks" 104 "too many tiles" ∈ lw_tbl := sm_t4 _ (List.mem_of_getElem? (i := 125) rfl)
theorem sr_4 : Cond.stringRef "StreamMarks" 110 "no component has these numbers" ∈ lw_tbl := sm_t4 _ (List.mem_of_getElem? (i := 134) rfl)
theorem sr_5 : Cond.stringRef "StreamMarks" 115 "no more components" ∈ lw_tbl := sm_t4 _ (List.mem_of_getElem? (i := 135) rfl)
theorem sr_6 : Cond.stringRef "StreamMarks" 125 "no such order or layers" ∈ lw_tbl := sm_t4 _ (List.mem_of_getElem? (i := 145) rfl)
theorem sr_7 : Cond.stringRef "StreamMarks" 323 "no such component" ∈ lw_tbl := sm_t4 _ (List.mem_of_getElem? (i := 169) rfl)
theorem sr_8 : Cond.stringRef "StreamMarks" 145 "no coding has these numbers" ∈ lw_tbl := sm_t4 _ (List.mem_of_getElem? (i := 177) rfl)
theorem sr_9 : Cond.stringRef "StreamMarks" 156 "no precinct has these exponents" ∈ lw_tbl := sm_t4 _ (List.mem_of_getElem? (i := 187) rfl)
theorem sr_10 : Cond.stringRef "StreamMarks" 169 "no steps have these numbers" ∈ lw_tbl := sm_t4 _ (List.mem_of_getElem? (i := 198) rfl)
theorem sr_11 : Cond.stringRef "StreamMarks" 187 "no such value of steps" ∈ lw_tbl := sm_t4 _ (List.mem_of_getElem? (i := 207) rfl)
theorem sr_12 : Cond.stringRef "StreamMarks" 197 "no change has these numbers" ∈ lw_tbl := sm_t4 _ (List.mem_of_getElem? (i := 217) rfl)
theorem sr_13 : Cond.stringRef "StreamMarks" 202 "no more changes" ∈ lw_tbl := sm_t4 _ (List.mem_of_getElem? (i := 218) rfl)
theorem sr_14 : Cond.stringRef "StreamMarks" 325 "no such level" ∈ lw_tbl := sm_t4 _ (List.mem_of_getElem? (i := 235) rfl)
theorem sr_15 : Cond.stringRef "StreamMarks" 222 "the plan has none such" ∈ lw_tbl := sm_t5 _ (List.mem_of_getElem? (i := 16) rfl)
theorem sr_16 : Cond.stringRef "StreamMarks" 228 "not a byte" ∈ lw_tbl := sm_t5 _ (List.mem_of_getElem? (i := 25) rfl)
theorem sr_17 : Cond.stringRef "StreamMarks" 330 "the stream is full" ∈ lw_tbl := sm_t5 _ (List.mem_of_getElem? (i := 40) rfl)
theorem sr_18 : Cond.stringRef "StreamMarks" 243 "no such byte" ∈ lw_tbl := sm_t5 _ (List.mem_of_getElem? (i := 59) rfl)
theorem sr_19 : Cond.stringRef "StreamMarks" 248 "there is no picture or component" ∈ lw_tbl := sm_t5 _ (List.mem_of_getElem? (i := 68) rfl)
theorem sr_20 : Cond.stringRef "StreamMarks" 261 "no part has these numbers" ∈ lw_tbl := sm_t5 _ (List.mem_of_getElem? (i := 158) rfl)
theorem sr_21 : Cond.stringRef "StreamMarks" 275 "not a mark" ∈ lw_tbl := sm_t5 _ (List.mem_of_getElem? (i := 170) rfl)
theorem sr_22 : Cond.stringRef "StreamMarks" 313 "the stream is not scanned" ∈ lw_tbl := sm_t5 _ (List.mem_of_getElem? (i := 193) rfl)
theorem sr_23 : Cond.stringRef "StreamMarks" 336 "no such tile" ∈ lw_tbl := sm_t5 _ (List.mem_of_getElem? (i := 194) rfl)
theorem sr_24 : Cond.stringRef "StreamMarks" 311 "no such byte of heads" ∈ lw_tbl := sm_t5 _ (List.mem_of_getElem? (i := 216) rfl)
theorem sr_25 : Cond.stringRef "StreamMarks" 316 "no such part" ∈ lw_tbl := sm_t5 _ (List.mem_of_getElem? (i := 224) rfl)
theorem sr_all : ∀ q ∈ sm_strs, Cond.stringRef q.1 q.2.1 q.2.2 ∈ lw_tbl := List.forall_mem_cons.mpr ⟨sr_0, List.forall_mem_cons.mpr ⟨sr_1, List.forall_mem_cons.mpr ⟨sr_2, List.forall_mem_cons.mpr ⟨sr_3, List.forall_mem_cons.mpr ⟨sr_4, List.forall_mem_cons.mpr ⟨sr_5, List.forall_mem_cons.mpr ⟨sr_6, List.forall_mem_cons.mpr ⟨sr_7, List.forall_mem_cons.mpr ⟨sr_8, List.forall_mem_cons.mpr ⟨sr_9, List.forall_mem_cons.mpr ⟨sr_10, List.forall_mem_cons.mpr ⟨sr_11, List.forall_mem_cons.mpr ⟨sr_12, List.forall_mem_cons.mpr ⟨sr_13, List.forall_mem_cons.mpr ⟨sr_14, List.forall_mem_cons.mpr ⟨sr_15, List.forall_mem_cons.mpr ⟨sr_16, List.forall_mem_cons.mpr ⟨sr_17, List.forall_mem_cons.mpr ⟨sr_18, List.forall_mem_cons.mpr ⟨sr_19, List.forall_mem_cons.mpr ⟨sr_20, List.forall_mem_cons.mpr ⟨sr_21, List.forall_mem_cons.mpr ⟨sr_22, List.forall_mem_cons.mpr ⟨sr_23, List.forall_mem_cons.mpr ⟨sr_24, List.forall_mem_cons.mpr ⟨sr_25, fun _ h => absurd h List.not_mem_nil⟩⟩⟩⟩⟩⟩⟩⟩⟩⟩⟩⟩⟩⟩⟩⟩⟩⟩⟩⟩⟩⟩⟩⟩⟩⟩
theorem ls_us : Cond.laysStatic Bundle.tN "UNASSIGNED_STACK" Bundle.steD ∈ lw_tbl := sm_t4 _ (List.mem_of_getElem? (i := 50) rfl)
theorem ls_ss : Cond.laysStatic Bundle.tN "SUPPRESSED_SENTINEL" Bundle.listD ∈ lw_tbl := sm_t4 _ (List.mem_of_getElem? (i := 52) rfl)
theorem nc_all : ∀ q ∈ sm_ncs, Cond.not (.castable q.1 q.2) ∈ flatC (Cond.and given_1 narrow_1) := by decide +kernel
theorem en_S {C n d : String} {b : Nat} {s : State} (h1 : (Cond.laysStatic C n d).before #[Value.ref b] s = true) (h2 : (Cond.initialized C).before #[Value.ref b] s = true) (h3 : (Cond.isRef (.static C n d)).before #[Value.ref b] s = true) : sm_S C n d (fun q => s.heap.size ≤ q) s s.heap := by
  refine ⟨va_Zqof h1 h2 h3 (fun a h => Nat.not_le.mpr h), ?_⟩
  obtain ⟨c, k, i, f, a, cell, g1, g2, g3, g4, g5, g6, g7, g8, g9⟩ := Cond.laysStatic_spec h1
  exact ⟨c, k, i, f, a, cell, ⟨g1, g2, g3, g4, g9⟩, ⟨g5, g6, g7, g8⟩, Nat.not_le.mpr (Array.getElem?_eq_some_iff.mp g5).1⟩
theorem en_N {s : State} {b : Nat} (hts : ∀ w ∈ lw_tbl, w.before #[Value.ref b] s = true) : ∀ w ∈ sm_NW, va_Nw w s := by
  intro w hw
  have h1 := hts w (List.mem_filter.mp hw).1
  have h2 := (List.mem_filter.mp hw).2
  cases w <;> first | (simp [sm_isN] at h2; done) | exact va_Nw.of rfl h1 | (rename_i t9; cases t9 <;> first | (simp [sm_isN] at h2; done) | exact va_AO.of h1)
theorem en_K {s : State} {b : Nat} (hts : ∀ w ∈ lw_tbl, w.before #[Value.ref b] s = true) : ∃ (D : va_G) (ids : Nat → ClassId), ∀ (n : Nat) (X : Nat × Nat × (Nat → Int32)), va_K D sm_cl (sm_tys (D, ids, n, X)) s := by
  have hws : ∀ w ∈ sm_WS, w.before #[Value.ref b] s = true := fun w hw => hts w (List.mem_filter.mp hw).1
  obtain ⟨c0, i0, k0⟩ := u_known (ws := sm_WS) hws uw_SM (hws _ mw_25)
  obtain ⟨c1, i1, k1⟩ := u_known (ws := sm_WS) hws uw_Pl (hws _ mw_33)
  obtain ⟨c2, i2, k2⟩ := u_known (ws := sm_WS) hws uw_Cp (hws _ mw_40)
  obtain ⟨c3, i3, k3⟩ := u_known (ws := sm_WS) hws uw_Cd (hws _ mw_46)
  obtain ⟨c4, i4, k4⟩ := u_known (ws := sm_WS) hws uw_St (hws _ mw_85)
  obtain ⟨c5, i5, k5⟩ := u_known (ws := sm_WS) hws uw_Rw (hws _ mw_199)
  obtain ⟨c6, i6, k6⟩ := u_known (ws := sm_WS) hws uw_Sc (hws _ mw_215)
  obtain ⟨c7, i7, k7⟩ := u_known (ws := sm_WS) hws uw_Ps (hws _ mw_223)
  obtain ⟨c8, i8, k8⟩ := u_known (ws := sm_WS) hws uw_Pt (hws _ mw_233)
  obtain ⟨c9, i9, k9⟩ := u_known (ws := sm_WS) hws uw_Ld (hws _ mw_305)
  obtain ⟨c10, i10, k10⟩ := u_known (ws := sm_WS) hws uw_Md (hws _ mw_1187)
  obtain ⟨aB, kB, pB, b1, b2, b3⟩ := Cond.arrayClass_spec (hws _ mw_213)
  obtain ⟨aI, kI, pI, e1, e2, e3⟩ := Cond.arrayClass_spec (hws _ mw_83)
  obtain ⟨aJ, kJ, pJ, j1, j2, j3⟩ := Cond.arrayClass_spec (hws _ mw_1668)
  obtain ⟨pO, aO, kO, o1, -, o2, o3, o4⟩ := Cond.arrayOver_spec (hts _ (List.mem_filter.mp mn_39c).1)
  refine ⟨(fun k => [c0, c1, c2, c3, c4, c5, c6, c7, c8, c9, c10].getD k 0, fun k => [i0, i1, i2, i3, i4, i5, i6, i7, i8, i9, i10].getD k (fun _ => 0)), fun k => [aB, aI, aJ, aO].getD k 0, fun n X => ⟨fun c q hq => ?_, fun k q hk => ?_⟩⟩
  · have hlt : c < 11 := (List.getElem?_eq_some_iff.mp hq).1
    rcases (show c = 0 ∨ c = 1 ∨ c = 2 ∨ c = 3 ∨ c = 4 ∨ c = 5 ∨ c = 6 ∨ c = 7 ∨ c = 8 ∨ c = 9 ∨ c = 10 by omega) with rfl | rfl | rfl | rfl | rfl | rfl | rfl | rfl | rfl | rfl | rfl <;> (cases hq; assumption)
  · have hlt : k < 4 := (List.getElem?_eq_some_iff.mp hk).1
    rcases (show k = 0 ∨ k = 1 ∨ k = 2 ∨ k = 3 by omega) with rfl | rfl | rfl | rfl
    · cases hk
      exact ⟨fun n z => ⟨fun k h => (by cases h), kB, b2, pB, b3⟩, b1⟩
    · cases hk
      exact ⟨fun n z => ⟨fun k h => (by cases h), kI, e2, pI, e3⟩, e1⟩
    · cases hk
      exact ⟨fun n z => ⟨fun k h => (by cases h), kJ, j2, pJ, j3⟩, j1⟩
    · cases hk
      exact ⟨fun n z => ⟨fun k h => (by cases h), kO, o2, pO, o3⟩, kO, pO, o2, o3, o1, o4⟩

