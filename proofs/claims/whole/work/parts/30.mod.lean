/-! a module: a base address, cells at fixed places behind it; its ints are one table of words -/
abbrev wd : Type := Nat → Nat → Int32
def up2 (w : wd) (a k : Nat) (v : Int32) : wd := fun b j => if b = a ∧ j = k then v else w b j
/-- a cell: n ints, or an object of class number ci; of its fields none is an int, some d a reference to place d -/
abbrev lo_T : Type := Nat ⊕ (Nat × List (Option Nat))
def lo_f (b : Nat) (g : Nat → Int32) (k : Nat) (x : Option Nat) : Value := match x with
  | none => .int (g k)
  | some d => .ref (b + d)
def lo_fs (b : Nat) (g : Nat → Int32) : Nat → List (Option Nat) → List Value
  | _, [] => []
  | k, x :: t => lo_f b g k x :: lo_fs b g (k + 1) t
def lo_cell (G : sm_G) (b : Nat) (g : Nat → Int32) (t : lo_T) : va_E := match t with
  | .inl n => .inl (G.2.1 1, n, .inl g)
  | .inr q => .inr (q.1, lo_fs b g 0 q.2)
def lo_at (G : sm_G) (L : Nat → Option lo_T) (b : Nat) (M : sm_M) (w : wd) : Prop := ∀ (a : Nat) (t : lo_T), L a = some t → M.1 (b + a) = some (lo_cell G b (w a) t)
/-- what is not of the module is as it was -/
def lo_fr (L : Nat → Option lo_T) (b : Nat) (M M' : sm_M) : Prop := M'.2 = M.2 ∧ ∀ x : Nat, (∀ (a : Nat) (t : lo_T), L a = some t → x ≠ b + a) → M'.1 x = M.1 x
def lo_in (G : sm_G) (L : Nat → Option lo_T) (b : Nat) (M0 M : sm_M) (w : wd) : Prop := lo_at G L b M w ∧ lo_fr L b M0 M
def bi (p : Bool) : Int32 := if p = true then 1 else 0
theorem bi0 {p : Bool} (h : bi p = 0) : ¬ p = true := by
  intro e
  rw [e] at h
  exact absurd h (by decide)
theorem bi1 {p : Bool} (h : ¬ bi p = 0) : p = true := by
  cases p with
  | true => rfl
  | false => exact absurd rfl h
theorem bi_n (p : Bool) : narrow .boolean (.int (bi p)) = .int (bi p) := by cases p <;> rfl
theorem bi_f (p : Bool) : fits .boolean (.int (bi p)) = true := by cases p <;> rfl
theorem bi_d (P : Prop) [Decidable P] : bi (decide P) = if P then 1 else 0 := by
  unfold bi
  by_cases h : P <;> simp [h]
theorem up2_s {w : wd} {a k : Nat} {v : Int32} : up2 w a k v a k = v := by simp [up2]
theorem up2_a {w : wd} {a b k j : Nat} {v : Int32} (h : b ≠ a) : up2 w a k v b j = w b j := by simp [up2, h]
theorem up2_k {w : wd} {a b k j : Nat} {v : Int32} (h : j ≠ k) : up2 w a k v b j = w b j := by simp [up2, h]
theorem up2_row {w : wd} {a b k : Nat} {v : Int32} (h : b ≠ a) : up2 w a k v b = w b := funext fun _ => up2_a h
theorem up2_upd {w : wd} {a k : Nat} {v : Int32} : up2 w a k v a = upd (w a) k v := by
  funext j
  by_cases h : j = k <;> simp [up2, upd, h]
theorem lo_ix {i k : Int32} {n : Nat} (h1 : ¬ i < 0) (h2 : ¬ k ≤ i) (hk : k.toInt = n) : 0 ≤ i.toInt ∧ i.toInt < n := by
  rw [sm_lt0] at h1
  rw [sm_le] at h2
  omega
theorem lo_chk {P : Prop} [Decidable P] {α : Type} {A : Option α} {R : α} (h : (if P then A else none) = some R) : P ∧ A = some R := by
  by_cases hp : P
  · rw [if_pos hp] at h
    exact ⟨hp, h⟩
  · rw [if_neg hp] at h
    cases h
theorem lo_bnd {α β : Type} {o : Option α} {k : α → Option β} {R : β} (h : o.bind k = some R) : ∃ r, o = some r ∧ k r = some R := Option.bind_eq_some_iff.mp h
theorem lo_offD {d i : Int} : ∀ {ps : List (Int × Int)}, (∀ p ∈ ps, p.1 ≠ i) → Op.lookupswitch.offset ps d i = d
  | [], _ => rfl
  | (a, o) :: r, h => by
    rw [Op.lookupswitch.offset_cons, if_neg (h (a, o) List.mem_cons_self)]
    exact lo_offD fun p hp => h p (List.mem_cons_of_mem _ hp)
theorem lo_fs_set {b : Nat} {g : Nat → Int32} {v : Int32} : ∀ {ks : List (Option Nat)} {j k : Nat}, ks[k]? = some none → (lo_fs b g j ks).set k (.int v) = lo_fs b (upd g (j + k) v) j ks
  | [], j, k, h => by cases h
  | x :: t, j, 0, h => by
    have hx : x = none := by simpa using h
    subst hx
    show Value.int v :: lo_fs b g (j + 1) t = Value.int (upd g (j + 0) v j) :: lo_fs b (upd g (j + 0) v) (j + 1) t
    have h1 : ∀ (t : List (Option Nat)) (i : Nat), j < i → lo_fs b (upd g (j + 0) v) i t = lo_fs b g i t := by
      intro t
      induction t with
      | nil => intro i _; rfl
      | cons y t ih =>
        intro i hi
        show lo_f b (upd g (j + 0) v) i y :: _ = lo_f b g i y :: _
        rw [ih (i + 1) (by omega)]
        cases y with
        | none => show Value.int (upd g (j + 0) v i) :: _ = Value.int (g i) :: _; rw [pk_un (by omega)]
        | some d => rfl
    rw [h1 t (j + 1) (by omega), show upd g (j + 0) v j = v from pk_us]
  | x :: t, j, k + 1, h => by
    show lo_f b g j x :: (lo_fs b g (j + 1) t).set k (.int v) = lo_f b (upd g (j + (k + 1)) v) j x :: lo_fs b (upd g (j + (k + 1)) v) (j + 1) t
    rw [lo_fs_set (ks := t) (j := j + 1) (k := k) (by simpa using h), show j + 1 + k = j + (k + 1) by omega]
    congr 1
    cases x with
    | none => show Value.int (g j) = Value.int (upd g (j + (k + 1)) v j); rw [pk_un (by omega)]
    | some d => rfl
theorem lo_fs_len {b : Nat} {g : Nat → Int32} : ∀ {ks : List (Option Nat)} {j : Nat}, (lo_fs b g j ks).length = ks.length
  | [], _ => rfl
  | x :: t, j => by
    show (lo_fs b g (j + 1) t).length + 1 = t.length + 1
    rw [lo_fs_len]
section LOM
variable {G : sm_G} {L : Nat → Option lo_T} {b : Nat} {M0 M M1 : sm_M} {w w' : wd}
theorem lo_fr.rf : lo_fr L b M M := ⟨rfl, fun _ _ => rfl⟩
theorem lo_fr.trans (h1 : lo_fr L b M0 M) (h2 : lo_fr L b M M1) : lo_fr L b M0 M1 := ⟨h2.1.trans h1.1, fun x hx => (h2.2 x hx).trans (h1.2 x hx)⟩
theorem lo_in.trans (h1 : lo_in G L b M0 M w) (h2 : lo_in G L b M M1 w') : lo_in G L b M0 M1 w' := ⟨h2.1, h1.2.trans h2.2⟩
theorem lo_in.here (h : lo_in G L b M0 M w) : lo_in G L b M M w := ⟨h.1, lo_fr.rf⟩
theorem lo_in.seta {a n i : Nat} {v : Int32} (h : lo_in G L b M0 M w) (hL : L a = some (.inl n)) : lo_in G L b M0 (va_up M.1 (b + a) (some (.inl (G.2.1 1, n, .inl (upd (w a) i v)))), M.2) (up2 w a i v) := by
  refine ⟨fun a' t hL' => ?_, h.2.1, fun x hx => ?_⟩
  · by_cases e : a' = a
    · subst e
      cases Option.some.inj (hL.symm.trans hL')
      rw [up2_upd]
      exact va_up_self _ _ _
    · rw [up2_row e]
      exact (va_up_ne _ _ (by omega)).trans (h.1 a' t hL')
  · exact (va_up_ne _ _ (hx a _ hL)).trans (h.2.2 x hx)
theorem lo_in.setf {a ci k : Nat} {ks : List (Option Nat)} {v : Int32} (h : lo_in G L b M0 M w) (hL : L a = some (.inr (ci, ks))) (hk : ks[k]? = some none) : lo_in G L b M0 (va_up M.1 (b + a) (some (.inr (ci, (lo_fs b (w a) 0 ks).set k (.int v)))), M.2) (up2 w a k v) := by
  refine ⟨fun a' t hL' => ?_, h.2.1, fun x hx => ?_⟩
  · by_cases e : a' = a
    · subst e
      cases Option.some.inj (hL.symm.trans hL')
      rw [up2_upd, lo_fs_set hk, Nat.zero_add]
      exact va_up_self _ _ _
    · rw [up2_row e]
      exact (va_up_ne _ _ (by omega)).trans (h.1 a' t hL')
  · exact (va_up_ne _ _ (hx a _ hL)).trans (h.2.2 x hx)
end LOM
/-- a method of a module: it answers r, the words are w' -/
def wd_Q (G : sm_G) (L : Nat → Option lo_T) (b : Nat) (M : sm_M) (r : Option Value) (w' : wd) : sm_O → sm_M → Prop := fun o M' => o = .inl r ∧ lo_in G L b M M' w'
section LOR
variable {G : sm_G} {L : Nat → Option lo_T} {b : Nat} {M0 : sm_M} {w w' : wd} {f : sm_F} {pc : Nat} {lv : List (Nat × Value)} {st rest : List Value} {M : sm_M} {bc bs : Nat} {Q : sm_O → sm_M → Prop}
theorem lo_get {index ci k a : Nat} {ks : List (Option Nat)} {v : Value} (hd : decode f.2.1 pc = .ok (.getfield index, 3)) (hF : sm_Fg f.1.cls index ci k) (hI : lo_in G L b M0 M w) (hL : L a = some (.inr (ci, ks))) (hv : (lo_fs b (w a) 0 ks)[k]? = some v)
    (k9 : sm_W G f (pc + 3) lv (v :: rest) M bc bs Q) : sm_W G f pc lv (.ref (b + a) :: rest) M bc bs Q := sm_get hd hF (hI.1 _ _ hL) hv k9
theorem lo_put {index ci k a : Nat} {ks : List (Option Nat)} {x : Int32} {ty : FieldType} {fin : Bool} (hd : decode f.2.1 pc = .ok (.putfield index, 3)) (hF : sm_Fp f.1.cls index ci k ty fin) (hi9 : fin = true → f.1.name = "<init>") (hI : lo_in G L b M0 M w) (hL : L a = some (.inr (ci, ks))) (hk : ks[k]? = some none) (hn : narrow ty (.int x) = .int x) (hfit : fits ty (.int x) = true)
    (k9 : ∀ M1 : sm_M, lo_in G L b M0 M1 (up2 w a k x) → sm_W G f (pc + 3) lv rest M1 bc bs Q) : sm_W G f pc lv (.int x :: .ref (b + a) :: rest) M bc bs Q :=
  sm_put hd hF hi9 (hI.1 _ _ hL) hn hfit (by rw [lo_fs_len]; exact (List.getElem?_eq_some_iff.mp hk).1) (k9 _ (hI.setf hL hk))
theorem lo_ald {a n j : Nat} {i : Int32} (hd : decode f.2.1 pc = .ok (.iaload, 1)) (hI : lo_in G L b M0 M w) (hL : L a = some (.inl n)) (hin : 0 ≤ i.toInt ∧ i.toInt < n) (hj : i.toInt.toNat = j)
    (k9 : sm_W G f (pc + 1) lv (.int (w a j) :: rest) M bc bs Q) : sm_W G f pc lv (.int i :: .ref (b + a) :: rest) M bc bs Q := by
  subst hj
  exact sm_iaload hd (hI.1 _ _ hL) (vp_in_iff.mpr hin) k9
theorem lo_ast {a n j : Nat} {i x : Int32} (hd : decode f.2.1 pc = .ok (.iastore, 1)) (hI : lo_in G L b M0 M w) (hL : L a = some (.inl n)) (hin : 0 ≤ i.toInt ∧ i.toInt < n) (hj : i.toInt.toNat = j)
    (k9 : ∀ M1 : sm_M, lo_in G L b M0 M1 (up2 w a j x) → sm_W G f (pc + 1) lv rest M1 bc bs Q) : sm_W G f pc lv (.int x :: .int i :: .ref (b + a) :: rest) M bc bs Q := by
  subst hj
  exact sm_iastore hd (hI.1 _ _ hL) (vp_in_iff.mpr hin) (k9 _ (hI.seta hL))
theorem lo_aln {a n : Nat} {v : Int32} (hd : decode f.2.1 pc = .ok (.arraylength, 1)) (hI : lo_in G L b M0 M w) (hL : L a = some (.inl n)) (hv : Int32.ofNat n = v) (k9 : sm_W G f (pc + 1) lv (.int v :: rest) M bc bs Q) : sm_W G f pc lv (.ref (b + a) :: rest) M bc bs Q := sm_alen (ti := 1) hd (hI.1 _ _ hL) rfl hv k9
/-- other places of the locals, fewer of them -/
theorem sm_lv {lv' : List (Nat × Value)} (hl : ∀ x ∈ lv', x ∈ lv) (k : sm_W G f pc lv' st M bc bs Q) : sm_W G f pc lv st M bc bs Q :=
  fun p l e R s m args below meth c H locs ls cells slots E r S L hc hs => k p l e R s m args below meth c H locs ls cells slots E r S ⟨L.1, L.2.1, fun q hq => L.2.2 q (hl q hq)⟩ hc hs
theorem lo_callV {index n a ci N : Nat} {ks : List (Option Nat)} {C : String} {T9 : u_T} {g : sm_F} {As : List Value} {v : Value} (hd : decode f.2.1 pc = .ok (.invokevirtual index, 3)) (hg : sm_Call f index g n ∧ Cond.instanceMethod g.1 ∈ sm_WS ∧ Cond.selects C g.1 g.1 ∈ sm_WS ∧ sm_cl[ci]? = some (C, T9, N)) (hno : f.2.2.2.2.1 = []) (hI : lo_in G L b M0 M w) (hL : L a = some (.inr (ci, ks))) (hn : As.length = n) (hst : st = As.reverse ++ .ref (b + a) :: rest) (hrest : (rest.map fun v => v.category).sum ≤ 12) (hC : sm_C G g (.ref (b + a) :: As) M 0 0 (sm_pu M v)) (k : sm_W G f (pc + 3) lv (v :: rest) M bc bs Q) : sm_W G f pc lv st M bc bs Q :=
  sm_callVp hd hg hno (hI.1 _ _ hL) hn hst hrest hC k
theorem lo_callVm {index n a ci N : Nat} {ks : List (Option Nat)} {C : String} {T9 : u_T} {g : sm_F} {As : List Value} {r9 : Option Value} (hd : decode f.2.1 pc = .ok (.invokevirtual index, 3)) (hg : sm_Call f index g n ∧ Cond.instanceMethod g.1 ∈ sm_WS ∧ Cond.selects C g.1 g.1 ∈ sm_WS ∧ sm_cl[ci]? = some (C, T9, N)) (hno : f.2.2.2.2.1 = []) (hI : lo_in G L b M0 M w) (hL : L a = some (.inr (ci, ks))) (hn : As.length = n) (hst : st = As.reverse ++ .ref (b + a) :: rest) (hrest : (rest.map fun v => v.category).sum ≤ 12) (hC : sm_C G g (.ref (b + a) :: As) M 0 0 (wd_Q G L b M r9 w')) (k : ∀ M1 : sm_M, lo_in G L b M0 M1 w' → sm_W G f (pc + 3) lv (r9.toList ++ rest) M1 bc bs Q) : sm_W G f pc lv st M bc bs Q :=
  sm_callV hd hg hno (hI.1 _ _ hL) hn hst hrest (mc := 0) (ms := 0) (Nat.le_of_eq (Nat.zero_add _)) (Nat.le_of_eq (Nat.zero_add _)) hC (fun X M' h => by cases h.1) (fun v9 M' h => by obtain ⟨h1, h2⟩ := h; cases h1; exact k _ (hI.trans h2))
theorem lo_callSm {index n : Nat} {g : sm_F} {As : List Value} {r9 : Option Value} (hd : decode f.2.1 pc = .ok (.invokestatic index, 3)) (hg : sm_Call f index g n ∧ Cond.static g.1 ∈ sm_WS) (hno : f.2.2.2.2.1 = []) (hI : lo_in G L b M0 M w) (hn : As.length = n) (hst : st = As.reverse ++ rest) (hrest : (rest.map fun v => v.category).sum ≤ 12) (hC : sm_C G g As M 0 0 (wd_Q G L b M r9 w')) (k : ∀ M1 : sm_M, lo_in G L b M0 M1 w' → sm_W G f (pc + 3) lv (r9.toList ++ rest) M1 bc bs Q) : sm_W G f pc lv st M bc bs Q :=
  sm_callS hd hg hno hn hst hrest (mc := 0) (ms := 0) (Nat.le_of_eq (Nat.zero_add _)) (Nat.le_of_eq (Nat.zero_add _)) hC (fun X M' h => by cases h.1) (fun v9 M' h => by obtain ⟨h1, h2⟩ := h; cases h1; exact k _ (hI.trans h2))
end LOR
theorem sm_pick {G : sm_G} {f : sm_F} {pc : Nat} {lv lv' : List (Nat × Value)} {st : List Value} {M : sm_M} {bc bs : Nat} {Q : sm_O → sm_M → Prop} (js : List Nat) (k : sm_W G f pc lv' st M bc bs Q) (h : js.filterMap (fun j => lv[j]?) = lv') : sm_W G f pc lv st M bc bs Q := by
  refine sm_lv (lv' := lv') (fun x hx => ?_) k
  rw [← h] at hx
  obtain ⟨j, -, hj⟩ := List.mem_filterMap.mp hx
  exact List.mem_of_getElem? hj
