/-! calls of methods that throw or change rows; rows' appenders with their bytes -/
def oV (r : Unit ⊕ String) : sm_O := match r with
  | .inl _ => .inl none
  | .inr X => .inr X
def oI (r : Int32 ⊕ String) : sm_O := match r with
  | .inl v => .inl (some (.int v))
  | .inr X => .inr X
section OSC
variable {G : sm_G} {b : Nat} {M0 M : sm_M} {w w' : wd} {Z Z' : zd} {f : sm_F} {pc : Nat} {lv : List (Nat × Value)} {st rest : List Value} {Q : sm_O → sm_M → Prop} {index n a ci N zF ec es bc bs : Nat} {ks : List (Option Nat)} {C X : String} {T9 : u_T} {g : sm_F} {As : List Value} {r9 : Option Value}
theorem sm_ldcw {i : Nat} {v : Int32} (hd : decode f.2.1 pc = .ok (.ldc_w i, 3)) (hw : Cond.constant f.1.cls i v ∈ sm_WS) (k : sm_W G f (pc + 3) lv (.int v :: rest) M bc bs Q) : sm_W G f pc lv rest M bc bs Q := fun p l e R s m args below meth c H locs ls cells slots E r S L hc hs => lv_ldcw E.1 E.2.1 E.2.2.2.1 (E.2.2.2.2.1 _ hw) hd (k p l e R s m args below meth c H locs ls cells slots E r S L hc hs)
theorem cm_cnt2 (hd : decode f.2.1 pc = .ok (.getfield index, 3)) (hF : sm_Fg f.1.cls index 5 1) (hI : lo_in G cm_L b M0 M w) (hZ : cz_at G b M0 Z) (k9 : sm_W G f (pc + 3) lv (.int (nI Z.2.1.1.length) :: rest) M bc bs Q) : sm_W G f pc lv (.ref (b + 103) :: rest) M bc bs Q := by
  obtain ⟨h1, h2, q1, q2, q3, r1, r2, r3, -⟩ := hZ.go hI.2
  exact sm_get hd hF r2.cell rfl k9
theorem os_callI (hd : decode f.2.1 pc = .ok (.invokevirtual index, 3)) (hg : sm_Call f index g n ∧ Cond.instanceMethod g.1 ∈ sm_WS ∧ Cond.selects C g.1 g.1 ∈ sm_WS ∧ sm_cl[ci]? = some (C, T9, N)) (hno : f.2.2.2.2.1 = []) (hS : os_in G b M0 M w Z) (hL : cm_L a = some (.inr (ci, ks))) (hn : As.length = n) (hst : st = As.reverse ++ .ref (b + a) :: rest) (hrest : (rest.map fun v => v.category).sum ≤ 12) (hC : sm_C G g (.ref (b + a) :: As) M 0 0 (os_Q G b M (.inl r9) w' Z')) (k : ∀ M1 : sm_M, os_in G b M0 M1 w' Z' → sm_W G f (pc + 3) lv (r9.toList ++ rest) M1 bc bs Q) : sm_W G f pc lv st M bc bs Q :=
  sm_callV hd hg hno (hS.1 _ _ hL) hn hst hrest (mc := 0) (ms := 0) (Nat.le_of_eq (Nat.zero_add _)) (Nat.le_of_eq (Nat.zero_add _)) hC (fun X M' h => by cases h.1) (fun v9 M' h => by obtain ⟨h1, h2⟩ := h; cases h1; exact k _ (hS.trans h2))
theorem os_callX (hd : decode f.2.1 pc = .ok (.invokevirtual index, 3)) (hg : sm_Call f index g n ∧ Cond.instanceMethod g.1 ∈ sm_WS ∧ Cond.selects C g.1 g.1 ∈ sm_WS ∧ sm_cl[ci]? = some (C, T9, N)) (hno : f.2.2.2.2.1 = []) (hS : os_in G b M0 M w Z) (hL : cm_L a = some (.inr (ci, ks))) (hn : As.length = n) (hst : st = As.reverse ++ .ref (b + a) :: rest) (hrest : (rest.map fun v => v.category).sum ≤ 12) (hC : sm_C G g (.ref (b + a) :: As) M 1 6 (os_Q G b M (.inr X) w' Z')) (h1 : 1 ≤ bc) (h6 : 6 ≤ bs) (hq : ∀ M1 : sm_M, os_in G b M0 M1 w' Z' → Q (.inr X) M1) : sm_W G f pc lv st M bc bs Q :=
  sm_callV hd hg hno (hS.1 _ _ hL) hn hst hrest (mc := 1) (ms := 6) (bc' := 0) (bs' := 0) h1 h6 hC (fun X M' h => by obtain ⟨h1, h2⟩ := h; cases h1; exact hq _ (hS.trans h2)) (fun v9 M' h => by cases h.1)
theorem os_callZ (hd : decode f.2.1 pc = .ok (.invokevirtual index, 3)) (hg : sm_Call f index g n ∧ Cond.instanceMethod g.1 ∈ sm_WS ∧ Cond.selects C g.1 g.1 ∈ sm_WS ∧ sm_cl[ci]? = some (C, T9, N)) (hno : f.2.2.2.2.1 = []) (hS : os_in G b M0 M w Z) (hL : cm_L a = some (.inr (ci, ks))) (hn : As.length = n) (hst : st = As.reverse ++ .ref (b + a) :: rest) (hrest : (rest.map fun v => v.category).sum ≤ 12) (hC : sm_C G g (.ref (b + a) :: As) M (2 * (zc Z' - zc Z) + 0) (2 * (zc Z' - zc Z) + 0) (os_Q G b M (.inl r9) w' Z')) (g1 : zc Z ≤ zc Z') (g2 : zc Z' ≤ zF)
    (k : ∀ M1 : sm_M, os_in G b M0 M1 w' Z' → sm_W G f (pc + 3) lv (r9.toList ++ rest) M1 (2 * (zF - zc Z') + ec) (2 * (zF - zc Z') + es) Q) : sm_W G f pc lv st M (2 * (zF - zc Z) + ec) (2 * (zF - zc Z) + es) Q :=
  sm_callV hd hg hno (hS.1 _ _ hL) hn hst hrest (mc := 2 * (zc Z' - zc Z) + 0) (ms := 2 * (zc Z' - zc Z) + 0) (bc' := 2 * (zF - zc Z') + ec) (bs' := 2 * (zF - zc Z') + es) (by omega) (by omega) hC (fun X M' h => by cases h.1) (fun v9 M' h => by obtain ⟨h1, h2⟩ := h; cases h1; exact k _ (hS.trans h2))
theorem zs2_le {r : List Nat} : zc Z ≤ zc (zs2 Z (rwp Z.2.1 r)) := by
  rw [os_cap2]
  exact Nat.le_add_right _ _
theorem zs2_app {p q : List Nat} : zs2 (zs2 Z (rwp Z.2.1 p)) (rwp (zs2 Z (rwp Z.2.1 p)).2.1 q) = zs2 Z (rwp Z.2.1 (p ++ q)) := by
  show (Z.1, ((Z.2.1.1 ++ p) ++ q, rw_ca (rw_ca Z.2.1.2 Z.2.1.1.length p.length) (Z.2.1.1 ++ p).length q.length), Z.2.2) = (Z.1, (Z.2.1.1 ++ (p ++ q), rw_ca Z.2.1.2 Z.2.1.1.length (p ++ q).length), Z.2.2)
  rw [List.append_assoc, List.length_append, List.length_append, rw_ca_app]
theorem os_callW {r : List Nat} (hd : decode f.2.1 pc = .ok (.invokestatic index, 3)) (hg : sm_Call f index g n ∧ Cond.static g.1 ∈ sm_WS) (hno : f.2.2.2.2.1 = []) (hS : os_in G b M0 M w Z) (hn : As.length = n) (hst : st = As.reverse ++ rest) (hrest : (rest.map fun v => v.category).sum ≤ 12) (hC : sm_C G g As M (2 * (zc (zs2 Z (rwp Z.2.1 r)) - zc Z) + 0) (2 * (zc (zs2 Z (rwp Z.2.1 r)) - zc Z) + 0) (os_Q G b M (.inl none) w (zs2 Z (rwp Z.2.1 r)))) (g2 : zc (zs2 Z (rwp Z.2.1 r)) ≤ zF)
    (k : ∀ M1 : sm_M, os_in G b M0 M1 w (zs2 Z (rwp Z.2.1 r)) → sm_W G f (pc + 3) lv rest M1 (2 * (zF - zc (zs2 Z (rwp Z.2.1 r))) + ec) (2 * (zF - zc (zs2 Z (rwp Z.2.1 r))) + es) Q) : sm_W G f pc lv st M (2 * (zF - zc Z) + ec) (2 * (zF - zc Z) + es) Q := by
  have g1 := zs2_le (Z := Z) (r := r)
  exact sm_callS hd hg hno hn hst hrest (mc := 2 * (zc (zs2 Z (rwp Z.2.1 r)) - zc Z) + 0) (ms := 2 * (zc (zs2 Z (rwp Z.2.1 r)) - zc Z) + 0) (bc' := 2 * (zF - zc (zs2 Z (rwp Z.2.1 r))) + ec) (bs' := 2 * (zF - zc (zs2 Z (rwp Z.2.1 r))) + es) (by omega) (by omega) hC (fun X M' h => by cases h.1) (fun v9 M' h => by obtain ⟨h1, h2⟩ := h; cases h1; exact k _ (hS.trans h2))
theorem wr_len {r R' : List Nat} (hl : Z.2.1.1.length + (r ++ R').length ≤ 65536) : Z.2.1.1.length + r.length ≤ 65536 := by
  rw [List.length_append] at hl
  omega
theorem wr_fin {ZF : zd} (hS : os_in G b M0 M w Z) (hE : zs2 Z (rwp Z.2.1 []) = ZF) : os_in G b M0 M w ZF := by
  have e : zs2 Z (rwp Z.2.1 []) = Z := by
    show (Z.1, (Z.2.1.1 ++ [], Z.2.1.2), Z.2.2) = Z
    rw [List.append_nil]
  rw [← hE, e]
  exact hS
theorem wr_call {r R' : List Nat} {ZF : zd} (hd : decode f.2.1 pc = .ok (.invokestatic index, 3)) (hg : sm_Call f index g n ∧ Cond.static g.1 ∈ sm_WS) (hno : f.2.2.2.2.1 = []) (hS : os_in G b M0 M w Z) (hn : As.length = n) (hst : st = As.reverse ++ rest) (hrest : (rest.map fun v => v.category).sum ≤ 12) (hC : sm_C G g As M (2 * (zc (zs2 Z (rwp Z.2.1 r)) - zc Z) + 0) (2 * (zc (zs2 Z (rwp Z.2.1 r)) - zc Z) + 0) (os_Q G b M (.inl none) w (zs2 Z (rwp Z.2.1 r)))) (hE : zs2 Z (rwp Z.2.1 (r ++ R')) = ZF) (hl : Z.2.1.1.length + (r ++ R').length ≤ 65536)
    (k : ∀ (M1 : sm_M) (Z1 : zd), os_in G b M0 M1 w Z1 → zs2 Z1 (rwp Z1.2.1 R') = ZF → Z1.2.1.1.length + R'.length ≤ 65536 → sm_W G f (pc + 3) lv rest M1 (2 * (zc ZF - zc Z1) + 0) (2 * (zc ZF - zc Z1) + 0) Q) : sm_W G f pc lv st M (2 * (zc ZF - zc Z) + 0) (2 * (zc ZF - zc Z) + 0) Q := by
  have e1 : zs2 (zs2 Z (rwp Z.2.1 r)) (rwp (zs2 Z (rwp Z.2.1 r)).2.1 R') = ZF := zs2_app.trans hE
  refine os_callW hd hg hno hS hn hst hrest hC (by rw [← e1]; exact zs2_le) (fun M1 h1 => k M1 _ h1 e1 ?_)
  show (Z.2.1.1 ++ r).length + R'.length ≤ 65536
  rw [List.length_append] at hl ⊢
  omega
theorem wr_app {r R' : List Nat} {ZF : zd} (hd : decode f.2.1 pc = .ok (.invokevirtual index, 3)) (hg : sm_Call f index g n ∧ Cond.instanceMethod g.1 ∈ sm_WS ∧ Cond.selects C g.1 g.1 ∈ sm_WS ∧ sm_cl[5]? = some (C, T9, N)) (hno : f.2.2.2.2.1 = []) (hS : os_in G b M0 M w Z) (hn : As.length = n) (hst : st = As.reverse ++ .ref (b + 103) :: rest) (hrest : (rest.map fun v => v.category).sum ≤ 12)
    (hC : ∀ q, rw_at G M (b + 103) q Z.2.1.2 Z.2.1.1 → sm_C G g (.ref (b + 103) :: As) M (2 * (rw_ca Z.2.1.2 Z.2.1.1.length r.length - Z.2.1.2)) (2 * (rw_ca Z.2.1.2 Z.2.1.1.length r.length - Z.2.1.2)) (rw_ap G M (b + 103) q Z.2.1.2 Z.2.1.1 r)) (hE : zs2 Z (rwp Z.2.1 (r ++ R')) = ZF) (hl : Z.2.1.1.length + (r ++ R').length ≤ 65536)
    (k : ∀ (M1 : sm_M) (Z1 : zd), os_in G b M0 M1 w Z1 → zs2 Z1 (rwp Z1.2.1 R') = ZF → Z1.2.1.1.length + R'.length ≤ 65536 → sm_W G f (pc + 3) lv rest M1 (2 * (zc ZF - zc Z1) + 0) (2 * (zc ZF - zc Z1) + 0) Q) : sm_W G f pc lv st M (2 * (zc ZF - zc Z) + 0) (2 * (zc ZF - zc Z) + 0) Q := by
  have e1 : zs2 (zs2 Z (rwp Z.2.1 r)) (rwp (zs2 Z (rwp Z.2.1 r)).2.1 R') = ZF := zs2_app.trans hE
  refine os_app2 hd hg hno hS hn hst hrest hC (by rw [← e1]; exact zs2_le) (fun M1 h1 => k M1 _ h1 e1 ?_)
  show (Z.2.1.1 ++ r).length + R'.length ≤ 65536
  rw [List.length_append] at hl ⊢
  omega
end OSC
section RAP
variable {G : sm_G} {M : sm_M} {r q cap : Nat} {l : List Nat}
theorem r_addU1 (h : rw_at G M r q cap l) (x : Int32) (hl : l.length + ([by8 x] : List Nat).length ≤ 65536) : sm_C G mf_Rw_addU1 [.ref r, .int x] M (2 * (rw_ca cap l.length ([by8 x] : List Nat).length - cap)) (2 * (rw_ca cap l.length ([by8 x] : List Nat).length - cap)) (rw_ap G M r q cap l [by8 x]) := a_Rw_addU1 h hl x
theorem r_addU2 (h : rw_at G M r q cap l) (x : Int32) (hl : l.length + (rw_b2 x).length ≤ 65536) : sm_C G mf_Rw_addU2 [.ref r, .int x] M (2 * (rw_ca cap l.length (rw_b2 x).length - cap)) (2 * (rw_ca cap l.length (rw_b2 x).length - cap)) (rw_ap G M r q cap l (rw_b2 x)) := c_Rw_addU2 h hl x
theorem r_addU4 (h : rw_at G M r q cap l) (x : Int32) (hl : l.length + (rw_b4 x).length ≤ 65536) : sm_C G mf_Rw_addU4 [.ref r, .int x] M (2 * (rw_ca cap l.length (rw_b4 x).length - cap)) (2 * (rw_ca cap l.length (rw_b4 x).length - cap)) (rw_ap G M r q cap l (rw_b4 x)) := c_Rw_addU4 h hl x
def rw_bm (x : Int32) : List Nat := [by8 255, by8 x]
def rw_bs (x y : Int32) : List Nat := rw_bm x ++ rw_b2 y
theorem r_addMark (h : rw_at G M r q cap l) (x : Int32) (hl : l.length + (rw_bm x).length ≤ 65536) : sm_C G mf_Rw_addMark [.ref r, .int x] M (2 * (rw_ca cap l.length (rw_bm x).length - cap)) (2 * (rw_ca cap l.length (rw_bm x).length - cap)) (rw_ap G M r q cap l (rw_bm x)) := c_Rw_addMark h hl x
theorem r_addSegment (h : rw_at G M r q cap l) (x y : Int32) (hl : l.length + (rw_bs x y).length ≤ 65536) : sm_C G mf_Rw_addSegment [.ref r, .int x, .int y] M (2 * (rw_ca cap l.length (rw_bs x y).length - cap)) (2 * (rw_ca cap l.length (rw_bs x y).length - cap)) (rw_ap G M r q cap l (rw_bs x y)) := c_Rw_addSegment h hl x y
end RAP
section RAN
variable {G : sm_G} {b : Nat} {M0 M : sm_M} {w : wd} {Z : zd}
/-- heads take bytes of the stream -/
theorem r_range31 (hS : os_in G b M0 M w Z) (x y : Int32) (hl : Z.2.2.1.length + (rw_rg Z.1.1 x 0 y.toInt.toNat).length ≤ 65536) (q : Nat) (hq : rw_at G M (b + 106) q Z.2.2.2 Z.2.2.1) : sm_C G mf_Rw_addRange [.ref (b + 106), .ref (b + 101), .int x, .int y] M (2 * (rw_ca Z.2.2.2 Z.2.2.1.length (rw_rg Z.1.1 x 0 y.toInt.toNat).length - Z.2.2.2)) (2 * (rw_ca Z.2.2.2 Z.2.2.1.length (rw_rg Z.1.1 x 0 y.toInt.toNat).length - Z.2.2.2)) (rw_ap G M (b + 106) q Z.2.2.2 Z.2.2.1 (rw_rg Z.1.1 x 0 y.toInt.toNat)) := by
  obtain ⟨h0, ⟨h1, h2, q1, q2, q3, r1, r2, r3, ⟨k1, k2, k3⟩, n1, n2, n3⟩, h3⟩ := hS
  have e9 : q = q3 := by
    have h8 := hq.cell.symm.trans r3.cell
    injection h8 with h8
    injection h8 with h8
    injection h8 with h8 h7
    injection h7 with h7 h6
    injection h7
  subst e9
  rw [rw_rg_len] at hl
  exact c_Rw_addRange hq r1 (by omega) ⟨n2, by rcases k3 with h | h | h | h <;> omega⟩ x y hl
/-- the stream takes bytes of the draft -/
theorem r_range12 (hS : os_in G b M0 M w Z) (x y : Int32) (hl : Z.1.1.length + (rw_rg Z.2.1.1 x 0 y.toInt.toNat).length ≤ 65536) (q : Nat) (hq : rw_at G M (b + 101) q Z.1.2 Z.1.1) : sm_C G mf_Rw_addRange [.ref (b + 101), .ref (b + 103), .int x, .int y] M (2 * (rw_ca Z.1.2 Z.1.1.length (rw_rg Z.2.1.1 x 0 y.toInt.toNat).length - Z.1.2)) (2 * (rw_ca Z.1.2 Z.1.1.length (rw_rg Z.2.1.1 x 0 y.toInt.toNat).length - Z.1.2)) (rw_ap G M (b + 101) q Z.1.2 Z.1.1 (rw_rg Z.2.1.1 x 0 y.toInt.toNat)) := by
  obtain ⟨h0, ⟨h1, h2, q1, q2, q3, r1, r2, r3, ⟨k1, k2, k3⟩, n1, n2, n3⟩, h3⟩ := hS
  have e9 : q = q1 := by
    have h8 := hq.cell.symm.trans r1.cell
    injection h8 with h8
    injection h8 with h8
    injection h8 with h8 h7
    injection h7 with h7 h6
    injection h7
  subst e9
  rw [rw_rg_len] at hl
  exact c_Rw_addRange hq r2 (by omega) ⟨Ne.symm n1, by rcases k1 with h | h | h | h <;> omega⟩ x y hl
end RAN
