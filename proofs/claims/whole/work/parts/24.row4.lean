/-! StreamMarks$Row: numbers of two and four bytes, marks, segments, ranges -/
def rw_b2 (x : Int32) : List Nat := [by8 (x >>> ((8 : Int32) &&& 31)), by8 x]
def rw_b4 (x : Int32) : List Nat := rw_b2 (x >>> ((16 : Int32) &&& 31)) ++ rw_b2 x
section ROW
variable {G : sm_G} {f : sm_F} {pc : Nat} {lv : List (Nat × Value)} {st rest : List Value} {M : sm_M} {Q : sm_O → sm_M → Prop} {r q cap : Nat} {l : List Nat}
theorem rw_at.cell (h : rw_at G M r q cap l) : M.1 r = some (.inr (5, [.ref q, .int (nI l.length)])) := by
  obtain ⟨g, h1, -⟩ := h
  exact h1
theorem rw_at.lt (h : rw_at G M r q cap l) : r < M.2 ∧ q < M.2 := by
  obtain ⟨g, h1, h2, h3, h4, h5, -⟩ := h
  exact h5
theorem rw_at.le (h : rw_at G M r q cap l) : l.length ≤ cap ∧ cap ≤ 65536 := by
  obtain ⟨g, h1, h2, h3, h4, h5, -⟩ := h
  exact ⟨h3, (rw_cap h4).2.1⟩
/-- a row that a method has not touched -/
theorem rw_at.keep {M1 : sm_M} (h : rw_at G M r q cap l) (hz : M.2 ≤ M1.2) (h1 : M1.1 r = M.1 r) (h2 : M1.1 q = M.1 q) : rw_at G M1 r q cap l := by
  obtain ⟨g, a1, a2, a3, a4, a5, a6⟩ := h
  exact ⟨g, h1.trans a1, h2.trans a2, a3, a4, ⟨Nat.lt_of_lt_of_le a5.1 hz, Nat.lt_of_lt_of_le a5.2 hz⟩, a6⟩
theorem rw_fin {M' : sm_M} {q1 : Nat} {b1 b2 : List Nat} (h : rw_at G M' r q1 (rw_ca (rw_ca cap l.length b1.length) (l ++ b1).length b2.length) ((l ++ b1) ++ b2)) : rw_at G M' r q1 (rw_ca cap l.length (b1 ++ b2).length) (l ++ (b1 ++ b2)) := by
  rw [List.length_append, rw_ca_app, ← List.append_assoc]
  rw [List.length_append] at h
  exact h
/-- a call that appends to a row; capE: the row's places at this method's end -/
theorem sm_callVa {index n b ci N capE : Nat} {fs : List Value} {C : String} {T9 : u_T} {g : sm_F} {As : List Value} {bs9 : List Nat} (hd : decode f.2.1 pc = .ok (.invokevirtual index, 3)) (hg : sm_Call f index g n ∧ Cond.instanceMethod g.1 ∈ sm_WS ∧ Cond.selects C g.1 g.1 ∈ sm_WS ∧ sm_cl[ci]? = some (C, T9, N)) (hno : f.2.2.2.2.1 = []) (hm : M.1 b = some (.inr (ci, fs))) (hn : As.length = n) (hst : st = As.reverse ++ .ref b :: rest) (hrest : (rest.map fun v => v.category).sum ≤ 12)
    (hC : sm_C G g (.ref b :: As) M (2 * (rw_ca cap l.length bs9.length - cap)) (2 * (rw_ca cap l.length bs9.length - cap)) (rw_ap G M r q cap l bs9)) (hE : rw_ca cap l.length bs9.length ≤ capE)
    (k : ∀ (M' : sm_M) (q' : Nat), rw_at G M' r q' (rw_ca cap l.length bs9.length) (l ++ bs9) → rw_fr M M' r q q' → sm_W G f (pc + 3) lv rest M' (2 * (capE - rw_ca cap l.length bs9.length)) (2 * (capE - rw_ca cap l.length bs9.length)) Q) : sm_W G f pc lv st M (2 * (capE - cap)) (2 * (capE - cap)) Q := by
  have hle := rw_ca_le cap l.length bs9.length
  exact sm_callV hd hg hno hm hn hst hrest (mc := 2 * (rw_ca cap l.length bs9.length - cap)) (ms := 2 * (rw_ca cap l.length bs9.length - cap)) (bc' := 2 * (capE - rw_ca cap l.length bs9.length)) (bs' := 2 * (capE - rw_ca cap l.length bs9.length)) (by omega) (by omega) hC (fun X M' h => by cases h.1) (fun v9 M' h => by obtain ⟨h1, q', h2, h3⟩ := h; cases h1; exact k M' q' h2 h3)
theorem a_Rw_addU1 (hrow : rw_at G M r q cap l) (hfull : l.length < 65536) (b : Int32) : sm_C G mf_Rw_addU1 [.ref r, .int b] M (2 * (rw_ca cap l.length [by8 b].length - cap)) (2 * (rw_ca cap l.length [by8 b].length - cap)) (rw_ap G M r q cap l [by8 b]) := c_Rw_addU1 hrow hfull b
theorem rw_caE {b1 b2 : List Nat} : rw_ca (rw_ca cap l.length b1.length) (l ++ b1).length b2.length ≤ rw_ca cap l.length (b1 ++ b2).length := by
  rw [List.length_append, List.length_append, rw_ca_app]
  exact Nat.le_refl _
theorem rw_cale {n k m : Nat} : rw_ca cap n k ≤ rw_ca (rw_ca cap n k) (n + k) m := rw_ca_le _ _ _

set_option maxHeartbeats 800000 in
set_option maxRecDepth 100000 in
theorem c_Rw_addU2 (hrow : rw_at G M r q cap l) (hfull : l.length + 2 ≤ 65536) (x : Int32) : sm_C G mf_Rw_addU2 [.ref r, .int x] M (2 * (rw_ca cap l.length ([by8 (x >>> ((8 : Int32) &&& 31))] ++ [by8 x]).length - cap)) (2 * (rw_ca cap l.length ([by8 (x >>> ((8 : Int32) &&& 31))] ++ [by8 x]).length - cap)) (rw_ap G M r q cap l ([by8 (x >>> ((8 : Int32) &&& 31))] ++ [by8 x])) := by
  refine sm_ofW rfl (Nat.le_of_ble_eq_true rfl) ?_
  have hle := hrow.le
  refine sm_aload_n d_Rw_addU2_0 rfl (j := 0) rfl ?_
  refine sm_iload_n d_Rw_addU2_1 rfl (j := 1) rfl ?_
  refine sm_bipush (v := 8) d_Rw_addU2_2 (by decide) ?_
  refine sm_ishr d_Rw_addU2_4 ?_
  refine sm_callVa d_Rw_addU2_5 cs_Rw_addU2_30 rfl hrow.cell (bs9 := [by8 (x >>> ((8 : Int32) &&& 31))]) (As := [_]) rfl rfl (Nat.le_of_ble_eq_true rfl) (a_Rw_addU1 hrow (by omega) _) (by rw [List.length_append, rw_ca_app]; exact rw_ca_le _ _ _) (fun M1 q1 hrow1 hfr1 => ?_)
  refine sm_aload_n d_Rw_addU2_8 rfl (j := 0) rfl ?_
  refine sm_iload_n d_Rw_addU2_9 rfl (j := 1) rfl ?_
  refine sm_callVa d_Rw_addU2_10 cs_Rw_addU2_30 rfl hrow1.cell (bs9 := [by8 x]) (As := [_]) rfl rfl (Nat.le_of_ble_eq_true rfl) (a_Rw_addU1 hrow1 (by rw [List.length_append]; show l.length + 1 < 65536; omega) _) rw_caE (fun M2 q2 hrow2 hfr2 => ?_)
  refine sm_return d_Rw_addU2_13 rfl ?_
  exact ⟨rfl, q2, rw_fin hrow2, hfr1.trans hfr2⟩

set_option maxHeartbeats 800000 in
set_option maxRecDepth 100000 in
theorem c_Rw_addU4 (hrow : rw_at G M r q cap l) (hfull : l.length + 4 ≤ 65536) (x : Int32) : sm_C G mf_Rw_addU4 [.ref r, .int x] M (2 * (rw_ca cap l.length (rw_b2 (x >>> ((16 : Int32) &&& 31)) ++ rw_b2 x).length - cap)) (2 * (rw_ca cap l.length (rw_b2 (x >>> ((16 : Int32) &&& 31)) ++ rw_b2 x).length - cap)) (rw_ap G M r q cap l (rw_b2 (x >>> ((16 : Int32) &&& 31)) ++ rw_b2 x)) := by
  refine sm_ofW rfl (Nat.le_of_ble_eq_true rfl) ?_
  have hle := hrow.le
  refine sm_aload_n d_Rw_addU4_0 rfl (j := 0) rfl ?_
  refine sm_iload_n d_Rw_addU4_1 rfl (j := 1) rfl ?_
  refine sm_bipush (v := 16) d_Rw_addU4_2 (by decide) ?_
  refine sm_ishr d_Rw_addU4_4 ?_
  refine sm_callVa d_Rw_addU4_5 cs_Rw_addU4_34 rfl hrow.cell (bs9 := rw_b2 (x >>> ((16 : Int32) &&& 31))) (As := [_]) rfl rfl (Nat.le_of_ble_eq_true rfl) (c_Rw_addU2 hrow (by omega) _) (by rw [List.length_append, rw_ca_app]; exact rw_ca_le _ _ _) (fun M1 q1 hrow1 hfr1 => ?_)
  refine sm_aload_n d_Rw_addU4_8 rfl (j := 0) rfl ?_
  refine sm_iload_n d_Rw_addU4_9 rfl (j := 1) rfl ?_
  refine sm_callVa d_Rw_addU4_10 cs_Rw_addU4_34 rfl hrow1.cell (bs9 := rw_b2 x) (As := [_]) rfl rfl (Nat.le_of_ble_eq_true rfl) (c_Rw_addU2 hrow1 (by rw [List.length_append]; show l.length + 2 + 2 ≤ 65536; omega) _) rw_caE (fun M2 q2 hrow2 hfr2 => ?_)
  refine sm_return d_Rw_addU4_13 rfl ?_
  exact ⟨rfl, q2, rw_fin hrow2, hfr1.trans hfr2⟩

set_option maxHeartbeats 800000 in
set_option maxRecDepth 100000 in
theorem c_Rw_addMark (hrow : rw_at G M r q cap l) (hfull : l.length + 2 ≤ 65536) (x : Int32) : sm_C G mf_Rw_addMark [.ref r, .int x] M (2 * (rw_ca cap l.length ([by8 255] ++ [by8 x]).length - cap)) (2 * (rw_ca cap l.length ([by8 255] ++ [by8 x]).length - cap)) (rw_ap G M r q cap l ([by8 255] ++ [by8 x])) := by
  refine sm_ofW rfl (Nat.le_of_ble_eq_true rfl) ?_
  have hle := hrow.le
  refine sm_aload_n d_Rw_addMark_0 rfl (j := 0) rfl ?_
  refine sm_sipush (v := 255) d_Rw_addMark_1 (by decide) ?_
  refine sm_callVa d_Rw_addMark_4 cs_Rw_addMark_30 rfl hrow.cell (bs9 := [by8 255]) (As := [_]) rfl rfl (Nat.le_of_ble_eq_true rfl) (a_Rw_addU1 hrow (by omega) _) (by rw [List.length_append, rw_ca_app]; exact rw_ca_le _ _ _) (fun M1 q1 hrow1 hfr1 => ?_)
  refine sm_aload_n d_Rw_addMark_7 rfl (j := 0) rfl ?_
  refine sm_iload_n d_Rw_addMark_8 rfl (j := 1) rfl ?_
  refine sm_callVa d_Rw_addMark_9 cs_Rw_addMark_30 rfl hrow1.cell (bs9 := [by8 x]) (As := [_]) rfl rfl (Nat.le_of_ble_eq_true rfl) (a_Rw_addU1 hrow1 (by rw [List.length_append]; show l.length + 1 < 65536; omega) _) rw_caE (fun M2 q2 hrow2 hfr2 => ?_)
  refine sm_return d_Rw_addMark_12 rfl ?_
  exact ⟨rfl, q2, rw_fin hrow2, hfr1.trans hfr2⟩

set_option maxHeartbeats 800000 in
set_option maxRecDepth 100000 in
theorem c_Rw_addSegment (hrow : rw_at G M r q cap l) (hfull : l.length + 4 ≤ 65536) (x y : Int32) : sm_C G mf_Rw_addSegment [.ref r, .int x, .int y] M (2 * (rw_ca cap l.length (([by8 255] ++ [by8 x]) ++ rw_b2 y).length - cap)) (2 * (rw_ca cap l.length (([by8 255] ++ [by8 x]) ++ rw_b2 y).length - cap)) (rw_ap G M r q cap l (([by8 255] ++ [by8 x]) ++ rw_b2 y)) := by
  refine sm_ofW rfl (Nat.le_of_ble_eq_true rfl) ?_
  have hle := hrow.le
  refine sm_aload_n d_Rw_addSegment_0 rfl (j := 0) rfl ?_
  refine sm_iload_n d_Rw_addSegment_1 rfl (j := 1) rfl ?_
  refine sm_callVa d_Rw_addSegment_2 cs_Rw_addSegment_37 rfl hrow.cell (bs9 := ([by8 255] ++ [by8 x])) (As := [_]) rfl rfl (Nat.le_of_ble_eq_true rfl) (c_Rw_addMark hrow (by omega) _) (by rw [List.length_append, rw_ca_app]; exact rw_ca_le _ _ _) (fun M1 q1 hrow1 hfr1 => ?_)
  refine sm_aload_n d_Rw_addSegment_5 rfl (j := 0) rfl ?_
  refine sm_iload_n d_Rw_addSegment_6 rfl (j := 2) rfl ?_
  refine sm_callVa d_Rw_addSegment_7 cs_Rw_addSegment_34 rfl hrow1.cell (bs9 := rw_b2 y) (As := [_]) rfl rfl (Nat.le_of_ble_eq_true rfl) (c_Rw_addU2 hrow1 (by rw [List.length_append]; show l.length + 2 + 2 ≤ 65536; omega) _) rw_caE (fun M2 q2 hrow2 hfr2 => ?_)
  refine sm_return d_Rw_addSegment_10 rfl ?_
  exact ⟨rfl, q2, rw_fin hrow2, hfr1.trans hfr2⟩

end ROW
