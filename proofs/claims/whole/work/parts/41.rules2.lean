/-! the rules as functions, and their contracts over Bool -/
def fn_Ru_isPicture (x0 : Int64) (y0 : Int64) (x1 : Int64) (y1 : Int64) : Bool := decide (0 ≤ x0.toInt ∧ x0.toInt < x1.toInt ∧ x1.toInt ≤ 2147483647 ∧ 0 ≤ y0.toInt ∧ y0.toInt < y1.toInt ∧ y1.toInt ≤ 2147483647)
theorem b_Ru_isPicture {G : sm_G} {M : sm_M} (x0 : Int64) (y0 : Int64) (x1 : Int64) (y1 : Int64) : sm_C G mf_Ru_isPicture [.long x0, .long y0, .long x1, .long y1] M 0 0 (sm_pu M (.int (bi (fn_Ru_isPicture x0 y0 x1 y1)))) := by
  rw [fn_Ru_isPicture, bi_d]
  exact c_Ru_isPicture x0 y0 x1 y1
def fn_Ru_isTiling (x : Int64) (y : Int64) (w : Int64) (h : Int64) (x0 : Int64) (y0 : Int64) : Bool := decide ((0 ≤ x.toInt ∧ x.toInt ≤ x0.toInt ∧ 1 ≤ w.toInt ∧ w.toInt ≤ 2147483647 ∧ x0.toInt < (x + w).toInt) ∧ (0 ≤ y.toInt ∧ y.toInt ≤ y0.toInt ∧ 1 ≤ h.toInt ∧ h.toInt ≤ 2147483647 ∧ y0.toInt < (y + h).toInt))
theorem b_Ru_isTiling {G : sm_G} {M : sm_M} (x : Int64) (y : Int64) (w : Int64) (h : Int64) (x0 : Int64) (y0 : Int64) : sm_C G mf_Ru_isTiling [.long x, .long y, .long w, .long h, .long x0, .long y0] M 0 0 (sm_pu M (.int (bi (fn_Ru_isTiling x y w h x0 y0)))) := by
  rw [fn_Ru_isTiling, bi_d]
  exact c_Ru_isTiling x y w h x0 y0
def fn_Ru_isComponent (b : Int32) (dx : Int32) (dy : Int32) : Bool := decide (1 ≤ b.toInt ∧ b.toInt ≤ 38 ∧ 1 ≤ dx.toInt ∧ dx.toInt ≤ 255 ∧ 1 ≤ dy.toInt ∧ dy.toInt ≤ 255)
theorem b_Ru_isComponent {G : sm_G} {M : sm_M} (b : Int32) (dx : Int32) (dy : Int32) : sm_C G mf_Ru_isComponent [.int b, .int dx, .int dy] M 0 0 (sm_pu M (.int (bi (fn_Ru_isComponent b dx dy)))) := by
  rw [fn_Ru_isComponent, bi_d]
  exact c_Ru_isComponent b dx dy
def fn_Ru_isOrder (o : Int32) : Bool := decide (0 ≤ o.toInt ∧ o.toInt ≤ 4)
theorem b_Ru_isOrder {G : sm_G} {M : sm_M} (o : Int32) : sm_C G mf_Ru_isOrder [.int o] M 0 0 (sm_pu M (.int (bi (fn_Ru_isOrder o)))) := by
  rw [fn_Ru_isOrder, bi_d]
  exact c_Ru_isOrder o
def fn_Ru_isCoding (n : Int32) (bw : Int32) (bh : Int32) (st : Int32) : Bool := decide (0 ≤ n.toInt ∧ n.toInt ≤ 32 ∧ 2 ≤ bw.toInt ∧ bw.toInt ≤ 10 ∧ 2 ≤ bh.toInt ∧ bh.toInt ≤ 10 ∧ (bw + bh).toInt ≤ 12 ∧ 0 ≤ st.toInt ∧ st.toInt < 64)
theorem b_Ru_isCoding {G : sm_G} {M : sm_M} (n : Int32) (bw : Int32) (bh : Int32) (st : Int32) : sm_C G mf_Ru_isCoding [.int n, .int bw, .int bh, .int st] M 0 0 (sm_pu M (.int (bi (fn_Ru_isCoding n bw bh st)))) := by
  rw [fn_Ru_isCoding, bi_d]
  exact c_Ru_isCoding n bw bh st
def fn_Ru_isPrecinct (r : Int32) (pw : Int32) (ph : Int32) : Bool := decide (0 ≤ r.toInt ∧ r.toInt ≤ 32 ∧ (if r.toInt = 0 then 0 else 1) ≤ pw.toInt ∧ pw.toInt ≤ 15 ∧ (if r.toInt = 0 then 0 else 1) ≤ ph.toInt ∧ ph.toInt ≤ 15)
theorem b_Ru_isPrecinct {G : sm_G} {M : sm_M} (r : Int32) (pw : Int32) (ph : Int32) : sm_C G mf_Ru_isPrecinct [.int r, .int pw, .int ph] M 0 0 (sm_pu M (.int (bi (fn_Ru_isPrecinct r pw ph)))) := by
  rw [fn_Ru_isPrecinct, bi_d]
  exact c_Ru_isPrecinct r pw ph
def fn_Ru_isStepping (kd : Int32) (gd : Int32) : Bool := decide (0 ≤ kd.toInt ∧ kd.toInt ≤ 2 ∧ 0 ≤ gd.toInt ∧ gd.toInt ≤ 7)
theorem b_Ru_isStepping {G : sm_G} {M : sm_M} (kd : Int32) (gd : Int32) : sm_C G mf_Ru_isStepping [.int kd, .int gd] M 0 0 (sm_pu M (.int (bi (fn_Ru_isStepping kd gd)))) := by
  rw [fn_Ru_isStepping, bi_d]
  exact c_Ru_isStepping kd gd
def fn_Ru_isShift (sh : Int32) : Bool := decide (0 ≤ sh.toInt ∧ sh.toInt ≤ 37)
theorem b_Ru_isShift {G : sm_G} {M : sm_M} (sh : Int32) : sm_C G mf_Ru_isShift [.int sh] M 0 0 (sm_pu M (.int (bi (fn_Ru_isShift sh)))) := by
  rw [fn_Ru_isShift, bi_d]
  exact c_Ru_isShift sh
def fn_Ru_isChange (v : Int32) (c : Int32) (le : Int32) (ve : Int32) (ce : Int32) (o : Int32) : Bool := decide (0 ≤ v.toInt ∧ v.toInt < ve.toInt ∧ ve.toInt ≤ 33 ∧ 0 ≤ c.toInt ∧ c.toInt < ce.toInt ∧ ce.toInt ≤ 256 ∧ 1 ≤ le.toInt ∧ (0 ≤ o.toInt ∧ o.toInt ≤ 4))
theorem b_Ru_isChange {G : sm_G} {M : sm_M} (v : Int32) (c : Int32) (le : Int32) (ve : Int32) (ce : Int32) (o : Int32) : sm_C G mf_Ru_isChange [.int v, .int c, .int le, .int ve, .int ce, .int o] M 0 0 (sm_pu M (.int (bi (fn_Ru_isChange v c le ve ce o)))) := by
  rw [fn_Ru_isChange, bi_d]
  exact c_Ru_isChange v c le ve ce o
def fn_Ru_countTiles (x y w h x1 y1 : Int64) : Int64 := (if w.toInt < 1 then 0 else (x1 - x + w - 1) / w) * (if h.toInt < 1 then 0 else (y1 - y + h - 1) / h)
theorem b_Ru_countTiles {G : sm_G} {M : sm_M} (x y w h x1 y1 : Int64) : sm_C G mf_Ru_countTiles [.long x, .long y, .long w, .long h, .long x1, .long y1] M 0 0 (sm_pu M (.long (fn_Ru_countTiles x y w h x1 y1))) := c_Ru_countTiles x y w h x1 y1
theorem cm_c16 {i : Int32} {v : Int} (h : (0 ≤ i.toInt ∧ i.toInt < v) ∧ i.toInt < 16) : i.toInt.toNat < 16 := by omega
theorem cm_ix16 {i : Int32} (h : 0 ≤ i.toInt ∧ i.toInt < ((16 : Nat) : Int)) : i.toInt.toNat < 16 := by omega
section CON
variable {G : sm_G} {b : Nat} {M0 M : sm_M} {Z : zd} {w : wd}
set_option maxHeartbeats 800000 in
theorem c_Pl_conT (hI : lo_in G cm_L b M0 M w) (hZ : cz_at G b M0 Z) (x1 : Int32) (h : (0 ≤ x1.toInt ∧ x1.toInt < (w 1 2).toInt) ∧ x1.toInt < 16) : sm_C G mf_Pl_componentOrNull [.ref (b + 1), .int x1] M 0 0 (sm_pu M (.ref (b + (5 + 6 * x1.toInt.toNat)))) := by
  have hZ := hZ.go hI.2
  have hI := hI.here
  refine sm_ofW rfl (Nat.le_of_ble_eq_true rfl) ?_
  refine sm_iload_n d_Pl_componentOrNull_0 rfl (j := 1) rfl ?_
  refine sm_if_lt (tgt := 30) d_Pl_componentOrNull_1 (by decide) (fun h1 => absurd (sm_lt0.mp h1) (by omega)) (fun h1 => ?_)
  refine sm_iload_n d_Pl_componentOrNull_4 rfl (j := 1) rfl ?_
  refine sm_aload_n d_Pl_componentOrNull_5 rfl (j := 0) rfl ?_
  refine lo_get (v := .int (w 1 2)) d_Pl_componentOrNull_6 fg_Pl_34 hI cl_1 rfl ?_
  refine sm_icmp_ge (tgt := 30) d_Pl_componentOrNull_9 (by decide) (fun h1 => absurd (sm_le.mp h1) (by omega)) (fun h1 => ?_)
  refine sm_iload_n d_Pl_componentOrNull_12 rfl (j := 1) rfl ?_
  refine sm_aload_n d_Pl_componentOrNull_13 rfl (j := 0) rfl ?_
  refine lo_get (v := .ref (b + 3)) d_Pl_componentOrNull_14 fg_Pl_17 hI cl_1 rfl ?_
  refine cm_clen (v := 16) d_Pl_componentOrNull_17 hI hZ (by decide) ?_
  refine sm_icmp_ge (tgt := 30) d_Pl_componentOrNull_18 (by decide) (fun h1 => absurd (sm_le.mp h1) (by rw [ni_16]; omega)) (fun h1 => ?_)
  refine sm_aload_n d_Pl_componentOrNull_21 rfl (j := 0) rfl ?_
  refine lo_get (v := .ref (b + 3)) d_Pl_componentOrNull_22 fg_Pl_17 hI cl_1 rfl ?_
  refine sm_iload_n d_Pl_componentOrNull_25 rfl (j := 1) rfl ?_
  refine cm_aald d_Pl_componentOrNull_26 hI hZ ⟨h.1.1, by omega⟩ ?_
  refine sm_goto (tgt := 31) d_Pl_componentOrNull_27 (by decide) ?_
  refine sm_areturn d_Pl_componentOrNull_31 rfl (Or.inl ⟨_, rfl⟩) (Or.inr ⟨_, rfl⟩) ?_
  exact ⟨rfl, rfl⟩
set_option maxHeartbeats 800000 in
theorem c_Pl_conF (hI : lo_in G cm_L b M0 M w) (hZ : cz_at G b M0 Z) (x1 : Int32) (h : ¬ ((0 ≤ x1.toInt ∧ x1.toInt < (w 1 2).toInt) ∧ x1.toInt < 16)) : sm_C G mf_Pl_componentOrNull [.ref (b + 1), .int x1] M 0 0 (sm_pu M .null) := by
  have hZ := hZ.go hI.2
  have hI := hI.here
  refine sm_ofW rfl (Nat.le_of_ble_eq_true rfl) ?_
  have fin : sm_W G mf_Pl_componentOrNull 30 [(0, .ref (b + 1)), (1, .int x1)] [] M 0 0 (sm_pu M .null) := by
    refine sm_null d_Pl_componentOrNull_30 ?_
    refine sm_areturn d_Pl_componentOrNull_31 rfl (Or.inl ⟨_, rfl⟩) (Or.inl rfl) ?_
    exact ⟨rfl, rfl⟩
  refine sm_iload_n d_Pl_componentOrNull_0 rfl (j := 1) rfl ?_
  refine sm_if_lt (tgt := 30) d_Pl_componentOrNull_1 (by decide) (fun h1 => fin) (fun h1 => ?_)
  refine sm_iload_n d_Pl_componentOrNull_4 rfl (j := 1) rfl ?_
  refine sm_aload_n d_Pl_componentOrNull_5 rfl (j := 0) rfl ?_
  refine lo_get (v := .int (w 1 2)) d_Pl_componentOrNull_6 fg_Pl_34 hI cl_1 rfl ?_
  refine sm_icmp_ge (tgt := 30) d_Pl_componentOrNull_9 (by decide) (fun h1 => fin) (fun h2 => ?_)
  refine sm_iload_n d_Pl_componentOrNull_12 rfl (j := 1) rfl ?_
  refine sm_aload_n d_Pl_componentOrNull_13 rfl (j := 0) rfl ?_
  refine lo_get (v := .ref (b + 3)) d_Pl_componentOrNull_14 fg_Pl_17 hI cl_1 rfl ?_
  refine cm_clen (v := 16) d_Pl_componentOrNull_17 hI hZ (by decide) ?_
  refine sm_icmp_ge (tgt := 30) d_Pl_componentOrNull_18 (by decide) (fun h1 => fin) (fun h3 => ?_)
  rw [sm_lt0] at h1
  rw [sm_le] at h2 h3
  rw [ni_16] at h3
  exact absurd ⟨⟨by omega, by omega⟩, by omega⟩ h
end CON
