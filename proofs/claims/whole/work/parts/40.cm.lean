/-! StreamMarks: its cells behind its base, its rows of bytes; Arrays.fill -/
abbrev zd : Type := (List Nat × Nat) × (List Nat × Nat) × (List Nat × Nat)
def cm_L (a : Nat) : Option lo_T := if 5 ≤ a ∧ a < 101 then (match (a - 5) % 6 with
  | 0 => some (.inr (2, [none, none, none, none, none, some (a + 1), some (a + 4)]))
  | 1 => some (.inr (3, [none, none, none, none, none, some (a + 1), some (a + 2)]))
  | 2 => some (.inl 33)
  | 3 => some (.inl 33)
  | 4 => some (.inr (4, [none, none, some (a + 1)]))
  | _ => some (.inl 97))
 else match a with
  | 0 => some (.inr (0, [some 1, some 101, some 103, some 105, some 115, none, none]))
  | 1 => some (.inr (1, [some 2, some 3, none, none, none, none, none, none, some 4, none]))
  | 2 => some (.inl 8)
  | 4 => some (.inl 192)
  | 105 => some (.inr (6, [some 101, some 106, some 108, some 110, none, none, none, none, none, none, none, none, none, none]))
  | 108 => some (.inr (7, [some 109]))
  | 109 => some (.inl 3315)
  | 110 => some (.inr (8, [some 111, none, some 112, some 113, some 114]))
  | 111 => some (.inl 1792)
  | 112 => some (.inl 64)
  | 113 => some (.inl 64)
  | 114 => some (.inl 64)
  | 115 => some (.inr (9, [some 101, some 108, some 1]))
  | _ => none
theorem cl_0 : cm_L 0 = some (.inr (0, [some 1, some 101, some 103, some 105, some 115, none, none])) := rfl
theorem cl_1 : cm_L 1 = some (.inr (1, [some 2, some 3, none, none, none, none, none, none, some 4, none])) := rfl
theorem cl_2 : cm_L 2 = some (.inl 8) := rfl
theorem cl_4 : cm_L 4 = some (.inl 192) := rfl
theorem cl_105 : cm_L 105 = some (.inr (6, [some 101, some 106, some 108, some 110, none, none, none, none, none, none, none, none, none, none])) := rfl
theorem cl_108 : cm_L 108 = some (.inr (7, [some 109])) := rfl
theorem cl_109 : cm_L 109 = some (.inl 3315) := rfl
theorem cl_110 : cm_L 110 = some (.inr (8, [some 111, none, some 112, some 113, some 114])) := rfl
theorem cl_111 : cm_L 111 = some (.inl 1792) := rfl
theorem cl_112 : cm_L 112 = some (.inl 64) := rfl
theorem cl_113 : cm_L 113 = some (.inl 64) := rfl
theorem cl_114 : cm_L 114 = some (.inl 64) := rfl
theorem cl_115 : cm_L 115 = some (.inr (9, [some 101, some 108, some 1])) := rfl
theorem cl_Cp9 : ∀ c, c < 16 → cm_L (5 + 6 * c) = some (.inr (2, [none, none, none, none, none, some (6 + 6 * c), some (9 + 6 * c)])) := by decide +kernel
theorem cl_Cd9 : ∀ c, c < 16 → cm_L (6 + 6 * c) = some (.inr (3, [none, none, none, none, none, some (7 + 6 * c), some (8 + 6 * c)])) := by decide +kernel
theorem cl_Pw9 : ∀ c, c < 16 → cm_L (7 + 6 * c) = some (.inl 33) := by decide +kernel
theorem cl_Ph9 : ∀ c, c < 16 → cm_L (8 + 6 * c) = some (.inl 33) := by decide +kernel
theorem cl_St9 : ∀ c, c < 16 → cm_L (9 + 6 * c) = some (.inr (4, [none, none, some (10 + 6 * c)])) := by decide +kernel
theorem cl_Va9 : ∀ c, c < 16 → cm_L (10 + 6 * c) = some (.inl 97) := by decide +kernel
theorem cl_Cp {c : Nat} (h : c < 16) : cm_L (5 + 6 * c) = some (.inr (2, [none, none, none, none, none, some (6 + 6 * c), some (9 + 6 * c)])) := cl_Cp9 c h
theorem cl_Cd {c : Nat} (h : c < 16) : cm_L (6 + 6 * c) = some (.inr (3, [none, none, none, none, none, some (7 + 6 * c), some (8 + 6 * c)])) := cl_Cd9 c h
theorem cl_Pw {c : Nat} (h : c < 16) : cm_L (7 + 6 * c) = some (.inl 33) := cl_Pw9 c h
theorem cl_Ph {c : Nat} (h : c < 16) : cm_L (8 + 6 * c) = some (.inl 33) := cl_Ph9 c h
theorem cl_St {c : Nat} (h : c < 16) : cm_L (9 + 6 * c) = some (.inr (4, [none, none, some (10 + 6 * c)])) := cl_St9 c h
theorem cl_Va {c : Nat} (h : c < 16) : cm_L (10 + 6 * c) = some (.inl 97) := cl_Va9 c h
theorem cl_lt {a : Nat} {t : lo_T} (h : cm_L a = some t) : a < 116 := by
  unfold cm_L at h
  split at h
  · omega
  · split at h <;> first | omega | cases h
theorem cl_no {a x : Nat} {t : lo_T} (h : cm_L a = some t) (hx : cm_L x = none) : a ≠ x := by
  intro e
  rw [e, hx] at h
  cases h
/-- where the array of a row may lie -/
def cz_q (b q : Nat) : Prop := q = b + 102 ∨ q = b + 104 ∨ q = b + 107 ∨ b + 138 ≤ q
theorem cz_q.ne {b q a : Nat} {t : lo_T} (h : cz_q b q) (hL : cm_L a = some t) : q ≠ b + a := by
  have h1 := cl_lt hL
  have h2 := cl_no (x := 102) hL rfl
  have h3 := cl_no (x := 104) hL rfl
  have h4 := cl_no (x := 107) hL rfl
  unfold cz_q at h
  omega
def cz_at (G : sm_G) (b : Nat) (M : sm_M) (Z : zd) : Prop := M.1 (b + 3) = some (.inl (G.2.1 3, 16, .inr (.inr (.inr (.inr (fun i => some (b + (5 + 6 * i)))))))) ∧ b + 138 ≤ M.2 ∧
  ∃ q1 q2 q3 : Nat, rw_at G M (b + 101) q1 Z.1.2 Z.1.1 ∧ rw_at G M (b + 103) q2 Z.2.1.2 Z.2.1.1 ∧ rw_at G M (b + 106) q3 Z.2.2.2 Z.2.2.1 ∧ (cz_q b q1 ∧ cz_q b q2 ∧ cz_q b q3) ∧ q1 ≠ q2 ∧ q1 ≠ q3 ∧ q2 ≠ q3
def fil2 (w : wd) (a n : Nat) (v : Int32) : wd := fun x j => if x = a ∧ j < n then v else w x j
theorem fil2_0 {w : wd} {a : Nat} {v : Int32} : fil2 w a 0 v = w := by
  funext x j
  simp [fil2]
theorem fil2_s {w : wd} {a k : Nat} {v : Int32} : up2 (fil2 w a k v) a k v = fil2 w a (k + 1) v := by
  funext x j
  unfold up2 fil2
  by_cases h1 : x = a
  · by_cases h2 : j = k
    · simp [h1, h2]
    · by_cases h3 : j < k
      · simp [h1, h2, h3, show j < k + 1 by omega]
      · simp [h1, h2, h3, show ¬ j < k + 1 by omega]
  · simp [h1]
section CMA
variable {G : sm_G} {b : Nat} {M0 : sm_M} {w w' : wd} {Z : zd} {f : sm_F} {pc : Nat} {lv : List (Nat × Value)} {st rest : List Value} {M : sm_M} {bc bs : Nat} {Q : sm_O → sm_M → Prop}
theorem cz_at.go (h : cz_at G b M0 Z) (hf : lo_fr cm_L b M0 M) : cz_at G b M Z := by
  obtain ⟨h1, h2, q1, q2, q3, r1, r2, r3, ⟨k1, k2, k3⟩, hne⟩ := h
  have key : ∀ x : Nat, cm_L x = none → M.1 (b + x) = M0.1 (b + x) := fun x hx => hf.2 _ fun a t hL e => cl_no hL hx (by omega)
  have hz : M0.2 ≤ M.2 := by rw [hf.1]; exact Nat.le_refl _
  exact ⟨(key 3 rfl).trans h1, by rw [hf.1]; exact h2, q1, q2, q3, r1.keep hz (key 101 rfl) (hf.2 _ fun a t hL => k1.ne hL), r2.keep hz (key 103 rfl) (hf.2 _ fun a t hL => k2.ne hL), r3.keep hz (key 106 rfl) (hf.2 _ fun a t hL => k3.ne hL), ⟨k1, k2, k3⟩, hne⟩
theorem cm_aald {i : Int32} (hd : decode f.2.1 pc = .ok (.aaload, 1)) (hI : lo_in G cm_L b M0 M w) (hZ : cz_at G b M0 Z) (hin : 0 ≤ i.toInt ∧ i.toInt < (16 : Nat)) (k9 : sm_W G f (pc + 1) lv (.ref (b + (5 + 6 * i.toInt.toNat)) :: rest) M bc bs Q) : sm_W G f pc lv (.int i :: .ref (b + 3) :: rest) M bc bs Q :=
  sm_aaload hd (hZ.go hI.2).1 (vp_in_iff.mpr hin) k9
theorem cm_clen {v : Int32} (hd : decode f.2.1 pc = .ok (.arraylength, 1)) (hI : lo_in G cm_L b M0 M w) (hZ : cz_at G b M0 Z) (hv : Int32.ofNat 16 = v) (k9 : sm_W G f (pc + 1) lv (.int v :: rest) M bc bs Q) : sm_W G f pc lv (.ref (b + 3) :: rest) M bc bs Q :=
  sm_alen (ti := 3) hd (hZ.go hI.2).1 rfl hv k9
theorem cz_1 (hI : lo_in G cm_L b M0 M w) (hZ : cz_at G b M0 Z) : ∃ q, rw_at G M (b + 101) q Z.1.2 Z.1.1 := by
  obtain ⟨h1, h2, q1, q2, q3, r1, r2, r3, -⟩ := hZ.go hI.2
  exact ⟨q1, r1⟩
theorem cz_3 (hI : lo_in G cm_L b M0 M w) (hZ : cz_at G b M0 Z) : ∃ q, rw_at G M (b + 106) q Z.2.2.2 Z.2.2.1 := by
  obtain ⟨h1, h2, q1, q2, q3, r1, r2, r3, -⟩ := hZ.go hI.2
  exact ⟨q3, r3⟩
theorem cm_cnt1 {index : Nat} (hd : decode f.2.1 pc = .ok (.getfield index, 3)) (hF : sm_Fg f.1.cls index 5 1) (hI : lo_in G cm_L b M0 M w) (hZ : cz_at G b M0 Z) (k9 : sm_W G f (pc + 3) lv (.int (nI Z.1.1.length) :: rest) M bc bs Q) : sm_W G f pc lv (.ref (b + 101) :: rest) M bc bs Q := by
  obtain ⟨q, r⟩ := cz_1 hI hZ
  exact sm_get hd hF r.cell rfl k9
theorem cm_cnt3 {index : Nat} (hd : decode f.2.1 pc = .ok (.getfield index, 3)) (hF : sm_Fg f.1.cls index 5 1) (hI : lo_in G cm_L b M0 M w) (hZ : cz_at G b M0 Z) (k9 : sm_W G f (pc + 3) lv (.int (nI Z.2.2.1.length) :: rest) M bc bs Q) : sm_W G f pc lv (.ref (b + 106) :: rest) M bc bs Q := by
  obtain ⟨q, r⟩ := cz_3 hI hZ
  exact sm_get hd hF r.cell rfl k9
theorem cz_c1 (hI : lo_in G cm_L b M0 M w) (hZ : cz_at G b M0 Z) : ∃ fs, M.1 (b + 101) = some (.inr (5, fs)) := by
  obtain ⟨q, r⟩ := cz_1 hI hZ
  exact ⟨_, r.cell⟩
theorem cz_c3 (hI : lo_in G cm_L b M0 M w) (hZ : cz_at G b M0 Z) : ∃ fs, M.1 (b + 106) = some (.inr (5, fs)) := by
  obtain ⟨q, r⟩ := cz_3 hI hZ
  exact ⟨_, r.cell⟩
theorem cz_u11 (hI : lo_in G cm_L b M0 M w) (hZ : cz_at G b M0 Z) (k : Int32) : sm_C G mf_Rw_u1 [.ref (b + 101), .int k] M 0 0 (sm_pu M (.int (nI (rw_u1 Z.1.1 k.toInt)))) := by
  obtain ⟨q, r⟩ := cz_1 hI hZ
  exact c_Rw_u1 r k
theorem cz_u21 (hI : lo_in G cm_L b M0 M w) (hZ : cz_at G b M0 Z) (k : Int32) : sm_C G mf_Rw_u2 [.ref (b + 101), .int k] M 0 0 (sm_pu M (.int (nI (rw_u2 Z.1.1 k.toInt)))) := by
  obtain ⟨q, r⟩ := cz_1 hI hZ
  exact c_Rw_u2 r k
theorem cz_u41 (hI : lo_in G cm_L b M0 M w) (hZ : cz_at G b M0 Z) (k : Int32) : sm_C G mf_Rw_u4 [.ref (b + 101), .int k] M 0 0 (sm_pu M (.long (lN (rw_u4 Z.1.1 k)))) := by
  obtain ⟨q, r⟩ := cz_1 hI hZ
  exact c_Rw_u4 r k
theorem cz_u13 (hI : lo_in G cm_L b M0 M w) (hZ : cz_at G b M0 Z) (k : Int32) : sm_C G mf_Rw_u1 [.ref (b + 106), .int k] M 0 0 (sm_pu M (.int (nI (rw_u1 Z.2.2.1 k.toInt)))) := by
  obtain ⟨q, r⟩ := cz_3 hI hZ
  exact c_Rw_u1 r k
theorem cz_u43 (hI : lo_in G cm_L b M0 M w) (hZ : cz_at G b M0 Z) (k : Int32) : sm_C G mf_Rw_u4 [.ref (b + 106), .int k] M 0 0 (sm_pu M (.long (lN (rw_u4 Z.2.2.1 k)))) := by
  obtain ⟨q, r⟩ := cz_3 hI hZ
  exact c_Rw_u4 r k
theorem cz_has1 (hI : lo_in G cm_L b M0 M w) (hZ : cz_at G b M0 Z) (k : Int32) : sm_C G mf_Rw_has [.ref (b + 101), .int k] M 0 0 (sm_pu M (.int (bi (decide (0 ≤ k.toInt ∧ k.toInt < Z.1.1.length))))) := by
  obtain ⟨q, r⟩ := cz_1 hI hZ
  rw [bi_d]
  exact c_Rw_has r k
theorem cz_has3 (hI : lo_in G cm_L b M0 M w) (hZ : cz_at G b M0 Z) (k : Int32) : sm_C G mf_Rw_has [.ref (b + 106), .int k] M 0 0 (sm_pu M (.int (bi (decide (0 ≤ k.toInt ∧ k.toInt < Z.2.2.1.length))))) := by
  obtain ⟨q, r⟩ := cz_3 hI hZ
  rw [bi_d]
  exact c_Rw_has r k
theorem cm_callR {index n x N : Nat} {C : String} {T9 : u_T} {g : sm_F} {As : List Value} {v : Value} (hd : decode f.2.1 pc = .ok (.invokevirtual index, 3)) (hg : sm_Call f index g n ∧ Cond.instanceMethod g.1 ∈ sm_WS ∧ Cond.selects C g.1 g.1 ∈ sm_WS ∧ sm_cl[5]? = some (C, T9, N)) (hno : f.2.2.2.2.1 = []) (hm : ∃ fs, M.1 x = some (.inr (5, fs))) (hn : As.length = n) (hst : st = As.reverse ++ .ref x :: rest) (hrest : (rest.map fun v => v.category).sum ≤ 12) (hC : sm_C G g (.ref x :: As) M 0 0 (sm_pu M v)) (k : sm_W G f (pc + 3) lv (v :: rest) M bc bs Q) : sm_W G f pc lv st M bc bs Q := by
  obtain ⟨fs, hm⟩ := hm
  exact sm_callVp hd hg hno hm hn hst hrest hC k
end CMA
section FIL
variable {G : sm_G} {L : Nat → Option lo_T} {b : Nat} {M0 M : sm_M} {w : wd} {a n : Nat} {bc bs : Nat}
theorem w_Ar_fill (hL : L a = some (.inl n)) (hn : n < 2 ^ 31) (v : Int32) : ∀ (d k : Nat) (M1 : sm_M), k + d = n → lo_in G L b M0 M1 (fil2 w a k v) → sm_W G mf_Ar_fill 5 [(3, .int (nI n)), (2, .int (nI k)), (0, .ref (b + a)), (1, .int v)] [] M1 bc bs (wd_Q G L b M0 none (fil2 w a n v)) := by
  intro d
  induction d with
  | zero =>
    intro k M1 hk hI
    have e : k = n := by omega
    subst e
    refine sm_iload_n d_Ar_fill_5 rfl (j := 1) rfl ?_
    refine sm_iload_n d_Ar_fill_6 rfl (j := 0) rfl ?_
    refine sm_icmp_ge (tgt := 20) d_Ar_fill_7 (by decide) (fun h1 => ?_) (fun h1 => absurd (Int32.le_refl _) h1)
    refine sm_return d_Ar_fill_20 rfl ?_
    exact ⟨rfl, hI⟩
  | succ d ih =>
    intro k M1 hk hI
    refine sm_iload_n d_Ar_fill_5 rfl (j := 1) rfl ?_
    refine sm_iload_n d_Ar_fill_6 rfl (j := 0) rfl ?_
    refine sm_icmp_ge (tgt := 20) d_Ar_fill_7 (by decide) (fun h1 => absurd h1 (nI_ge (by omega) hn)) (fun h1 => ?_)
    refine sm_aload_n d_Ar_fill_10 rfl (j := 2) rfl ?_
    refine sm_iload_n d_Ar_fill_11 rfl (j := 1) rfl ?_
    refine sm_iload_n d_Ar_fill_12 rfl (j := 3) rfl ?_
    refine lo_ast (j := k) d_Ar_fill_13 hI hL (by rw [nI_toInt (by omega)]; omega) (by rw [nI_toInt (by omega)]; omega) (fun M2 hI2 => ?_)
    refine sm_iinc (v := nI (k + 1)) d_Ar_fill_14 (j := 1) rfl (nI_succ k).symm (by decide) rfl ?_
    refine sm_goto (tgt := 5) d_Ar_fill_17 (by decide) ?_
    rw [fil2_s] at hI2
    exact sm_pick [1, 0, 2, 3] (ih (k + 1) M2 (by omega) hI2) rfl
theorem c_Ar_fill (hI : lo_in G L b M0 M w) (hL : L a = some (.inl n)) (hn : n < 2 ^ 31) (v : Int32) : sm_C G mf_Ar_fill [.ref (b + a), .int v] M 0 0 (wd_Q G L b M none (fil2 w a n v)) := by
  have hI := hI.here
  refine sm_ofW rfl (Nat.le_of_ble_eq_true rfl) ?_
  refine sm_iconst (v := 0) d_Ar_fill_0 (by decide) ?_
  refine sm_istore_n d_Ar_fill_1 rfl (by decide) rfl ?_
  refine sm_aload_n d_Ar_fill_2 rfl (j := 1) rfl ?_
  refine lo_aln (v := nI n) d_Ar_fill_3 hI hL rfl ?_
  refine sm_istore_n d_Ar_fill_4 rfl (by decide) rfl ?_
  exact w_Ar_fill hL hn v n 0 M (by omega) (by rw [fil2_0]; exact hI)
end FIL
