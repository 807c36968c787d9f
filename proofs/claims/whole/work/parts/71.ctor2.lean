/-! the constructors of Plan and StreamMarks -/
def wz : wd := fun _ _ => 0
def pl_L (x : Nat) : Option lo_T := if x = 1 then some (.inr (1, [some 2, some 3, none, none, none, none, none, none, some 4, none])) else if x = 2 then some (.inl 8) else none
theorem pl_L1 : pl_L 1 = some (.inr (1, [some 2, some 3, none, none, none, none, none, none, some 4, none])) := rfl
theorem pl_L2 : pl_L 2 = some (.inl 8) := rfl
set_option maxHeartbeats 1600000 in
set_option maxRecDepth 100000 in
theorem c_Pl_setGeneral0 {G : sm_G} {b : Nat} {M0 M : sm_M} {w : wd} (hI : lo_in G pl_L b M0 M w) (x1 : Int32) (x2 : Int32) (x3 : Bool) (x4 : Bool) (x5 : Bool) : sm_C G mf_Pl_setGeneral [.ref (b + 1), .int x1, .int x2, .int (bi x3), .int (bi x4), .int (bi x5)] M 0 0 (wd_Q G pl_L b M none (fn_Pl_setGeneral w x1 x2 x3 x4 x5)) := by
  obtain ⟨R, hf⟩ : ∃ R, fn_Pl_setGeneral w x1 x2 x3 x4 x5 = R := ⟨_, rfl⟩
  rw [hf]
  unfold fn_Pl_setGeneral at hf
  have hI := hI.here
  refine sm_ofW rfl (Nat.le_of_ble_eq_true rfl) ?_
  refine sm_aload_n d_Pl_setGeneral_0 rfl (j := 0) rfl ?_
  refine sm_iload_n d_Pl_setGeneral_1 rfl (j := 1) rfl ?_
  refine lo_put d_Pl_setGeneral_2 fp_Pl_45 (by decide) hI pl_L1 rfl (by rfl) (by rfl) (fun M1 hI2 => ?_)
  refine sm_aload_n d_Pl_setGeneral_5 rfl (j := 0) rfl ?_
  refine sm_iload_n d_Pl_setGeneral_6 rfl (j := 2) rfl ?_
  refine lo_put d_Pl_setGeneral_7 fp_Pl_48 (by decide) hI2 pl_L1 rfl (by rfl) (by rfl) (fun M3 hI4 => ?_)
  refine sm_aload_n d_Pl_setGeneral_10 rfl (j := 0) rfl ?_
  refine sm_iload_n d_Pl_setGeneral_11 rfl (j := 3) rfl ?_
  refine lo_put d_Pl_setGeneral_12 fp_Pl_51 (by decide) hI4 pl_L1 rfl (bi_n _) (bi_f _) (fun M5 hI6 => ?_)
  refine sm_aload_n d_Pl_setGeneral_15 rfl (j := 0) rfl ?_
  refine sm_iload d_Pl_setGeneral_16 (j := 4) rfl ?_
  refine lo_put d_Pl_setGeneral_18 fp_Pl_55 (by decide) hI6 pl_L1 rfl (bi_n _) (bi_f _) (fun M7 hI8 => ?_)
  refine sm_aload_n d_Pl_setGeneral_21 rfl (j := 0) rfl ?_
  refine sm_iload d_Pl_setGeneral_22 (j := 5) rfl ?_
  refine lo_put d_Pl_setGeneral_24 fp_Pl_58 (by decide) hI8 pl_L1 rfl (bi_n _) (bi_f _) (fun M9 hI10 => ?_)
  subst hf
  refine sm_return d_Pl_setGeneral_27 rfl ?_
  exact ⟨rfl, hI10⟩
set_option maxHeartbeats 1600000 in
set_option maxRecDepth 100000 in
theorem c_Pl_reset0 {G : sm_G} {b : Nat} {M0 M : sm_M} {w : wd} (hI : lo_in G pl_L b M0 M w) : sm_C G mf_Pl_reset [.ref (b + 1)] M 0 0 (wd_Q G pl_L b M none (fn_Pl_reset w)) := by
  obtain ⟨R, hf⟩ : ∃ R, fn_Pl_reset w = R := ⟨_, rfl⟩
  rw [hf]
  unfold fn_Pl_reset at hf
  have hI := hI.here
  refine sm_ofW rfl (Nat.le_of_ble_eq_true rfl) ?_
  refine sm_aload_n d_Pl_reset_0 rfl (j := 0) rfl ?_
  refine lo_get (v := .ref (b + 2)) d_Pl_reset_1 fg_Pl_9 hI pl_L1 rfl ?_
  refine sm_iconst (v := 0) d_Pl_reset_4 (by decide) ?_
  refine lo_callSm d_Pl_reset_5 cs_Pl_reset_28 rfl hI (As := [.ref (b + 2), .int (0 : Int32)]) rfl rfl (Nat.le_of_ble_eq_true rfl) (c_Ar_fill hI pl_L2 (by decide) _) (fun M1 hI2 => ?_)
  refine sm_aload_n d_Pl_reset_8 rfl (j := 0) rfl ?_
  refine sm_iconst (v := 0) d_Pl_reset_9 (by decide) ?_
  refine lo_put d_Pl_reset_10 fp_Pl_34 (by decide) hI2 pl_L1 rfl (by rfl) (by rfl) (fun M3 hI4 => ?_)
  refine sm_aload_n d_Pl_reset_13 rfl (j := 0) rfl ?_
  refine sm_iconst (v := 0) d_Pl_reset_14 (by decide) ?_
  refine lo_put d_Pl_reset_15 fp_Pl_38 (by decide) hI4 pl_L1 rfl (by rfl) (by rfl) (fun M5 hI6 => ?_)
  refine sm_aload_n d_Pl_reset_18 rfl (j := 0) rfl ?_
  refine sm_iconst (v := 0) d_Pl_reset_19 (by decide) ?_
  refine sm_iconst (v := 1) d_Pl_reset_20 (by decide) ?_
  refine sm_iconst (v := 0) d_Pl_reset_21 (by decide) ?_
  refine sm_iconst (v := 0) d_Pl_reset_22 (by decide) ?_
  refine sm_iconst (v := 0) d_Pl_reset_23 (by decide) ?_
  refine lo_callVm d_Pl_reset_24 cs_Pl_reset_41 rfl hI6 pl_L1 (As := [.int (0 : Int32), .int (1 : Int32), .int (0 : Int32), .int (0 : Int32), .int (0 : Int32)]) rfl rfl (Nat.le_of_ble_eq_true rfl) (c_Pl_setGeneral0 hI6 (0 : Int32) (1 : Int32) false false false) (fun M7 hI8 => ?_)
  subst hf
  refine sm_return d_Pl_reset_27 rfl ?_
  exact ⟨rfl, hI8⟩
/-- the cells of component c -/
def cpq (G : sm_G) (b c : Nat) : List va_E := [.inr (2, [.int 0, .int 0, .int 0, .int 0, .int 0, .ref (b + (6 + 6 * c)), .ref (b + (9 + 6 * c))]), .inr (3, [.int 0, .int 0, .int 0, .int 0, .int 0, .ref (b + (7 + 6 * c)), .ref (b + (8 + 6 * c))]), .inl (G.2.1 1, 33, .inl fun _ => 0), .inl (G.2.1 1, 33, .inl fun _ => 0), .inr (4, [.int 0, .int 0, .ref (b + (10 + 6 * c))]), .inl (G.2.1 1, 97, .inl fun _ => 0)]
def cpk (b k : Nat) : Nat → Option Nat := fun i => if i < k then some (b + (5 + 6 * i)) else none
def rfc (G : sm_G) (g : Nat → Option Nat) : va_E := .inl (G.2.1 3, 16, .inr (.inr (.inr (.inr g))))
def cpF (G : sm_G) (b k : Nat) : List va_E := (List.range k).flatMap (cpq G b)
theorem cpF_s (G : sm_G) (b k : Nat) : cpF G b (k + 1) = cpF G b k ++ cpq G b k := by
  unfold cpF
  rw [List.range_succ, List.flatMap_append]
  simp
theorem cpF_len (G : sm_G) (b k : Nat) : (cpF G b k).length = 6 * k := by
  induction k with
  | zero => rfl
  | succ k ih =>
    rw [cpF_s, List.length_append, ih]
    show 6 * k + 6 = _
    omega
theorem cpF_get (G : sm_G) (b : Nat) {k c i : Nat} (hc : c < k) (hi : i < 6) : (cpF G b k)[6 * c + i]? = (cpq G b c)[i]? := by
  induction k with
  | zero => omega
  | succ k ih =>
    rw [cpF_s]
    by_cases h : c < k
    · rw [List.getElem?_append_left (by rw [cpF_len]; omega)]
      exact ih h
    · have e : c = k := by omega
      subst e
      rw [List.getElem?_append_right (by rw [cpF_len]; omega), cpF_len]
      congr 1
      omega
theorem cpk_s (b k : Nat) : va_up (cpk b k) k (some (b + (5 + 6 * k))) = cpk b (k + 1) := by
  funext i
  unfold va_up cpk
  by_cases h1 : i = k
  · subst h1; simp
  · by_cases h2 : i < k
    · rw [if_neg h1, if_pos h2, if_pos (by omega)]
    · rw [if_neg h1, if_neg h2, if_neg (by omega)]
def plA (G : sm_G) (b k : Nat) : List va_E := .inl (G.2.1 1, 8, .inl fun _ => 0) :: rfc G (cpk b k) :: .inl (G.2.1 1, 192, .inl fun _ => 0) :: cpF G b k
def plO (b : Nat) : va_E := .inr (1, [.ref (b + 2), .ref (b + 3), .int 0, .int 0, .int 0, .int 0, .int 0, .int 0, .ref (b + 4), .int 0])
def plc (G : sm_G) (b : Nat) : List va_E := lo_cell G b (fn_Pl_reset wz 2) (.inl 8) :: rfc G (fun i => some (b + (5 + 6 * i))) :: .inl (G.2.1 1, 192, .inl fun _ => 0) :: cpF G b 16
def plP (G : sm_G) (b : Nat) : va_E := lo_cell G b (fn_Pl_reset wz 1) (.inr (1, [some 2, some 3, none, none, none, none, none, none, some 4, none]))
theorem plc_len (G : sm_G) (b : Nat) : (plc G b).length = 99 := by
  unfold plc
  simp only [List.length_cons, cpF_len]
theorem ct.gho {G : sm_G} {M M1 : sm_M} {b : Nat} {c : va_E} {g g' : Nat → Option Nat} (hm : M1.1 b = some (rfc G g)) (h : ∀ i, i < 16 → g i = g' i) : ∀ H, sm_R G M1 H → sm_R G (va_up M1.1 b (some (rfc G g')), M1.2) H := by
  intro H r
  refine r.set hm ?_ rfl (fun _ _ => rfl)
  have h1 : H[b]? = some (vp_cell (G.2.1 3) (16, .inr (.inr (.inr (.inr g))))) := (r.2 b _ hm).2
  show H[b]? = some (vp_cell (G.2.1 3) (16, .inr (.inr (.inr (.inr g')))))
  rw [h1, vp_cell_q, vp_cell_q]
  congr 1
  unfold arrV
  congr 1
  apply Array.ext
  · simp
  · intro i h2 h3
    simp at h2
    simp [h i h2]
set_option maxHeartbeats 1600000 in
set_option maxRecDepth 100000 in
theorem w_Pl_init {G : sm_G} {M : sm_M} {b : Nat} (hq : M.2 = b + 2) : ∀ (d k : Nat) (M1 : sm_M), k + d = 16 → ct M M1 (b + 1) (plO b) (plA G b k) → sm_W G mf_Pl_init 32 [(1, .int (nI k)), (0, .ref (b + 1))] [] M1 (6 * d) (180 * d) (ct_P M (b + 1) (plP G b) (plc G b)) := by
  have ha : b + 1 < M.2 := by omega
  intro d
  induction d with
  | zero =>
    intro k M1 hk T
    have e : k = 16 := by omega
    subst e
    refine sm_iload_n d_Pl_init_32 rfl (j := 0) rfl ?_
    refine sm_aload_n d_Pl_init_33 rfl (j := 1) rfl ?_
    refine sm_get d_Pl_init_34 fg_Pl_17 T.2.1 (v := .ref (b + 3)) rfl ?_
    have m3 : M1.1 (b + 3) = some (rfc G (cpk b 16)) := by
      have := T.2.2.1 1 _ rfl
      rw [hq] at this
      exact this
    refine sm_alen (ti := 3) (v := nI 16) d_Pl_init_37 m3 rfl rfl ?_
    refine sm_icmp_ge (tgt := 60) d_Pl_init_38 (by decide) (fun h1 => ?_) (fun h1 => absurd (Int32.le_refl _) h1)
    refine sm_W.gho (ct.gho (c := plO b) (M := M) m3 (g' := fun i => some (b + (5 + 6 * i))) (fun i hi => by unfold cpk; rw [if_pos hi])) ?_
    have T2 := T.set ha (j := 1) (by unfold plA; simp) (rfc G (fun i => some (b + (5 + 6 * i))))
    rw [show M.2 + 1 = b + 3 by omega] at T2
    generalize (va_up M1.1 (b + 3) (some (rfc G (fun i => some (b + (5 + 6 * i))))), M1.2) = M2 at T2 ⊢
    have T3 : ct M M2 (b + 1) (plO b) (.inl (G.2.1 1, 8, .inl fun _ => 0) :: rfc G (fun i => some (b + (5 + 6 * i))) :: .inl (G.2.1 1, 192, .inl fun _ => 0) :: cpF G b 16) := T2
    have hI : lo_in G pl_L b M2 M2 wz := by
      refine ⟨fun x t hx => ?_, lo_fr.rf⟩
      unfold pl_L at hx
      split at hx
      · rename_i e1
        subst e1
        cases hx
        exact T3.2.1
      · split at hx
        · rename_i e1 e2
          subst e2
          cases hx
          have := T3.2.2.1 0 _ rfl
          rw [hq] at this
          exact this
        · cases hx
    refine sm_aload_n d_Pl_init_60 rfl (j := 1) rfl ?_
    refine lo_callVm d_Pl_init_61 cs_Pl_init_25 rfl hI pl_L1 (As := []) rfl rfl (Nat.le_of_ble_eq_true rfl) (c_Pl_reset0 hI) (fun M3 hI3 => ?_)
    refine sm_return d_Pl_init_64 rfl ⟨rfl, ?_⟩
    obtain ⟨hA, hF1, hF2⟩ := hI3
    have fr : ∀ x, x ≠ b + 1 → x ≠ b + 2 → M3.1 x = M2.1 x := fun x h1 h2 => hF2 x (fun a t hL => by
      unfold pl_L at hL
      split at hL
      · omega
      · split at hL
        · omega
        · cases hL)
    refine ⟨by rw [hF1, T3.1]; unfold plc; simp only [List.length_cons], hA 1 _ rfl, fun i e hi => ?_, fun x h1 h2 => (fr x h2 (by omega)).trans (T3.2.2.2 x h1 h2)⟩
    by_cases i0 : i = 0
    · subst i0
      cases hi
      rw [hq]
      exact hA 2 _ rfl
    · rw [fr _ (by omega) (by omega)]
      refine T3.2.2.1 i e ?_
      obtain ⟨j, rfl⟩ : ∃ j, i = j + 1 := ⟨i - 1, by omega⟩
      exact hi
  | succ d ih =>
    intro k M1 hk T
    have hcs : M.2 + (plA G b k).length = b + (5 + 6 * k) := by
      unfold plA
      simp only [List.length_cons, cpF_len]
      omega
    have m3 : M1.1 (b + 3) = some (rfc G (cpk b k)) := by
      have := T.2.2.1 1 _ rfl
      rw [hq] at this
      exact this
    refine sm_iload_n d_Pl_init_32 rfl (j := 0) rfl ?_
    refine sm_aload_n d_Pl_init_33 rfl (j := 1) rfl ?_
    refine sm_get d_Pl_init_34 fg_Pl_17 T.2.1 (v := .ref (b + 3)) rfl ?_
    refine sm_alen (ti := 3) (v := nI 16) d_Pl_init_37 m3 rfl rfl ?_
    refine sm_icmp_ge (tgt := 60) d_Pl_init_38 (by decide) (fun h1 => absurd h1 (nI_ge (by omega) (by decide))) (fun h1 => ?_)
    refine sm_aload_n d_Pl_init_41 rfl (j := 1) rfl ?_
    refine sm_get d_Pl_init_42 fg_Pl_17 T.2.1 (v := .ref (b + 3)) rfl ?_
    refine sm_iload_n d_Pl_init_45 rfl (j := 0) rfl ?_
    refine ct_new (q := b + (5 + 6 * k)) (bc' := 6 * d + 5) (bs' := 180 * d + 173) d_Pl_init_46 nw_Pl_15 T ha hcs rfl (by omega) (by omega) (fun M2 T2 => ?_)
    have L2 : M2.2 = b + (6 + 6 * k) := by
      rw [T2.1, List.length_append]
      show M.2 + ((plA G b k).length + 1) = _
      omega
    have m5 : M2.1 (b + (5 + 6 * k)) = some (.inr (2, [.int 0, .int 0, .int 0, .int 0, .int 0, .null, .null])) := by
      have := T2.2.2.1 (plA G b k).length _ (by rw [List.getElem?_append_right (Nat.le_refl _), Nat.sub_self]; rfl)
      rw [hcs] at this
      exact this
    refine sm_dup d_Pl_init_49 rfl ?_
    have hC := c_Cp_init (G := G) (q := b + (6 + 6 * k)) L2 m5 (by omega)
    refine ct_init (q := b + (5 + 6 * k)) (bc' := 6 * d) (bs' := 180 * d) (As := []) d_Pl_init_50 cs_Pl_init_24 rfl rfl rfl (Nat.le_of_ble_eq_true rfl) T2 ha hcs hC rfl (by omega) (by omega) (fun M3 T3 => ?_)
    have m3' : M3.1 (b + 3) = some (rfc G (cpk b k)) := by
      have := T3.2.2.1 1 _ rfl
      rw [hq] at this
      exact this
    have m5' := T3.2.2.1 (plA G b k).length _ (by rw [List.getElem?_append_right (Nat.le_refl _), Nat.sub_self]; rfl)
    rw [hcs] at m5'
    refine sm_aast (v := b + (5 + 6 * k)) d_Pl_init_53 m3' m5' (vp_in_iff.mpr (by rw [nI_toInt (by omega)]; omega)) ?_
    have T4 := T3.set ha (j := 1) (by unfold plA; simp) (rfc G (va_up (cpk b k) (nI k).toNatClampNeg (some (b + (5 + 6 * k)))))
    rw [show M.2 + 1 = b + 3 by omega] at T4
    have ek : (nI k).toNatClampNeg = k := by rw [sm_cl0 (by rw [nI_toInt (by omega)]; omega), nI_toInt (by omega)]; rfl
    rw [ek, cpk_s] at T4
    rw [ek, cpk_s]
    refine sm_iinc (v := nI (k + 1)) d_Pl_init_54 (j := 0) rfl (nI_succ k).symm (by decide) rfl ?_
    refine sm_goto (tgt := 32) d_Pl_init_57 (by decide) ?_
    refine ih (k + 1) _ (by omega) ?_
    have e9 : (plA G b k ++ ((.inr (2, [.int 0, .int 0, .int 0, .int 0, .int 0, .ref (b + (6 + 6 * k)), .ref (b + (6 + 6 * k) + 3)]) : va_E) :: ([.inr (3, [.int 0, .int 0, .int 0, .int 0, .int 0, .ref (b + (6 + 6 * k) + 1), .ref (b + (6 + 6 * k) + 2)]), .inl (G.2.1 1, 33, .inl fun _ => 0), .inl (G.2.1 1, 33, .inl fun _ => 0), .inr (4, [.int 0, .int 0, .ref (b + (6 + 6 * k) + 4)]), .inl (G.2.1 1, 97, .inl fun _ => 0)] : List va_E))).set 1 (rfc G (cpk b (k + 1))) = plA G b (k + 1) := by
      unfold plA
      rw [cpF_s]
      show _ :: _ :: _ :: (cpF G b k ++ _) = _
      unfold cpq
      rw [show b + (6 + 6 * k) + 3 = b + (9 + 6 * k) by omega, show b + (6 + 6 * k) + 1 = b + (7 + 6 * k) by omega, show b + (6 + 6 * k) + 2 = b + (8 + 6 * k) by omega, show b + (6 + 6 * k) + 4 = b + (10 + 6 * k) by omega]
    rw [e9] at T4
    exact T4
theorem c_Pl_init {G : sm_G} {M : sm_M} {b : Nat} (hq : M.2 = b + 2) (hm : M.1 (b + 1) = some (.inr (1, [.null, .null, .int 0, .int 0, .int 0, .int 0, .int 0, .int 0, .null, .int 0]))) : sm_C G mf_Pl_init [.ref (b + 1)] M 99 3096 (ct_P M (b + 1) (plP G b) (plc G b)) := by
  have ha : b + 1 < M.2 := by omega
  refine sm_ofW rfl (Nat.le_of_ble_eq_true rfl) ?_
  have T0 := ct_0 hm
  refine sm_aload_n d_Pl_init_0 rfl (j := 0) rfl ?_
  refine sm_objInit d_Pl_init_1 oi_Pl (Nat.le_of_ble_eq_true rfl) (Nat.le_of_ble_eq_true rfl) ?_
  refine sm_aload_n d_Pl_init_4 rfl (j := 0) rfl ?_
  refine sm_bipush (v := 8) d_Pl_init_5 (by decide) ?_
  refine ct_int (q := b + 2) (bc' := 98) (bs' := 3088) (N' := 8) d_Pl_init_7 T0 ha hq rfl (by decide) (by decide) (by decide) (by decide) (by decide) (fun M1 T1 => ?_)
  refine ct_put (k := 0) d_Pl_init_9 fp_Pl_9 (fun _ => rfl) T1 ha rfl rfl (Nat.le_of_ble_eq_true rfl) rfl (fun M2 T2 => ?_)
  refine sm_aload_n d_Pl_init_12 rfl (j := 0) rfl ?_
  refine sm_bipush (v := 16) d_Pl_init_13 (by decide) ?_
  refine ct_anw (q := b + 3) (bc' := 97) (bs' := 3072) (N' := 16) d_Pl_init_15 mw_38 T2 ha (by rw [hq]; rfl) rfl (by decide) (by decide) (by decide) (by decide) (by decide) (fun M3 T3 => ?_)
  refine ct_put (k := 1) d_Pl_init_18 fp_Pl_17 (fun _ => rfl) T3 ha rfl rfl (Nat.le_of_ble_eq_true rfl) rfl (fun M4 T4 => ?_)
  refine sm_aload_n d_Pl_init_21 rfl (j := 0) rfl ?_
  refine sm_sipush (v := 192) d_Pl_init_22 (by decide) ?_
  refine ct_int (q := b + 4) (bc' := 96) (bs' := 2880) (N' := 192) d_Pl_init_25 T4 ha (by rw [hq]; rfl) rfl (by decide) (by decide) (by decide) (by decide) (by decide) (fun M5 T5 => ?_)
  refine ct_put (k := 8) d_Pl_init_27 fp_Pl_21 (fun _ => rfl) T5 ha rfl rfl (Nat.le_of_ble_eq_true rfl) rfl (fun M6 T6 => ?_)
  refine sm_iconst (v := 0) d_Pl_init_30 (by decide) ?_
  refine sm_istore_n d_Pl_init_31 rfl (by decide) rfl ?_
  have e0 : cpk b 0 = fun _ => none := by
    funext i
    unfold cpk
    rw [if_neg (by omega)]
  refine w_Pl_init hq 16 0 M6 rfl ?_
  unfold plA
  rw [e0]
  exact T6
def rw0 (q : Nat) : va_E := .inr (5, [.ref q, .int 0])
def by0 (G : sm_G) : va_E := .inl (G.2.1 0, 256, .inl fun _ => 0)
def sm1 (G : sm_G) (b : Nat) : List va_E := plP G b :: plc G b
def sm3 (G : sm_G) (b : Nat) : List va_E := [rw0 (b + 102), by0 G, rw0 (b + 104), by0 G]
def smS (b : Nat) : va_E := .inr (6, [.ref (b + 101), .ref (b + 106), .ref (b + 108), .ref (b + 110), .int 0, .int 0, .int 0, .int 0, .int 0, .int 0, .int 0, .int 0, .int 0, .int 0])
def sm4 (G : sm_G) (b : Nat) : List va_E := smS b :: [rw0 (b + 107), by0 G, .inr (7, [.ref (b + 109)]), .inl (G.2.1 1, 3315, .inl fun _ => 0), .inr (8, [.ref (b + 111), .int 0, .ref (b + 112), .ref (b + 113), .ref (b + 114)]), .inl (G.2.1 1, 1792, .inl fun _ => 0), .inl (G.2.1 1, 64, .inl fun _ => 0), .inl (G.2.1 1, 64, .inl fun _ => 0), .inl (G.2.1 1, 64, .inl fun _ => 0)]
def smL (b : Nat) : va_E := .inr (9, [.ref (b + 101), .ref (b + 108), .ref (b + 1)])
def smO (b : Nat) : va_E := .inr (0, [.ref (b + 1), .ref (b + 101), .ref (b + 103), .ref (b + 105), .ref (b + 115), .int 0, .int (-1)])
theorem sm1_len (G : sm_G) (b : Nat) : (sm1 G b).length = 100 := by
  unfold sm1
  rw [List.length_cons, plc_len]
theorem sm1_ix (G : sm_G) (b : Nat) (L : List va_E) (i : Nat) : (sm1 G b ++ L)[100 + i]? = L[i]? := by
  rw [List.getElem?_append_right (by rw [sm1_len]; omega), sm1_len, Nat.add_sub_cancel_left]
set_option maxHeartbeats 1600000 in
set_option maxRecDepth 100000 in
theorem c_SM_init {G : sm_G} {M : sm_M} {b : Nat} (hq : M.2 = b + 1) (hm : M.1 b = some (.inr (0, [.null, .null, .null, .null, .null, .int 0, .int 0]))) : sm_C G mf_SM_init [.ref b] M 115 9202 (ct_P M b (smO b) (sm1 G b ++ (sm3 G b ++ sm4 G b ++ [smL b]))) := by
  have ha : b < M.2 := by omega
  have len1 := sm1_len G b
  refine sm_ofW rfl (Nat.le_of_ble_eq_true rfl) ?_
  have T0 := ct_0 hm
  refine sm_aload_n d_SM_init_0 rfl (j := 0) rfl ?_
  refine sm_objInit d_SM_init_1 oi_SM (Nat.le_of_ble_eq_true rfl) (Nat.le_of_ble_eq_true rfl) ?_
  refine sm_aload_n d_SM_init_4 rfl (j := 0) rfl ?_
  refine ct_new (q := b + 1) (bc' := 114) (bs' := 9192) d_SM_init_5 nw_SM_7 T0 ha hq rfl (by decide) (by decide) (fun M1 T1 => ?_)
  have L1 : M1.2 = b + 2 := by rw [T1.1, hq]; rfl
  refine sm_dup d_SM_init_8 rfl ?_
  refine ct_init (q := b + 1) (bc' := 15) (bs' := 6096) (As := []) (cs2 := sm1 G b) d_SM_init_9 cs_SM_init_9 rfl rfl rfl (Nat.le_of_ble_eq_true rfl) T1 ha hq (c_Pl_init L1 (by rw [← hq]; exact T1.2.2.1 0 _ rfl)) rfl (by decide) (by decide) (fun M2 T2 => ?_)
  refine ct_put (k := 0) d_SM_init_12 fp_SM_10 (fun _ => rfl) T2 ha rfl rfl (Nat.le_of_ble_eq_true rfl) rfl (fun M3 T3 => ?_)
  refine sm_aload_n d_SM_init_15 rfl (j := 0) rfl ?_
  refine ct_new (q := b + 101) (bc' := 14) (bs' := 6094) d_SM_init_16 nw_SM_16 T3 ha (by omega) rfl (by decide) (by decide) (fun M4 T4 => ?_)
  have L4 : M4.2 = b + 102 := by rw [T4.1, List.length_append, len1, hq]; rfl
  refine sm_dup d_SM_init_19 rfl ?_
  refine ct_init (q := b + 101) (bc' := 13) (bs' := 5838) (As := []) (cs2 := sm1 G b ++ [rw0 (b + 102), by0 G]) d_SM_init_20 cs_SM_init_18 rfl rfl rfl (Nat.le_of_ble_eq_true rfl) T4 ha (by omega) (c_Rw_init (q := b + 102) L4 (by have h9 := T4.2.2.1 100 _ (sm1_ix G b _ 0); rw [hq, show b + 1 + 100 = b + 101 by omega] at h9; exact h9) (by omega)) rfl (by decide) (by decide) (fun M5 T5 => ?_)
  refine ct_put (k := 1) d_SM_init_23 fp_SM_19 (fun _ => rfl) T5 ha rfl rfl (Nat.le_of_ble_eq_true rfl) rfl (fun M6 T6 => ?_)
  refine sm_aload_n d_SM_init_26 rfl (j := 0) rfl ?_
  refine ct_new (q := b + 103) (bc' := 12) (bs' := 5836) (cs2 := sm1 G b ++ [rw0 (b + 102), by0 G] ++ [.inr (5, [.null, .int 0])]) d_SM_init_27 nw_SM_16 T6 ha (by rw [List.length_append, len1, hq]; rfl) rfl (by decide) (by decide) (fun M7 T7 => ?_)
  have L7 : M7.2 = b + 104 := by rw [T7.1, List.length_append, List.length_append, len1, hq]; rfl
  refine sm_dup d_SM_init_30 rfl ?_
  refine ct_init (q := b + 103) (bc' := 11) (bs' := 5580) (As := []) (cs2 := sm1 G b ++ sm3 G b) d_SM_init_31 cs_SM_init_18 rfl rfl rfl (Nat.le_of_ble_eq_true rfl) T7 ha (by rw [List.length_append, len1, hq]; rfl) (c_Rw_init (q := b + 104) L7 (by have h9 := T7.2.2.1 102 _ (by rw [List.append_assoc]; exact sm1_ix G b _ 2); rw [hq, show b + 1 + 102 = b + 103 by omega] at h9; exact h9) (by omega)) (by rw [List.append_assoc]; rfl) (by decide) (by decide) (fun M8 T8 => ?_)
  refine ct_put (k := 2) d_SM_init_34 fp_SM_23 (fun _ => rfl) T8 ha rfl rfl (Nat.le_of_ble_eq_true rfl) rfl (fun M9 T9 => ?_)
  refine sm_aload_n d_SM_init_37 rfl (j := 0) rfl ?_
  refine ct_new (q := b + 105) (bc' := 10) (bs' := 5566) d_SM_init_38 nw_SM_26 T9 ha (by rw [List.length_append, len1, hq]; rfl) rfl (by decide) (by decide) (fun M10 T10 => ?_)
  have L10 : M10.2 = b + 106 := by rw [T10.1, List.length_append, List.length_append, len1, hq]; rfl
  refine sm_dup d_SM_init_41 rfl ?_
  refine sm_aload_n d_SM_init_42 rfl (j := 0) rfl ?_
  refine sm_get d_SM_init_43 fg_SM_19 T10.2.1 (v := .ref (b + 101)) rfl ?_
  refine ct_init (q := b + 105) (bc' := 1) (bs' := 3) (As := [.ref (b + 101)]) (cs2 := sm1 G b ++ (sm3 G b ++ sm4 G b)) d_SM_init_46 cs_SM_init_28 rfl rfl rfl (Nat.le_of_ble_eq_true rfl) T10 ha (by rw [List.length_append, len1, hq]; rfl) (c_Sc_init (q := b + 106) (x1 := b + 101) L10 (by have h9 := T10.2.2.1 104 _ (by rw [List.append_assoc]; exact sm1_ix G b _ 4); rw [hq, show b + 1 + 104 = b + 105 by omega] at h9; exact h9) (by omega)) (by rw [List.append_assoc]; rfl) (by decide) (by decide) (fun M11 T11 => ?_)
  refine ct_put (k := 3) d_SM_init_49 fp_SM_31 (fun _ => rfl) T11 ha rfl rfl (Nat.le_of_ble_eq_true rfl) rfl (fun M12 T12 => ?_)
  refine sm_aload_n d_SM_init_52 rfl (j := 0) rfl ?_
  refine ct_new (q := b + 115) (bc' := 0) (bs' := 0) d_SM_init_53 nw_SM_35 T12 ha (by rw [List.length_append, len1, hq]; rfl) rfl (by decide) (by decide) (fun M13 T13 => ?_)
  have L13 : M13.2 = b + 116 := by rw [T13.1, List.length_append, List.length_append, len1, hq]; rfl
  refine sm_dup d_SM_init_56 rfl ?_
  refine sm_aload_n d_SM_init_57 rfl (j := 0) rfl ?_
  refine sm_get d_SM_init_58 fg_SM_19 T13.2.1 (v := .ref (b + 101)) rfl ?_
  refine sm_aload_n d_SM_init_61 rfl (j := 0) rfl ?_
  refine sm_get d_SM_init_62 fg_SM_31 T13.2.1 (v := .ref (b + 105)) rfl ?_
  have mS : M13.1 (b + 105) = some (smS b) := by
    have h9 := T13.2.2.1 104 _ (by rw [List.append_assoc]; exact sm1_ix G b _ 4)
    rw [hq, show b + 1 + 104 = b + 105 by omega] at h9
    exact h9
  refine sm_get d_SM_init_65 fg_SM_37 mS (v := .ref (b + 108)) rfl ?_
  refine sm_aload_n d_SM_init_68 rfl (j := 0) rfl ?_
  refine sm_get d_SM_init_69 fg_SM_10 T13.2.1 (v := .ref (b + 1)) rfl ?_
  refine ct_init (q := b + 115) (bc' := 0) (bs' := 0) (As := [.ref (b + 101), .ref (b + 108), .ref (b + 1)]) (cs2 := sm1 G b ++ (sm3 G b ++ sm4 G b ++ [smL b])) d_SM_init_72 cs_SM_init_41 rfl rfl rfl (Nat.le_of_ble_eq_true rfl) T13 ha (by rw [List.length_append, len1, hq]; rfl) (c_Ld_init (q := b + 116) (x1 := b + 101) (x2 := b + 108) (x3 := b + 1) L13 (by have h9 := T13.2.2.1 114 _ (by rw [List.append_assoc]; exact sm1_ix G b _ 14); rw [hq, show b + 1 + 114 = b + 115 by omega] at h9; exact h9) (by omega)) (by rw [List.append_assoc]; rfl) (by decide) (by decide) (fun M14 T14 => ?_)
  refine ct_put (k := 4) d_SM_init_75 fp_SM_44 (fun _ => rfl) T14 ha rfl rfl (Nat.le_of_ble_eq_true rfl) rfl (fun M15 T15 => ?_)
  refine sm_aload_n d_SM_init_78 rfl (j := 0) rfl ?_
  refine sm_iconst (v := 0) d_SM_init_79 (by decide) ?_
  refine ct_put (k := 5) d_SM_init_80 fp_SM_48 (fun _ => rfl) T15 ha rfl rfl (Nat.le_of_ble_eq_true rfl) rfl (fun M16 T16 => ?_)
  refine sm_aload_n d_SM_init_83 rfl (j := 0) rfl ?_
  refine sm_iconst (v := -1) d_SM_init_84 (by decide) ?_
  refine ct_put (k := 6) d_SM_init_85 fp_SM_52 (fun _ => rfl) T16 ha rfl rfl (Nat.le_of_ble_eq_true rfl) rfl (fun M17 T17 => ?_)
  exact sm_return d_SM_init_88 rfl ⟨rfl, T17⟩
