/-! leaf, on; written by wip/tools/cls.py -/
def fn_Pt_headSegmentsOf (w : wd) (x1 : Int32) : Option (Int32) := (if (fn_Pt_isTile x1) = true then (if 0 ≤ x1.toInt ∧ x1.toInt < 64 then some (w 114 x1.toInt.toNat) else none) else some (0 : Int32))
set_option maxHeartbeats 1600000 in
set_option maxRecDepth 100000 in
theorem c_Pt_headSegmentsOf {G : sm_G} {b : Nat} {M0 M : sm_M} {Z : zd} {w : wd}  (hI : lo_in G cm_L b M0 M w) (hZ : cz_at G b M0 Z) (x1 : Int32)  {R : Int32} (hf : fn_Pt_headSegmentsOf w x1 = some R) : sm_C G mf_Pt_headSegmentsOf [.ref (b + 110), .int x1] M 0 0 (sm_pu M (.int R)) := by
  unfold fn_Pt_headSegmentsOf at hf
  have hZ := hZ.go hI.2
  have hI := hI.here
  refine sm_ofW rfl (Nat.le_of_ble_eq_true rfl) ?_
  refine sm_iload_n d_Pt_headSegmentsOf_0 rfl (j := 1) rfl ?_
  refine sm_callSp d_Pt_headSegmentsOf_1 cs_Pt_headSegmentsOf_34 rfl (As := [.int x1]) rfl rfl (Nat.le_of_ble_eq_true rfl) (c_Pt_isTile x1) ?_
  refine sm_if_eq (tgt := 16) d_Pt_headSegmentsOf_4 (by decide) (fun h1 => ?_) (fun h1 => ?_)
  · rw [if_neg (bi0 h1)] at hf
    refine sm_iconst (v := 0) d_Pt_headSegmentsOf_16 (by decide) ?_
    cases hf
    refine sm_ireturn d_Pt_headSegmentsOf_17 rfl (by rfl) ?_
    exact ⟨rfl, rfl⟩
  · rw [if_pos (bi1 h1)] at hf
    refine sm_aload_n d_Pt_headSegmentsOf_7 rfl (j := 0) rfl ?_
    refine lo_get (v := .ref (b + 114)) d_Pt_headSegmentsOf_8 fg_Pt_21 hI cl_110 rfl ?_
    refine sm_iload_n d_Pt_headSegmentsOf_11 rfl (j := 1) rfl ?_
    obtain ⟨h2, hf⟩ := lo_chk hf
    refine lo_ald (j := x1.toInt.toNat) d_Pt_headSegmentsOf_12 hI cl_114 h2 rfl ?_
    refine sm_goto (tgt := 17) d_Pt_headSegmentsOf_13 (by decide) ?_
    cases hf
    refine sm_ireturn d_Pt_headSegmentsOf_17 rfl (by rfl) ?_
    exact ⟨rfl, rfl⟩

def fn_Pt_addHeadsToLast (w : wd) (x1 : Int32) : Option (wd) := (if (fn_Pt_isTile (fn_Pt_number w ((w 110 1) - (1 : Int32)) (0 : Int32))) = true then (if 0 ≤ (fn_Pt_number w ((w 110 1) - (1 : Int32)) (0 : Int32)).toInt ∧ (fn_Pt_number w ((w 110 1) - (1 : Int32)) (0 : Int32)).toInt < 64 then (if 0 ≤ (fn_Pt_number w ((w 110 1) - (1 : Int32)) (0 : Int32)).toInt ∧ (fn_Pt_number w ((w 110 1) - (1 : Int32)) (0 : Int32)).toInt < 64 then some (up2 (fn_Pt_setNumber w ((w 110 1) - (1 : Int32)) (6 : Int32) ((fn_Pt_number w ((w 110 1) - (1 : Int32)) (6 : Int32)) + x1)) 114 ((fn_Pt_number w ((w 110 1) - (1 : Int32)) (0 : Int32)).toInt.toNat) (((fn_Pt_setNumber w ((w 110 1) - (1 : Int32)) (6 : Int32) ((fn_Pt_number w ((w 110 1) - (1 : Int32)) (6 : Int32)) + x1)) 114 ((fn_Pt_number w ((w 110 1) - (1 : Int32)) (0 : Int32)).toInt.toNat)) + (1 : Int32))) else none) else none) else some (fn_Pt_setNumber w ((w 110 1) - (1 : Int32)) (6 : Int32) ((fn_Pt_number w ((w 110 1) - (1 : Int32)) (6 : Int32)) + x1)))
set_option maxHeartbeats 1600000 in
set_option maxRecDepth 100000 in
theorem c_Pt_addHeadsToLast {G : sm_G} {b : Nat} {M0 M : sm_M} {Z : zd} {w : wd}  (hI : lo_in G cm_L b M0 M w) (hZ : cz_at G b M0 Z) (x1 : Int32)  {R : wd} (hf : fn_Pt_addHeadsToLast w x1 = some R) : sm_C G mf_Pt_addHeadsToLast [.ref (b + 110), .int x1] M 0 0 (wd_Q G cm_L b M none R) := by
  unfold fn_Pt_addHeadsToLast at hf
  have hZ := hZ.go hI.2
  have hI := hI.here
  refine sm_ofW rfl (Nat.le_of_ble_eq_true rfl) ?_
  refine sm_aload_n d_Pt_addHeadsToLast_0 rfl (j := 0) rfl ?_
  refine lo_get (v := .int (w 110 1)) d_Pt_addHeadsToLast_1 fg_Pt_24 hI cl_110 rfl ?_
  refine sm_iconst (v := 1) d_Pt_addHeadsToLast_4 (by decide) ?_
  refine sm_isub d_Pt_addHeadsToLast_5 ?_
  refine sm_istore_n d_Pt_addHeadsToLast_6 rfl (by decide) rfl ?_
  refine sm_aload_n d_Pt_addHeadsToLast_7 rfl (j := 1) rfl ?_
  refine sm_iload_n d_Pt_addHeadsToLast_8 rfl (j := 0) rfl ?_
  refine sm_iconst (v := 0) d_Pt_addHeadsToLast_9 (by decide) ?_
  refine lo_callV d_Pt_addHeadsToLast_10 cs_Pt_addHeadsToLast_42 rfl hI cl_110 (As := [.int ((w 110 1) - (1 : Int32)), .int (0 : Int32)]) rfl rfl (Nat.le_of_ble_eq_true rfl) (c_Pt_number hI hZ ((w 110 1) - (1 : Int32)) (0 : Int32)) ?_
  refine sm_istore_n d_Pt_addHeadsToLast_13 rfl (by decide) rfl ?_
  refine sm_aload_n d_Pt_addHeadsToLast_14 rfl (j := 2) rfl ?_
  refine sm_iload_n d_Pt_addHeadsToLast_15 rfl (j := 1) rfl ?_
  refine sm_bipush (v := 6) d_Pt_addHeadsToLast_16 (by decide) ?_
  refine sm_aload_n d_Pt_addHeadsToLast_18 rfl (j := 2) rfl ?_
  refine sm_iload_n d_Pt_addHeadsToLast_19 rfl (j := 1) rfl ?_
  refine sm_bipush (v := 6) d_Pt_addHeadsToLast_20 (by decide) ?_
  refine lo_callV d_Pt_addHeadsToLast_22 cs_Pt_addHeadsToLast_42 rfl hI cl_110 (As := [.int ((w 110 1) - (1 : Int32)), .int (6 : Int32)]) rfl rfl (Nat.le_of_ble_eq_true rfl) (c_Pt_number hI hZ ((w 110 1) - (1 : Int32)) (6 : Int32)) ?_
  refine sm_iload_n d_Pt_addHeadsToLast_25 rfl (j := 3) rfl ?_
  refine sm_iadd d_Pt_addHeadsToLast_26 ?_
  refine lo_callVm d_Pt_addHeadsToLast_27 cs_Pt_addHeadsToLast_38 rfl hI cl_110 (As := [.int ((w 110 1) - (1 : Int32)), .int (6 : Int32), .int ((fn_Pt_number w ((w 110 1) - (1 : Int32)) (6 : Int32)) + x1)]) rfl rfl (Nat.le_of_ble_eq_true rfl) (c_Pt_setNumber hI hZ ((w 110 1) - (1 : Int32)) (6 : Int32) ((fn_Pt_number w ((w 110 1) - (1 : Int32)) (6 : Int32)) + x1)) (fun M1 hI2 => ?_)
  refine sm_iload_n d_Pt_addHeadsToLast_30 rfl (j := 0) rfl ?_
  refine sm_callSp d_Pt_addHeadsToLast_31 cs_Pt_addHeadsToLast_34 rfl (As := [.int (fn_Pt_number w ((w 110 1) - (1 : Int32)) (0 : Int32))]) rfl rfl (Nat.le_of_ble_eq_true rfl) (c_Pt_isTile (fn_Pt_number w ((w 110 1) - (1 : Int32)) (0 : Int32))) ?_
  refine sm_if_eq (tgt := 47) d_Pt_addHeadsToLast_34 (by decide) (fun h3 => ?_) (fun h3 => ?_)
  · rw [if_neg (bi0 h3)] at hf
    cases hf
    refine sm_return d_Pt_addHeadsToLast_47 rfl ?_
    exact ⟨rfl, hI2⟩
  · rw [if_pos (bi1 h3)] at hf
    refine sm_aload_n d_Pt_addHeadsToLast_37 rfl (j := 2) rfl ?_
    refine lo_get (v := .ref (b + 114)) d_Pt_addHeadsToLast_38 fg_Pt_21 hI2 cl_110 rfl ?_
    refine sm_iload_n d_Pt_addHeadsToLast_41 rfl (j := 0) rfl ?_
    refine sm_dup2 d_Pt_addHeadsToLast_42 rfl rfl ?_
    obtain ⟨h4, hf⟩ := lo_chk hf
    refine lo_ald (j := (fn_Pt_number w ((w 110 1) - (1 : Int32)) (0 : Int32)).toInt.toNat) d_Pt_addHeadsToLast_43 hI2 cl_114 h4 rfl ?_
    refine sm_iconst (v := 1) d_Pt_addHeadsToLast_44 (by decide) ?_
    refine sm_iadd d_Pt_addHeadsToLast_45 ?_
    obtain ⟨h5, hf⟩ := lo_chk hf
    refine lo_ast (j := (fn_Pt_number w ((w 110 1) - (1 : Int32)) (0 : Int32)).toInt.toNat) d_Pt_addHeadsToLast_46 hI2 cl_114 h5 rfl (fun M6 hI7 => ?_)
    cases hf
    refine sm_return d_Pt_addHeadsToLast_47 rfl ?_
    exact ⟨rfl, hI7⟩

def fn_Pt_setHeads (w : wd) (x1 : Int32) (x2 : Int32) (x3 : Int32) : wd := (fn_Pt_setNumber (fn_Pt_setNumber w x1 (5 : Int32) x2) x1 (6 : Int32) x3)
set_option maxHeartbeats 1600000 in
set_option maxRecDepth 100000 in
theorem c_Pt_setHeads {G : sm_G} {b : Nat} {M0 M : sm_M} {Z : zd} {w : wd}  (hI : lo_in G cm_L b M0 M w) (hZ : cz_at G b M0 Z) (x1 : Int32) (x2 : Int32) (x3 : Int32)  : sm_C G mf_Pt_setHeads [.ref (b + 110), .int x1, .int x2, .int x3] M 0 0 (wd_Q G cm_L b M none (fn_Pt_setHeads w x1 x2 x3)) := by
  obtain ⟨R, hf⟩ : ∃ R, fn_Pt_setHeads w x1 x2 x3 = R := ⟨_, rfl⟩
  rw [hf]
  unfold fn_Pt_setHeads at hf
  have hZ := hZ.go hI.2
  have hI := hI.here
  refine sm_ofW rfl (Nat.le_of_ble_eq_true rfl) ?_
  refine sm_aload_n d_Pt_setHeads_0 rfl (j := 0) rfl ?_
  refine sm_iload_n d_Pt_setHeads_1 rfl (j := 1) rfl ?_
  refine sm_iconst (v := 5) d_Pt_setHeads_2 (by decide) ?_
  refine sm_iload_n d_Pt_setHeads_3 rfl (j := 2) rfl ?_
  refine lo_callVm d_Pt_setHeads_4 cs_Pt_setHeads_38 rfl hI cl_110 (As := [.int x1, .int (5 : Int32), .int x2]) rfl rfl (Nat.le_of_ble_eq_true rfl) (c_Pt_setNumber hI hZ x1 (5 : Int32) x2) (fun M1 hI2 => ?_)
  refine sm_aload_n d_Pt_setHeads_7 rfl (j := 0) rfl ?_
  refine sm_iload_n d_Pt_setHeads_8 rfl (j := 1) rfl ?_
  refine sm_bipush (v := 6) d_Pt_setHeads_9 (by decide) ?_
  refine sm_iload_n d_Pt_setHeads_11 rfl (j := 3) rfl ?_
  refine lo_callVm d_Pt_setHeads_12 cs_Pt_setHeads_38 rfl hI2 cl_110 (As := [.int x1, .int (6 : Int32), .int x3]) rfl rfl (Nat.le_of_ble_eq_true rfl) (c_Pt_setNumber hI2 hZ x1 (6 : Int32) x3) (fun M3 hI4 => ?_)
  subst hf
  refine sm_return d_Pt_setHeads_15 rfl ?_
  exact ⟨rfl, hI4⟩

def fn_Pt_areComplete_48 (k2 : wd → Int32 → Int32 → Option (Bool)) (F : Nat) (w : wd) (x1 : Int32) (x2 : Int32) : Option (Bool) := k2 w x1 (x2 + 1)
set_option maxHeartbeats 1600000 in
set_option maxRecDepth 100000 in
theorem w_Pt_areComplete_48 {G : sm_G} {b : Nat} {M0 : sm_M} {bc bs : Nat} {Z : zd} {R : Bool} {F : Nat} {k2 : wd → Int32 → Int32 → Option (Bool)} (hk2 : ∀ (w : wd) (x1 : Int32) (x2 : Int32), lo_in G cm_L b M0 M0 w → k2 w x1 x2 = some R → sm_W G mf_Pt_areComplete 2 [(0, .ref (b + 110)), (1, .int x1), (2, .int x2)] [] M0 bc bs (sm_pu M0 (.int (bi R)))) (hZ : cz_at G b M0 Z) : ∀ (w : wd) (x1 : Int32) (x2 : Int32), lo_in G cm_L b M0 M0 w → fn_Pt_areComplete_48 k2 F w x1 x2 = some R → sm_W G mf_Pt_areComplete 48 [(0, .ref (b + 110)), (1, .int x1), (2, .int x2)] [] M0 bc bs (sm_pu M0 (.int (bi R))) := by
  intro w x1 x2 hI  hf
  unfold fn_Pt_areComplete_48 at hf
  refine sm_iinc (v := (x2 + 1)) d_Pt_areComplete_48 (j := 2) rfl rfl (by decide) rfl ?_
  refine sm_goto (tgt := 2) d_Pt_areComplete_51 (by decide) ?_
  exact sm_pick [1, 2, 0] (hk2 _ _ _ hI hf) rfl

def fn_Pt_areComplete_2 (F : Nat) : Nat → wd → Int32 → Int32 → Option (Bool)
 | 0, _, _, _ => none
 | n9 + 1, w, x1, x2 => (if x1 ≤ x2 then some true else (if (64 : Int32) ≤ x2 then some true else (if 0 ≤ x2.toInt ∧ x2.toInt < 64 then (if (w 112 x2.toInt.toNat) = 0 then some false else (if 0 ≤ x2.toInt ∧ x2.toInt < 64 then (if (w 113 x2.toInt.toNat) = 0 then fn_Pt_areComplete_48 (fn_Pt_areComplete_2 F n9) F w x1 x2 else (if 0 ≤ x2.toInt ∧ x2.toInt < 64 then (if 0 ≤ x2.toInt ∧ x2.toInt < 64 then (if (w 113 x2.toInt.toNat) = (w 112 x2.toInt.toNat) then fn_Pt_areComplete_48 (fn_Pt_areComplete_2 F n9) F w x1 x2 else some false) else none) else none)) else none)) else none)))
set_option maxHeartbeats 1600000 in
set_option maxRecDepth 100000 in
theorem w_Pt_areComplete_2 {G : sm_G} {b : Nat} {M0 : sm_M} {bc bs : Nat} {Z : zd} {R : Bool} {F : Nat} (hZ : cz_at G b M0 Z) : ∀ (n9 : Nat), ∀ (w : wd) (x1 : Int32) (x2 : Int32), lo_in G cm_L b M0 M0 w → fn_Pt_areComplete_2 F n9 w x1 x2 = some R → sm_W G mf_Pt_areComplete 2 [(0, .ref (b + 110)), (1, .int x1), (2, .int x2)] [] M0 bc bs (sm_pu M0 (.int (bi R))) := by
  intro n9
  induction n9 with
  | zero => intro w x1 x2 hI  hf; cases hf
  | succ n9 ih =>
    intro w x1 x2 hI  hf
    rw [fn_Pt_areComplete_2] at hf
    refine sm_iload_n d_Pt_areComplete_2 rfl (j := 2) rfl ?_
    refine sm_iload_n d_Pt_areComplete_3 rfl (j := 1) rfl ?_
    refine sm_icmp_ge (tgt := 54) d_Pt_areComplete_4 (by decide) (fun h1 => ?_) (fun h1 => ?_)
    · rw [if_pos h1] at hf
      refine sm_iconst (v := 1) d_Pt_areComplete_54 (by decide) ?_
      cases hf
      refine sm_ireturn d_Pt_areComplete_55 rfl (by rfl) ?_
      exact ⟨rfl, rfl⟩
    · rw [if_neg h1] at hf
      refine sm_iload_n d_Pt_areComplete_7 rfl (j := 2) rfl ?_
      refine sm_bipush (v := 64) d_Pt_areComplete_8 (by decide) ?_
      refine sm_icmp_ge (tgt := 54) d_Pt_areComplete_10 (by decide) (fun h2 => ?_) (fun h2 => ?_)
      · rw [if_pos h2] at hf
        refine sm_iconst (v := 1) d_Pt_areComplete_54 (by decide) ?_
        cases hf
        refine sm_ireturn d_Pt_areComplete_55 rfl (by rfl) ?_
        exact ⟨rfl, rfl⟩
      · rw [if_neg h2] at hf
        refine sm_aload_n d_Pt_areComplete_13 rfl (j := 0) rfl ?_
        refine lo_get (v := .ref (b + 112)) d_Pt_areComplete_14 fg_Pt_15 hI cl_110 rfl ?_
        refine sm_iload_n d_Pt_areComplete_17 rfl (j := 2) rfl ?_
        obtain ⟨h3, hf⟩ := lo_chk hf
        refine lo_ald (j := x2.toInt.toNat) d_Pt_areComplete_18 hI cl_112 h3 rfl ?_
        refine sm_if_eq (tgt := 46) d_Pt_areComplete_19 (by decide) (fun h4 => ?_) (fun h4 => ?_)
        · rw [if_pos h4] at hf
          refine sm_iconst (v := 0) d_Pt_areComplete_46 (by decide) ?_
          cases hf
          refine sm_ireturn d_Pt_areComplete_47 rfl (by rfl) ?_
          exact ⟨rfl, rfl⟩
        · rw [if_neg h4] at hf
          refine sm_aload_n d_Pt_areComplete_22 rfl (j := 0) rfl ?_
          refine lo_get (v := .ref (b + 113)) d_Pt_areComplete_23 fg_Pt_18 hI cl_110 rfl ?_
          refine sm_iload_n d_Pt_areComplete_26 rfl (j := 2) rfl ?_
          obtain ⟨h5, hf⟩ := lo_chk hf
          refine lo_ald (j := x2.toInt.toNat) d_Pt_areComplete_27 hI cl_113 h5 rfl ?_
          refine sm_if_eq (tgt := 48) d_Pt_areComplete_28 (by decide) (fun h6 => ?_) (fun h6 => ?_)
          · rw [if_pos h6] at hf
            exact sm_pick [0, 1, 2] (w_Pt_areComplete_48 ih hZ _ _ _ hI hf) rfl
          · rw [if_neg h6] at hf
            refine sm_aload_n d_Pt_areComplete_31 rfl (j := 0) rfl ?_
            refine lo_get (v := .ref (b + 113)) d_Pt_areComplete_32 fg_Pt_18 hI cl_110 rfl ?_
            refine sm_iload_n d_Pt_areComplete_35 rfl (j := 2) rfl ?_
            obtain ⟨h7, hf⟩ := lo_chk hf
            refine lo_ald (j := x2.toInt.toNat) d_Pt_areComplete_36 hI cl_113 h7 rfl ?_
            refine sm_aload_n d_Pt_areComplete_37 rfl (j := 0) rfl ?_
            refine lo_get (v := .ref (b + 112)) d_Pt_areComplete_38 fg_Pt_15 hI cl_110 rfl ?_
            refine sm_iload_n d_Pt_areComplete_41 rfl (j := 2) rfl ?_
            obtain ⟨h8, hf⟩ := lo_chk hf
            refine lo_ald (j := x2.toInt.toNat) d_Pt_areComplete_42 hI cl_112 h8 rfl ?_
            refine sm_icmp_eq (tgt := 48) d_Pt_areComplete_43 (by decide) (fun h9 => ?_) (fun h9 => ?_)
            · rw [if_pos h9] at hf
              exact sm_pick [0, 1, 2] (w_Pt_areComplete_48 ih hZ _ _ _ hI hf) rfl
            · rw [if_neg h9] at hf
              refine sm_iconst (v := 0) d_Pt_areComplete_46 (by decide) ?_
              cases hf
              refine sm_ireturn d_Pt_areComplete_47 rfl (by rfl) ?_
              exact ⟨rfl, rfl⟩

def fn_Pt_areComplete (F : Nat) (w : wd) (x1 : Int32) : Option (Bool) := fn_Pt_areComplete_2 F F w x1 (0 : Int32)
set_option maxHeartbeats 1600000 in
set_option maxRecDepth 100000 in
theorem c_Pt_areComplete {G : sm_G} {b : Nat} {M0 M : sm_M} {Z : zd} {w : wd} {F : Nat} (hI : lo_in G cm_L b M0 M w) (hZ : cz_at G b M0 Z) (x1 : Int32)  {R : Bool} (hf : fn_Pt_areComplete F w x1 = some R) : sm_C G mf_Pt_areComplete [.ref (b + 110), .int x1] M 0 0 (sm_pu M (.int (bi R))) := by
  unfold fn_Pt_areComplete at hf
  have hZ := hZ.go hI.2
  have hI := hI.here
  refine sm_ofW rfl (Nat.le_of_ble_eq_true rfl) ?_
  refine sm_iconst (v := 0) d_Pt_areComplete_0 (by decide) ?_
  refine sm_istore_n d_Pt_areComplete_1 rfl (by decide) rfl ?_
  exact sm_pick [1, 2, 0] (w_Pt_areComplete_2 hZ _ _ _ _ hI hf) rfl

def fn_Pt_headsOfTile_32 (k4 : wd → Int32 → Int32 → Int32 → Option (Int32)) (F : Nat) (w : wd) (x1 : Int32) (x2 : Int32) (x3 : Int32) : Option (Int32) := k4 w x1 x2 (x3 + 1)
set_option maxHeartbeats 1600000 in
set_option maxRecDepth 100000 in
theorem w_Pt_headsOfTile_32 {G : sm_G} {b : Nat} {M0 : sm_M} {bc bs : Nat} {Z : zd} {R : Int32} {F : Nat} {k4 : wd → Int32 → Int32 → Int32 → Option (Int32)} (hk4 : ∀ (w : wd) (x1 : Int32) (x2 : Int32) (x3 : Int32), lo_in G cm_L b M0 M0 w → k4 w x1 x2 x3 = some R → sm_W G mf_Pt_headsOfTile 4 [(0, .ref (b + 110)), (1, .int x1), (2, .int x2), (3, .int x3)] [] M0 bc bs (sm_pu M0 (.int R))) (hZ : cz_at G b M0 Z) : ∀ (w : wd) (x1 : Int32) (x2 : Int32) (x3 : Int32), lo_in G cm_L b M0 M0 w → fn_Pt_headsOfTile_32 k4 F w x1 x2 x3 = some R → sm_W G mf_Pt_headsOfTile 32 [(0, .ref (b + 110)), (1, .int x1), (2, .int x2), (3, .int x3)] [] M0 bc bs (sm_pu M0 (.int R)) := by
  intro w x1 x2 x3 hI  hf
  unfold fn_Pt_headsOfTile_32 at hf
  refine sm_iinc (v := (x3 + 1)) d_Pt_headsOfTile_32 (j := 3) rfl rfl (by decide) rfl ?_
  refine sm_goto (tgt := 4) d_Pt_headsOfTile_35 (by decide) ?_
  exact sm_pick [1, 2, 3, 0] (hk4 _ _ _ _ hI hf) rfl

def fn_Pt_headsOfTile_4 (F : Nat) : Nat → wd → Int32 → Int32 → Int32 → Option (Int32)
 | 0, _, _, _, _ => none
 | n9 + 1, w, x1, x2, x3 => (if (w 110 1) ≤ x3 then some x2 else (if (fn_Pt_number w x3 (0 : Int32)) = x1 then fn_Pt_headsOfTile_32 (fn_Pt_headsOfTile_4 F n9) F w x1 (x2 + (fn_Pt_number w x3 (6 : Int32))) x3 else fn_Pt_headsOfTile_32 (fn_Pt_headsOfTile_4 F n9) F w x1 x2 x3))
set_option maxHeartbeats 1600000 in
set_option maxRecDepth 100000 in
theorem w_Pt_headsOfTile_4 {G : sm_G} {b : Nat} {M0 : sm_M} {bc bs : Nat} {Z : zd} {R : Int32} {F : Nat} (hZ : cz_at G b M0 Z) : ∀ (n9 : Nat), ∀ (w : wd) (x1 : Int32) (x2 : Int32) (x3 : Int32), lo_in G cm_L b M0 M0 w → fn_Pt_headsOfTile_4 F n9 w x1 x2 x3 = some R → sm_W G mf_Pt_headsOfTile 4 [(0, .ref (b + 110)), (1, .int x1), (2, .int x2), (3, .int x3)] [] M0 bc bs (sm_pu M0 (.int R)) := by
  intro n9
  induction n9 with
  | zero => intro w x1 x2 x3 hI  hf; cases hf
  | succ n9 ih =>
    intro w x1 x2 x3 hI  hf
    rw [fn_Pt_headsOfTile_4] at hf
    refine sm_iload_n d_Pt_headsOfTile_4 rfl (j := 3) rfl ?_
    refine sm_aload_n d_Pt_headsOfTile_5 rfl (j := 0) rfl ?_
    refine lo_get (v := .int (w 110 1)) d_Pt_headsOfTile_6 fg_Pt_24 hI cl_110 rfl ?_
    refine sm_icmp_ge (tgt := 38) d_Pt_headsOfTile_9 (by decide) (fun h1 => ?_) (fun h1 => ?_)
    · rw [if_pos h1] at hf
      refine sm_iload_n d_Pt_headsOfTile_38 rfl (j := 2) rfl ?_
      cases hf
      refine sm_ireturn d_Pt_headsOfTile_39 rfl (by rfl) ?_
      exact ⟨rfl, rfl⟩
    · rw [if_neg h1] at hf
      refine sm_aload_n d_Pt_headsOfTile_12 rfl (j := 0) rfl ?_
      refine sm_iload_n d_Pt_headsOfTile_13 rfl (j := 3) rfl ?_
      refine sm_iconst (v := 0) d_Pt_headsOfTile_14 (by decide) ?_
      refine lo_callV d_Pt_headsOfTile_15 cs_Pt_headsOfTile_42 rfl hI cl_110 (As := [.int x3, .int (0 : Int32)]) rfl rfl (Nat.le_of_ble_eq_true rfl) (c_Pt_number hI hZ x3 (0 : Int32)) ?_
      refine sm_iload_n d_Pt_headsOfTile_18 rfl (j := 1) rfl ?_
      refine sm_icmp_ne (tgt := 32) d_Pt_headsOfTile_19 (by decide) (fun h2 => ?_) (fun h2 => ?_)
      · rw [if_neg h2] at hf
        exact sm_pick [0, 1, 2, 3] (w_Pt_headsOfTile_32 ih hZ _ _ _ _ hI hf) rfl
      · rw [if_pos h2] at hf
        refine sm_iload_n d_Pt_headsOfTile_22 rfl (j := 2) rfl ?_
        refine sm_aload_n d_Pt_headsOfTile_23 rfl (j := 0) rfl ?_
        refine sm_iload_n d_Pt_headsOfTile_24 rfl (j := 3) rfl ?_
        refine sm_bipush (v := 6) d_Pt_headsOfTile_25 (by decide) ?_
        refine lo_callV d_Pt_headsOfTile_27 cs_Pt_headsOfTile_42 rfl hI cl_110 (As := [.int x3, .int (6 : Int32)]) rfl rfl (Nat.le_of_ble_eq_true rfl) (c_Pt_number hI hZ x3 (6 : Int32)) ?_
        refine sm_iadd d_Pt_headsOfTile_30 ?_
        refine sm_istore_n d_Pt_headsOfTile_31 rfl (by decide) rfl ?_
        exact sm_pick [1, 2, 0, 3] (w_Pt_headsOfTile_32 ih hZ _ _ _ _ hI hf) rfl

def fn_Pt_headsOfTile (F : Nat) (w : wd) (x1 : Int32) : Option (Int32) := fn_Pt_headsOfTile_4 F F w x1 (0 : Int32) (0 : Int32)
set_option maxHeartbeats 1600000 in
set_option maxRecDepth 100000 in
theorem c_Pt_headsOfTile {G : sm_G} {b : Nat} {M0 M : sm_M} {Z : zd} {w : wd} {F : Nat} (hI : lo_in G cm_L b M0 M w) (hZ : cz_at G b M0 Z) (x1 : Int32)  {R : Int32} (hf : fn_Pt_headsOfTile F w x1 = some R) : sm_C G mf_Pt_headsOfTile [.ref (b + 110), .int x1] M 0 0 (sm_pu M (.int R)) := by
  unfold fn_Pt_headsOfTile at hf
  have hZ := hZ.go hI.2
  have hI := hI.here
  refine sm_ofW rfl (Nat.le_of_ble_eq_true rfl) ?_
  refine sm_iconst (v := 0) d_Pt_headsOfTile_0 (by decide) ?_
  refine sm_istore_n d_Pt_headsOfTile_1 rfl (by decide) rfl ?_
  refine sm_iconst (v := 0) d_Pt_headsOfTile_2 (by decide) ?_
  refine sm_istore_n d_Pt_headsOfTile_3 rfl (by decide) rfl ?_
  exact sm_pick [2, 3, 1, 0] (w_Pt_headsOfTile_4 hZ _ _ _ _ _ hI hf) rfl

def fn_Pt_placeOfHead_62 (k5 : wd → Int32 → Int32 → Int32 → Option (Int32)) (F : Nat) (w : wd) (x1 : Int32) (x3 : Int32) (x4 : Int32) : Option (Int32) := k5 w x1 x3 (x4 + 1)
set_option maxHeartbeats 1600000 in
set_option maxRecDepth 100000 in
theorem w_Pt_placeOfHead_62 {G : sm_G} {b : Nat} {M0 : sm_M} {bc bs : Nat} {Z : zd} {R : Int32} {F : Nat} {k5 : wd → Int32 → Int32 → Int32 → Option (Int32)} (hk5 : ∀ (w : wd) (x1 : Int32) (x3 : Int32) (x4 : Int32), lo_in G cm_L b M0 M0 w → k5 w x1 x3 x4 = some R → sm_W G mf_Pt_placeOfHead 5 [(0, .ref (b + 110)), (1, .int x1), (3, .int x3), (4, .int x4)] [] M0 bc bs (sm_pu M0 (.int R))) (hZ : cz_at G b M0 Z) : ∀ (w : wd) (x1 : Int32) (x3 : Int32) (x4 : Int32), lo_in G cm_L b M0 M0 w → fn_Pt_placeOfHead_62 k5 F w x1 x3 x4 = some R → sm_W G mf_Pt_placeOfHead 62 [(0, .ref (b + 110)), (1, .int x1), (3, .int x3), (4, .int x4)] [] M0 bc bs (sm_pu M0 (.int R)) := by
  intro w x1 x3 x4 hI  hf
  unfold fn_Pt_placeOfHead_62 at hf
  refine sm_iinc (v := (x4 + 1)) d_Pt_placeOfHead_62 (j := 3) rfl rfl (by decide) rfl ?_
  refine sm_goto (tgt := 5) d_Pt_placeOfHead_65 (by decide) ?_
  exact sm_pick [1, 2, 3, 0] (hk5 _ _ _ _ hI hf) rfl

def fn_Pt_placeOfHead_5 (F : Nat) : Nat → wd → Int32 → Int32 → Int32 → Option (Int32)
 | 0, _, _, _, _ => none
 | n9 + 1, w, x1, x3, x4 => (if (w 110 1) ≤ x4 then some (-1 : Int32) else (if x3 < 0 then some (-1 : Int32) else (if (fn_Pt_number w x4 (0 : Int32)) = x1 then (if (fn_Pt_number w x4 (6 : Int32)) ≤ x3 then fn_Pt_placeOfHead_62 (fn_Pt_placeOfHead_5 F n9) F w x1 (x3 - (fn_Pt_number w x4 (6 : Int32))) x4 else some ((fn_Pt_number w x4 (5 : Int32)) + x3)) else fn_Pt_placeOfHead_62 (fn_Pt_placeOfHead_5 F n9) F w x1 x3 x4)))
set_option maxHeartbeats 1600000 in
set_option maxRecDepth 100000 in
theorem w_Pt_placeOfHead_5 {G : sm_G} {b : Nat} {M0 : sm_M} {bc bs : Nat} {Z : zd} {R : Int32} {F : Nat} (hZ : cz_at G b M0 Z) : ∀ (n9 : Nat), ∀ (w : wd) (x1 : Int32) (x3 : Int32) (x4 : Int32), lo_in G cm_L b M0 M0 w → fn_Pt_placeOfHead_5 F n9 w x1 x3 x4 = some R → sm_W G mf_Pt_placeOfHead 5 [(0, .ref (b + 110)), (1, .int x1), (3, .int x3), (4, .int x4)] [] M0 bc bs (sm_pu M0 (.int R)) := by
  intro n9
  induction n9 with
  | zero => intro w x1 x3 x4 hI  hf; cases hf
  | succ n9 ih =>
    intro w x1 x3 x4 hI  hf
    rw [fn_Pt_placeOfHead_5] at hf
    refine sm_iload d_Pt_placeOfHead_5 (j := 3) rfl ?_
    refine sm_aload_n d_Pt_placeOfHead_7 rfl (j := 0) rfl ?_
    refine lo_get (v := .int (w 110 1)) d_Pt_placeOfHead_8 fg_Pt_24 hI cl_110 rfl ?_
    refine sm_icmp_ge (tgt := 68) d_Pt_placeOfHead_11 (by decide) (fun h1 => ?_) (fun h1 => ?_)
    · rw [if_pos h1] at hf
      refine sm_iconst (v := -1) d_Pt_placeOfHead_68 (by decide) ?_
      cases hf
      refine sm_ireturn d_Pt_placeOfHead_69 rfl (by rfl) ?_
      exact ⟨rfl, rfl⟩
    · rw [if_neg h1] at hf
      refine sm_iload_n d_Pt_placeOfHead_14 rfl (j := 2) rfl ?_
      refine sm_if_lt (tgt := 68) d_Pt_placeOfHead_15 (by decide) (fun h2 => ?_) (fun h2 => ?_)
      · rw [if_pos h2] at hf
        refine sm_iconst (v := -1) d_Pt_placeOfHead_68 (by decide) ?_
        cases hf
        refine sm_ireturn d_Pt_placeOfHead_69 rfl (by rfl) ?_
        exact ⟨rfl, rfl⟩
      · rw [if_neg h2] at hf
        refine sm_aload_n d_Pt_placeOfHead_18 rfl (j := 0) rfl ?_
        refine sm_iload d_Pt_placeOfHead_19 (j := 3) rfl ?_
        refine sm_iconst (v := 0) d_Pt_placeOfHead_21 (by decide) ?_
        refine lo_callV d_Pt_placeOfHead_22 cs_Pt_placeOfHead_42 rfl hI cl_110 (As := [.int x4, .int (0 : Int32)]) rfl rfl (Nat.le_of_ble_eq_true rfl) (c_Pt_number hI hZ x4 (0 : Int32)) ?_
        refine sm_iload_n d_Pt_placeOfHead_25 rfl (j := 1) rfl ?_
        refine sm_icmp_ne (tgt := 62) d_Pt_placeOfHead_26 (by decide) (fun h3 => ?_) (fun h3 => ?_)
        · rw [if_neg h3] at hf
          exact sm_pick [0, 1, 2, 3] (w_Pt_placeOfHead_62 ih hZ _ _ _ _ hI hf) rfl
        · rw [if_pos h3] at hf
          refine sm_iload_n d_Pt_placeOfHead_29 rfl (j := 2) rfl ?_
          refine sm_aload_n d_Pt_placeOfHead_30 rfl (j := 0) rfl ?_
          refine sm_iload d_Pt_placeOfHead_31 (j := 3) rfl ?_
          refine sm_bipush (v := 6) d_Pt_placeOfHead_33 (by decide) ?_
          refine lo_callV d_Pt_placeOfHead_35 cs_Pt_placeOfHead_42 rfl hI cl_110 (As := [.int x4, .int (6 : Int32)]) rfl rfl (Nat.le_of_ble_eq_true rfl) (c_Pt_number hI hZ x4 (6 : Int32)) ?_
          refine sm_icmp_ge (tgt := 51) d_Pt_placeOfHead_38 (by decide) (fun h4 => ?_) (fun h4 => ?_)
          · rw [if_pos h4] at hf
            refine sm_iload_n d_Pt_placeOfHead_51 rfl (j := 2) rfl ?_
            refine sm_aload_n d_Pt_placeOfHead_52 rfl (j := 0) rfl ?_
            refine sm_iload d_Pt_placeOfHead_53 (j := 3) rfl ?_
            refine sm_bipush (v := 6) d_Pt_placeOfHead_55 (by decide) ?_
            refine lo_callV d_Pt_placeOfHead_57 cs_Pt_placeOfHead_42 rfl hI cl_110 (As := [.int x4, .int (6 : Int32)]) rfl rfl (Nat.le_of_ble_eq_true rfl) (c_Pt_number hI hZ x4 (6 : Int32)) ?_
            refine sm_isub d_Pt_placeOfHead_60 ?_
            refine sm_istore_n d_Pt_placeOfHead_61 rfl (by decide) rfl ?_
            exact sm_pick [1, 2, 0, 3] (w_Pt_placeOfHead_62 ih hZ _ _ _ _ hI hf) rfl
          · rw [if_neg h4] at hf
            refine sm_aload_n d_Pt_placeOfHead_41 rfl (j := 0) rfl ?_
            refine sm_iload d_Pt_placeOfHead_42 (j := 3) rfl ?_
            refine sm_iconst (v := 5) d_Pt_placeOfHead_44 (by decide) ?_
            refine lo_callV d_Pt_placeOfHead_45 cs_Pt_placeOfHead_42 rfl hI cl_110 (As := [.int x4, .int (5 : Int32)]) rfl rfl (Nat.le_of_ble_eq_true rfl) (c_Pt_number hI hZ x4 (5 : Int32)) ?_
            refine sm_iload_n d_Pt_placeOfHead_48 rfl (j := 2) rfl ?_
            refine sm_iadd d_Pt_placeOfHead_49 ?_
            cases hf
            refine sm_ireturn d_Pt_placeOfHead_50 rfl (by rfl) ?_
            exact ⟨rfl, rfl⟩

def fn_Pt_placeOfHead (F : Nat) (w : wd) (x1 : Int32) (x2 : Int32) : Option (Int32) := fn_Pt_placeOfHead_5 F F w x1 x2 (0 : Int32)
set_option maxHeartbeats 1600000 in
set_option maxRecDepth 100000 in
theorem c_Pt_placeOfHead {G : sm_G} {b : Nat} {M0 M : sm_M} {Z : zd} {w : wd} {F : Nat} (hI : lo_in G cm_L b M0 M w) (hZ : cz_at G b M0 Z) (x1 : Int32) (x2 : Int32)  {R : Int32} (hf : fn_Pt_placeOfHead F w x1 x2 = some R) : sm_C G mf_Pt_placeOfHead [.ref (b + 110), .int x1, .int x2] M 0 0 (sm_pu M (.int R)) := by
  unfold fn_Pt_placeOfHead at hf
  have hZ := hZ.go hI.2
  have hI := hI.here
  refine sm_ofW rfl (Nat.le_of_ble_eq_true rfl) ?_
  refine sm_iload_n d_Pt_placeOfHead_0 rfl (j := 2) rfl ?_
  refine sm_istore_n d_Pt_placeOfHead_1 rfl (by decide) rfl ?_
  refine sm_iconst (v := 0) d_Pt_placeOfHead_2 (by decide) ?_
  refine sm_istore d_Pt_placeOfHead_3 (by decide) rfl ?_
  exact sm_pick [2, 3, 1, 0] (w_Pt_placeOfHead_5 hZ _ _ _ _ _ hI hf) rfl

