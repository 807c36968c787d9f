/-! the law's state: both objects and the array of one long; the law's helpers -/
def lwi (G : sm_G) (b : Nat) (M : sm_M) (w : wd) (Z : zd) (w' : wd) (g : Nat → Int64) : Prop := lo_at G cm_L b M w ∧ cz_at G b M Z ∧ lo_at G md_L (b + 116) M w' ∧ M.1 (b + 137) = some (.inl (G.2.1 2, 1, .inr (.inl g)))
def hp_Q (G : sm_G) (b : Nat) (w : wd) (Z : zd) (w' : wd) (k : Int32) (v : Option Int64) : sm_O → sm_M → Prop := fun o M' => o = .inl (some (.int k)) ∧ ∃ g, lwi G b M' w Z w' g ∧ ∀ u, v = some u → g 0 = u
def ov (o : Int32 ⊕ String) : Option Int64 := match o with
  | .inl u => some u.toInt64
  | .inr _ => none
theorem cd2_1 {τ : Type} (e : String) : cd2 e (.inr e : τ ⊕ String) = 1 := by
  show (if e = e then (1 : Int32) else 2) = 1
  rw [if_pos rfl]
theorem cd2_2 {τ : Type} {e x : String} (h : x ≠ e) : cd2 e (.inr x : τ ⊕ String) = 2 := by
  show (if x = e then (1 : Int32) else 2) = 2
  rw [if_neg h]
theorem oV_inr {o : Unit ⊕ String} {X : String} (h : oV o = .inr X) : o = .inr X := by
  cases o with
  | inl u => cases h
  | inr x => cases h; rfl
theorem oV_inl {o : Unit ⊕ String} {v : Option Value} (h : oV o = .inl v) : ∃ u, o = .inl u ∧ none = v := by
  cases o with
  | inl u => cases h; exact ⟨u, rfl, rfl⟩
  | inr x => cases h
theorem oI_inr {o : Int32 ⊕ String} {X : String} (h : oI o = .inr X) : o = .inr X := by
  cases o with
  | inl u => cases h
  | inr x => cases h; rfl
theorem oI_inl {o : Int32 ⊕ String} {v : Option Value} (h : oI o = .inl v) : ∃ u, o = .inl u ∧ some (.int u) = v := by
  cases o with
  | inl u => cases h; exact ⟨u, rfl, rfl⟩
  | inr x => cases h
theorem md_lt {a : Nat} {t : lo_T} (h : md_L a = some t) : a < 21 := by
  unfold md_L at h
  split at h <;> first | omega | cases h
theorem in01 : vp_in 0 1 := vp_in_iff.mpr ⟨by decide, by decide⟩
section LWA
variable {G : sm_G} {b : Nat} {M M1 : sm_M} {w w1 w' w1' : wd} {Z Z1 : zd} {g : Nat → Int64}
theorem lwi.os (h : lwi G b M w Z w' g) : os_in G b M M w Z := ⟨h.1, h.2.1, os_fr.rf⟩
theorem lwi.go (h : lwi G b M w Z w' g) (h1 : os_in G b M M1 w1 Z1) : lwi G b M1 w1 Z1 w' g := by
  obtain ⟨a1, a2, a3, a4⟩ := h
  obtain ⟨b1, b2, b3, b4⟩ := h1
  refine ⟨b1, b2, fun a t hL => ?_, (b4 _ (by omega)).trans a4⟩
  have := md_lt hL
  exact (b4 _ (by omega)).trans (a3 a t hL)
theorem cz_keep (h : cz_at G b M Z) (hz : M.2 ≤ M1.2) (h3 : M1.1 (b + 3) = M.1 (b + 3)) (h4 : M1.1 (b + 101) = M.1 (b + 101)) (h5 : M1.1 (b + 103) = M.1 (b + 103)) (h6 : M1.1 (b + 106) = M.1 (b + 106)) (h7 : ∀ q, cz_q b q → M1.1 q = M.1 q) : cz_at G b M1 Z := by
  obtain ⟨g1, g2, q1, q2, q3, r1, r2, r3, ⟨k1, k2, k3⟩, hn⟩ := h
  exact ⟨h3.trans g1, Nat.le_trans g2 hz, q1, q2, q3, r1.keep hz h4 (h7 _ k1), r2.keep hz h5 (h7 _ k2), r3.keep hz h6 (h7 _ k3), ⟨k1, k2, k3⟩, hn⟩
theorem lwi.out {k : Nat} {x : Int64} (h : lwi G b M w Z w' g) : lwi G b (va_up M.1 (b + 137) (some (.inl (G.2.1 2, 1, .inr (.inl (vp_updL g k x))))), M.2) w Z w' (vp_updL g k x) := by
  obtain ⟨a1, a2, a3, a4⟩ := h
  refine ⟨fun a t hL => ?_, cz_keep a2 (Nat.le_refl _) (va_up_ne _ _ (by omega)) (va_up_ne _ _ (by omega)) (va_up_ne _ _ (by omega)) (va_up_ne _ _ (by omega)) (fun q hq => va_up_ne _ _ (by rcases hq with h | h | h | h <;> omega)), fun a t hL => ?_, va_up_self _ _ _⟩
  · have := cl_lt hL
    exact (va_up_ne _ _ (by omega)).trans (a1 a t hL)
  · have := md_lt hL
    exact (va_up_ne _ _ (by omega)).trans (a3 a t hL)
theorem lwi.md (h : lwi G b M w Z w' g) (h1 : lo_in G md_L (b + 116) M M1 w1') : lwi G b M1 w Z w1' g := by
  obtain ⟨a1, a2, a3, a4⟩ := h
  obtain ⟨b1, b2, b3⟩ := h1
  have key : ∀ x, x < b + 116 ∨ b + 137 ≤ x → M1.1 x = M.1 x := fun x hx => b3 x (fun a t hL => by have := md_lt hL; omega)
  refine ⟨fun a t hL => ?_, cz_keep a2 (by rw [b2]; exact Nat.le_refl _) (key _ (by omega)) (key _ (by omega)) (key _ (by omega)) (key _ (by omega)) (fun q hq => key _ (by rcases hq with h | h | h | h <;> omega)), b1, (key _ (by omega)).trans a4⟩
  have := cl_lt hL
  exact (key _ (by omega)).trans (a1 a t hL)
theorem hp_of {k k' : Int32} {v : Option Int64} (h : lwi G b M w Z w' g) (hk : k = k') (hv : ∀ u, v = some u → g 0 = u) : hp_Q G b w Z w' k' v (.inl (some (.int k))) M := ⟨by rw [hk], g, h, hv⟩
end LWA

theorem hn_picture_0 : sm_Hnd mf_Lw_picture 6 "java/lang/IllegalArgumentException" 12 := ⟨[], ((0 : Nat), (9 : Nat), (12 : Nat), (13 : Nat)), [], "java/lang/IllegalArgumentException", rfl, ⟨by decide, by decide⟩, rfl, by decide, mw_737, mn_745, fun y hy => by cases hy⟩
set_option maxRecDepth 10000 in
theorem c_Lw_picture {G : sm_G} {b : Nat} {M : sm_M} {w w' : wd} {Z : zd} {g : Nat → Int64} (hL : lwi G b M w Z w' g) (x1 : Int32) (x2 : Int32) (x3 : Int32) (x4 : Int32) {R : (Unit ⊕ String) × wd × zd} (hf : fn_SM_picture Z w x1 x2 x3 x4 = R) : sm_C G mf_Lw_picture [.ref b, .int x1, .int x2, .int x3, .int x4] M (2 * (zc R.2.2 - zc Z) + os_e (oV R.1) 1) (2 * (zc R.2.2 - zc Z) + os_e (oV R.1) 6) (hp_Q G b (R.2.1) (R.2.2) w' (cd1 R.1) (none)) := by
  have hS := hL.os
  refine sm_ofW rfl (Nat.le_of_ble_eq_true rfl) ?_
  refine sm_aload_n d_Lw_picture_0 rfl (j := 0) rfl ?_
  refine sm_iload_n d_Lw_picture_1 rfl (j := 1) rfl ?_
  refine sm_iload_n d_Lw_picture_2 rfl (j := 2) rfl ?_
  refine sm_iload_n d_Lw_picture_3 rfl (j := 3) rfl ?_
  refine sm_iload d_Lw_picture_4 (j := 4) rfl ?_
  refine sm_callVH (b := b) (bc' := 0) (bs' := 0) d_Lw_picture_6 cs_Lw_picture_7 (hL.1 0 _ cl_0) (As := [.int x1, .int x2, .int x3, .int x4]) rfl rfl (Nat.le_of_ble_eq_true rfl) (Nat.le_refl _) (Nat.le_refl _) (c_SM_picture hS x1 x2 x3 x4 hf) (fun X M1 h => ?_) (fun v M1 h => ?_)
  · obtain ⟨h1, h2⟩ := h
    have hX := oV_inr h1.symm
    have e9 := (ex_picture Z w x1 x2 x3 x4 X (by rw [hf]; exact hX))
    subst e9
    refine ⟨12, hn_picture_0, fun q => ?_⟩
    refine sm_astore d_Lw_picture_12 (by decide) rfl ?_
    refine sm_iconst (v := 1) d_Lw_picture_14 (by decide) ?_
    exact sm_ireturn d_Lw_picture_15 rfl rfl (hp_of (hL.go h2) (by rw [hX]; rfl) (fun u hu => by cases hu))
  · obtain ⟨h1, h2⟩ := h
    obtain ⟨u, hu, rfl⟩ := oV_inl h1.symm
    refine sm_goto (tgt := 16) d_Lw_picture_9 (by decide) ?_
    refine sm_iconst (v := 0) d_Lw_picture_16 (by decide) ?_
    exact sm_ireturn d_Lw_picture_17 rfl rfl (hp_of (hL.go h2) (by rw [hu]; rfl) (fun u hu => by cases hu))
theorem hn_tiles_0 : sm_Hnd mf_Lw_tiles 6 "java/lang/IllegalStateException" 12 := ⟨[], ((0 : Nat), (9 : Nat), (12 : Nat), (18 : Nat)), [((0 : Nat), (9 : Nat), (16 : Nat), (13 : Nat))], "java/lang/IllegalStateException", rfl, ⟨by decide, by decide⟩, rfl, by decide, mw_816, mn_827, fun y hy => by cases hy⟩
theorem hn_tiles_1 : sm_Hnd mf_Lw_tiles 6 "java/lang/IllegalArgumentException" 16 := ⟨[((0 : Nat), (9 : Nat), (12 : Nat), (18 : Nat))], ((0 : Nat), (9 : Nat), (16 : Nat), (13 : Nat)), [], "java/lang/IllegalArgumentException", rfl, ⟨by decide, by decide⟩, rfl, by decide, mw_737, mn_745, fun y hy => by
  rw [List.mem_singleton] at hy
  subst hy
  exact ⟨⟨by decide, by decide⟩, by decide, "java/lang/IllegalStateException", mw_816, List.mem_of_getElem? (i := 25) rfl⟩⟩
set_option maxRecDepth 10000 in
theorem c_Lw_tiles {G : sm_G} {b : Nat} {M : sm_M} {w w' : wd} {Z : zd} {g : Nat → Int64} (hL : lwi G b M w Z w' g) (x1 : Int32) (x2 : Int32) (x3 : Int32) (x4 : Int32) {R : (Unit ⊕ String) × wd × zd} (hf : fn_SM_tiles Z w x1 x2 x3 x4 = R) : sm_C G mf_Lw_tiles [.ref b, .int x1, .int x2, .int x3, .int x4] M (2 * (zc R.2.2 - zc Z) + os_e (oV R.1) 1) (2 * (zc R.2.2 - zc Z) + os_e (oV R.1) 6) (hp_Q G b (R.2.1) (R.2.2) w' (cd2 "java/lang/IllegalStateException" R.1) (none)) := by
  have hS := hL.os
  refine sm_ofW rfl (Nat.le_of_ble_eq_true rfl) ?_
  refine sm_aload_n d_Lw_tiles_0 rfl (j := 0) rfl ?_
  refine sm_iload_n d_Lw_tiles_1 rfl (j := 1) rfl ?_
  refine sm_iload_n d_Lw_tiles_2 rfl (j := 2) rfl ?_
  refine sm_iload_n d_Lw_tiles_3 rfl (j := 3) rfl ?_
  refine sm_iload d_Lw_tiles_4 (j := 4) rfl ?_
  refine sm_callVH (b := b) (bc' := 0) (bs' := 0) d_Lw_tiles_6 cs_Lw_tiles_15 (hL.1 0 _ cl_0) (As := [.int x1, .int x2, .int x3, .int x4]) rfl rfl (Nat.le_of_ble_eq_true rfl) (Nat.le_refl _) (Nat.le_refl _) (c_SM_tiles hS x1 x2 x3 x4 hf) (fun X M1 h => ?_) (fun v M1 h => ?_)
  · obtain ⟨h1, h2⟩ := h
    have hX := oV_inr h1.symm
    rcases (ex_tiles Z w x1 x2 x3 x4 X (by rw [hf]; exact hX)) with rfl | rfl
    · refine ⟨12, hn_tiles_0, fun q => ?_⟩
      refine sm_astore d_Lw_tiles_12 (by decide) rfl ?_
      refine sm_iconst (v := 1) d_Lw_tiles_14 (by decide) ?_
      exact sm_ireturn d_Lw_tiles_15 rfl rfl (hp_of (hL.go h2) (by rw [hX, cd2_1]) (fun u hu => by cases hu))
    · refine ⟨16, hn_tiles_1, fun q => ?_⟩
      refine sm_astore d_Lw_tiles_16 (by decide) rfl ?_
      refine sm_iconst (v := 2) d_Lw_tiles_18 (by decide) ?_
      exact sm_ireturn d_Lw_tiles_19 rfl rfl (hp_of (hL.go h2) (by rw [hX, cd2_2 (by decide)]) (fun u hu => by cases hu))
  · obtain ⟨h1, h2⟩ := h
    obtain ⟨u, hu, rfl⟩ := oV_inl h1.symm
    refine sm_goto (tgt := 20) d_Lw_tiles_9 (by decide) ?_
    refine sm_iconst (v := 0) d_Lw_tiles_20 (by decide) ?_
    exact sm_ireturn d_Lw_tiles_21 rfl rfl (hp_of (hL.go h2) (by rw [hu]; rfl) (fun u hu => by cases hu))
theorem hn_component_0 : sm_Hnd mf_Lw_component 9 "java/lang/IllegalArgumentException" 17 := ⟨[], ((0 : Nat), (14 : Nat), (17 : Nat), (13 : Nat)), [((0 : Nat), (14 : Nat), (21 : Nat), (18 : Nat))], "java/lang/IllegalArgumentException", rfl, ⟨by decide, by decide⟩, rfl, by decide, mw_737, mn_745, fun y hy => by cases hy⟩
theorem hn_component_1 : sm_Hnd mf_Lw_component 9 "java/lang/IllegalStateException" 21 := ⟨[((0 : Nat), (14 : Nat), (17 : Nat), (13 : Nat))], ((0 : Nat), (14 : Nat), (21 : Nat), (18 : Nat)), [], "java/lang/IllegalStateException", rfl, ⟨by decide, by decide⟩, rfl, by decide, mw_816, mn_827, fun y hy => by
  rw [List.mem_singleton] at hy
  subst hy
  exact ⟨⟨by decide, by decide⟩, by decide, "java/lang/IllegalArgumentException", mw_737, List.mem_of_getElem? (i := 11) rfl⟩⟩
set_option maxRecDepth 10000 in
theorem c_Lw_component {G : sm_G} {b : Nat} {M : sm_M} {w w' : wd} {Z : zd} {g : Nat → Int64} (hL : lwi G b M w Z w' g) (x1 : Int32) (x2 : Bool) (x3 : Int32) (x4 : Int32) {R : (Int32 ⊕ String) × wd × zd} (hf : fn_SM_component Z w x1 x2 x3 x4 = R) : sm_C G mf_Lw_component [.ref b, .int x1, .int (bi x2), .int x3, .int x4, .ref (b + 137)] M (2 * (zc R.2.2 - zc Z) + os_e (oI R.1) 1) (2 * (zc R.2.2 - zc Z) + os_e (oI R.1) 6) (hp_Q G b (R.2.1) (R.2.2) w' (cd2 "java/lang/IllegalArgumentException" R.1) (ov R.1)) := by
  have hS := hL.os
  refine sm_ofW rfl (Nat.le_of_ble_eq_true rfl) ?_
  refine sm_aload d_Lw_component_0 (j := 5) rfl ?_
  refine sm_iconst (v := 0) d_Lw_component_2 (by decide) ?_
  refine sm_aload_n d_Lw_component_3 rfl (j := 0) rfl ?_
  refine sm_iload_n d_Lw_component_4 rfl (j := 1) rfl ?_
  refine sm_iload_n d_Lw_component_5 rfl (j := 2) rfl ?_
  refine sm_iload_n d_Lw_component_6 rfl (j := 3) rfl ?_
  refine sm_iload d_Lw_component_7 (j := 4) rfl ?_
  refine sm_callVH (b := b) (bc' := 0) (bs' := 0) d_Lw_component_9 cs_Lw_component_20 (hL.1 0 _ cl_0) (As := [.int x1, .int (bi x2), .int x3, .int x4]) rfl rfl (Nat.le_of_ble_eq_true rfl) (Nat.le_refl _) (Nat.le_refl _) (c_SM_component hS x1 x2 x3 x4 hf) (fun X M1 h => ?_) (fun v M1 h => ?_)
  · obtain ⟨h1, h2⟩ := h
    have hX := oI_inr h1.symm
    rcases (ex_component Z w x1 x2 x3 x4 X (by rw [hf]; exact hX)) with rfl | rfl
    · refine ⟨17, hn_component_0, fun q => ?_⟩
      refine sm_astore d_Lw_component_17 (by decide) rfl ?_
      refine sm_iconst (v := 1) d_Lw_component_19 (by decide) ?_
      exact sm_ireturn d_Lw_component_20 rfl rfl (hp_of (hL.go h2) (by rw [hX, cd2_1]) (fun u hu => by rw [hX] at hu; cases hu))
    · refine ⟨21, hn_component_1, fun q => ?_⟩
      refine sm_astore d_Lw_component_21 (by decide) rfl ?_
      refine sm_iconst (v := 2) d_Lw_component_23 (by decide) ?_
      exact sm_ireturn d_Lw_component_24 rfl rfl (hp_of (hL.go h2) (by rw [hX, cd2_2 (by decide)]) (fun u hu => by rw [hX] at hu; cases hu))
  · obtain ⟨h1, h2⟩ := h
    obtain ⟨u, hu, rfl⟩ := oI_inl h1.symm
    refine sm_i2l d_Lw_component_12 ?_
    refine sm_lastore d_Lw_component_13 (hL.go h2).2.2.2 in01 ?_
    refine sm_goto (tgt := 25) d_Lw_component_14 (by decide) ?_
    refine sm_iconst (v := 0) d_Lw_component_25 (by decide) ?_
    exact sm_ireturn d_Lw_component_26 rfl rfl (hp_of (hL.go h2).out (by rw [hu]; rfl) (fun u9 hu9 => by rw [hu] at hu9; cases hu9; rfl))
theorem hn_general_0 : sm_Hnd mf_Lw_general 8 "java/lang/IllegalArgumentException" 14 := ⟨[], ((0 : Nat), (11 : Nat), (14 : Nat), (13 : Nat)), [], "java/lang/IllegalArgumentException", rfl, ⟨by decide, by decide⟩, rfl, by decide, mw_737, mn_745, fun y hy => by cases hy⟩
set_option maxRecDepth 10000 in
theorem c_Lw_general {G : sm_G} {b : Nat} {M : sm_M} {w w' : wd} {Z : zd} {g : Nat → Int64} (hL : lwi G b M w Z w' g) (x1 : Int32) (x2 : Int32) (x3 : Bool) (x4 : Bool) (x5 : Bool) {R : (Unit ⊕ String) × wd × zd} (hf : fn_SM_general Z w x1 x2 x3 x4 x5 = R) : sm_C G mf_Lw_general [.ref b, .int x1, .int x2, .int (bi x3), .int (bi x4), .int (bi x5)] M (2 * (zc R.2.2 - zc Z) + os_e (oV R.1) 1) (2 * (zc R.2.2 - zc Z) + os_e (oV R.1) 6) (hp_Q G b (R.2.1) (R.2.2) w' (cd1 R.1) (none)) := by
  have hS := hL.os
  refine sm_ofW rfl (Nat.le_of_ble_eq_true rfl) ?_
  refine sm_aload_n d_Lw_general_0 rfl (j := 0) rfl ?_
  refine sm_iload_n d_Lw_general_1 rfl (j := 1) rfl ?_
  refine sm_iload_n d_Lw_general_2 rfl (j := 2) rfl ?_
  refine sm_iload_n d_Lw_general_3 rfl (j := 3) rfl ?_
  refine sm_iload d_Lw_general_4 (j := 4) rfl ?_
  refine sm_iload d_Lw_general_6 (j := 5) rfl ?_
  refine sm_callVH (b := b) (bc' := 0) (bs' := 0) d_Lw_general_8 cs_Lw_general_24 (hL.1 0 _ cl_0) (As := [.int x1, .int x2, .int (bi x3), .int (bi x4), .int (bi x5)]) rfl rfl (Nat.le_of_ble_eq_true rfl) (Nat.le_refl _) (Nat.le_refl _) (c_SM_general hS x1 x2 x3 x4 x5 hf) (fun X M1 h => ?_) (fun v M1 h => ?_)
  · obtain ⟨h1, h2⟩ := h
    have hX := oV_inr h1.symm
    have e9 := (ex_general Z w x1 x2 x3 x4 x5 X (by rw [hf]; exact hX))
    subst e9
    refine ⟨14, hn_general_0, fun q => ?_⟩
    refine sm_astore d_Lw_general_14 (by decide) rfl ?_
    refine sm_iconst (v := 1) d_Lw_general_16 (by decide) ?_
    exact sm_ireturn d_Lw_general_17 rfl rfl (hp_of (hL.go h2) (by rw [hX]; rfl) (fun u hu => by cases hu))
  · obtain ⟨h1, h2⟩ := h
    obtain ⟨u, hu, rfl⟩ := oV_inl h1.symm
    refine sm_goto (tgt := 18) d_Lw_general_11 (by decide) ?_
    refine sm_iconst (v := 0) d_Lw_general_18 (by decide) ?_
    exact sm_ireturn d_Lw_general_19 rfl rfl (hp_of (hL.go h2) (by rw [hu]; rfl) (fun u hu => by cases hu))
theorem hn_coding_0 : sm_Hnd mf_Lw_coding 10 "java/util/NoSuchElementException" 16 := ⟨[], ((0 : Nat), (13 : Nat), (16 : Nat), (32 : Nat)), [((0 : Nat), (13 : Nat), (20 : Nat), (13 : Nat))], "java/util/NoSuchElementException", rfl, ⟨by decide, by decide⟩, rfl, by decide, mw_870, mn_882, fun y hy => by cases hy⟩
theorem hn_coding_1 : sm_Hnd mf_Lw_coding 10 "java/lang/IllegalArgumentException" 20 := ⟨[((0 : Nat), (13 : Nat), (16 : Nat), (32 : Nat))], ((0 : Nat), (13 : Nat), (20 : Nat), (13 : Nat)), [], "java/lang/IllegalArgumentException", rfl, ⟨by decide, by decide⟩, rfl, by decide, mw_737, mn_745, fun y hy => by
  rw [List.mem_singleton] at hy
  subst hy
  exact ⟨⟨by decide, by decide⟩, by decide, "java/util/NoSuchElementException", mw_870, List.mem_of_getElem? (i := 39) rfl⟩⟩
set_option maxRecDepth 10000 in
theorem c_Lw_coding {G : sm_G} {b : Nat} {M : sm_M} {w w' : wd} {Z : zd} {g : Nat → Int64} (hL : lwi G b M w Z w' g) (x1 : Int32) (x2 : Int32) (x3 : Int32) (x4 : Int32) (x5 : Int32) (x6 : Bool) {R : (Unit ⊕ String) × wd × zd} (hf : fn_SM_coding Z w x1 x2 x3 x4 x5 x6 = R) : sm_C G mf_Lw_coding [.ref b, .int x1, .int x2, .int x3, .int x4, .int x5, .int (bi x6)] M (2 * (zc R.2.2 - zc Z) + os_e (oV R.1) 1) (2 * (zc R.2.2 - zc Z) + os_e (oV R.1) 6) (hp_Q G b (R.2.1) (R.2.2) w' (cd2 "java/util/NoSuchElementException" R.1) (none)) := by
  have hS := hL.os
  refine sm_ofW rfl (Nat.le_of_ble_eq_true rfl) ?_
  refine sm_aload_n d_Lw_coding_0 rfl (j := 0) rfl ?_
  refine sm_iload_n d_Lw_coding_1 rfl (j := 1) rfl ?_
  refine sm_iload_n d_Lw_coding_2 rfl (j := 2) rfl ?_
  refine sm_iload_n d_Lw_coding_3 rfl (j := 3) rfl ?_
  refine sm_iload d_Lw_coding_4 (j := 4) rfl ?_
  refine sm_iload d_Lw_coding_6 (j := 5) rfl ?_
  refine sm_iload d_Lw_coding_8 (j := 6) rfl ?_
  refine sm_callVH (b := b) (bc' := 0) (bs' := 0) d_Lw_coding_10 cs_Lw_coding_28 (hL.1 0 _ cl_0) (As := [.int x1, .int x2, .int x3, .int x4, .int x5, .int (bi x6)]) rfl rfl (Nat.le_of_ble_eq_true rfl) (Nat.le_refl _) (Nat.le_refl _) (c_SM_coding hS x1 x2 x3 x4 x5 x6 hf) (fun X M1 h => ?_) (fun v M1 h => ?_)
  · obtain ⟨h1, h2⟩ := h
    have hX := oV_inr h1.symm
    rcases (ex_coding Z w x1 x2 x3 x4 x5 x6 X (by rw [hf]; exact hX)) with rfl | rfl
    · refine ⟨16, hn_coding_0, fun q => ?_⟩
      refine sm_astore d_Lw_coding_16 (by decide) rfl ?_
      refine sm_iconst (v := 1) d_Lw_coding_18 (by decide) ?_
      exact sm_ireturn d_Lw_coding_19 rfl rfl (hp_of (hL.go h2) (by rw [hX, cd2_1]) (fun u hu => by cases hu))
    · refine ⟨20, hn_coding_1, fun q => ?_⟩
      refine sm_astore d_Lw_coding_20 (by decide) rfl ?_
      refine sm_iconst (v := 2) d_Lw_coding_22 (by decide) ?_
      exact sm_ireturn d_Lw_coding_23 rfl rfl (hp_of (hL.go h2) (by rw [hX, cd2_2 (by decide)]) (fun u hu => by cases hu))
  · obtain ⟨h1, h2⟩ := h
    obtain ⟨u, hu, rfl⟩ := oV_inl h1.symm
    refine sm_goto (tgt := 24) d_Lw_coding_13 (by decide) ?_
    refine sm_iconst (v := 0) d_Lw_coding_24 (by decide) ?_
    exact sm_ireturn d_Lw_coding_25 rfl rfl (hp_of (hL.go h2) (by rw [hu]; rfl) (fun u hu => by cases hu))
theorem hn_precincts_0 : sm_Hnd mf_Lw_precincts 6 "java/util/NoSuchElementException" 12 := ⟨[], ((0 : Nat), (9 : Nat), (12 : Nat), (32 : Nat)), [((0 : Nat), (9 : Nat), (16 : Nat), (13 : Nat))], "java/util/NoSuchElementException", rfl, ⟨by decide, by decide⟩, rfl, by decide, mw_870, mn_882, fun y hy => by cases hy⟩
theorem hn_precincts_1 : sm_Hnd mf_Lw_precincts 6 "java/lang/IllegalArgumentException" 16 := ⟨[((0 : Nat), (9 : Nat), (12 : Nat), (32 : Nat))], ((0 : Nat), (9 : Nat), (16 : Nat), (13 : Nat)), [], "java/lang/IllegalArgumentException", rfl, ⟨by decide, by decide⟩, rfl, by decide, mw_737, mn_745, fun y hy => by
  rw [List.mem_singleton] at hy
  subst hy
  exact ⟨⟨by decide, by decide⟩, by decide, "java/util/NoSuchElementException", mw_870, List.mem_of_getElem? (i := 39) rfl⟩⟩
set_option maxRecDepth 10000 in
theorem c_Lw_precincts {G : sm_G} {b : Nat} {M : sm_M} {w w' : wd} {Z : zd} {g : Nat → Int64} (hL : lwi G b M w Z w' g) (x1 : Int32) (x2 : Int32) (x3 : Int32) (x4 : Int32) {R : (Unit ⊕ String) × wd × zd} (hf : fn_SM_precincts Z w x1 x2 x3 x4 = R) : sm_C G mf_Lw_precincts [.ref b, .int x1, .int x2, .int x3, .int x4] M (2 * (zc R.2.2 - zc Z) + os_e (oV R.1) 1) (2 * (zc R.2.2 - zc Z) + os_e (oV R.1) 6) (hp_Q G b (R.2.1) (R.2.2) w' (cd2 "java/util/NoSuchElementException" R.1) (none)) := by
  have hS := hL.os
  refine sm_ofW rfl (Nat.le_of_ble_eq_true rfl) ?_
  refine sm_aload_n d_Lw_precincts_0 rfl (j := 0) rfl ?_
  refine sm_iload_n d_Lw_precincts_1 rfl (j := 1) rfl ?_
  refine sm_iload_n d_Lw_precincts_2 rfl (j := 2) rfl ?_
  refine sm_iload_n d_Lw_precincts_3 rfl (j := 3) rfl ?_
  refine sm_iload d_Lw_precincts_4 (j := 4) rfl ?_
  refine sm_callVH (b := b) (bc' := 0) (bs' := 0) d_Lw_precincts_6 cs_Lw_precincts_34 (hL.1 0 _ cl_0) (As := [.int x1, .int x2, .int x3, .int x4]) rfl rfl (Nat.le_of_ble_eq_true rfl) (Nat.le_refl _) (Nat.le_refl _) (c_SM_precincts hS x1 x2 x3 x4 hf) (fun X M1 h => ?_) (fun v M1 h => ?_)
  · obtain ⟨h1, h2⟩ := h
    have hX := oV_inr h1.symm
    rcases (ex_precincts Z w x1 x2 x3 x4 X (by rw [hf]; exact hX)) with rfl | rfl
    · refine ⟨12, hn_precincts_0, fun q => ?_⟩
      refine sm_astore d_Lw_precincts_12 (by decide) rfl ?_
      refine sm_iconst (v := 1) d_Lw_precincts_14 (by decide) ?_
      exact sm_ireturn d_Lw_precincts_15 rfl rfl (hp_of (hL.go h2) (by rw [hX, cd2_1]) (fun u hu => by cases hu))
    · refine ⟨16, hn_precincts_1, fun q => ?_⟩
      refine sm_astore d_Lw_precincts_16 (by decide) rfl ?_
      refine sm_iconst (v := 2) d_Lw_precincts_18 (by decide) ?_
      exact sm_ireturn d_Lw_precincts_19 rfl rfl (hp_of (hL.go h2) (by rw [hX, cd2_2 (by decide)]) (fun u hu => by cases hu))
  · obtain ⟨h1, h2⟩ := h
    obtain ⟨u, hu, rfl⟩ := oV_inl h1.symm
    refine sm_goto (tgt := 20) d_Lw_precincts_9 (by decide) ?_
    refine sm_iconst (v := 0) d_Lw_precincts_20 (by decide) ?_
    exact sm_ireturn d_Lw_precincts_21 rfl rfl (hp_of (hL.go h2) (by rw [hu]; rfl) (fun u hu => by cases hu))
theorem hn_steps_0 : sm_Hnd mf_Lw_steps 6 "java/util/NoSuchElementException" 12 := ⟨[], ((0 : Nat), (9 : Nat), (12 : Nat), (32 : Nat)), [((0 : Nat), (9 : Nat), (16 : Nat), (13 : Nat))], "java/util/NoSuchElementException", rfl, ⟨by decide, by decide⟩, rfl, by decide, mw_870, mn_882, fun y hy => by cases hy⟩
theorem hn_steps_1 : sm_Hnd mf_Lw_steps 6 "java/lang/IllegalArgumentException" 16 := ⟨[((0 : Nat), (9 : Nat), (12 : Nat), (32 : Nat))], ((0 : Nat), (9 : Nat), (16 : Nat), (13 : Nat)), [], "java/lang/IllegalArgumentException", rfl, ⟨by decide, by decide⟩, rfl, by decide, mw_737, mn_745, fun y hy => by
  rw [List.mem_singleton] at hy
  subst hy
  exact ⟨⟨by decide, by decide⟩, by decide, "java/util/NoSuchElementException", mw_870, List.mem_of_getElem? (i := 39) rfl⟩⟩
set_option maxRecDepth 10000 in
theorem c_Lw_steps {G : sm_G} {b : Nat} {M : sm_M} {w w' : wd} {Z : zd} {g : Nat → Int64} (hL : lwi G b M w Z w' g) (x1 : Int32) (x2 : Int32) (x3 : Int32) (x4 : Int32) {R : (Unit ⊕ String) × wd × zd} (hf : fn_SM_steps Z w x1 x2 x3 x4 = R) : sm_C G mf_Lw_steps [.ref b, .int x1, .int x2, .int x3, .int x4] M (2 * (zc R.2.2 - zc Z) + os_e (oV R.1) 1) (2 * (zc R.2.2 - zc Z) + os_e (oV R.1) 6) (hp_Q G b (R.2.1) (R.2.2) w' (cd2 "java/util/NoSuchElementException" R.1) (none)) := by
  have hS := hL.os
  refine sm_ofW rfl (Nat.le_of_ble_eq_true rfl) ?_
  refine sm_aload_n d_Lw_steps_0 rfl (j := 0) rfl ?_
  refine sm_iload_n d_Lw_steps_1 rfl (j := 1) rfl ?_
  refine sm_iload_n d_Lw_steps_2 rfl (j := 2) rfl ?_
  refine sm_iload_n d_Lw_steps_3 rfl (j := 3) rfl ?_
  refine sm_iload d_Lw_steps_4 (j := 4) rfl ?_
  refine sm_callVH (b := b) (bc' := 0) (bs' := 0) d_Lw_steps_6 cs_Lw_steps_37 (hL.1 0 _ cl_0) (As := [.int x1, .int x2, .int x3, .int x4]) rfl rfl (Nat.le_of_ble_eq_true rfl) (Nat.le_refl _) (Nat.le_refl _) (c_SM_steps hS x1 x2 x3 x4 hf) (fun X M1 h => ?_) (fun v M1 h => ?_)
  · obtain ⟨h1, h2⟩ := h
    have hX := oV_inr h1.symm
    rcases (ex_steps Z w x1 x2 x3 x4 X (by rw [hf]; exact hX)) with rfl | rfl
    · refine ⟨12, hn_steps_0, fun q => ?_⟩
      refine sm_astore d_Lw_steps_12 (by decide) rfl ?_
      refine sm_iconst (v := 1) d_Lw_steps_14 (by decide) ?_
      exact sm_ireturn d_Lw_steps_15 rfl rfl (hp_of (hL.go h2) (by rw [hX, cd2_1]) (fun u hu => by cases hu))
    · refine ⟨16, hn_steps_1, fun q => ?_⟩
      refine sm_astore d_Lw_steps_16 (by decide) rfl ?_
      refine sm_iconst (v := 2) d_Lw_steps_18 (by decide) ?_
      exact sm_ireturn d_Lw_steps_19 rfl rfl (hp_of (hL.go h2) (by rw [hX, cd2_2 (by decide)]) (fun u hu => by cases hu))
  · obtain ⟨h1, h2⟩ := h
    obtain ⟨u, hu, rfl⟩ := oV_inl h1.symm
    refine sm_goto (tgt := 20) d_Lw_steps_9 (by decide) ?_
    refine sm_iconst (v := 0) d_Lw_steps_20 (by decide) ?_
    exact sm_ireturn d_Lw_steps_21 rfl rfl (hp_of (hL.go h2) (by rw [hu]; rfl) (fun u hu => by cases hu))
theorem hn_step_0 : sm_Hnd mf_Lw_step 4 "java/util/NoSuchElementException" 10 := ⟨[], ((0 : Nat), (7 : Nat), (10 : Nat), (32 : Nat)), [((0 : Nat), (7 : Nat), (14 : Nat), (13 : Nat))], "java/util/NoSuchElementException", rfl, ⟨by decide, by decide⟩, rfl, by decide, mw_870, mn_882, fun y hy => by cases hy⟩
theorem hn_step_1 : sm_Hnd mf_Lw_step 4 "java/lang/IllegalArgumentException" 14 := ⟨[((0 : Nat), (7 : Nat), (10 : Nat), (32 : Nat))], ((0 : Nat), (7 : Nat), (14 : Nat), (13 : Nat)), [], "java/lang/IllegalArgumentException", rfl, ⟨by decide, by decide⟩, rfl, by decide, mw_737, mn_745, fun y hy => by
  rw [List.mem_singleton] at hy
  subst hy
  exact ⟨⟨by decide, by decide⟩, by decide, "java/util/NoSuchElementException", mw_870, List.mem_of_getElem? (i := 39) rfl⟩⟩
set_option maxRecDepth 10000 in
theorem c_Lw_step {G : sm_G} {b : Nat} {M : sm_M} {w w' : wd} {Z : zd} {g : Nat → Int64} (hL : lwi G b M w Z w' g) (x1 : Int32) (x2 : Int32) (x3 : Int32) {R : (Unit ⊕ String) × wd × zd} (hf : fn_SM_step Z w x1 x2 x3 = R) : sm_C G mf_Lw_step [.ref b, .int x1, .int x2, .int x3] M (2 * (zc R.2.2 - zc Z) + os_e (oV R.1) 1) (2 * (zc R.2.2 - zc Z) + os_e (oV R.1) 6) (hp_Q G b (R.2.1) (R.2.2) w' (cd2 "java/util/NoSuchElementException" R.1) (none)) := by
  have hS := hL.os
  refine sm_ofW rfl (Nat.le_of_ble_eq_true rfl) ?_
  refine sm_aload_n d_Lw_step_0 rfl (j := 0) rfl ?_
  refine sm_iload_n d_Lw_step_1 rfl (j := 1) rfl ?_
  refine sm_iload_n d_Lw_step_2 rfl (j := 2) rfl ?_
  refine sm_iload_n d_Lw_step_3 rfl (j := 3) rfl ?_
  refine sm_callVH (b := b) (bc' := 0) (bs' := 0) d_Lw_step_4 cs_Lw_step_40 (hL.1 0 _ cl_0) (As := [.int x1, .int x2, .int x3]) rfl rfl (Nat.le_of_ble_eq_true rfl) (Nat.le_refl _) (Nat.le_refl _) (c_SM_step hS x1 x2 x3 hf) (fun X M1 h => ?_) (fun v M1 h => ?_)
  · obtain ⟨h1, h2⟩ := h
    have hX := oV_inr h1.symm
    rcases (ex_step Z w x1 x2 x3 X (by rw [hf]; exact hX)) with rfl | rfl
    · refine ⟨10, hn_step_0, fun q => ?_⟩
      refine sm_astore d_Lw_step_10 (by decide) rfl ?_
      refine sm_iconst (v := 1) d_Lw_step_12 (by decide) ?_
      exact sm_ireturn d_Lw_step_13 rfl rfl (hp_of (hL.go h2) (by rw [hX, cd2_1]) (fun u hu => by cases hu))
    · refine ⟨14, hn_step_1, fun q => ?_⟩
      refine sm_astore d_Lw_step_14 (by decide) rfl ?_
      refine sm_iconst (v := 2) d_Lw_step_16 (by decide) ?_
      exact sm_ireturn d_Lw_step_17 rfl rfl (hp_of (hL.go h2) (by rw [hX, cd2_2 (by decide)]) (fun u hu => by cases hu))
  · obtain ⟨h1, h2⟩ := h
    obtain ⟨u, hu, rfl⟩ := oV_inl h1.symm
    refine sm_goto (tgt := 18) d_Lw_step_7 (by decide) ?_
    refine sm_iconst (v := 0) d_Lw_step_18 (by decide) ?_
    exact sm_ireturn d_Lw_step_19 rfl rfl (hp_of (hL.go h2) (by rw [hu]; rfl) (fun u hu => by cases hu))
theorem hn_change_0 : sm_Hnd mf_Lw_change 13 "java/lang/IllegalArgumentException" 21 := ⟨[], ((0 : Nat), (18 : Nat), (21 : Nat), (13 : Nat)), [((0 : Nat), (18 : Nat), (25 : Nat), (18 : Nat))], "java/lang/IllegalArgumentException", rfl, ⟨by decide, by decide⟩, rfl, by decide, mw_737, mn_745, fun y hy => by cases hy⟩
theorem hn_change_1 : sm_Hnd mf_Lw_change 13 "java/lang/IllegalStateException" 25 := ⟨[((0 : Nat), (18 : Nat), (21 : Nat), (13 : Nat))], ((0 : Nat), (18 : Nat), (25 : Nat), (18 : Nat)), [], "java/lang/IllegalStateException", rfl, ⟨by decide, by decide⟩, rfl, by decide, mw_816, mn_827, fun y hy => by
  rw [List.mem_singleton] at hy
  subst hy
  exact ⟨⟨by decide, by decide⟩, by decide, "java/lang/IllegalArgumentException", mw_737, List.mem_of_getElem? (i := 11) rfl⟩⟩
set_option maxRecDepth 10000 in
theorem c_Lw_change {G : sm_G} {b : Nat} {M : sm_M} {w w' : wd} {Z : zd} {g : Nat → Int64} (hL : lwi G b M w Z w' g) (x1 : Int32) (x2 : Int32) (x3 : Int32) (x4 : Int32) (x5 : Int32) (x6 : Int32) {R : (Int32 ⊕ String) × wd × zd} (hf : fn_SM_change Z w x1 x2 x3 x4 x5 x6 = some R) : sm_C G mf_Lw_change [.ref b, .int x1, .int x2, .int x3, .int x4, .int x5, .int x6, .ref (b + 137)] M (2 * (zc R.2.2 - zc Z) + os_e (oI R.1) 1) (2 * (zc R.2.2 - zc Z) + os_e (oI R.1) 6) (hp_Q G b (R.2.1) (R.2.2) w' (cd2 "java/lang/IllegalArgumentException" R.1) (ov R.1)) := by
  have hS := hL.os
  refine sm_ofW rfl (Nat.le_of_ble_eq_true rfl) ?_
  refine sm_aload d_Lw_change_0 (j := 7) rfl ?_
  refine sm_iconst (v := 0) d_Lw_change_2 (by decide) ?_
  refine sm_aload_n d_Lw_change_3 rfl (j := 0) rfl ?_
  refine sm_iload_n d_Lw_change_4 rfl (j := 1) rfl ?_
  refine sm_iload_n d_Lw_change_5 rfl (j := 2) rfl ?_
  refine sm_iload_n d_Lw_change_6 rfl (j := 3) rfl ?_
  refine sm_iload d_Lw_change_7 (j := 4) rfl ?_
  refine sm_iload d_Lw_change_9 (j := 5) rfl ?_
  refine sm_iload d_Lw_change_11 (j := 6) rfl ?_
  refine sm_callVH (b := b) (bc' := 0) (bs' := 0) d_Lw_change_13 cs_Lw_change_44 (hL.1 0 _ cl_0) (As := [.int x1, .int x2, .int x3, .int x4, .int x5, .int x6]) rfl rfl (Nat.le_of_ble_eq_true rfl) (Nat.le_refl _) (Nat.le_refl _) (c_SM_change hS x1 x2 x3 x4 x5 x6 hf) (fun X M1 h => ?_) (fun v M1 h => ?_)
  · obtain ⟨h1, h2⟩ := h
    have hX := oI_inr h1.symm
    rcases (ex_change Z w x1 x2 x3 x4 x5 x6 X hf hX) with rfl | rfl
    · refine ⟨21, hn_change_0, fun q => ?_⟩
      refine sm_astore d_Lw_change_21 (by decide) rfl ?_
      refine sm_iconst (v := 1) d_Lw_change_23 (by decide) ?_
      exact sm_ireturn d_Lw_change_24 rfl rfl (hp_of (hL.go h2) (by rw [hX, cd2_1]) (fun u hu => by rw [hX] at hu; cases hu))
    · refine ⟨25, hn_change_1, fun q => ?_⟩
      refine sm_astore d_Lw_change_25 (by decide) rfl ?_
      refine sm_iconst (v := 2) d_Lw_change_27 (by decide) ?_
      exact sm_ireturn d_Lw_change_28 rfl rfl (hp_of (hL.go h2) (by rw [hX, cd2_2 (by decide)]) (fun u hu => by rw [hX] at hu; cases hu))
  · obtain ⟨h1, h2⟩ := h
    obtain ⟨u, hu, rfl⟩ := oI_inl h1.symm
    refine sm_i2l d_Lw_change_16 ?_
    refine sm_lastore d_Lw_change_17 (hL.go h2).2.2.2 in01 ?_
    refine sm_goto (tgt := 29) d_Lw_change_18 (by decide) ?_
    refine sm_iconst (v := 0) d_Lw_change_29 (by decide) ?_
    exact sm_ireturn d_Lw_change_30 rfl rfl (hp_of (hL.go h2).out (by rw [hu]; rfl) (fun u9 hu9 => by rw [hu] at hu9; cases hu9; rfl))
theorem hn_get_0 : sm_Hnd mf_Lw_get 7 "java/util/NoSuchElementException" 15 := ⟨[], ((0 : Nat), (12 : Nat), (15 : Nat), (32 : Nat)), [], "java/util/NoSuchElementException", rfl, ⟨by decide, by decide⟩, rfl, by decide, mw_870, mn_882, fun y hy => by cases hy⟩
set_option maxRecDepth 10000 in
theorem c_Lw_get {G : sm_G} {b : Nat} {M : sm_M} {w w' : wd} {Z : zd} {g : Nat → Int64} (hL : lwi G b M w Z w' g) (x1 : Int32) (x2 : Int32) (x3 : Int32) {R : Int32 ⊕ String} (hf : fn_SM_get Z w x1 x2 x3 = R) : sm_C G mf_Lw_get [.ref b, .int x1, .int x2, .int x3, .ref (b + 137)] M (os_e (oI R) 1) (os_e (oI R) 6) (hp_Q G b (w) (Z) w' (cd1 R) (ov R)) := by
  have hS := hL.os
  refine sm_ofW rfl (Nat.le_of_ble_eq_true rfl) ?_
  refine sm_aload d_Lw_get_0 (j := 4) rfl ?_
  refine sm_iconst (v := 0) d_Lw_get_2 (by decide) ?_
  refine sm_aload_n d_Lw_get_3 rfl (j := 0) rfl ?_
  refine sm_iload_n d_Lw_get_4 rfl (j := 1) rfl ?_
  refine sm_iload_n d_Lw_get_5 rfl (j := 2) rfl ?_
  refine sm_iload_n d_Lw_get_6 rfl (j := 3) rfl ?_
  refine sm_callVH (b := b) (bc' := 0) (bs' := 0) d_Lw_get_7 cs_Lw_get_48 (hL.1 0 _ cl_0) (As := [.int x1, .int x2, .int x3]) rfl rfl (Nat.le_of_ble_eq_true rfl) (Nat.le_refl _) (Nat.le_refl _) (c_SM_get hS x1 x2 x3 hf) (fun X M1 h => ?_) (fun v M1 h => ?_)
  · obtain ⟨h1, h2⟩ := h
    have hX := oI_inr h1.symm
    have e9 := (ex_get Z w x1 x2 x3 X (hf.trans hX))
    subst e9
    refine ⟨15, hn_get_0, fun q => ?_⟩
    refine sm_astore d_Lw_get_15 (by decide) rfl ?_
    refine sm_iconst (v := 1) d_Lw_get_17 (by decide) ?_
    exact sm_ireturn d_Lw_get_18 rfl rfl (hp_of (hL.go h2) (by rw [hX]; rfl) (fun u hu => by rw [hX] at hu; cases hu))
  · obtain ⟨h1, h2⟩ := h
    obtain ⟨u, hu, rfl⟩ := oI_inl h1.symm
    refine sm_i2l d_Lw_get_10 ?_
    refine sm_lastore d_Lw_get_11 (hL.go h2).2.2.2 in01 ?_
    refine sm_goto (tgt := 19) d_Lw_get_12 (by decide) ?_
    refine sm_iconst (v := 0) d_Lw_get_19 (by decide) ?_
    exact sm_ireturn d_Lw_get_20 rfl rfl (hp_of (hL.go h2).out (by rw [hu]; rfl) (fun u9 hu9 => by rw [hu] at hu9; cases hu9; rfl))
theorem hn_put_0 : sm_Hnd mf_Lw_put 4 "java/lang/IllegalArgumentException" 12 := ⟨[], ((0 : Nat), (9 : Nat), (12 : Nat), (13 : Nat)), [((0 : Nat), (9 : Nat), (15 : Nat), (56 : Nat))], "java/lang/IllegalArgumentException", rfl, ⟨by decide, by decide⟩, rfl, by decide, mw_737, mn_745, fun y hy => by cases hy⟩
theorem hn_put_1 : sm_Hnd mf_Lw_put 4 "java/lang/UnsupportedOperationException" 15 := ⟨[((0 : Nat), (9 : Nat), (12 : Nat), (13 : Nat))], ((0 : Nat), (9 : Nat), (15 : Nat), (56 : Nat)), [], "java/lang/UnsupportedOperationException", rfl, ⟨by decide, by decide⟩, rfl, by decide, mw_980, mn_993, fun y hy => by
  rw [List.mem_singleton] at hy
  subst hy
  exact ⟨⟨by decide, by decide⟩, by decide, "java/lang/IllegalArgumentException", mw_737, List.mem_of_getElem? (i := 13) rfl⟩⟩
set_option maxRecDepth 10000 in
theorem c_Lw_put {G : sm_G} {b : Nat} {M : sm_M} {w w' : wd} {Z : zd} {g : Nat → Int64} (hL : lwi G b M w Z w' g) (x1 : Int32) {R : (Int32 ⊕ String) × wd × zd} (hf : fn_SM_put Z w x1 = some R) : sm_C G mf_Lw_put [.ref b, .int x1, .ref (b + 137)] M (2 * (zc R.2.2 - zc Z) + os_e (oI R.1) 1) (2 * (zc R.2.2 - zc Z) + os_e (oI R.1) 6) (hp_Q G b (R.2.1) (R.2.2) w' (cd2 "java/lang/IllegalArgumentException" R.1) (ov R.1)) := by
  have hS := hL.os
  refine sm_ofW rfl (Nat.le_of_ble_eq_true rfl) ?_
  refine sm_aload_n d_Lw_put_0 rfl (j := 2) rfl ?_
  refine sm_iconst (v := 0) d_Lw_put_1 (by decide) ?_
  refine sm_aload_n d_Lw_put_2 rfl (j := 0) rfl ?_
  refine sm_iload_n d_Lw_put_3 rfl (j := 1) rfl ?_
  refine sm_callVH (b := b) (bc' := 0) (bs' := 0) d_Lw_put_4 cs_Lw_put_52 (hL.1 0 _ cl_0) (As := [.int x1]) rfl rfl (Nat.le_of_ble_eq_true rfl) (Nat.le_refl _) (Nat.le_refl _) (c_SM_put hS x1 hf) (fun X M1 h => ?_) (fun v M1 h => ?_)
  · obtain ⟨h1, h2⟩ := h
    have hX := oI_inr h1.symm
    rcases (ex_put Z w x1 X hf hX) with rfl | rfl
    · refine ⟨12, hn_put_0, fun q => ?_⟩
      refine sm_astore_n d_Lw_put_12 rfl (by decide) rfl ?_
      refine sm_iconst (v := 1) d_Lw_put_13 (by decide) ?_
      exact sm_ireturn d_Lw_put_14 rfl rfl (hp_of (hL.go h2) (by rw [hX, cd2_1]) (fun u hu => by rw [hX] at hu; cases hu))
    · refine ⟨15, hn_put_1, fun q => ?_⟩
      refine sm_astore_n d_Lw_put_15 rfl (by decide) rfl ?_
      refine sm_iconst (v := 2) d_Lw_put_16 (by decide) ?_
      exact sm_ireturn d_Lw_put_17 rfl rfl (hp_of (hL.go h2) (by rw [hX, cd2_2 (by decide)]) (fun u hu => by rw [hX] at hu; cases hu))
  · obtain ⟨h1, h2⟩ := h
    obtain ⟨u, hu, rfl⟩ := oI_inl h1.symm
    refine sm_i2l d_Lw_put_7 ?_
    refine sm_lastore d_Lw_put_8 (hL.go h2).2.2.2 in01 ?_
    refine sm_goto (tgt := 18) d_Lw_put_9 (by decide) ?_
    refine sm_iconst (v := 0) d_Lw_put_18 (by decide) ?_
    exact sm_ireturn d_Lw_put_19 rfl rfl (hp_of (hL.go h2).out (by rw [hu]; rfl) (fun u9 hu9 => by rw [hu] at hu9; cases hu9; rfl))
theorem hn_at_0 : sm_Hnd mf_Lw_at 4 "java/util/NoSuchElementException" 12 := ⟨[], ((0 : Nat), (9 : Nat), (12 : Nat), (32 : Nat)), [], "java/util/NoSuchElementException", rfl, ⟨by decide, by decide⟩, rfl, by decide, mw_870, mn_882, fun y hy => by cases hy⟩
set_option maxRecDepth 10000 in
theorem c_Lw_at {G : sm_G} {b : Nat} {M : sm_M} {w w' : wd} {Z : zd} {g : Nat → Int64} (hL : lwi G b M w Z w' g) (x1 : Int32) {R : Int32 ⊕ String} (hf : fn_SM_at Z w x1 = R) : sm_C G mf_Lw_at [.ref b, .int x1, .ref (b + 137)] M (os_e (oI R) 1) (os_e (oI R) 6) (hp_Q G b (w) (Z) w' (cd1 R) (ov R)) := by
  have hS := hL.os
  refine sm_ofW rfl (Nat.le_of_ble_eq_true rfl) ?_
  refine sm_aload_n d_Lw_at_0 rfl (j := 2) rfl ?_
  refine sm_iconst (v := 0) d_Lw_at_1 (by decide) ?_
  refine sm_aload_n d_Lw_at_2 rfl (j := 0) rfl ?_
  refine sm_iload_n d_Lw_at_3 rfl (j := 1) rfl ?_
  refine sm_callVH (b := b) (bc' := 0) (bs' := 0) d_Lw_at_4 cs_Lw_at_58 (hL.1 0 _ cl_0) (As := [.int x1]) rfl rfl (Nat.le_of_ble_eq_true rfl) (Nat.le_refl _) (Nat.le_refl _) (c_SM_at hS x1 hf) (fun X M1 h => ?_) (fun v M1 h => ?_)
  · obtain ⟨h1, h2⟩ := h
    have hX := oI_inr h1.symm
    have e9 := (ex_at Z w x1 X (hf.trans hX))
    subst e9
    refine ⟨12, hn_at_0, fun q => ?_⟩
    refine sm_astore_n d_Lw_at_12 rfl (by decide) rfl ?_
    refine sm_iconst (v := 1) d_Lw_at_13 (by decide) ?_
    exact sm_ireturn d_Lw_at_14 rfl rfl (hp_of (hL.go h2) (by rw [hX]; rfl) (fun u hu => by rw [hX] at hu; cases hu))
  · obtain ⟨h1, h2⟩ := h
    obtain ⟨u, hu, rfl⟩ := oI_inl h1.symm
    refine sm_i2l d_Lw_at_7 ?_
    refine sm_lastore d_Lw_at_8 (hL.go h2).2.2.2 in01 ?_
    refine sm_goto (tgt := 15) d_Lw_at_9 (by decide) ?_
    refine sm_iconst (v := 0) d_Lw_at_15 (by decide) ?_
    exact sm_ireturn d_Lw_at_16 rfl rfl (hp_of (hL.go h2).out (by rw [hu]; rfl) (fun u9 hu9 => by rw [hu] at hu9; cases hu9; rfl))
theorem hn_write_0 : sm_Hnd mf_Lw_write 3 "java/lang/IllegalStateException" 11 := ⟨[], ((0 : Nat), (8 : Nat), (11 : Nat), (18 : Nat)), [((0 : Nat), (8 : Nat), (14 : Nat), (56 : Nat))], "java/lang/IllegalStateException", rfl, ⟨by decide, by decide⟩, rfl, by decide, mw_816, mn_827, fun y hy => by cases hy⟩
theorem hn_write_1 : sm_Hnd mf_Lw_write 3 "java/lang/UnsupportedOperationException" 14 := ⟨[((0 : Nat), (8 : Nat), (11 : Nat), (18 : Nat))], ((0 : Nat), (8 : Nat), (14 : Nat), (56 : Nat)), [], "java/lang/UnsupportedOperationException", rfl, ⟨by decide, by decide⟩, rfl, by decide, mw_980, mn_993, fun y hy => by
  rw [List.mem_singleton] at hy
  subst hy
  exact ⟨⟨by decide, by decide⟩, by decide, "java/lang/IllegalStateException", mw_816, List.mem_of_getElem? (i := 27) rfl⟩⟩
set_option maxRecDepth 10000 in
theorem c_Lw_write {G : sm_G} {b : Nat} {M : sm_M} {w w' : wd} {Z : zd} {g : Nat → Int64} {F : Nat} (hL : lwi G b M w Z w' g)  {R : (Int32 ⊕ String) × wd × zd} (hf : fn_SM_write F Z w = some R) : sm_C G mf_Lw_write [.ref b, .ref (b + 137)] M (2 * (zc R.2.2 - zc Z) + os_e (oI R.1) 1) (2 * (zc R.2.2 - zc Z) + os_e (oI R.1) 6) (hp_Q G b (R.2.1) (R.2.2) w' (cd2 "java/lang/IllegalStateException" R.1) (ov R.1)) := by
  have hS := hL.os
  refine sm_ofW rfl (Nat.le_of_ble_eq_true rfl) ?_
  refine sm_aload_n d_Lw_write_0 rfl (j := 1) rfl ?_
  refine sm_iconst (v := 0) d_Lw_write_1 (by decide) ?_
  refine sm_aload_n d_Lw_write_2 rfl (j := 0) rfl ?_
  refine sm_callVH (b := b) (bc' := 0) (bs' := 0) d_Lw_write_3 cs_Lw_write_61 (hL.1 0 _ cl_0) (As := []) rfl rfl (Nat.le_of_ble_eq_true rfl) (Nat.le_refl _) (Nat.le_refl _) (c_SM_write hS hf) (fun X M1 h => ?_) (fun v M1 h => ?_)
  · obtain ⟨h1, h2⟩ := h
    have hX := oI_inr h1.symm
    rcases (ex_write F Z w X hf hX) with rfl | rfl
    · refine ⟨11, hn_write_0, fun q => ?_⟩
      refine sm_astore_n d_Lw_write_11 rfl (by decide) rfl ?_
      refine sm_iconst (v := 1) d_Lw_write_12 (by decide) ?_
      exact sm_ireturn d_Lw_write_13 rfl rfl (hp_of (hL.go h2) (by rw [hX, cd2_1]) (fun u hu => by rw [hX] at hu; cases hu))
    · refine ⟨14, hn_write_1, fun q => ?_⟩
      refine sm_astore_n d_Lw_write_14 rfl (by decide) rfl ?_
      refine sm_iconst (v := 2) d_Lw_write_15 (by decide) ?_
      exact sm_ireturn d_Lw_write_16 rfl rfl (hp_of (hL.go h2) (by rw [hX, cd2_2 (by decide)]) (fun u hu => by rw [hX] at hu; cases hu))
  · obtain ⟨h1, h2⟩ := h
    obtain ⟨u, hu, rfl⟩ := oI_inl h1.symm
    refine sm_i2l d_Lw_write_6 ?_
    refine sm_lastore d_Lw_write_7 (hL.go h2).2.2.2 in01 ?_
    refine sm_goto (tgt := 17) d_Lw_write_8 (by decide) ?_
    refine sm_iconst (v := 0) d_Lw_write_17 (by decide) ?_
    exact sm_ireturn d_Lw_write_18 rfl rfl (hp_of (hL.go h2).out (by rw [hu]; rfl) (fun u9 hu9 => by rw [hu] at hu9; cases hu9; rfl))
theorem hn_part_0 : sm_Hnd mf_Lw_part 6 "java/lang/IllegalArgumentException" 12 := ⟨[], ((0 : Nat), (9 : Nat), (12 : Nat), (13 : Nat)), [((0 : Nat), (9 : Nat), (16 : Nat), (56 : Nat))], "java/lang/IllegalArgumentException", rfl, ⟨by decide, by decide⟩, rfl, by decide, mw_737, mn_745, fun y hy => by cases hy⟩
theorem hn_part_1 : sm_Hnd mf_Lw_part 6 "java/lang/UnsupportedOperationException" 16 := ⟨[((0 : Nat), (9 : Nat), (12 : Nat), (13 : Nat))], ((0 : Nat), (9 : Nat), (16 : Nat), (56 : Nat)), [], "java/lang/UnsupportedOperationException", rfl, ⟨by decide, by decide⟩, rfl, by decide, mw_980, mn_993, fun y hy => by
  rw [List.mem_singleton] at hy
  subst hy
  exact ⟨⟨by decide, by decide⟩, by decide, "java/lang/IllegalArgumentException", mw_737, List.mem_of_getElem? (i := 13) rfl⟩⟩
set_option maxRecDepth 10000 in
theorem c_Lw_part {G : sm_G} {b : Nat} {M : sm_M} {w w' : wd} {Z : zd} {g : Nat → Int64} (hL : lwi G b M w Z w' g) (x1 : Int32) (x2 : Int32) (x3 : Int32) (x4 : Int32) {R : (Unit ⊕ String) × wd × zd} (hf : fn_SM_part Z w x1 x2 x3 x4 = some R) : sm_C G mf_Lw_part [.ref b, .int x1, .int x2, .int x3, .int x4] M (2 * (zc R.2.2 - zc Z) + os_e (oV R.1) 1) (2 * (zc R.2.2 - zc Z) + os_e (oV R.1) 6) (hp_Q G b (R.2.1) (R.2.2) w' (cd2 "java/lang/IllegalArgumentException" R.1) (none)) := by
  have hS := hL.os
  refine sm_ofW rfl (Nat.le_of_ble_eq_true rfl) ?_
  refine sm_aload_n d_Lw_part_0 rfl (j := 0) rfl ?_
  refine sm_iload_n d_Lw_part_1 rfl (j := 1) rfl ?_
  refine sm_iload_n d_Lw_part_2 rfl (j := 2) rfl ?_
  refine sm_iload_n d_Lw_part_3 rfl (j := 3) rfl ?_
  refine sm_iload d_Lw_part_4 (j := 4) rfl ?_
  refine sm_callVH (b := b) (bc' := 0) (bs' := 0) d_Lw_part_6 cs_Lw_part_65 (hL.1 0 _ cl_0) (As := [.int x1, .int x2, .int x3, .int x4]) rfl rfl (Nat.le_of_ble_eq_true rfl) (Nat.le_refl _) (Nat.le_refl _) (c_SM_part hS x1 x2 x3 x4 hf) (fun X M1 h => ?_) (fun v M1 h => ?_)
  · obtain ⟨h1, h2⟩ := h
    have hX := oV_inr h1.symm
    rcases (ex_part Z w x1 x2 x3 x4 X hf hX) with rfl | rfl
    · refine ⟨12, hn_part_0, fun q => ?_⟩
      refine sm_astore d_Lw_part_12 (by decide) rfl ?_
      refine sm_iconst (v := 1) d_Lw_part_14 (by decide) ?_
      exact sm_ireturn d_Lw_part_15 rfl rfl (hp_of (hL.go h2) (by rw [hX, cd2_1]) (fun u hu => by cases hu))
    · refine ⟨16, hn_part_1, fun q => ?_⟩
      refine sm_astore d_Lw_part_16 (by decide) rfl ?_
      refine sm_iconst (v := 2) d_Lw_part_18 (by decide) ?_
      exact sm_ireturn d_Lw_part_19 rfl rfl (hp_of (hL.go h2) (by rw [hX, cd2_2 (by decide)]) (fun u hu => by cases hu))
  · obtain ⟨h1, h2⟩ := h
    obtain ⟨u, hu, rfl⟩ := oV_inl h1.symm
    refine sm_goto (tgt := 20) d_Lw_part_9 (by decide) ?_
    refine sm_iconst (v := 0) d_Lw_part_20 (by decide) ?_
    exact sm_ireturn d_Lw_part_21 rfl rfl (hp_of (hL.go h2) (by rw [hu]; rfl) (fun u hu => by cases hu))
theorem hn_mark_0 : sm_Hnd mf_Lw_mark 2 "java/lang/IllegalArgumentException" 8 := ⟨[], ((0 : Nat), (5 : Nat), (8 : Nat), (13 : Nat)), [((0 : Nat), (5 : Nat), (11 : Nat), (56 : Nat))], "java/lang/IllegalArgumentException", rfl, ⟨by decide, by decide⟩, rfl, by decide, mw_737, mn_745, fun y hy => by cases hy⟩
theorem hn_mark_1 : sm_Hnd mf_Lw_mark 2 "java/lang/UnsupportedOperationException" 11 := ⟨[((0 : Nat), (5 : Nat), (8 : Nat), (13 : Nat))], ((0 : Nat), (5 : Nat), (11 : Nat), (56 : Nat)), [], "java/lang/UnsupportedOperationException", rfl, ⟨by decide, by decide⟩, rfl, by decide, mw_980, mn_993, fun y hy => by
  rw [List.mem_singleton] at hy
  subst hy
  exact ⟨⟨by decide, by decide⟩, by decide, "java/lang/IllegalArgumentException", mw_737, List.mem_of_getElem? (i := 13) rfl⟩⟩
set_option maxRecDepth 10000 in
theorem c_Lw_mark {G : sm_G} {b : Nat} {M : sm_M} {w w' : wd} {Z : zd} {g : Nat → Int64} (hL : lwi G b M w Z w' g) (x1 : Int32) {R : (Unit ⊕ String) × wd × zd} (hf : fn_SM_mark Z w x1 = some R) : sm_C G mf_Lw_mark [.ref b, .int x1] M (2 * (zc R.2.2 - zc Z) + os_e (oV R.1) 1) (2 * (zc R.2.2 - zc Z) + os_e (oV R.1) 6) (hp_Q G b (R.2.1) (R.2.2) w' (cd2 "java/lang/IllegalArgumentException" R.1) (none)) := by
  have hS := hL.os
  refine sm_ofW rfl (Nat.le_of_ble_eq_true rfl) ?_
  refine sm_aload_n d_Lw_mark_0 rfl (j := 0) rfl ?_
  refine sm_iload_n d_Lw_mark_1 rfl (j := 1) rfl ?_
  refine sm_callVH (b := b) (bc' := 0) (bs' := 0) d_Lw_mark_2 cs_Lw_mark_68 (hL.1 0 _ cl_0) (As := [.int x1]) rfl rfl (Nat.le_of_ble_eq_true rfl) (Nat.le_refl _) (Nat.le_refl _) (c_SM_mark hS x1 hf) (fun X M1 h => ?_) (fun v M1 h => ?_)
  · obtain ⟨h1, h2⟩ := h
    have hX := oV_inr h1.symm
    rcases (ex_mark Z w x1 X hf hX) with rfl | rfl
    · refine ⟨8, hn_mark_0, fun q => ?_⟩
      refine sm_astore_n d_Lw_mark_8 rfl (by decide) rfl ?_
      refine sm_iconst (v := 1) d_Lw_mark_9 (by decide) ?_
      exact sm_ireturn d_Lw_mark_10 rfl rfl (hp_of (hL.go h2) (by rw [hX, cd2_1]) (fun u hu => by cases hu))
    · refine ⟨11, hn_mark_1, fun q => ?_⟩
      refine sm_astore_n d_Lw_mark_11 rfl (by decide) rfl ?_
      refine sm_iconst (v := 2) d_Lw_mark_12 (by decide) ?_
      exact sm_ireturn d_Lw_mark_13 rfl rfl (hp_of (hL.go h2) (by rw [hX, cd2_2 (by decide)]) (fun u hu => by cases hu))
  · obtain ⟨h1, h2⟩ := h
    obtain ⟨u, hu, rfl⟩ := oV_inl h1.symm
    refine sm_goto (tgt := 14) d_Lw_mark_5 (by decide) ?_
    refine sm_iconst (v := 0) d_Lw_mark_14 (by decide) ?_
    exact sm_ireturn d_Lw_mark_15 rfl rfl (hp_of (hL.go h2) (by rw [hu]; rfl) (fun u hu => by cases hu))
theorem hn_spoil_0 : sm_Hnd mf_Lw_spoil 3 "java/util/NoSuchElementException" 9 := ⟨[], ((0 : Nat), (6 : Nat), (9 : Nat), (32 : Nat)), [], "java/util/NoSuchElementException", rfl, ⟨by decide, by decide⟩, rfl, by decide, mw_870, mn_882, fun y hy => by cases hy⟩
set_option maxRecDepth 10000 in
theorem c_Lw_spoil {G : sm_G} {b : Nat} {M : sm_M} {w w' : wd} {Z : zd} {g : Nat → Int64} (hL : lwi G b M w Z w' g) (x1 : Int32) (x2 : Int32) {R : (Unit ⊕ String) × wd × zd} (hf : fn_SM_spoil Z w x1 x2 = R) : sm_C G mf_Lw_spoil [.ref b, .int x1, .int x2] M (2 * (zc R.2.2 - zc Z) + os_e (oV R.1) 1) (2 * (zc R.2.2 - zc Z) + os_e (oV R.1) 6) (hp_Q G b (R.2.1) (R.2.2) w' (cd1 R.1) (none)) := by
  have hS := hL.os
  refine sm_ofW rfl (Nat.le_of_ble_eq_true rfl) ?_
  refine sm_aload_n d_Lw_spoil_0 rfl (j := 0) rfl ?_
  refine sm_iload_n d_Lw_spoil_1 rfl (j := 1) rfl ?_
  refine sm_iload_n d_Lw_spoil_2 rfl (j := 2) rfl ?_
  refine sm_callVH (b := b) (bc' := 0) (bs' := 0) d_Lw_spoil_3 cs_Lw_spoil_72 (hL.1 0 _ cl_0) (As := [.int x1, .int x2]) rfl rfl (Nat.le_of_ble_eq_true rfl) (Nat.le_refl _) (Nat.le_refl _) (c_SM_spoil hS x1 x2 hf) (fun X M1 h => ?_) (fun v M1 h => ?_)
  · obtain ⟨h1, h2⟩ := h
    have hX := oV_inr h1.symm
    have e9 := (ex_spoil Z w x1 x2 X (by rw [hf]; exact hX))
    subst e9
    refine ⟨9, hn_spoil_0, fun q => ?_⟩
    refine sm_astore_n d_Lw_spoil_9 rfl (by decide) rfl ?_
    refine sm_iconst (v := 1) d_Lw_spoil_10 (by decide) ?_
    exact sm_ireturn d_Lw_spoil_11 rfl rfl (hp_of (hL.go h2) (by rw [hX]; rfl) (fun u hu => by cases hu))
  · obtain ⟨h1, h2⟩ := h
    obtain ⟨u, hu, rfl⟩ := oV_inl h1.symm
    refine sm_goto (tgt := 12) d_Lw_spoil_6 (by decide) ?_
    refine sm_iconst (v := 0) d_Lw_spoil_12 (by decide) ?_
    exact sm_ireturn d_Lw_spoil_13 rfl rfl (hp_of (hL.go h2) (by rw [hu]; rfl) (fun u hu => by cases hu))
theorem hn_use_0 : sm_Hnd mf_Lw_use 4 "java/lang/IllegalStateException" 12 := ⟨[], ((0 : Nat), (9 : Nat), (12 : Nat), (18 : Nat)), [((0 : Nat), (9 : Nat), (15 : Nat), (32 : Nat))], "java/lang/IllegalStateException", rfl, ⟨by decide, by decide⟩, rfl, by decide, mw_816, mn_827, fun y hy => by cases hy⟩
theorem hn_use_1 : sm_Hnd mf_Lw_use 4 "java/util/NoSuchElementException" 15 := ⟨[((0 : Nat), (9 : Nat), (12 : Nat), (18 : Nat))], ((0 : Nat), (9 : Nat), (15 : Nat), (32 : Nat)), [], "java/util/NoSuchElementException", rfl, ⟨by decide, by decide⟩, rfl, by decide, mw_870, mn_882, fun y hy => by
  rw [List.mem_singleton] at hy
  subst hy
  exact ⟨⟨by decide, by decide⟩, by decide, "java/lang/IllegalStateException", mw_816, List.mem_of_getElem? (i := 26) rfl⟩⟩
set_option maxRecDepth 10000 in
theorem c_Lw_use {G : sm_G} {b : Nat} {M : sm_M} {w w' : wd} {Z : zd} {g : Nat → Int64} {F : Nat} (hL : lwi G b M w Z w' g) (x1 : Int32) {R : (Int32 ⊕ String) × wd × zd} (hf : fn_SM_use F Z w x1 = some R) : sm_C G mf_Lw_use [.ref b, .int x1, .ref (b + 137)] M (2 * (zc R.2.2 - zc Z) + os_e (oI R.1) 1) (2 * (zc R.2.2 - zc Z) + os_e (oI R.1) 6) (hp_Q G b (R.2.1) (R.2.2) w' (cd2 "java/lang/IllegalStateException" R.1) (ov R.1)) := by
  have hS := hL.os
  refine sm_ofW rfl (Nat.le_of_ble_eq_true rfl) ?_
  refine sm_aload_n d_Lw_use_0 rfl (j := 2) rfl ?_
  refine sm_iconst (v := 0) d_Lw_use_1 (by decide) ?_
  refine sm_aload_n d_Lw_use_2 rfl (j := 0) rfl ?_
  refine sm_iload_n d_Lw_use_3 rfl (j := 1) rfl ?_
  refine sm_callVH (b := b) (bc' := 0) (bs' := 0) d_Lw_use_4 cs_Lw_use_76 (hL.1 0 _ cl_0) (As := [.int x1]) rfl rfl (Nat.le_of_ble_eq_true rfl) (Nat.le_refl _) (Nat.le_refl _) (c_SM_use hS x1 hf) (fun X M1 h => ?_) (fun v M1 h => ?_)
  · obtain ⟨h1, h2⟩ := h
    have hX := oI_inr h1.symm
    rcases (ex_use F Z w x1 X hf hX) with rfl | rfl
    · refine ⟨12, hn_use_0, fun q => ?_⟩
      refine sm_astore_n d_Lw_use_12 rfl (by decide) rfl ?_
      refine sm_iconst (v := 1) d_Lw_use_13 (by decide) ?_
      exact sm_ireturn d_Lw_use_14 rfl rfl (hp_of (hL.go h2) (by rw [hX, cd2_1]) (fun u hu => by rw [hX] at hu; cases hu))
    · refine ⟨15, hn_use_1, fun q => ?_⟩
      refine sm_astore_n d_Lw_use_15 rfl (by decide) rfl ?_
      refine sm_iconst (v := 2) d_Lw_use_16 (by decide) ?_
      exact sm_ireturn d_Lw_use_17 rfl rfl (hp_of (hL.go h2) (by rw [hX, cd2_2 (by decide)]) (fun u hu => by rw [hX] at hu; cases hu))
  · obtain ⟨h1, h2⟩ := h
    obtain ⟨u, hu, rfl⟩ := oI_inl h1.symm
    refine sm_i2l d_Lw_use_7 ?_
    refine sm_lastore d_Lw_use_8 (hL.go h2).2.2.2 in01 ?_
    refine sm_goto (tgt := 18) d_Lw_use_9 (by decide) ?_
    refine sm_iconst (v := 0) d_Lw_use_18 (by decide) ?_
    exact sm_ireturn d_Lw_use_19 rfl rfl (hp_of (hL.go h2).out (by rw [hu]; rfl) (fun u9 hu9 => by rw [hu] at hu9; cases hu9; rfl))
theorem hn_head_0 : sm_Hnd mf_Lw_head 5 "java/lang/IllegalStateException" 13 := ⟨[], ((0 : Nat), (10 : Nat), (13 : Nat), (18 : Nat)), [((0 : Nat), (10 : Nat), (17 : Nat), (32 : Nat))], "java/lang/IllegalStateException", rfl, ⟨by decide, by decide⟩, rfl, by decide, mw_816, mn_827, fun y hy => by cases hy⟩
theorem hn_head_1 : sm_Hnd mf_Lw_head 5 "java/util/NoSuchElementException" 17 := ⟨[((0 : Nat), (10 : Nat), (13 : Nat), (18 : Nat))], ((0 : Nat), (10 : Nat), (17 : Nat), (32 : Nat)), [], "java/util/NoSuchElementException", rfl, ⟨by decide, by decide⟩, rfl, by decide, mw_870, mn_882, fun y hy => by
  rw [List.mem_singleton] at hy
  subst hy
  exact ⟨⟨by decide, by decide⟩, by decide, "java/lang/IllegalStateException", mw_816, List.mem_of_getElem? (i := 26) rfl⟩⟩
set_option maxRecDepth 10000 in
theorem c_Lw_head {G : sm_G} {b : Nat} {M : sm_M} {w w' : wd} {Z : zd} {g : Nat → Int64} {F : Nat} (hL : lwi G b M w Z w' g) (x1 : Int32) (x2 : Int32) {R : (Int32 ⊕ String) × wd × zd} (hf : fn_SM_head F Z w x1 x2 = some R) : sm_C G mf_Lw_head [.ref b, .int x1, .int x2, .ref (b + 137)] M (2 * (zc R.2.2 - zc Z) + os_e (oI R.1) 1) (2 * (zc R.2.2 - zc Z) + os_e (oI R.1) 6) (hp_Q G b (R.2.1) (R.2.2) w' (cd2 "java/lang/IllegalStateException" R.1) (ov R.1)) := by
  have hS := hL.os
  refine sm_ofW rfl (Nat.le_of_ble_eq_true rfl) ?_
  refine sm_aload_n d_Lw_head_0 rfl (j := 3) rfl ?_
  refine sm_iconst (v := 0) d_Lw_head_1 (by decide) ?_
  refine sm_aload_n d_Lw_head_2 rfl (j := 0) rfl ?_
  refine sm_iload_n d_Lw_head_3 rfl (j := 1) rfl ?_
  refine sm_iload_n d_Lw_head_4 rfl (j := 2) rfl ?_
  refine sm_callVH (b := b) (bc' := 0) (bs' := 0) d_Lw_head_5 cs_Lw_head_79 (hL.1 0 _ cl_0) (As := [.int x1, .int x2]) rfl rfl (Nat.le_of_ble_eq_true rfl) (Nat.le_refl _) (Nat.le_refl _) (c_SM_head hS x1 x2 hf) (fun X M1 h => ?_) (fun v M1 h => ?_)
  · obtain ⟨h1, h2⟩ := h
    have hX := oI_inr h1.symm
    rcases (ex_head F Z w x1 x2 X hf hX) with rfl | rfl
    · refine ⟨13, hn_head_0, fun q => ?_⟩
      refine sm_astore d_Lw_head_13 (by decide) rfl ?_
      refine sm_iconst (v := 1) d_Lw_head_15 (by decide) ?_
      exact sm_ireturn d_Lw_head_16 rfl rfl (hp_of (hL.go h2) (by rw [hX, cd2_1]) (fun u hu => by rw [hX] at hu; cases hu))
    · refine ⟨17, hn_head_1, fun q => ?_⟩
      refine sm_astore d_Lw_head_17 (by decide) rfl ?_
      refine sm_iconst (v := 2) d_Lw_head_19 (by decide) ?_
      exact sm_ireturn d_Lw_head_20 rfl rfl (hp_of (hL.go h2) (by rw [hX, cd2_2 (by decide)]) (fun u hu => by rw [hX] at hu; cases hu))
  · obtain ⟨h1, h2⟩ := h
    obtain ⟨u, hu, rfl⟩ := oI_inl h1.symm
    refine sm_i2l d_Lw_head_8 ?_
    refine sm_lastore d_Lw_head_9 (hL.go h2).2.2.2 in01 ?_
    refine sm_goto (tgt := 21) d_Lw_head_10 (by decide) ?_
    refine sm_iconst (v := 0) d_Lw_head_21 (by decide) ?_
    exact sm_ireturn d_Lw_head_22 rfl rfl (hp_of (hL.go h2).out (by rw [hu]; rfl) (fun u9 hu9 => by rw [hu] at hu9; cases hu9; rfl))
theorem hn_found_0 : sm_Hnd mf_Lw_found 5 "java/lang/IllegalStateException" 13 := ⟨[], ((0 : Nat), (10 : Nat), (13 : Nat), (18 : Nat)), [((0 : Nat), (10 : Nat), (17 : Nat), (32 : Nat))], "java/lang/IllegalStateException", rfl, ⟨by decide, by decide⟩, rfl, by decide, mw_816, mn_827, fun y hy => by cases hy⟩
theorem hn_found_1 : sm_Hnd mf_Lw_found 5 "java/util/NoSuchElementException" 17 := ⟨[((0 : Nat), (10 : Nat), (13 : Nat), (18 : Nat))], ((0 : Nat), (10 : Nat), (17 : Nat), (32 : Nat)), [], "java/util/NoSuchElementException", rfl, ⟨by decide, by decide⟩, rfl, by decide, mw_870, mn_882, fun y hy => by
  rw [List.mem_singleton] at hy
  subst hy
  exact ⟨⟨by decide, by decide⟩, by decide, "java/lang/IllegalStateException", mw_816, List.mem_of_getElem? (i := 26) rfl⟩⟩
set_option maxRecDepth 10000 in
theorem c_Lw_found {G : sm_G} {b : Nat} {M : sm_M} {w w' : wd} {Z : zd} {g : Nat → Int64} (hL : lwi G b M w Z w' g) (x1 : Int32) (x2 : Int32) {R : Int32 ⊕ String} (hf : fn_SM_found Z w x1 x2 = R) : sm_C G mf_Lw_found [.ref b, .int x1, .int x2, .ref (b + 137)] M (os_e (oI R) 1) (os_e (oI R) 6) (hp_Q G b (w) (Z) w' (cd2 "java/lang/IllegalStateException" R) (ov R)) := by
  have hS := hL.os
  refine sm_ofW rfl (Nat.le_of_ble_eq_true rfl) ?_
  refine sm_aload_n d_Lw_found_0 rfl (j := 3) rfl ?_
  refine sm_iconst (v := 0) d_Lw_found_1 (by decide) ?_
  refine sm_aload_n d_Lw_found_2 rfl (j := 0) rfl ?_
  refine sm_iload_n d_Lw_found_3 rfl (j := 1) rfl ?_
  refine sm_iload_n d_Lw_found_4 rfl (j := 2) rfl ?_
  refine sm_callVH (b := b) (bc' := 0) (bs' := 0) d_Lw_found_5 cs_Lw_found_83 (hL.1 0 _ cl_0) (As := [.int x1, .int x2]) rfl rfl (Nat.le_of_ble_eq_true rfl) (Nat.le_refl _) (Nat.le_refl _) (c_SM_found hS x1 x2 hf) (fun X M1 h => ?_) (fun v M1 h => ?_)
  · obtain ⟨h1, h2⟩ := h
    have hX := oI_inr h1.symm
    rcases (ex_found Z w x1 x2 X (hf.trans hX)) with rfl | rfl
    · refine ⟨13, hn_found_0, fun q => ?_⟩
      refine sm_astore d_Lw_found_13 (by decide) rfl ?_
      refine sm_iconst (v := 1) d_Lw_found_15 (by decide) ?_
      exact sm_ireturn d_Lw_found_16 rfl rfl (hp_of (hL.go h2) (by rw [hX, cd2_1]) (fun u hu => by rw [hX] at hu; cases hu))
    · refine ⟨17, hn_found_1, fun q => ?_⟩
      refine sm_astore d_Lw_found_17 (by decide) rfl ?_
      refine sm_iconst (v := 2) d_Lw_found_19 (by decide) ?_
      exact sm_ireturn d_Lw_found_20 rfl rfl (hp_of (hL.go h2) (by rw [hX, cd2_2 (by decide)]) (fun u hu => by rw [hX] at hu; cases hu))
  · obtain ⟨h1, h2⟩ := h
    obtain ⟨u, hu, rfl⟩ := oI_inl h1.symm
    refine sm_i2l d_Lw_found_8 ?_
    refine sm_lastore d_Lw_found_9 (hL.go h2).2.2.2 in01 ?_
    refine sm_goto (tgt := 21) d_Lw_found_10 (by decide) ?_
    refine sm_iconst (v := 0) d_Lw_found_21 (by decide) ?_
    exact sm_ireturn d_Lw_found_22 rfl rfl (hp_of (hL.go h2).out (by rw [hu]; rfl) (fun u9 hu9 => by rw [hu] at hu9; cases hu9; rfl))
