/-! mathematics of both state tables, part 8; from wip/math -/
theorem by8_and (y : Int32) : nI (by8 y) = y &&& 255 := by
  rw [← Int32.toBitVec_inj, Int32.toBitVec_and]
  unfold by8 nI
  rw [Int32.toBitVec_ofNat']
  apply BitVec.eq_of_toNat_eq
  have h : (255#32) = BitVec.ofNat 32 (2 ^ 8 - 1) := rfl
  have h2 : (255 : Int32).toBitVec = 255#32 := rfl
  rw [BitVec.toNat_ofNat, h2, BitVec.toNat_and]
  have h3 : (255#32).toNat = 2 ^ 8 - 1 := rfl
  rw [h3, Nat.and_two_pow_sub_one_eq_mod]
  omega
theorem by8_256 (y : Int32) : by8 y < 256 := by unfold by8; omega
theorem by8_of {n : Nat} (h : n < 256) : by8 (nI n) = n := by
  unfold by8 nI
  rw [Int32.toBitVec_ofNat', BitVec.toNat_ofNat]
  omega
theorem sh_24 (v : Int32) : (v >>> ((16 : Int32) &&& 31)) >>> ((8 : Int32) &&& 31) = v >>> ((24 : Int32) &&& 31) := by
  rw [← Int32.toBitVec_inj]
  show (v.toBitVec.sshiftRight 16).sshiftRight 8 = v.toBitVec.sshiftRight 24
  rw [← BitVec.sshiftRight_add]
theorem sh_0 (v : Int32) : v >>> ((0 : Int32) &&& 31) = v := by
  rw [← Int32.toBitVec_inj]
  show v.toBitVec.sshiftRight 0 = v.toBitVec
  simp
def wrs (w w1 : wd) (c : Nat) (bs : List Nat) : Prop := w1 0 36 = nI (c + bs.length) ∧ (∀ i, i < bs.length → c + i < 65536 → w1 11 (c + i) = nI (bs.getD i 0)) ∧ (∀ a j, ¬ (a = 0 ∧ j = 36) → ¬ (a = 11 ∧ c ≤ j) → w1 a j = w a j) ∧ ∀ b ∈ bs, b < 256
theorem wrs_nil {w : wd} {c : Nat} (h : w 0 36 = nI c) : wrs w w c [] := ⟨h, fun i hi => by simp at hi, fun _ _ _ _ => rfl, fun b hb => by simp at hb⟩
theorem wrs_app {w w1 w2 : wd} {c : Nat} {xs ys : List Nat} (h1 : wrs w w1 c xs) (h2 : wrs w1 w2 (c + xs.length) ys) : wrs w w2 c (xs ++ ys) := by
  obtain ⟨a1, a2, a3, a4⟩ := h1
  obtain ⟨b1, b2, b3, b4⟩ := h2
  refine ⟨by rw [b1, List.length_append, Nat.add_assoc], fun i hi hc => ?_, fun a j h3 h4 => ?_, fun b hb => ?_⟩
  · rw [List.length_append] at hi
    by_cases hx : i < xs.length
    · rw [b3 _ _ (by omega) (by omega), a2 i hx hc]
      simp only [List.getD_eq_getElem?_getD]
      rw [List.getElem?_append_left hx]
    · have := b2 (i - xs.length) (by omega) (by omega)
      rw [show c + xs.length + (i - xs.length) = c + i by omega] at this
      rw [this]
      simp only [List.getD_eq_getElem?_getD]
      rw [List.getElem?_append_right (by omega)]
  · rw [b3 a j h3 (by omega), a3 a j h3 h4]
  · rcases List.mem_append.1 hb with h | h
    · exact a4 b h
    · exact b4 b h
theorem wrs_pl {w w' w1 : wd} {c : Nat} {bs : List Nat} (h : rpl w w') (h1 : wrs w' w1 c bs) : rpl w w1 := by
  obtain ⟨_, _, a3, _⟩ := h1
  obtain ⟨g1, g2, ⟨n, g3⟩, k, g4⟩ := h
  exact ⟨ra_fr g1 (fun _ => rfl) (a3 _ _ (by omega) (by omega)) (fun j => a3 _ _ (by omega) (by omega)), rg_fr g2 (fun _ _ _ => rfl) (fun j _ _ => a3 _ _ (by omega) (by omega)), ⟨n, rcs_fr g3 rfl (fun _ _ _ _ => rfl) (a3 _ _ (by omega) (by omega)) (fun a j _ _ => a3 _ _ (by omega) (by omega))⟩, k, rch_fr g4 rfl (fun _ => rfl) (a3 _ _ (by omega) (by omega)) (fun j => a3 _ _ (by omega) (by omega))⟩
theorem md_add_s (F : Nat) {w : wd} {c : Nat} (hc : w 0 36 = nI c) (hb : c < 1000000) (v : Int32) {k : Nat} (hk : k < 4) : ∃ w1, wrs w w1 c [by8 (v >>> (nI (8 * k) &&& 31))] ∧ ∀ m, fn_Md_add_4 F (m + 1) w v (nI k) = fn_Md_add_4 F m w1 v (nI k + (-1)) := by
  by_cases h : 65536 ≤ c
  · refine ⟨up2 w 0 36 (nI (c + 1)), ⟨u2e rfl rfl, fun i hi hc2 => by omega, fun a j h1 h2 => u2n h1, fun b hb => by simp at hb; rw [hb]; exact by8_256 _⟩, fun m => ?_⟩
    rw [fn_Md_add_4]
    simp only [show (65536 : Int32) = nI 65536 from rfl, show (0 : Int32) = nI 0 from rfl, hc]
    rw [if_neg (by rw [bn_lt (by omega) (by omega)]; omega), if_pos (by rw [bn_le (by omega) (by omega)]; omega)]
    unfold fn_Md_add_36
    rw [hc, show (1 : Int32) = nI 1 from rfl, bn_add]
  · refine ⟨up2 (up2 w 11 c (nI (by8 (v >>> (nI (8 * k) &&& 31))))) 0 36 (nI (c + 1)), ⟨u2e rfl rfl, fun i hi hc2 => ?_, fun a j h1 h2 => ?_, fun b hb => by simp at hb; rw [hb]; exact by8_256 _⟩, fun m => ?_⟩
    · simp at hi
      subst hi
      simp (disch := omega) only [u2n, u2e]
      rfl
    · simp (disch := omega) only [u2n]
    · rw [fn_Md_add_4]
      simp only [show (65536 : Int32) = nI 65536 from rfl, show (0 : Int32) = nI 0 from rfl, hc]
      rw [if_neg (by rw [bn_lt (by omega) (by omega)]; omega), if_neg (by rw [bn_le (by omega) (by omega)]; omega), if_pos (by rw [bn_i (by omega)]; omega)]
      unfold fn_Md_add_36
      simp (disch := omega) only [u2n, hc]
      rw [show (1 : Int32) = nI 1 from rfl, bn_add, by8_and, show (8 : Int32) = nI 8 from rfl, bn_mul, bn_nn _ (by omega)]
theorem md_add_e (F m : Nat) (w : wd) (v : Int32) : fn_Md_add_4 F (m + 1) w v (-1) = some w := by
  rw [fn_Md_add_4, if_pos (by decide)]
theorem md_add1 {F : Nat} (hF : 100 ≤ F) {w : wd} {c : Nat} (hc : w 0 36 = nI c) (hb : c < 900000) (v : Int32) : ∃ w1, fn_Md_add F w v 1 = some w1 ∧ wrs w w1 c [by8 v] := by
  obtain ⟨m, rfl⟩ : ∃ m, F = m + 2 := ⟨F - 2, by omega⟩
  obtain ⟨w1, e1, e2⟩ := md_add_s (m + 2) hc (by omega) v (k := 0) (by omega)
  refine ⟨w1, ?_, ?_⟩
  · unfold fn_Md_add
    have := e2 (m + 1)
    rw [show nI 0 + (-1) = -1 from rfl, md_add_e] at this
    exact this
  · have := sh_0 v
    rw [show (nI (8 * 0) : Int32) = 0 from rfl, this] at e1
    exact e1
theorem md_add2 {F : Nat} (hF : 100 ≤ F) {w : wd} {c : Nat} (hc : w 0 36 = nI c) (hb : c < 900000) (v : Int32) : ∃ w1, fn_Md_add F w v 2 = some w1 ∧ wrs w w1 c (rw_b2 v) := by
  obtain ⟨m, rfl⟩ : ∃ m, F = m + 3 := ⟨F - 3, by omega⟩
  obtain ⟨w1, e1, e2⟩ := md_add_s (m + 3) hc (by omega) v (k := 1) (by omega)
  obtain ⟨w2, f1, f2⟩ := md_add_s (m + 3) e1.1 (by simp; omega) v (k := 0) (by omega)
  refine ⟨w2, ?_, ?_⟩
  · unfold fn_Md_add
    have a := e2 (m + 2)
    have b := f2 (m + 1)
    rw [show nI 0 + (-1) = -1 from rfl, md_add_e] at b
    rw [show nI 1 + (-1) = nI 0 from rfl, b] at a
    exact a
  · have := wrs_app e1 f1
    rw [show (nI (8 * 0) : Int32) = 0 from rfl, sh_0 v] at this
    exact this
theorem md_add4 {F : Nat} (hF : 100 ≤ F) {w : wd} {c : Nat} (hc : w 0 36 = nI c) (hb : c < 900000) (v : Int32) : ∃ w1, fn_Md_add F w v 4 = some w1 ∧ wrs w w1 c (rw_b4 v) := by
  obtain ⟨m, rfl⟩ : ∃ m, F = m + 5 := ⟨F - 5, by omega⟩
  obtain ⟨w1, e1, e2⟩ := md_add_s (m + 5) hc (by omega) v (k := 3) (by omega)
  obtain ⟨w2, f1, f2⟩ := md_add_s (m + 5) e1.1 (by simp; omega) v (k := 2) (by omega)
  obtain ⟨w3, g1, g2⟩ := md_add_s (m + 5) f1.1 (by simp; omega) v (k := 1) (by omega)
  obtain ⟨w4, k1, k2⟩ := md_add_s (m + 5) g1.1 (by simp; omega) v (k := 0) (by omega)
  refine ⟨w4, ?_, ?_⟩
  · unfold fn_Md_add
    have a := e2 (m + 4)
    have b := f2 (m + 3)
    have d := g2 (m + 2)
    have e := k2 (m + 1)
    rw [show nI 0 + (-1) = -1 from rfl, md_add_e] at e
    rw [show nI 1 + (-1) = nI 0 from rfl, e] at d
    rw [show nI 2 + (-1) = nI 1 from rfl, d] at b
    rw [show nI 3 + (-1) = nI 2 from rfl, b] at a
    exact a
  · have := wrs_app e1 (wrs_app f1 (wrs_app g1 k1))
    rw [show (nI (8 * 0) : Int32) = 0 from rfl, sh_0 v] at this
    unfold rw_b4 rw_b2
    rw [sh_24]
    exact this
theorem md_seg {F : Nat} (hF : 100 ≤ F) {w : wd} {c : Nat} (hc : w 0 36 = nI c) (hb : c < 900000 - 8) (x y : Int32) : ∃ w1, fn_Md_beginSegment F w x y = some w1 ∧ wrs w w1 c (rw_bs x y) := by
  obtain ⟨w1, e1, f1⟩ := md_add1 hF hc (by omega) 255
  obtain ⟨w2, e2, f2⟩ := md_add1 hF f1.1 (by simp; omega) x
  obtain ⟨w3, e3, f3⟩ := md_add2 hF f2.1 (by simp; omega) y
  refine ⟨w3, ?_, by have := wrs_app f1 (wrs_app f2 f3); exact this⟩
  unfold fn_Md_beginSegment
  rw [e1, Option.bind_some, e2, Option.bind_some, e3, Option.bind_some]
