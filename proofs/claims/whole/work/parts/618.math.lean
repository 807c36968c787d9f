/-! mathematics of both state tables, part 18; from wip/math -/
def u1 (l : List Nat) (p : Nat) : Nat := l.getD p 0
def u2 (l : List Nat) (p : Nat) : Nat := 256 * l.getD p 0 + l.getD (p + 1) 0
def u4 (l : List Nat) (p : Nat) : Nat := 65536 * u2 l p + u2 l (p + 2)
def byt (l : List Nat) : Prop := l.length ≤ 65536 ∧ ∀ b ∈ l, b < 256
def str (w' : wd) (l : List Nat) : Prop := byt l ∧ ∀ i, i < l.length → w' 11 i = nI (l.getD i 0)
theorem u1_lt {l : List Nat} (h : byt l) (p : Nat) : u1 l p < 256 := by
  unfold u1
  rw [List.getD_eq_getElem?_getD]
  by_cases hp : p < l.length
  · rw [List.getElem?_eq_getElem hp, Option.getD_some]
    exact h.2 _ (List.getElem_mem hp)
  · rw [List.getElem?_eq_none (by omega)]
    decide
theorem u2_lt {l : List Nat} (h : byt l) (p : Nat) : u2 l p < 65536 := by
  have a := u1_lt h p
  have b := u1_lt h (p + 1)
  unfold u1 at a b
  unfold u2
  omega
theorem u4_lt {l : List Nat} (h : byt l) (p : Nat) : u4 l p < 4294967296 := by
  have a := u2_lt h p
  have b := u2_lt h (p + 2)
  unfold u4
  omega
theorem bn_or8 {a b : Nat} (ha : a < 256) (hb : b < 256) : (nI a <<< ((8 : Int32) &&& 31)) ||| nI b = nI (256 * a + b) := by
  rw [← Int32.toBitVec_inj, Int32.toBitVec_or]
  show ((nI a).toBitVec <<< 8) ||| (nI b).toBitVec = (nI (256 * a + b)).toBitVec
  have h1 : (nI a).toBitVec = BitVec.ofNat 32 a := rfl
  have h2 : (nI b).toBitVec = BitVec.ofNat 32 b := rfl
  have h3 : (nI (256 * a + b)).toBitVec = BitVec.ofNat 32 (256 * a + b) := rfl
  rw [h1, h2, h3]
  apply BitVec.eq_of_toNat_eq
  rw [BitVec.toNat_or, BitVec.toNat_shiftLeft, BitVec.toNat_ofNat, BitVec.toNat_ofNat, BitVec.toNat_ofNat, Nat.mod_eq_of_lt (show a < 2 ^ 32 by omega), Nat.mod_eq_of_lt (show b < 2 ^ 32 by omega), Nat.shiftLeft_eq, Nat.mod_eq_of_lt (show a * 2 ^ 8 < 2 ^ 32 by omega), Nat.mod_eq_of_lt (show 256 * a + b < 2 ^ 32 by omega)]
  have := Nat.two_pow_add_eq_or_of_lt (i := 8) (b := b) (by omega) a
  rw [Nat.mul_comm a (2 ^ 8), ← this]
theorem bl_or16 {a b : Nat} (ha : a < 65536) (hb : b < 65536) : ((nI a).toInt64 <<< ((16 : Int32).toInt64 &&& 63)) ||| (nI b).toInt64 = lN (65536 * a + b) := by
  rw [bl_of (by omega), bl_of (by omega), ← Int64.toBitVec_inj, Int64.toBitVec_or]
  show ((lN a).toBitVec <<< 16) ||| (lN b).toBitVec = (lN (65536 * a + b)).toBitVec
  have h1 : (lN a).toBitVec = BitVec.ofNat 64 a := rfl
  have h2 : (lN b).toBitVec = BitVec.ofNat 64 b := rfl
  have h3 : (lN (65536 * a + b)).toBitVec = BitVec.ofNat 64 (65536 * a + b) := rfl
  rw [h1, h2, h3]
  apply BitVec.eq_of_toNat_eq
  rw [BitVec.toNat_or, BitVec.toNat_shiftLeft, BitVec.toNat_ofNat, BitVec.toNat_ofNat, BitVec.toNat_ofNat, Nat.mod_eq_of_lt (show a < 2 ^ 64 by omega), Nat.mod_eq_of_lt (show b < 2 ^ 64 by omega), Nat.shiftLeft_eq, Nat.mod_eq_of_lt (show a * 2 ^ 16 < 2 ^ 64 by omega), Nat.mod_eq_of_lt (show 65536 * a + b < 2 ^ 64 by omega)]
  have := Nat.two_pow_add_eq_or_of_lt (i := 16) (b := b) (by omega) a
  rw [Nat.mul_comm a (2 ^ 16), ← this]
theorem bn_a (a : Nat) : (nI a + 1 = nI (a + 1)) ∧ (nI a + 2 = nI (a + 2)) ∧ (nI a + 3 = nI (a + 3)) ∧ (nI a + 4 = nI (a + 4)) ∧ (nI a + 5 = nI (a + 5)) ∧ (nI a + 6 = nI (a + 6)) ∧ (nI a + 7 = nI (a + 7)) ∧ (nI a + 12 = nI (a + 12)) ∧ (nI a + 14 = nI (a + 14)) ∧ (nI a + 18 = nI (a + 18)) ∧ (nI a + 22 = nI (a + 22)) ∧ (nI a + 26 = nI (a + 26)) ∧ (nI a + 30 = nI (a + 30)) ∧ (nI a + 34 = nI (a + 34)) ∧ (nI a + 36 = nI (a + 36)) := ⟨bn_add a 1, bn_add a 2, bn_add a 3, bn_add a 4, bn_add a 5, bn_add a 6, bn_add a 7, bn_add a 12, bn_add a 14, bn_add a 18, bn_add a 22, bn_add a 26, bn_add a 30, bn_add a 34, bn_add a 36⟩
theorem md_u1 {w' : wd} {l : List Nat} (h : str w' l) {p : Nat} (hp : p < l.length) : fn_Md_u1 w' (nI p) = some (nI (u1 l p)) := by
  have hl := h.1.1
  unfold fn_Md_u1
  rw [bn_i (by omega), if_pos (by omega), Int.toNat_natCast, h.2 p hp]
  rfl
theorem md_u2 {w' : wd} {l : List Nat} (h : str w' l) {p : Nat} (hp : p + 1 < l.length) : fn_Md_u2 w' (nI p) = some (nI (u2 l p)) := by
  have hl := h.1.1
  unfold fn_Md_u2
  rw [show (1 : Int32) = nI 1 from rfl, bn_add, bn_i (by omega), bn_i (by omega), if_pos (by omega), if_pos (by omega), Int.toNat_natCast, Int.toNat_natCast, h.2 p (by omega), h.2 (p + 1) hp, bn_or8]
  · rfl
  · exact u1_lt h.1 p
  · exact u1_lt h.1 (p + 1)
theorem md_u4 {w' : wd} {l : List Nat} (h : str w' l) {p : Nat} (hp : p + 3 < l.length) : fn_Md_u4 w' (nI p) = some (lN (u4 l p)) := by
  have hl := h.1.1
  unfold fn_Md_u4
  rw [md_u2 h (by omega), Option.bind_some, show (2 : Int32) = nI 2 from rfl, bn_add, md_u2 h (by omega), Option.bind_some, bl_or16 (u2_lt h.1 _) (u2_lt h.1 _)]
  rfl
theorem ru1 (l : List Nat) (p : Nat) (hp : p < 2147483648) : rw_u1 l (nI p).toInt = u1 l p := by
  unfold rw_u1 u1
  rw [bn_i hp, if_pos (by omega), Int.toNat_natCast]
theorem ru2 {l : List Nat} {p : Nat} (hl : l.length ≤ 65536) (hp : p + 1 < l.length) : rw_u2 l (nI p).toInt = u2 l p := by
  unfold rw_u2 u2
  rw [bn_i (by omega), if_pos (by omega), Int.toNat_natCast]
theorem ru4 {l : List Nat} {p : Nat} (hl : l.length ≤ 65536) (hp : p + 3 < l.length) : rw_u4 l (nI p) = u4 l p := by
  unfold rw_u4 u4
  rw [ru2 hl (by omega), show (2 : Int32) = nI 2 from rfl, bn_add, ru2 hl (by omega)]
def at_ (w : wd) (Z : zd) (l : List Nat) (p m n : Nat) : Prop := Z.1.1 = l ∧ byt l ∧ w 105 5 = nI p ∧ w 105 7 = nI m ∧ m < 256 ∧ w 105 8 = nI n ∧ n < 65536 ∧ p + 2 + n ≤ l.length
theorem told {w : wd} {Z : zd} {l : List Nat} {p m n : Nat} (h : at_ w Z l p m n) {k : Nat} (hk : k < 100000) : fn_Sc_told Z w (nI k) = nI (u1 l (p + 4 + k)) := by
  obtain ⟨h1, h2, h3, h4, h5, h6, h7, h8⟩ := h
  have := h2.1
  unfold fn_Sc_told
  rw [h1, h3, show (4 : Int32) = nI 4 from rfl, bn_add, bn_add, ru1 _ _ (by omega)]
theorem told2 {w : wd} {Z : zd} {l : List Nat} {p m n : Nat} (h : at_ w Z l p m n) {k : Nat} (hk : p + 4 + k + 1 < l.length) : fn_Sc_told2 Z w (nI k) = nI (u2 l (p + 4 + k)) := by
  obtain ⟨h1, h2, h3, h4, h5, h6, h7, h8⟩ := h
  have := h2.1
  unfold fn_Sc_told2
  rw [h1, h3, show (4 : Int32) = nI 4 from rfl, bn_add, bn_add, ru2 h2.1 hk]
theorem hasSeg (m : Nat) (hm : m < 256) (Z : zd) {w : wd} (h : w 105 7 = nI m) : fn_Sc_hasSegment Z w = fn_Md_hasLength (nI m) := by
  unfold fn_Sc_hasSegment fn_Md_hasLength fn_Md_hasLength_12
  rw [h]
  grind
theorem bn_and {a k : Nat} (ha : a < 2147483648) (hk : k < 31) : nI a &&& nI (2 ^ k - 1) = nI (a % 2 ^ k) := by
  have hk2 : 2 ^ k < 2 ^ 31 := Nat.pow_lt_pow_right (by decide) hk
  rw [← Int32.toBitVec_inj, Int32.toBitVec_and]
  have h1 : (nI a).toBitVec = BitVec.ofNat 32 a := rfl
  have h2 : (nI (2 ^ k - 1)).toBitVec = BitVec.ofNat 32 (2 ^ k - 1) := rfl
  have h3 : (nI (a % 2 ^ k)).toBitVec = BitVec.ofNat 32 (a % 2 ^ k) := rfl
  rw [h1, h2, h3]
  apply BitVec.eq_of_toNat_eq
  have : a % 2 ^ k ≤ a := Nat.mod_le _ _
  rw [BitVec.toNat_and, BitVec.toNat_ofNat, BitVec.toNat_ofNat, BitVec.toNat_ofNat, Nat.mod_eq_of_lt (show a < 2 ^ 32 by omega), Nat.mod_eq_of_lt (show 2 ^ k - 1 < 2 ^ 32 by omega), Nat.mod_eq_of_lt (show a % 2 ^ k < 2 ^ 32 by omega), Nat.and_two_pow_sub_one_eq_mod]
theorem an1 {a : Nat} (ha : a < 2147483648) : nI a &&& 1 = nI (a % 2) := bn_and (k := 1) ha (by omega)
theorem an31 {a : Nat} (ha : a < 2147483648) : nI a &&& 31 = nI (a % 32) := bn_and (k := 5) ha (by omega)
theorem an15 {a : Nat} (ha : a < 2147483648) : nI a &&& 15 = nI (a % 16) := bn_and (k := 4) ha (by omega)
theorem an127 {a : Nat} (ha : a < 2147483648) : nI a &&& 127 = nI (a % 128) := bn_and (k := 7) ha (by omega)
theorem bn_shr {a k : Nat} (ha : a < 2147483648) (hk : k < 31) : nI a >>> (nI k &&& 31) = nI (a / 2 ^ k) := by
  rw [show (31 : Int32) = nI (2 ^ 5 - 1) from rfl, bn_and (by omega) (by omega), Nat.mod_eq_of_lt (by omega)]
  rw [← Int32.toBitVec_inj]
  have hm : (nI a).toBitVec = BitVec.ofNat 32 a := rfl
  have hm2 : (nI (a / 2 ^ k)).toBitVec = BitVec.ofNat 32 (a / 2 ^ k) := rfl
  have hs : (nI a >>> nI k).toBitVec = (nI a).toBitVec.sshiftRight k := by
    rw [Int32.toBitVec_shiftRight]
    have : ((nI k).toBitVec.smod 32) = BitVec.ofNat 32 k := by
      have : ∀ k, k < 32 → (BitVec.ofNat 32 k).smod 32 = BitVec.ofNat 32 k := by decide +kernel
      exact this k (by omega)
    rw [this]
    show (nI a).toBitVec.sshiftRight (BitVec.ofNat 32 k).toNat = _
    rw [BitVec.toNat_ofNat, Nat.mod_eq_of_lt (by omega)]
  rw [hs, hm, hm2, BitVec.sshiftRight_eq_of_msb_false]
  · apply BitVec.eq_of_toNat_eq
    have : a / 2 ^ k ≤ a := Nat.div_le_self _ _
    rw [BitVec.toNat_ushiftRight, BitVec.toNat_ofNat, BitVec.toNat_ofNat, Nat.shiftRight_eq_div_pow, Nat.mod_eq_of_lt (show a < 2 ^ 32 by omega), Nat.mod_eq_of_lt (by omega)]
  · rw [BitVec.msb_eq_false_iff_two_mul_lt, BitVec.toNat_ofNat]
    omega
theorem bn_rem {a b : Nat} (ha : a < 2147483648) (hb : b < 2147483648) : nI a - nI a / nI b * nI b = nI (a % b) := by
  rw [bn_div ha hb, bn_mul, bn_sub (Nat.div_mul_le_self a b)]
  congr 1
  have := Nat.div_add_mod a b
  rw [Nat.mul_comm b] at this
  omega
