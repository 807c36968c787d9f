/-! mathematics of both state tables, part 1; from wip/math -/
theorem bn_i {a : Nat} (h : a < 2147483648) : (nI a).toInt = a := by unfold nI; exact Int32.toInt_ofNat_of_lt h
theorem bn_lt {a b : Nat} (ha : a < 2147483648) (hb : b < 2147483648) : nI a < nI b ↔ a < b := by
  rw [Int32.lt_iff_toInt_lt, bn_i ha, bn_i hb]; omega
theorem bn_le {a b : Nat} (ha : a < 2147483648) (hb : b < 2147483648) : nI a ≤ nI b ↔ a ≤ b := by
  rw [Int32.le_iff_toInt_le, bn_i ha, bn_i hb]; omega
theorem bn_eq {a b : Nat} (ha : a < 2147483648) (hb : b < 2147483648) : nI a = nI b ↔ a = b := by
  rw [← Int32.toInt_inj, bn_i ha, bn_i hb]; omega
theorem bn_add (a b : Nat) : nI a + nI b = nI (a + b) := by unfold nI; exact (Int32.ofNat_add a b).symm
theorem bn_mul (a b : Nat) : nI a * nI b = nI (a * b) := by unfold nI; exact (Int32.ofNat_mul a b).symm
theorem bn_sub {a b : Nat} (h : b ≤ a) : nI a - nI b = nI (a - b) := by
  have := bn_add (a - b) b
  rw [Nat.sub_add_cancel h] at this
  rw [← this]; exact Int32.add_sub_cancel _ _
theorem bn_of {x : Int32} (h : 0 ≤ x.toInt) : x = nI x.toInt.toNat := by
  rw [← Int32.toInt_inj, bn_i]
  · omega
  · have := x.toInt_lt; omega
theorem bn_ex {x : Int32} (h : 0 ≤ x.toInt) : ∃ n : Nat, n < 2147483648 ∧ x = nI n := ⟨x.toInt.toNat, by have := x.toInt_lt; omega, bn_of h⟩
theorem bn_lit : (((0 : Int32)) = nI 0) ∧ (((1 : Int32)) = nI 1) ∧ (((2 : Int32)) = nI 2) ∧ (((3 : Int32)) = nI 3) ∧ (((4 : Int32)) = nI 4) ∧ (((5 : Int32)) = nI 5) ∧ (((6 : Int32)) = nI 6) ∧ (((7 : Int32)) = nI 7) ∧ (((8 : Int32)) = nI 8) ∧ (((9 : Int32)) = nI 9) ∧ (((10 : Int32)) = nI 10) ∧ (((11 : Int32)) = nI 11) ∧ (((12 : Int32)) = nI 12) ∧ (((13 : Int32)) = nI 13) ∧ (((14 : Int32)) = nI 14) ∧ (((15 : Int32)) = nI 15) ∧ (((16 : Int32)) = nI 16) ∧ (((18 : Int32)) = nI 18) ∧ (((20 : Int32)) = nI 20) ∧ (((21 : Int32)) = nI 21) ∧ (((22 : Int32)) = nI 22) ∧ (((23 : Int32)) = nI 23) ∧ (((24 : Int32)) = nI 24) ∧ (((25 : Int32)) = nI 25) ∧ (((26 : Int32)) = nI 26) ∧ (((27 : Int32)) = nI 27) ∧ (((28 : Int32)) = nI 28) ∧ (((29 : Int32)) = nI 29) ∧ (((30 : Int32)) = nI 30) ∧ (((31 : Int32)) = nI 31) ∧ (((32 : Int32)) = nI 32) ∧ (((33 : Int32)) = nI 33) ∧ (((34 : Int32)) = nI 34) ∧ (((36 : Int32)) = nI 36) ∧ (((37 : Int32)) = nI 37) ∧ (((38 : Int32)) = nI 38) ∧ (((40 : Int32)) = nI 40) ∧ (((42 : Int32)) = nI 42) ∧ (((43 : Int32)) = nI 43) ∧ (((44 : Int32)) = nI 44) ∧ (((45 : Int32)) = nI 45) ∧ (((48 : Int32)) = nI 48) ∧ (((51 : Int32)) = nI 51) ∧ (((63 : Int32)) = nI 63) ∧ (((64 : Int32)) = nI 64) ∧ (((79 : Int32)) = nI 79) ∧ (((81 : Int32)) = nI 81) ∧ (((82 : Int32)) = nI 82) ∧ (((83 : Int32)) = nI 83) ∧ (((84 : Int32)) = nI 84) ∧ (((85 : Int32)) = nI 85) ∧ (((86 : Int32)) = nI 86) ∧ (((87 : Int32)) = nI 87) ∧ (((88 : Int32)) = nI 88) ∧ (((89 : Int32)) = nI 89) ∧ (((90 : Int32)) = nI 90) ∧ (((91 : Int32)) = nI 91) ∧ (((92 : Int32)) = nI 92) ∧ (((93 : Int32)) = nI 93) ∧ (((94 : Int32)) = nI 94) ∧ (((95 : Int32)) = nI 95) ∧ (((96 : Int32)) = nI 96) ∧ (((97 : Int32)) = nI 97) ∧ (((99 : Int32)) = nI 99) ∧ (((127 : Int32)) = nI 127) ∧ (((128 : Int32)) = nI 128) ∧ (((144 : Int32)) = nI 144) ∧ (((146 : Int32)) = nI 146) ∧ (((147 : Int32)) = nI 147) ∧ (((192 : Int32)) = nI 192) ∧ (((217 : Int32)) = nI 217) ∧ (((224 : Int32)) = nI 224) ∧ (((226 : Int32)) = nI 226) ∧ (((255 : Int32)) = nI 255) ∧ (((256 : Int32)) = nI 256) ∧ (((1792 : Int32)) = nI 1792) ∧ (((3315 : Int32)) = nI 3315) ∧ (((65535 : Int32)) = nI 65535) ∧ (((65536 : Int32)) = nI 65536) := ⟨rfl, rfl, rfl, rfl, rfl, rfl, rfl, rfl, rfl, rfl, rfl, rfl, rfl, rfl, rfl, rfl, rfl, rfl, rfl, rfl, rfl, rfl, rfl, rfl, rfl, rfl, rfl, rfl, rfl, rfl, rfl, rfl, rfl, rfl, rfl, rfl, rfl, rfl, rfl, rfl, rfl, rfl, rfl, rfl, rfl, rfl, rfl, rfl, rfl, rfl, rfl, rfl, rfl, rfl, rfl, rfl, rfl, rfl, rfl, rfl, rfl, rfl, rfl, rfl, rfl, rfl, rfl, rfl, rfl, rfl, rfl, rfl, rfl, rfl, rfl, rfl, rfl, rfl, rfl⟩
theorem bi_l : (((0 : Int32)).toInt = 0) ∧ (((1 : Int32)).toInt = 1) ∧ (((2 : Int32)).toInt = 2) ∧ (((3 : Int32)).toInt = 3) ∧ (((4 : Int32)).toInt = 4) ∧ (((5 : Int32)).toInt = 5) ∧ (((6 : Int32)).toInt = 6) ∧ (((7 : Int32)).toInt = 7) ∧ (((8 : Int32)).toInt = 8) ∧ (((9 : Int32)).toInt = 9) ∧ (((10 : Int32)).toInt = 10) ∧ (((11 : Int32)).toInt = 11) ∧ (((12 : Int32)).toInt = 12) ∧ (((13 : Int32)).toInt = 13) ∧ (((14 : Int32)).toInt = 14) ∧ (((15 : Int32)).toInt = 15) ∧ (((16 : Int32)).toInt = 16) ∧ (((18 : Int32)).toInt = 18) ∧ (((20 : Int32)).toInt = 20) ∧ (((21 : Int32)).toInt = 21) ∧ (((22 : Int32)).toInt = 22) ∧ (((23 : Int32)).toInt = 23) ∧ (((24 : Int32)).toInt = 24) ∧ (((25 : Int32)).toInt = 25) ∧ (((26 : Int32)).toInt = 26) ∧ (((27 : Int32)).toInt = 27) ∧ (((28 : Int32)).toInt = 28) ∧ (((29 : Int32)).toInt = 29) ∧ (((30 : Int32)).toInt = 30) ∧ (((31 : Int32)).toInt = 31) ∧ (((32 : Int32)).toInt = 32) ∧ (((33 : Int32)).toInt = 33) ∧ (((34 : Int32)).toInt = 34) ∧ (((36 : Int32)).toInt = 36) ∧ (((37 : Int32)).toInt = 37) ∧ (((38 : Int32)).toInt = 38) ∧ (((40 : Int32)).toInt = 40) ∧ (((42 : Int32)).toInt = 42) ∧ (((43 : Int32)).toInt = 43) ∧ (((44 : Int32)).toInt = 44) ∧ (((45 : Int32)).toInt = 45) ∧ (((48 : Int32)).toInt = 48) ∧ (((51 : Int32)).toInt = 51) ∧ (((63 : Int32)).toInt = 63) ∧ (((64 : Int32)).toInt = 64) ∧ (((79 : Int32)).toInt = 79) ∧ (((81 : Int32)).toInt = 81) ∧ (((82 : Int32)).toInt = 82) ∧ (((83 : Int32)).toInt = 83) ∧ (((84 : Int32)).toInt = 84) ∧ (((85 : Int32)).toInt = 85) ∧ (((86 : Int32)).toInt = 86) ∧ (((87 : Int32)).toInt = 87) ∧ (((88 : Int32)).toInt = 88) ∧ (((89 : Int32)).toInt = 89) ∧ (((90 : Int32)).toInt = 90) ∧ (((91 : Int32)).toInt = 91) ∧ (((92 : Int32)).toInt = 92) ∧ (((93 : Int32)).toInt = 93) ∧ (((94 : Int32)).toInt = 94) ∧ (((95 : Int32)).toInt = 95) ∧ (((96 : Int32)).toInt = 96) ∧ (((97 : Int32)).toInt = 97) ∧ (((99 : Int32)).toInt = 99) ∧ (((127 : Int32)).toInt = 127) ∧ (((128 : Int32)).toInt = 128) ∧ (((144 : Int32)).toInt = 144) ∧ (((146 : Int32)).toInt = 146) ∧ (((147 : Int32)).toInt = 147) ∧ (((192 : Int32)).toInt = 192) ∧ (((217 : Int32)).toInt = 217) ∧ (((224 : Int32)).toInt = 224) ∧ (((226 : Int32)).toInt = 226) ∧ (((255 : Int32)).toInt = 255) ∧ (((256 : Int32)).toInt = 256) ∧ (((1792 : Int32)).toInt = 1792) ∧ (((3315 : Int32)).toInt = 3315) ∧ (((65535 : Int32)).toInt = 65535) ∧ (((65536 : Int32)).toInt = 65536) := ⟨rfl, rfl, rfl, rfl, rfl, rfl, rfl, rfl, rfl, rfl, rfl, rfl, rfl, rfl, rfl, rfl, rfl, rfl, rfl, rfl, rfl, rfl, rfl, rfl, rfl, rfl, rfl, rfl, rfl, rfl, rfl, rfl, rfl, rfl, rfl, rfl, rfl, rfl, rfl, rfl, rfl, rfl, rfl, rfl, rfl, rfl, rfl, rfl, rfl, rfl, rfl, rfl, rfl, rfl, rfl, rfl, rfl, rfl, rfl, rfl, rfl, rfl, rfl, rfl, rfl, rfl, rfl, rfl, rfl, rfl, rfl, rfl, rfl, rfl, rfl, rfl, rfl, rfl, rfl⟩
theorem bn_nn (a : Nat) (h : a < 2147483648) : (nI a).toInt.toNat = a := by rw [bn_i h]; rfl
theorem bl_lt {x y : Int64} : x < y ↔ x.toInt < y.toInt := Int64.lt_iff_toInt_lt
theorem bl_le {x y : Int64} : x ≤ y ↔ x.toInt ≤ y.toInt := Int64.le_iff_toInt_le
theorem bi_lt {x y : Int32} : x < y ↔ x.toInt < y.toInt := Int32.lt_iff_toInt_lt
theorem bi_le {x y : Int32} : x ≤ y ↔ x.toInt ≤ y.toInt := Int32.le_iff_toInt_le
theorem bi_eq {x y : Int32} : x = y ↔ x.toInt = y.toInt := Int32.toInt_inj.symm
theorem md_in (x : Int32) (a b : Int64) : (fn_Md_in x.toInt64 a b = true) ↔ (a.toInt ≤ x.toInt ∧ x.toInt ≤ b.toInt) := by
  unfold fn_Md_in
  simp only [bl_lt, Int32.toInt_toInt64]
  split
  · simp; omega
  · split
    · simp; omega
    · simp; omega
theorem u2e {w : wd} {a k b j : Nat} {v : Int32} (h : b = a) (h2 : j = k) : up2 w a k v b j = v := by unfold up2; rw [if_pos ⟨h, h2⟩]
theorem u2a {w : wd} {a k b j : Nat} {v : Int32} (h : b ≠ a) : up2 w a k v b j = w b j := by unfold up2; rw [if_neg (fun x => h x.1)]
theorem u2k {w : wd} {a k b j : Nat} {v : Int32} (h : j ≠ k) : up2 w a k v b j = w b j := by unfold up2; rw [if_neg (fun x => h x.2)]
theorem f2e {w : wd} {a n b j : Nat} {v : Int32} (h : b = a) (h2 : j < n) : fil2 w a n v b j = v := by unfold fil2; rw [if_pos ⟨h, h2⟩]
theorem f2a {w : wd} {a n b j : Nat} {v : Int32} (h : b ≠ a) : fil2 w a n v b j = w b j := by unfold fil2; rw [if_neg (fun x => h x.1)]
theorem f2k {w : wd} {a n b j : Nat} {v : Int32} (h : n ≤ j) : fil2 w a n v b j = w b j := by unfold fil2; rw [if_neg (fun x => by omega)]
theorem u2n {w : wd} {a k b j : Nat} {v : Int32} (h : ¬ (b = a ∧ j = k)) : up2 w a k v b j = w b j := by unfold up2; rw [if_neg h]
theorem f2n {w : wd} {a n b j : Nat} {v : Int32} (h : ¬ (b = a ∧ j < n)) : fil2 w a n v b j = w b j := by unfold fil2; rw [if_neg h]
theorem md_in0 (x : Int32) {a b : Int64} {c d : Int} (ha : a.toInt = c) (hb : b.toInt = d) : (fn_Md_in x.toInt64 a b = true) ↔ (c ≤ x.toInt ∧ x.toInt ≤ d) := by rw [md_in, ha, hb]
theorem bl_i {a : Nat} (h : a < 9223372036854775808) : (lN a).toInt = a := by unfold lN; exact Int64.toInt_ofNat_of_lt h
theorem bl_l {a b : Nat} (ha : a < 9223372036854775808) (hb : b < 9223372036854775808) : lN a < lN b ↔ a < b := by
  rw [Int64.lt_iff_toInt_lt, bl_i ha, bl_i hb]; omega
theorem bl_e {a b : Nat} (ha : a < 9223372036854775808) (hb : b < 9223372036854775808) : lN a ≤ lN b ↔ a ≤ b := by
  rw [Int64.le_iff_toInt_le, bl_i ha, bl_i hb]; omega
theorem bl_q {a b : Nat} (ha : a < 9223372036854775808) (hb : b < 9223372036854775808) : lN a = lN b ↔ a = b := by
  rw [← Int64.toInt_inj, bl_i ha, bl_i hb]; omega
theorem bl_add (a b : Nat) : lN a + lN b = lN (a + b) := by unfold lN; exact (Int64.ofNat_add a b).symm
theorem bl_mul (a b : Nat) : lN a * lN b = lN (a * b) := by unfold lN; exact (Int64.ofNat_mul a b).symm
theorem bl_sub {a b : Nat} (h : b ≤ a) : lN a - lN b = lN (a - b) := by
  have := bl_add (a - b) b
  rw [Nat.sub_add_cancel h] at this
  rw [← this]; exact Int64.add_sub_cancel _ _
theorem bl_div {a b : Nat} (ha : a < 9223372036854775808) (hb : b < 9223372036854775808) : lN a / lN b = lN (a / b) := by
  rw [← Int64.toInt_inj, Int64.toInt_div, bl_i ha, bl_i hb, bl_i (Nat.lt_of_le_of_lt (Nat.div_le_self _ _) ha)]
  rw [← Int.ofNat_tdiv]
  have := Nat.lt_of_le_of_lt (Nat.div_le_self a b) ha
  generalize a / b = q at *
  simp only [Int.bmod]
  split <;> omega
theorem bl_of {n : Nat} (h : n < 2147483648) : (nI n).toInt64 = lN n := by
  rw [← Int64.toInt_inj, Int32.toInt_toInt64, bn_i h, bl_i (by omega)]
theorem bl_to (n : Nat) : (lN n).toInt32 = nI n := by unfold lN nI; exact Int64.toInt32_ofNat'
theorem bl_lit : (((0 : Int64)) = lN 0) ∧ (((1 : Int64)) = lN 1) ∧ (((2 : Int64)) = lN 2) ∧ (((4 : Int64)) = lN 4) ∧ (((7 : Int64)) = lN 7) ∧ (((10 : Int64)) = lN 10) ∧ (((14 : Int64)) = lN 14) ∧ (((15 : Int64)) = lN 15) ∧ (((20 : Int64)) = lN 20) ∧ (((32 : Int64)) = lN 32) ∧ (((34 : Int64)) = lN 34) ∧ (((37 : Int64)) = lN 37) ∧ (((38 : Int64)) = lN 38) ∧ (((40 : Int64)) = lN 40) ∧ (((45 : Int64)) = lN 45) ∧ (((63 : Int64)) = lN 63) ∧ (((64 : Int64)) = lN 64) ∧ (((96 : Int64)) = lN 96) ∧ (((255 : Int64)) = lN 255) ∧ (((65535 : Int64)) = lN 65535) ∧ (((65536 : Int64)) = lN 65536) ∧ (((2147483648 : Int64)) = lN 2147483648) := ⟨rfl, rfl, rfl, rfl, rfl, rfl, rfl, rfl, rfl, rfl, rfl, rfl, rfl, rfl, rfl, rfl, rfl, rfl, rfl, rfl, rfl, rfl⟩
theorem bl_acr {x y v : Nat} (h : x ≤ y) (hv : 1 ≤ v) (hy : y < 4294967296) (hv2 : v < 4294967296) : fn_Md_across (lN x) (lN y) (lN v) = some (lN ((y - x + v - 1) / v)) := by
  unfold fn_Md_across
  rw [if_pos (by rw [show (0 : Int64) = lN 0 from rfl, bl_q (by omega) (by omega)]; omega), bl_sub h, bl_add, show (1 : Int64) = lN 1 from rfl, bl_sub (by omega), bl_div (by omega) (by omega)]
theorem bl_ct {x y v h x1 y1 : Nat} (hx : x ≤ x1) (hy : y ≤ y1) (hv : 1 ≤ v) (hh : 1 ≤ h) (b1 : x1 < 4294967296) (b2 : y1 < 4294967296) (b3 : v < 4294967296) (b4 : h < 4294967296) : fn_Ru_countTiles (lN x) (lN y) (lN v) (lN h) (lN x1) (lN y1) = lN ((x1 - x + v - 1) / v * ((y1 - y + h - 1) / h)) := by
  unfold fn_Ru_countTiles
  rw [if_neg (by rw [bl_i (by omega)]; omega), if_neg (by rw [bl_i (by omega)]; omega), bl_sub hx, bl_add, show (1 : Int64) = lN 1 from rfl, bl_sub (by omega), bl_div (by omega) (by omega), bl_sub hy, bl_add, bl_sub (by omega), bl_div (by omega) (by omega), bl_mul]
theorem bl_cb {x y v : Nat} (h : x < y) (hv : 1 ≤ v) : 1 ≤ (y - x + v - 1) / v ∧ (y - x + v - 1) / v ≤ y - x := by
  constructor
  · exact (Nat.le_div_iff_mul_le hv).2 (by omega)
  · rw [Nat.div_le_iff_le_mul_add_pred hv]
    have : 1 * (y - x) ≤ v * (y - x) := Nat.mul_le_mul_right _ hv
    omega
