/-! mathematics of both state tables, part 51; from wip/math -/
theorem rdI (p : Nat) (q : Int32) (h : nI p = q) {w' : wd} {l : List Nat} (hs : str w' l) (hp : p + 3 < l.length) : fn_Md_u4 w' q = some (lN (u4 l p)) := by
  rw [← h]; exact md_u4 hs hp
theorem ldm {F : Nat} (hF : 70000 ≤ F) {Z : zd} {l : List Nat} {S : List sg} {cn : Nat} {w w' : wd} (hz : Z.1.1 = l) (hs : str w' l) (hT : tabS w' S) (hok : ∀ s ∈ S, segok l cn s) (hu : uqs l S cn) (hcn : cn ≤ 16) (h35 : w' 0 35 = nI cn) (hp : plcs w l S 0) (x1 : Int32) : ∃ W w1', fn_Ld_loadMain F Z w = some W ∧ fn_Md_make F w' x1 = (if x1 < 0 then some w1' else ((fn_Md_take F w1' x1).bind fun r47 => some r47)) ∧ ra W w1' ∧ rg W w1' ∧ rcs W w1' cn ∧ (∃ k, rch W w1' k) ∧ pfr w W ∧ pfr' w' w1' ∧ w1' 0 0 = w' 0 0 := by
  have hb := hs.1
  have hl := hb.1
  obtain ⟨hu1, ⟨hpic, h40, hc1, hlen⟩, _⟩ := hu
  obtain ⟨⟨b1, b2, b3, b4, b5, b6, b7, b8⟩, p1, p2, p3⟩ := (picP_iff l 6).1 hpic
  simp only [show 6 + 2 = 8 from rfl, show 6 + 6 = 12 from rfl, show 6 + 10 = 16 from rfl, show 6 + 14 = 20 from rfl, show 6 + 18 = 24 from rfl, show 6 + 22 = 28 from rfl, show 6 + 26 = 32 from rfl, show 6 + 30 = 36 from rfl] at b1 b2 b3 b4 b5 b6 b7 b8 p1 p2
  obtain ⟨we, e1, e2⟩ := md_empty2 F F w' 0 (by omega) (by omega)
  have e1' : fn_Md_empty F w' = some we := e1
  have se : str we l := ⟨hb, fun i hi => by rw [e2, if_neg (by omega), if_neg (by omega), if_neg (by omega)]; exact hs.2 i hi⟩
  have su : ∀ (v : wd) (a j : Nat) (x : Int32), a ≠ 11 → str v l → str (up2 v a j x) l := fun v a j x ha h => ⟨h.1, fun i hi => by rw [u2n (by omega)]; exact h.2 i hi⟩
  have s0 := su we 0 2 1 (by omega) se
  have s1 := fun x => su _ 1 0 x (by omega) s0
  have s2 := fun x y => su _ 1 1 y (by omega) (s1 x)
  have s3 := fun x y z => su _ 1 2 z (by omega) (s2 x y)
  have s4 := fun x y z t => su _ 1 3 t (by omega) (s3 x y z)
  have s5 := fun x y z t a => su _ 1 4 a (by omega) (s4 x y z t)
  have s6 := fun x y z t a b => su _ 1 5 b (by omega) (s5 x y z t a)
  have s7 := fun x y z t a b c => su _ 1 6 c (by omega) (s6 x y z t a b)
  have s8 := fun x y z t a b c d => su _ 1 7 d (by omega) (s7 x y z t a b c)
  have mk : fn_Md_make F w' x1 = fn_Md_make_125 F F (up2 (up2 (up2 (up2 (up2 (up2 (up2 (up2 (up2 (up2 we 0 2 1) 1 0 (nI (u4 l 16))) 1 1 (nI (u4 l 20))) 1 2 (nI (u4 l 8))) 1 3 (nI (u4 l 12))) 1 4 (nI (u4 l 32))) 1 5 (nI (u4 l 36))) 1 6 (nI (u4 l 24))) 1 7 (nI (u4 l 28))) 0 3 (nI cn)) x1 (nI 0) := by
    unfold fn_Md_make
    rw [e1', Option.bind_some, rdI 16 16 rfl s0 (by omega), Option.bind_some, bl_to, rdI 20 20 rfl (s1 _) (by omega), Option.bind_some, bl_to, rdI 8 8 rfl (s2 _ _) (by omega), Option.bind_some, bl_to, rdI 12 12 rfl (s3 _ _ _) (by omega), Option.bind_some, bl_to, rdI 32 32 rfl (s4 _ _ _ _) (by omega), Option.bind_some, bl_to, rdI 36 36 rfl (s5 _ _ _ _ _) (by omega), Option.bind_some, bl_to, rdI 24 24 rfl (s6 _ _ _ _ _ _) (by omega), Option.bind_some, bl_to, rdI 28 28 rfl (s7 _ _ _ _ _ _ _) (by omega), Option.bind_some, bl_to]
    have : (up2 (up2 (up2 (up2 (up2 (up2 (up2 (up2 (up2 we 0 2 1) 1 0 (nI (u4 l 16))) 1 1 (nI (u4 l 20))) 1 2 (nI (u4 l 8))) 1 3 (nI (u4 l 12))) 1 4 (nI (u4 l 32))) 1 5 (nI (u4 l 36))) 1 6 (nI (u4 l 24))) 1 7 (nI (u4 l 28))) 0 35 = nI cn := by
      simp (disch := omega) only [u2n]
      rw [e2, if_neg (by omega), if_neg (by omega), if_neg (by omega)]; exact h35
    rw [this]
    rfl
  have N4 : ∀ (v : wd) (p : Nat), p + 3 < l.length → fn_Ld_number4 Z v (nI p) = nI (u4 l p) := fun v p h => by
    unfold fn_Ld_number4
    rw [hz, ru4 hl h, bl_to]
  have ls : fn_Ld_loadSize F Z (fn_Pl_reset w) 6 = fn_Ld_loadSize_91 F Z F (fn_Pl_setTiles (fn_Pl_setPicture (fn_Pl_reset w) (nI (u4 l 16)) (nI (u4 l 20)) (nI (u4 l 8)) (nI (u4 l 12))) (nI (u4 l 32)) (nI (u4 l 36)) (nI (u4 l 24)) (nI (u4 l 28))) (nI 6) (nI cn) (nI 0) := by
    unfold fn_Ld_loadSize
    rw [show (6 : Int32) + 10 = nI 16 from rfl, show (6 : Int32) + 14 = nI 20 from rfl, show (6 : Int32) + 2 = nI 8 from rfl, show (6 : Int32) + 6 = nI 12 from rfl, show (6 : Int32) + 26 = nI 32 from rfl, show (6 : Int32) + 30 = nI 36 from rfl, show (6 : Int32) + 18 = nI 24 from rfl, show (6 : Int32) + 22 = nI 28 from rfl, show (6 : Int32) + 34 = nI 40 from rfl]
    rw [N4 _ 16 (by omega), N4 _ 20 (by omega), N4 _ 8 (by omega), N4 _ 12 (by omega), N4 _ 32 (by omega), N4 _ 36 (by omega), N4 _ 24 (by omega), N4 _ 28 (by omega), hz, ru2 hl (by omega), h40]
    rfl
  have FC : ∀ a j, ¬ (a = 1 ∧ ((2 ≤ j ∧ j ≤ 7) ∨ j = 9)) → ¬ (a = 2 ∧ j < 8) → (fn_Pl_setTiles (fn_Pl_setPicture (fn_Pl_reset w) (nI (u4 l 16)) (nI (u4 l 20)) (nI (u4 l 8)) (nI (u4 l 12))) (nI (u4 l 32)) (nI (u4 l 36)) (nI (u4 l 24)) (nI (u4 l 28))) a j = w a j := fun a j q1 q2 => by
    unfold fn_Pl_setTiles fn_Pl_setPicture fn_Pl_reset fn_Pl_setGeneral
    simp (disch := omega) only [u2n, f2n]
  have FM : ∀ a j, ¬ (a = 0 ∧ (j = 2 ∨ j = 3 ∨ (8 ≤ j ∧ j ≤ 12) ∨ j = 17)) → a ≠ 1 → (up2 (up2 (up2 (up2 (up2 (up2 (up2 (up2 (up2 (up2 we 0 2 1) 1 0 (nI (u4 l 16))) 1 1 (nI (u4 l 20))) 1 2 (nI (u4 l 8))) 1 3 (nI (u4 l 12))) 1 4 (nI (u4 l 32))) 1 5 (nI (u4 l 36))) 1 6 (nI (u4 l 24))) 1 7 (nI (u4 l 28))) 0 3 (nI cn)) a j = w' a j := fun a j q1 q2 => by
    simp (disch := omega) only [u2n]
    rw [e2, if_neg (by omega), if_neg (by omega), if_neg (by omega)]
  have C12 : (fn_Pl_setTiles (fn_Pl_setPicture (fn_Pl_reset w) (nI (u4 l 16)) (nI (u4 l 20)) (nI (u4 l 8)) (nI (u4 l 12))) (nI (u4 l 32)) (nI (u4 l 36)) (nI (u4 l 24)) (nI (u4 l 28))) 1 2 = nI 0 := by
    unfold fn_Pl_setTiles fn_Pl_setPicture fn_Pl_reset fn_Pl_setGeneral
    simp (disch := omega) only [u2n, u2e]
    rfl
  have RA : ra (fn_Pl_setTiles (fn_Pl_setPicture (fn_Pl_reset w) (nI (u4 l 16)) (nI (u4 l 20)) (nI (u4 l 8)) (nI (u4 l 12))) (nI (u4 l 32)) (nI (u4 l 36)) (nI (u4 l 24)) (nI (u4 l 28))) (up2 (up2 (up2 (up2 (up2 (up2 (up2 (up2 (up2 (up2 we 0 2 1) 1 0 (nI (u4 l 16))) 1 1 (nI (u4 l 20))) 1 2 (nI (u4 l 8))) 1 3 (nI (u4 l 12))) 1 4 (nI (u4 l 32))) 1 5 (nI (u4 l 36))) 1 6 (nI (u4 l 24))) 1 7 (nI (u4 l 28))) 0 3 (nI cn)) := by
    refine ⟨fun i hi => ?_, .inl ?_⟩
    · unfold fn_Pl_setTiles fn_Pl_setPicture
      rcases (show i = 0 ∨ i = 1 ∨ i = 2 ∨ i = 3 ∨ i = 4 ∨ i = 5 ∨ i = 6 ∨ i = 7 by omega) with rfl | rfl | rfl | rfl | rfl | rfl | rfl | rfl <;> simp (disch := omega) only [u2n, u2e]
    · simp (disch := omega) only [u2n, u2e]
      rw [show (0 : Int32) = nI 0 from rfl, bn_le (by omega) (by omega), bn_lt (by omega) (by omega), bn_le (by omega) (by omega), bn_lt (by omega) (by omega)]
      exact ⟨trivial, by omega, by omega, by omega, by omega⟩
  have RG : rg (fn_Pl_setTiles (fn_Pl_setPicture (fn_Pl_reset w) (nI (u4 l 16)) (nI (u4 l 20)) (nI (u4 l 8)) (nI (u4 l 12))) (nI (u4 l 32)) (nI (u4 l 36)) (nI (u4 l 24)) (nI (u4 l 28))) (up2 (up2 (up2 (up2 (up2 (up2 (up2 (up2 (up2 (up2 we 0 2 1) 1 0 (nI (u4 l 16))) 1 1 (nI (u4 l 20))) 1 2 (nI (u4 l 8))) 1 3 (nI (u4 l 12))) 1 4 (nI (u4 l 32))) 1 5 (nI (u4 l 36))) 1 6 (nI (u4 l 24))) 1 7 (nI (u4 l 28))) 0 3 (nI cn)) := by
    unfold rg fn_Pl_setTiles fn_Pl_setPicture fn_Pl_reset fn_Pl_setGeneral
    simp (disch := omega) only [u2n, u2e]
    simp only [e2]
    exact ⟨⟨rfl, rfl, rfl, rfl, rfl⟩, .inl rfl, .inl rfl, .inl rfl⟩
  have RH : rch (fn_Pl_setTiles (fn_Pl_setPicture (fn_Pl_reset w) (nI (u4 l 16)) (nI (u4 l 20)) (nI (u4 l 8)) (nI (u4 l 12))) (nI (u4 l 32)) (nI (u4 l 36)) (nI (u4 l 24)) (nI (u4 l 28))) (up2 (up2 (up2 (up2 (up2 (up2 (up2 (up2 (up2 (up2 we 0 2 1) 1 0 (nI (u4 l 16))) 1 1 (nI (u4 l 20))) 1 2 (nI (u4 l 8))) 1 3 (nI (u4 l 12))) 1 4 (nI (u4 l 32))) 1 5 (nI (u4 l 36))) 1 6 (nI (u4 l 24))) 1 7 (nI (u4 l 28))) 0 3 (nI cn)) 0 := by
    refine ⟨?_, ?_, by omega, fun i hi => by omega⟩
    · unfold fn_Pl_setTiles fn_Pl_setPicture fn_Pl_reset fn_Pl_setGeneral
      simp (disch := omega) only [u2n, u2e]
      rfl
    · simp (disch := omega) only [u2n, u2e]
      rw [e2, if_neg (by omega), if_pos (by omega)]; rfl
  have M3 : (up2 (up2 (up2 (up2 (up2 (up2 (up2 (up2 (up2 (up2 we 0 2 1) 1 0 (nI (u4 l 16))) 1 1 (nI (u4 l 20))) 1 2 (nI (u4 l 8))) 1 3 (nI (u4 l 12))) 1 4 (nI (u4 l 32))) 1 5 (nI (u4 l 36))) 1 6 (nI (u4 l 24))) 1 7 (nI (u4 l 28))) 0 3 (nI cn)) 0 3 = nI cn := by simp (disch := omega) only [u2e]
  generalize (up2 (up2 (up2 (up2 (up2 (up2 (up2 (up2 (up2 (up2 we 0 2 1) 1 0 (nI (u4 l 16))) 1 1 (nI (u4 l 20))) 1 2 (nI (u4 l 8))) 1 3 (nI (u4 l 12))) 1 4 (nI (u4 l 32))) 1 5 (nI (u4 l 36))) 1 6 (nI (u4 l 24))) 1 7 (nI (u4 l 28))) 0 3 (nI cn)) = v' at *
  generalize (fn_Pl_setTiles (fn_Pl_setPicture (fn_Pl_reset w) (nI (u4 l 16)) (nI (u4 l 20)) (nI (u4 l 8)) (nI (u4 l 12))) (nI (u4 l 32)) (nI (u4 l 36)) (nI (u4 l 24)) (nI (u4 l 28))) = v at *
  obtain ⟨W1, W1', q1, q2, q3, q4, q5, q6⟩ := sz91 hF hz hb hcn hlen x1 F v v' 0 ⟨hb, fun i hi => by rw [FM _ _ (by omega) (by omega)]; exact hs.2 i hi⟩ (by rw [FM _ _ (by omega) (by omega)]; exact h35) C12 (fun x hx => by omega) (by omega) (by omega)
  have FW : ∀ a j, a = 0 ∨ 101 ≤ a → W1 a j = w a j := fun a j h => by rw [q5 a j (by omega) (by omega)]; exact FC a j (by omega) (by omega)
  have FW' : ∀ a j, 11 ≤ a ∨ (a = 0 ∧ (18 ≤ j ∨ j = 0)) → W1' a j = w' a j := fun a j h => by rw [q6 a j (by omega)]; exact FM a j (by omega) (by omega)
  obtain ⟨W, w1', z1, z2, z3, z4, z5, z6, z7, z8, z9⟩ := own_take (o := 0) hF hz (w := W1) (w' := W1') ⟨hb, fun i hi => by rw [FW' _ _ (by omega)]; exact hs.2 i hi⟩ ⟨by rw [FW' _ _ (by omega)]; exact hT.1, hT.2.1, fun k hk => by rw [FW' _ _ (by omega), FW' _ _ (by omega), FW' _ _ (by omega), FW' _ _ (by omega)]; exact hT.2.2.1 k hk, hT.2.2.2⟩ hok hu1 (by omega) (fun m c h1 h2 => by rw [FW _ _ (by omega)]; exact hp m c h1 h2) (ra_fr RA (fun j => q5 _ _ (by omega) (by omega)) (q6 _ _ (by omega)) (fun j => q6 _ _ (by omega))) (rg_fr RG (fun j _ _ => q5 _ _ (by omega) (by omega)) (fun j _ _ => q6 _ _ (by omega))) ⟨q3, by rw [q6 _ _ (by omega)]; exact M3, hcn, q4⟩ ⟨0, rch_fr RH (q5 _ _ (by omega) (by omega)) (fun j => q5 _ _ (by omega) (by omega)) (q6 _ _ (by omega)) (fun j => q6 _ _ (by omega))⟩
  refine ⟨W, w1', ?_, ?_, z3, z4, z5, z6, fun a j h => by rw [z7 a j h]; exact FW a j h, fun a j h => by rw [z8 a j h]; exact FW' a j (by omega), by rw [z9]; exact FW' _ _ (by omega)⟩
  · unfold fn_Ld_loadMain
    rw [ls, q1, Option.bind_some, show (0 : Int32) = nI 0 from rfl, z1, Option.bind_some]
  · rw [mk, q2, show (-1 : Int32) = ow 0 from rfl, z2, Option.bind_some]
theorem ldt {F : Nat} (hF : 70000 ≤ F) {Z : zd} {l : List Nat} {S : List sg} {cn : Nat} {w w' : wd} (hz : Z.1.1 = l) (hs : str w' l) (hT : tabS w' S) (hok : ∀ s ∈ S, segok l cn s) (hu : uqs l S cn) (hcn : cn ≤ 16) (h35 : w' 0 35 = nI cn) (hp : plcs w l S 0) {t : Nat} (ht : t < 64) (hpt : plcs w l S (t + 1)) : ∃ W w1', fn_Ld_loadTile F Z w (nI t) = some W ∧ fn_Md_make F w' (nI t) = some w1' ∧ rpl W w1' ∧ pfr w W ∧ pfr' w' w1' ∧ w1' 0 0 = w' 0 0 := by
  obtain ⟨W, w1', a1, a2, a3, a4, a5, a6, a7, a8, a9⟩ := ldm hF hz hs hT hok hu hcn h35 hp (nI t)
  have hb := hs.1
  obtain ⟨W2, w2', z1, z2, z3, z4, z5, z6, z7, z8, z9⟩ := own_take (o := t + 1) hF hz (w := W) (w' := w1') ⟨hb, fun i hi => by rw [a8 _ _ (by omega)]; exact hs.2 i hi⟩ ⟨by rw [a8 _ _ (by omega)]; exact hT.1, hT.2.1, fun k hk => by rw [a8 _ _ (by omega), a8 _ _ (by omega), a8 _ _ (by omega), a8 _ _ (by omega)]; exact hT.2.2.1 k hk, hT.2.2.2⟩ hok hu.1 (by omega) (fun m c h1 h2 => by rw [a7 _ _ (by omega)]; exact hpt m c h1 h2) a3 a4 a5 a6
  refine ⟨W2, w2', ?_, ?_, ⟨z3, z4, ⟨cn, z5⟩, z6⟩, fun a j h => by rw [z7 a j h]; exact a7 a j h, fun a j h => by rw [z8 a j h]; exact a8 a j h, z9.trans a9⟩
  · unfold fn_Ld_loadTile fn_Ps_ownerOf
    rw [a1, Option.bind_some, show (1 : Int32) = nI 1 from rfl, bn_add, Nat.add_comm, z1, Option.bind_some]
  · have e : ow (t + 1) = nI t := by unfold ow; rw [if_neg (by omega)]; rfl
    rw [a2, if_neg (by rw [show (0 : Int32) = nI 0 from rfl, bn_lt (by omega) (by omega)]; omega), ← e, z2, Option.bind_some]
