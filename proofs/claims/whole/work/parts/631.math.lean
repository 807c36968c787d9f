/-! mathematics of both state tables, part 31; from wip/math -/
def hbs (l : List Nat) (s : sg) : List Nat := if s.1 = 96 ∨ s.1 = 97 then (l.drop (s.2.1 + 5)).take (s.2.2.1 - 3) else []
def hdl (l : List Nat) (S : List sg) : List Nat := S.flatMap (hbs l)
def qhd (H : List Nat) (q : pt) : List Nat := (H.drop (fld q 5)).take (fld q 6)
def hdQ (H : List Nat) (Q : List pt) (t : Nat) : List Nat := (Q.filter (isT t)).flatMap (qhd H)
def hdS (l : List Nat) (S : List sg) (t : Nat) : List Nat := (S.filter (mo 97 (t + 1))).flatMap (hbs l)
def inv1 (w' : wd) (Z : zd) (l : List Nat) : Prop := str w' l ∧ Z.1.1 = l ∧ w' 0 20 = nI l.length
def inv2 (w' : wd) (l : List Nat) (S : List sg) (cn p : Nat) : Prop := tabS w' S ∧ 4 * S.length ≤ p ∧ ∀ s ∈ S, segok l cn s
def inv3 (w w' : wd) (S : List sg) (cn T : Nat) : Prop := w 105 9 = nI cn ∧ w' 0 35 = nI cn ∧ cn ≤ 16 ∧ w 105 10 = nI T ∧ w' 0 34 = nI T ∧ T ≤ 64 ∧ w 105 11 = nI (S.countP (mo 96 0))
def inv4 (w : wd) (l : List Nat) (S : List sg) (Q : List pt) : Prop := plcs w l S 0 ∧ (∀ t, t < 64 → 0 < Q.countP (isT t) → plcs w l S (t + 1)) ∧ ∀ s ∈ S, s.2.2.2 ≠ 0 → 0 < Q.countP (isT (s.2.2.2 - 1))
def inv5 (w w' : wd) (Q : List pt) (dn : Nat) : Prop := tabQ w Q dn ∧ tabP w' Q dn ∧ cntQ w Q ∧ bndQ Q
def inv6 (w : wd) (l H : List Nat) (S : List sg) (Q : List pt) (p : Nat) : Prop := H = hdl l S ∧ H.length ≤ p ∧ (∀ q ∈ Q, fld q 5 + fld q 6 ≤ H.length) ∧ (∀ t, t < 64 → w 114 t = nI (S.countP (mo 97 (t + 1)))) ∧ ∀ t, hdQ H Q t = hdS l S t
def inv (w w' : wd) (Z : zd) (l : List Nat) (S : List sg) (Q : List pt) (dn cn T p : Nat) : Prop := inv1 w' Z l ∧ inv2 w' l S cn p ∧ inv3 w w' S cn T ∧ inv4 w l S Q ∧ inv5 w w' Q dn ∧ inv6 w l Z.2.2.1 S Q p
theorem sloop_r {F n i r : Nat} {Z : zd} {w w1 : wd} (hi : i ≤ 65536) (hr : 1 ≤ r) (hr7 : r ≤ 7) (h5 : ¬ w 105 4 = 5) (h : fn_Sc_refusalHere F Z w = some (nI r, w1)) : fn_Sc_refusal_8 F (n + 2) Z w 0 (nI i) = some (nI r, w1, Z) := by
  have hr0 : ¬ nI r = 0 := by rw [show (0 : Int32) = nI 0 from rfl, bn_eq (by omega) (by omega)]; omega
  rw [fn_Sc_refusal_8, if_neg (by rw [show (65536 : Int32) = nI 65536 from rfl, bn_lt (by omega) (by omega)]; omega), if_pos rfl, if_neg h5, h, Option.bind_some]
  simp only [if_neg hr0]
  unfold fn_Sc_refusal_39
  rw [fn_Sc_refusal_8]
  split
  · rfl
  · rfl
theorem sloop_0 {F n i : Nat} {Z Z2 : zd} {w w1 w2 : wd} {R : Int32 × wd × zd} (hi : i ≤ 65536) (h5 : ¬ w 105 4 = 5) (h : fn_Sc_refusalHere F Z w = some (0, w1)) (ht : fn_Sc_takeMark F Z w1 = some (w2, Z2)) (hz : zc Z ≤ zc Z2) (hR : fn_Sc_refusal_8 F n Z2 w2 0 (nI (i + 1)) = some R) (hzR : zc Z2 ≤ zc R.2.2) : fn_Sc_refusal_8 F (n + 1) Z w 0 (nI i) = some R ∧ zc Z ≤ zc R.2.2 := by
  refine ⟨?_, Nat.le_trans hz hzR⟩
  rw [fn_Sc_refusal_8, if_neg (by rw [show (65536 : Int32) = nI 65536 from rfl, bn_lt (by omega) (by omega)]; omega), if_pos rfl, if_neg h5, h, Option.bind_some]
  simp only [if_true]
  rw [ht, Option.bind_some]
  simp only [if_pos hz]
  unfold fn_Sc_refusal_39
  rw [show nI i + 1 = nI (i + 1) from bn_add i 1]
  exact mchk_eq hR hzR
theorem qhd_app {H X : List Nat} {q : pt} (h : fld q 5 + fld q 6 ≤ H.length) : qhd (H ++ X) q = qhd H q := by
  unfold qhd
  rw [List.drop_append_of_le_length (by omega), List.take_append_of_le_length (by rw [List.length_drop]; omega)]
theorem hdQ_app {H X : List Nat} {Q : List pt} (h : ∀ q ∈ Q, fld q 5 + fld q 6 ≤ H.length) (t : Nat) : hdQ (H ++ X) Q t = hdQ H Q t := by
  unfold hdQ
  induction Q with
  | nil => rfl
  | cons q Q ih =>
    have := ih (fun x hx => h x (List.mem_cons_of_mem _ hx))
    rw [List.filter_cons]
    split
    · rw [List.flatMap_cons, List.flatMap_cons, this, qhd_app (h q List.mem_cons_self)]
    · exact this
theorem hdS_n {l : List Nat} {S : List sg} {m p n o : Nat} (hm : m ≠ 97) (t : Nat) : hdS l (S ++ [(m, p, n, o)]) t = hdS l S t := by
  unfold hdS
  rw [List.filter_append]
  have : [(m, p, n, o)].filter (mo 97 (t + 1)) = [] := by
    simp [mo, hm]
  rw [this, List.append_nil]
theorem cP_app {S : List sg} {f : sg → Bool} {s : sg} : (S ++ [s]).countP f = S.countP f + if f s = true then 1 else 0 := by
  rw [List.countP_append, List.countP_cons, List.countP_nil, Nat.zero_add]
theorem cP_n {S : List sg} {m p n o k o' : Nat} (hm : m ≠ k) : (S ++ [(m, p, n, o)]).countP (mo k o') = S.countP (mo k o') := by
  rw [cP_app, if_neg]
  · rfl
  · simp [mo, hm]
theorem hdl_app {l : List Nat} {S : List sg} {s : sg} : hdl l (S ++ [s]) = hdl l S ++ hbs l s := by
  unfold hdl
  rw [List.flatMap_append]
  simp

def wfr (w w1 : wd) : Prop := ∀ a j, a < 101 ∨ a = 101 ∨ a = 102 ∨ a = 103 ∨ a = 104 → w1 a j = w a j
def mdf (w' w1' : wd) : Prop := ∀ a j, ¬ (a = 0 ∧ (j = 22 ∨ j = 23 ∨ j = 28 ∨ 34 ≤ j)) → ¬ (12 ≤ a ∧ a ≤ 20) → w1' a j = w' a j
theorem tm_seg {F : Nat} {w : wd} {Z : zd} {m : Nat} {x y : Nat} (h7 : w 105 7 = nI m) (hm : m < 256) (h5 : w 105 5 = nI x) (h8 : w 105 8 = nI y) (h1 : m ≠ 79) (h2 : m ≠ 81) (h3 : m ≠ 144) (h4 : m ≠ 147) (h6 : m ≠ 217) {r : wd × zd} (ht : fn_Sc_takeSegment Z w = some r) (hz : zc Z ≤ zc r.2) : fn_Sc_takeMark F Z w = some (up2 r.1 105 5 (nI (x + 2 + y)), r.2) := by
  unfold fn_Sc_takeMark
  rw [h7, if_neg (show ¬ nI m = 79 from bn_e' (k := 79) hm (by omega) h1), if_neg (show ¬ nI m = 81 from bn_e' (k := 81) hm (by omega) h2), if_neg (show ¬ nI m = 144 from bn_e' (k := 144) hm (by omega) h3), if_neg (show ¬ nI m = 147 from bn_e' (k := 147) hm (by omega) h4), if_neg (show ¬ nI m = 217 from bn_e' (k := 217) hm (by omega) h6), ht, Option.bind_some, if_pos hz, h5, h8]
  rw [show nI x + 2 + nI y = nI (x + 2 + y) by rw [(bn_a x).2.1, bn_add]]
  exact mchk_eq rfl (Nat.le_refl _)
