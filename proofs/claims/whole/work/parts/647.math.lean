/-! mathematics of both state tables, part 47; from wip/math -/
def snn (l : List Nat) (S : List sg) (o m c k : Nat) : Bool := (S.take k).any (pr l m o c)
theorem snn_s {l : List Nat} {S : List sg} {o m c k : Nat} (hk : k < S.length) : snn l S o m c (k + 1) = (snn l S o m c k || pr l m o c (S.getD k sg0)) := by
  unfold snn
  rw [List.take_succ, List.any_append]
  congr 1
  rw [List.getD_eq_getElem?_getD, List.getElem?_eq_getElem hk]
  simp
theorem snn_0 {l : List Nat} {S : List sg} {o m c : Nat} : snn l S o m c 0 = false := by unfold snn; simp
theorem snn_l {l : List Nat} {S : List sg} {o m c : Nat} (hS : ∀ s ∈ S, 1 ≤ s.2.1) : snn l S o m c S.length = false ↔ plf S (pr l m o c) = 0 := by
  unfold snn
  rw [List.take_length, plf_0 hS]
def sameC (w1' w' : wd) (x : Nat) : Prop := (∀ j, j < 5 → w1' 6 (8 * x + j) = w' 6 (8 * x + j)) ∧ ∀ r, r < 33 → w1' 7 (33 * x + r) = w' 7 (33 * x + r) ∧ w1' 8 (33 * x + r) = w' 8 (33 * x + r)
def sameS (w1' w' : wd) (x : Nat) : Prop := w1' 6 (8 * x + 5) = w' 6 (8 * x + 5) ∧ w1' 6 (8 * x + 6) = w' 6 (8 * x + 6) ∧ ∀ k, k < 97 → w1' 9 (97 * x + k) = w' 9 (97 * x + k)
def st1 (w1' w' : wd) (l : List Nat) (S : List sg) (o n k : Nat) : Prop :=
  ((snn l S o 82 0 k = true → genM w1' l (plf S (pr l 82 o 0) + 4) ∧ ∀ x, x < n → bodyM w1' x l (plf S (pr l 82 o 0) + 9) (decide (u1 l (plf S (pr l 82 o 0) + 4) % 2 = 1))) ∧ (snn l S o 82 0 k = false → (∀ j, 8 ≤ j → j ≤ 12 → w1' 0 j = w' 0 j) ∧ ∀ x, x < n → sameC w1' w' x)) ∧
  ((snn l S o 92 0 k = true → ∀ x, x < n → rowsM w1' x l (plf S (pr l 92 o 0) + 4) (u2 l (plf S (pr l 92 o 0) + 2) - 3)) ∧ (snn l S o 92 0 k = false → ∀ x, x < n → sameS w1' w' x)) ∧
  (∀ a j, ¬ (a = 0 ∧ 8 ≤ j ∧ j ≤ 12) → ¬ inM n a j → w1' a j = w' a j) ∧ ∀ x, x < n → w1' 6 (8 * x + 7) = w' 6 (8 * x + 7)
theorem bodyM_fr {w1' w' : wd} {x : Nat} {l : List Nat} {b : Nat} {t : Bool} (h : bodyM w' x l b t) (hs : sameC w1' w' x) : bodyM w1' x l b t := by
  obtain ⟨a1, a2, a3, a4, a5, a6⟩ := h
  exact ⟨(hs.1 0 (by omega)).trans a1, (hs.1 1 (by omega)).trans a2, (hs.1 2 (by omega)).trans a3, (hs.1 3 (by omega)).trans a4, (hs.1 4 (by omega)).trans a5, fun r hr => ⟨(hs.2 r hr).1.trans (a6 r hr).1, (hs.2 r hr).2.trans (a6 r hr).2⟩⟩
theorem rowsM_fr {w1' w' : wd} {x : Nat} {l : List Nat} {b n : Nat} (h : rowsM w' x l b n) (hs : sameS w1' w' x) : rowsM w1' x l b n :=
  ⟨hs.1.trans h.1, hs.2.1.trans h.2.1, fun k hk => (hs.2.2 k hk).trans (h.2.2 k hk)⟩
theorem sameC_tr {a b c : wd} {x : Nat} (h1 : sameC a b x) (h2 : sameC b c x) : sameC a c x := ⟨fun j hj => (h1.1 j hj).trans (h2.1 j hj), fun r hr => ⟨(h1.2 r hr).1.trans (h2.2 r hr).1, (h1.2 r hr).2.trans (h2.2 r hr).2⟩⟩
theorem sameS_tr {a b c : wd} {x : Nat} (h1 : sameS a b x) (h2 : sameS b c x) : sameS a c x := ⟨h1.1.trans h2.1, h1.2.1.trans h2.2.1, fun k hk => (h1.2.2 k hk).trans (h2.2.2 k hk)⟩
theorem t48n {F g : Nat} {w' : wd} {l : List Nat} {S : List sg} {o n k : Nat} {p : Int32} (hT : tabS w' S) (hn : n ≤ 16) (h3 : w' 0 3 = nI n) (ho : o ≤ 1000) (hk : k < S.length) (hm : ¬ ((S.getD k sg0).1 = 92 ∧ (S.getD k sg0).2.2.2 = o)) (k2 : wd → Int32 → Int32 → Option wd) : fn_Md_take_48 k2 F (g + 1) w' (ow o) (nI k) p (nI 0) = k2 w' (ow o) (nI (k + 1)) := by
  obtain ⟨t1, t2, t3, t4⟩ := id hT
  obtain ⟨q1, q2, q3, q4⟩ := t3 k hk
  have hs := t4 _ (gd_mem (d := sg0) hk)
  have R : 0 ≤ (nI k).toInt ∧ (nI k).toInt < 16500 := by rw [bn_i (by omega)]; omega
  rw [fn_Md_take_48, h3]
  simp only [if_pos R, bn_nn k (show k < 2147483648 by omega), q1, q4]
  unfold fn_Md_take_101
  rw [(bn_a k).1]
  have e1 : (nI (S.getD k sg0).1 = 92) = ((S.getD k sg0).1 = 92) := propext (bn_eq (b := 92) (by omega) (by omega))
  have e2 : (ow (S.getD k sg0).2.2.2 = ow o) = ((S.getD k sg0).2.2.2 = o) := propext (ow_inj hs.2 ho)
  simp only [e1, e2]
  by_cases d1 : (S.getD k sg0).2.2.2 = o
  · by_cases d2 : (S.getD k sg0).1 = 92
    · exact absurd ⟨d2, d1⟩ hm
    · simp only [if_neg d2, ite_self]
  · simp only [if_neg d1, ite_self]
set_option maxHeartbeats 2000000 in
theorem tk2 {F : Nat} (hF : 70000 ≤ F) {l : List Nat} {S : List sg} {cn o n : Nat} {w' : wd} (hs : str w' l) (hT : tabS w' S) (hok : ∀ s ∈ S, segok l cn s) (hu : uq l S) (ho : o ≤ 64) (hn : n ≤ 16) (h3 : w' 0 3 = nI n) (g : Nat) : ∀ (w1' : wd) (k : Nat), st1 w1' w' l S o n k → k ≤ S.length → S.length - k < g → ∃ w2', fn_Md_take_2 F g w1' (ow o) (nI k) = fn_Md_take_109 F F w2' (ow o) 0 ∧ st1 w2' w' l S o n S.length := by
  induction g with
  | zero => intro w1' k _ _ h; omega
  | succ g ih =>
    intro w1' k hst h1 h2
    obtain ⟨⟨A1, A2⟩, ⟨B1, B2⟩, C1, C2⟩ := id hst
    have fr : ∀ a j, 11 ≤ a ∨ (a = 0 ∧ ¬ (8 ≤ j ∧ j ≤ 12)) → w1' a j = w' a j := fun a j q => C1 a j (by omega) (by unfold inM; omega)
    have hs1 : str w1' l := ⟨hs.1, fun i hi => by rw [fr _ _ (by omega)]; exact hs.2 i hi⟩
    have hT1 : tabS w1' S := ⟨by rw [fr _ _ (by omega)]; exact hT.1, hT.2.1, fun k hk => by rw [fr _ _ (by omega), fr _ _ (by omega), fr _ _ (by omega), fr _ _ (by omega)]; exact hT.2.2.1 k hk, hT.2.2.2⟩
    have h31 : w1' 0 3 = nI n := by rw [fr _ _ (by omega)]; exact h3
    have hl := hs.1.1
    have hS := hT.2.1
    rw [fn_Md_take_2, hT1.1]
    simp only [bn_le (show S.length < 2147483648 by omega) (show k < 2147483648 by omega)]
    by_cases d : S.length ≤ k
    · rw [if_pos d]
      have : k = S.length := by omega
      subst this
      exact ⟨w1', rfl, hst⟩
    · have hk : k < S.length := by omega
      obtain ⟨q1, q2, q3, q4⟩ := hT1.2.2.1 k hk
      have hmem := gd_mem (d := sg0) hk
      have hsg := hok _ hmem
      have hb4 := hT.2.2.2 _ hmem
      have R : 0 ≤ (nI k).toInt ∧ (nI k).toInt < 16500 := by rw [bn_i (by omega)]; omega
      obtain ⟨F', hF'⟩ : ∃ F', F = F' + 1 := ⟨F - 1, by omega⟩
      simp only [if_neg d, if_pos R, bn_nn k (show k < 2147483648 by omega), q1, q2, q4]
      have e1 : (nI (S.getD k sg0).1 = 82) = ((S.getD k sg0).1 = 82) := propext (bn_eq (b := 82) (by omega) (by omega))
      have e2 : (ow (S.getD k sg0).2.2.2 = ow o) = ((S.getD k sg0).2.2.2 = o) := propext (ow_inj hb4.2 (by omega))
      simp only [e1, e2]
      have s82 := snn_s (l := l) (S := S) (o := o) (m := 82) (c := 0) hk
      have s92 := snn_s (l := l) (S := S) (o := o) (m := 92) (c := 0) hk
      have prn : ∀ m, ¬ ((S.getD k sg0).1 = m ∧ (S.getD k sg0).2.2.2 = o) → pr l m o 0 (S.getD k sg0) = false := fun m hm => by
        unfold pr
        exact decide_eq_false (fun ⟨a, b, _⟩ => hm ⟨a, b⟩)
      have pry : ∀ m, ¬ (m = 83 ∨ m = 93 ∨ m = 94) → (S.getD k sg0).1 = m → (S.getD k sg0).2.2.2 = o → pr l m o 0 (S.getD k sg0) = true := fun m hm a b => by
        unfold pr
        exact decide_eq_true ⟨a, b, fun x => absurd x hm⟩
      unfold fn_Md_take_45
      by_cases d1 : (S.getD k sg0).2.2.2 = o
      · simp only [if_pos d1]
        by_cases d2 : (S.getD k sg0).1 = 82
        · have hpl := uq_pl hu (show kmk 82 by unfold kmk; omega) hmem (pry 82 (by omega) d2 d1)
          have kv := hsg.2.2.2.2.2.2.2.2.1 d2
          have k3 := hsg.2.2.1
          have hlen := hsg.2.2.2.2.1
          rw [if_pos d2, (bn_a _).2.2.2.1, hpl]
          rw [hpl] at kv k3 hlen
          obtain ⟨w2, x1, x2, x3, x4⟩ := takeCoding (show 200 ≤ F by omega) hs1 (d := (plf S (pr l 82 o 0)) + 4) hn h31 (by omega) kv.2.2.1 (fun h => by have := kv.2.2.2.2 h; rw [show (plf S (pr l 82 o 0)) + 4 + 5 = (plf S (pr l 82 o 0)) + 9 from rfl]; omega)
          rw [x1, Option.bind_some]
          have fr2 : ∀ a j, 11 ≤ a ∨ (a = 0 ∧ ¬ (8 ≤ j ∧ j ≤ 12)) → w2 a j = w1' a j := fun a j q => x4 a j (by omega) (fun ⟨z, _⟩ => by omega) (by omega)
          have hT2 : tabS w2 S := ⟨by rw [fr2 _ _ (by omega)]; exact hT1.1, hT.2.1, fun k hk => by rw [fr2 _ _ (by omega), fr2 _ _ (by omega), fr2 _ _ (by omega), fr2 _ _ (by omega)]; exact hT1.2.2.1 k hk, hT.2.2.2⟩
          rw [show fn_Md_take_48 (fn_Md_take_2 F g) F F w2 (ow o) (nI k) (nI (plf S (pr l 82 o 0))) 0 = fn_Md_take_2 F g w2 (ow o) (nI (k + 1)) by
            have := t48n (F := F) (g := F') (l := l) (o := o) (p := nI (plf S (pr l 82 o 0))) hT2 hn (by rw [fr2 _ _ (by omega)]; exact h31) (by omega) hk (by omega) (fn_Md_take_2 F g)
            rw [← hF'] at this; exact this]
          have sS : ∀ x, x < n → sameS w2 w1' x := fun x hx => ⟨x4 _ _ (by omega) (fun ⟨_, y, y1, y2, y3⟩ => by omega) (by omega), x4 _ _ (by omega) (fun ⟨_, y, y1, y2, y3⟩ => by omega) (by omega), fun k hk => x4 _ _ (by omega) (fun ⟨z, _⟩ => by omega) (by omega)⟩
          refine ih w2 (k + 1) ⟨⟨fun _ => ⟨x2, x3⟩, fun h => ?_⟩, ⟨fun h x hx => ?_, fun h x hx => ?_⟩, fun a j z1 z2 => ?_, fun x hx => ?_⟩ (by omega) (by omega)
          · rw [s82, pry 82 (by omega) d2 d1] at h; simp at h
          · rw [s92, prn 92 (by omega), Bool.or_false] at h
            exact rowsM_fr (B1 h x hx) (sS x hx)
          · rw [s92, prn 92 (by omega), Bool.or_false] at h
            exact sameS_tr (sS x hx) (B2 h x hx)
          · rw [x4 a j z1 (fun ⟨y0, y, y1, y2, y3⟩ => z2 (.inl ⟨y0, by omega⟩)) (fun ⟨y0, y1⟩ => z2 (.inr (.inl ⟨y0, y1⟩)))]
            exact C1 a j z1 z2
          · rw [x4 _ _ (by omega) (fun ⟨_, y, y1, y2, y3⟩ => by omega) (by omega)]
            exact C2 x hx
        · rw [if_neg d2]
          by_cases d3 : (S.getD k sg0).1 = 92
          · have hpl := uq_pl hu (show kmk 92 by unfold kmk; omega) hmem (pry 92 (by omega) d3 d1)
            have kv := hsg.2.2.2.2.2.2.2.2.2.2.1 d3
            obtain ⟨w2, x1, x2, x3⟩ := t48 (show 200 ≤ F by omega) (l := l) (p := (S.getD k sg0).2.1) hn hk rfl ⟨d3, d1⟩ kv hsg.2.2.1 (fn_Md_take_2 F g) F w1' 0 hs1 hT1 h31 (by omega) (by omega)
            rw [show fn_Md_take_48 (fn_Md_take_2 F g) F F w1' (ow o) (nI k) (nI (S.getD k sg0).2.1) 0 = _ from x1]
            rw [hsg.2.2.2.2.1, hpl] at x2
            have sC : ∀ x, x < n → sameC w2 w1' x := fun x hx => ⟨fun j hj => x3 _ _ (fun ⟨_, y, y1, y2, y3⟩ => by omega) (by omega), fun r hr => ⟨x3 _ _ (fun ⟨z, _⟩ => by omega) (by omega), x3 _ _ (fun ⟨z, _⟩ => by omega) (by omega)⟩⟩
            have g0 : ∀ j, w2 0 j = w1' 0 j := fun j => x3 _ _ (fun ⟨z, _⟩ => by omega) (by omega)
            refine ih w2 (k + 1) ⟨⟨fun h => ?_, fun h => ?_⟩, ⟨fun _ x hx => x2 x (by omega) hx, fun h => ?_⟩, fun a j z1 z2 => ?_, fun x hx => ?_⟩ (by omega) (by omega)
            · rw [s82, prn 82 (by omega), Bool.or_false] at h
              obtain ⟨⟨p1, p2, p3, p4, p5⟩, pb⟩ := A1 h
              exact ⟨⟨by rw [g0]; exact p1, by rw [g0]; exact p2, by rw [g0]; exact p3, by rw [g0]; exact p4, by rw [g0]; exact p5⟩, fun x hx => bodyM_fr (pb x hx) (sC x hx)⟩
            · rw [s82, prn 82 (by omega), Bool.or_false] at h
              obtain ⟨pa, pb⟩ := A2 h
              exact ⟨fun j j1 j2 => by rw [g0]; exact pa j j1 j2, fun x hx => sameC_tr (sC x hx) (pb x hx)⟩
            · rw [s92, pry 92 (by omega) d3 d1] at h; simp at h
            · rw [x3 a j (fun ⟨y0, y, y1, y2, y3⟩ => z2 (.inl ⟨y0, by omega⟩)) (fun ⟨y0, y1, y2⟩ => z2 (.inr (.inr ⟨y0, y2⟩)))]
              exact C1 a j z1 z2
            · rw [x3 _ _ (fun ⟨_, y, y1, y2, y3⟩ => by omega) (by omega)]
              exact C2 x hx
          · rw [show fn_Md_take_48 (fn_Md_take_2 F g) F F w1' (ow o) (nI k) (nI (S.getD k sg0).2.1) 0 = fn_Md_take_2 F g w1' (ow o) (nI (k + 1)) by
              have := t48n (F := F) (g := F') (l := l) (o := o) (p := nI (S.getD k sg0).2.1) hT1 hn h31 (by omega) hk (by omega) (fn_Md_take_2 F g)
              rw [← hF'] at this; exact this]
            refine ih w1' (k + 1) ⟨⟨fun h => ?_, fun h => ?_⟩, ⟨fun h => ?_, fun h => ?_⟩, C1, C2⟩ (by omega) (by omega)
            · rw [s82, prn 82 (by omega), Bool.or_false] at h; exact A1 h
            · rw [s82, prn 82 (by omega), Bool.or_false] at h; exact A2 h
            · rw [s92, prn 92 (by omega), Bool.or_false] at h; exact B1 h
            · rw [s92, prn 92 (by omega), Bool.or_false] at h; exact B2 h
      · simp only [if_neg d1]
        rw [show fn_Md_take_48 (fn_Md_take_2 F g) F F w1' (ow o) (nI k) (nI (S.getD k sg0).2.1) 0 = fn_Md_take_2 F g w1' (ow o) (nI (k + 1)) by
          have := t48n (F := F) (g := F') (l := l) (o := o) (p := nI (S.getD k sg0).2.1) hT1 hn h31 (by omega) hk (by omega) (fn_Md_take_2 F g)
          rw [← hF'] at this; exact this]
        refine ih w1' (k + 1) ⟨⟨fun h => ?_, fun h => ?_⟩, ⟨fun h => ?_, fun h => ?_⟩, C1, C2⟩ (by omega) (by omega)
        · rw [s82, prn 82 (by omega), Bool.or_false] at h; exact A1 h
        · rw [s82, prn 82 (by omega), Bool.or_false] at h; exact A2 h
        · rw [s92, prn 92 (by omega), Bool.or_false] at h; exact B1 h
        · rw [s92, prn 92 (by omega), Bool.or_false] at h; exact B2 h
