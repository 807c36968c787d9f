/-! budgets behind a row that is set; throwing methods' contracts by their ends -/
section OSD
variable {G : sm_G} {b : Nat} {M0 M : sm_M} {w : wd} {Z : zd} {f g : sm_F} {pc : Nat} {lv : List (Nat × Value)} {st rest : List Value} {Q : sm_O → sm_M → Prop} {index n N zF ec es : Nat} {C X : String} {T9 : u_T} {As : List Value}
theorem th_I {r : Int32} (h : sm_C G g As M (os_e (oI (.inl r)) 1) (os_e (oI (.inl r)) 6) (os_Q G b M (oI (.inl r)) w Z)) : sm_C G g As M 0 0 (os_Q G b M (.inl (some (.int r))) w Z) := h
theorem th_V {r : Unit} (h : sm_C G g As M (os_e (oV (.inl r)) 1) (os_e (oV (.inl r)) 6) (os_Q G b M (oV (.inl r)) w Z)) : sm_C G g As M 0 0 (os_Q G b M (.inl none) w Z) := h
theorem th_XI (h : sm_C G g As M (os_e (oI (.inr X)) 1) (os_e (oI (.inr X)) 6) (os_Q G b M (oI (.inr X)) w Z)) : sm_C G g As M 1 6 (os_Q G b M (.inr X) w Z) := h
theorem th_XV (h : sm_C G g As M (os_e (oV (.inr X)) 1) (os_e (oV (.inr X)) 6) (os_Q G b M (oV (.inr X)) w Z)) : sm_C G g As M 1 6 (os_Q G b M (.inr X) w Z) := h
theorem os_setB1 {l' : List Nat} (hd : decode f.2.1 pc = .ok (.invokevirtual index, 3)) (hg : sm_Call f index g n ∧ Cond.instanceMethod g.1 ∈ sm_WS ∧ Cond.selects C g.1 g.1 ∈ sm_WS ∧ sm_cl[5]? = some (C, T9, N)) (hno : f.2.2.2.2.1 = []) (hS : os_in G b M0 M w Z) (hn : As.length = n) (hst : st = As.reverse ++ .ref (b + 101) :: rest) (hrest : (rest.map fun v => v.category).sum ≤ 12)
    (hC : ∀ q, rw_at G M (b + 101) q Z.1.2 Z.1.1 → sm_C G g (.ref (b + 101) :: As) M 0 0 (rw_st G M (b + 101) q Z.1.2 l'))
    (k : ∀ M1 : sm_M, os_in G b M0 M1 w (zs1 Z (l', Z.1.2)) → sm_W G f (pc + 3) lv rest M1 (2 * (zF - zc (zs1 Z (l', Z.1.2))) + ec) (2 * (zF - zc (zs1 Z (l', Z.1.2))) + es) Q) : sm_W G f pc lv st M (2 * (zF - zc Z) + ec) (2 * (zF - zc Z) + es) Q := by
  have e : zc (zs1 Z (l', Z.1.2)) = zc Z := rfl
  rw [e] at k
  exact os_set1 hd hg hno hS hn hst hrest hC k
theorem os_setB2 {l' : List Nat} (hd : decode f.2.1 pc = .ok (.invokevirtual index, 3)) (hg : sm_Call f index g n ∧ Cond.instanceMethod g.1 ∈ sm_WS ∧ Cond.selects C g.1 g.1 ∈ sm_WS ∧ sm_cl[5]? = some (C, T9, N)) (hno : f.2.2.2.2.1 = []) (hS : os_in G b M0 M w Z) (hn : As.length = n) (hst : st = As.reverse ++ .ref (b + 103) :: rest) (hrest : (rest.map fun v => v.category).sum ≤ 12)
    (hC : ∀ q, rw_at G M (b + 103) q Z.2.1.2 Z.2.1.1 → sm_C G g (.ref (b + 103) :: As) M 0 0 (rw_st G M (b + 103) q Z.2.1.2 l'))
    (k : ∀ M1 : sm_M, os_in G b M0 M1 w (zs2 Z (l', Z.2.1.2)) → sm_W G f (pc + 3) lv rest M1 (2 * (zF - zc (zs2 Z (l', Z.2.1.2))) + ec) (2 * (zF - zc (zs2 Z (l', Z.2.1.2))) + es) Q) : sm_W G f pc lv st M (2 * (zF - zc Z) + ec) (2 * (zF - zc Z) + es) Q := by
  have e : zc (zs2 Z (l', Z.2.1.2)) = zc Z := rfl
  rw [e] at k
  exact os_set2 hd hg hno hS hn hst hrest hC k
theorem os_setB3 {l' : List Nat} (hd : decode f.2.1 pc = .ok (.invokevirtual index, 3)) (hg : sm_Call f index g n ∧ Cond.instanceMethod g.1 ∈ sm_WS ∧ Cond.selects C g.1 g.1 ∈ sm_WS ∧ sm_cl[5]? = some (C, T9, N)) (hno : f.2.2.2.2.1 = []) (hS : os_in G b M0 M w Z) (hn : As.length = n) (hst : st = As.reverse ++ .ref (b + 106) :: rest) (hrest : (rest.map fun v => v.category).sum ≤ 12)
    (hC : ∀ q, rw_at G M (b + 106) q Z.2.2.2 Z.2.2.1 → sm_C G g (.ref (b + 106) :: As) M 0 0 (rw_st G M (b + 106) q Z.2.2.2 l'))
    (k : ∀ M1 : sm_M, os_in G b M0 M1 w (zs3 Z (l', Z.2.2.2)) → sm_W G f (pc + 3) lv rest M1 (2 * (zF - zc (zs3 Z (l', Z.2.2.2))) + ec) (2 * (zF - zc (zs3 Z (l', Z.2.2.2))) + es) Q) : sm_W G f pc lv st M (2 * (zF - zc Z) + ec) (2 * (zF - zc Z) + es) Q := by
  have e : zc (zs3 Z (l', Z.2.2.2)) = zc Z := rfl
  rw [e] at k
  exact os_set3 hd hg hno hS hn hst hrest hC k
end OSD
