/-! mathematics of both state tables, part 58; from wip/math -/
def zz0 : zd := (([], 256), ([], 256), ([], 256))
def w0c : wd := up2 (up2 (fn_Pl_reset (fun _ _ => 0)) 0 5 0) 0 6 (-1)
def w0m : wd := fun a j => if a = 0 ∧ j = 9 then 1 else if a = 0 ∧ j = 22 then -1 else 0
theorem czo0 : czo zz0 := ⟨⟨8, by decide, rfl⟩, ⟨8, by decide, rfl⟩, ⟨8, by decide, rfl⟩⟩
theorem zc0 : zc zz0 = 768 := rfl
theorem rel0 : rel w0c zz0 w0m := by
  have e : ∀ a j, w0m a j = if a = 0 ∧ j = 9 then 1 else if a = 0 ∧ j = 22 then -1 else 0 := fun _ _ => rfl
  refine ⟨⟨⟨fun i hi => ?_, .inr ⟨rfl, rfl⟩⟩, ⟨⟨rfl, rfl, rfl, rfl, rfl⟩, .inl rfl, .inl rfl, .inl rfl⟩, ⟨0, rfl, rfl, by omega, fun c hc => by omega⟩, 0, rfl, rfl, by omega, fun i hi => by omega⟩, ⟨rfl, by decide, fun i hi => by simp [zz0] at hi, fun b hb => by simp [zz0] at hb, rfl, .inl rfl, rfl⟩, fun h => ?_⟩
  · rcases (show i = 0 ∨ i = 1 ∨ i = 2 ∨ i = 3 ∨ i = 4 ∨ i = 5 ∨ i = 6 ∨ i = 7 by omega) with rfl | rfl | rfl | rfl | rfl | rfl | rfl | rfl <;> rfl
  · exact absurd h (by decide)
