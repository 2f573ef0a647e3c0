/-! at the start -/
theorem c00 {q i : Nat} (h : ¬ (60 ≤ q ∧ q < 72)) : C00.1 q i = nI 0 := by
  unfold C00
  show (if (q = 60 ∨ q = 62 ∨ q = 64 ∨ q = 66 ∨ q = 68 ∨ q = 70) ∧ i < 2 then (-1 : Int32) else 0) = nI 0
  rw [if_neg (by omega)]
  rfl
theorem r00 {q i : Nat} (h : ¬ (q = 72 ∧ i = 9)) (h2 : q ≠ 99) : R00.1 q i = nI 0 := by
  unfold R00
  show (if q = 72 ∧ i = 9 then (-1 : Int32) else if q = 99 ∧ i < 6 then -1 else 0) = nI 0
  rw [if_neg h, if_neg (by omega)]
  rfl
theorem Inv_0 : Inv 0 C00 R00 := by
  refine ⟨0, 0, ⟨0, by omega, c00 (by omega), r00 (by omega) (by omega), fun i hi => by omega⟩, ⟨by omega, c00 (by omega), r00 (by omega) (by omega), fun j hj => by omega⟩, ⟨fun j hj => by omega, fun j _ _ => r00 (by omega) (by omega)⟩, ⟨0, 0, by omega, by omega, c00 (by omega), c00 (by omega), r00 (by omega) (by omega), r00 (by omega) (by omega), fun i hi => by omega⟩, ⟨0, by omega, c00 (by omega), r00 (by omega) (by omega), fun i hi => by omega⟩, ⟨0, by omega, c00 (by omega), r00 (by omega) (by omega), fun i hi => by omega⟩, ⟨by omega, c00 (by omega), r00 (by omega) (by omega), fun i hi => by omega⟩, ⟨0, by omega, c00 (by omega), r00 (by omega) (by omega), fun i hi => by omega⟩, fun j hj => ?_, Or.inl ⟨c00 (by omega), rfl⟩⟩
  refine Or.inl ⟨?_, ?_, ?_⟩
  · rcases (show j = 0 ∨ j = 1 ∨ j = 2 ∨ j = 3 ∨ j = 4 ∨ j = 5 by omega) with rfl | rfl | rfl | rfl | rfl | rfl <;> rfl
  · rcases (show j = 0 ∨ j = 1 ∨ j = 2 ∨ j = 3 ∨ j = 4 ∨ j = 5 by omega) with rfl | rfl | rfl | rfl | rfl | rfl <;> rfl
  · show (if 99 = 72 ∧ j = 9 then (-1 : Int32) else if 99 = 99 ∧ j < 6 then -1 else 0) = -1
    rw [if_neg (by omega), if_pos ⟨rfl, hj⟩]
