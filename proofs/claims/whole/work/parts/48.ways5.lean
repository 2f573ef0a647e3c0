/-! a way so far, on both sides alike -/
def Slp (s m c r o : Int32) : Prop := (s = nI 1 ∧ (∃ z, z ≤ 9 ∧ c = nI (10 ^ z) ∧ r = nI 0 ∧ o = nI z) ∧ ∃ k, 1 ≤ k ∧ k < 2 ^ 31 ∧ m = nI k) ∨ (s ≠ nI 1 ∧ c = r ∧ o = nI 0)
def Wy (j : Nat) (T : Nat → Nat) (C R : Mm) (a v hd : Nat) : Prop := (a ≤ 80 ∧ ∀ s, s < 3 → T s ≤ 99) ∧ C.1 36 6 = nI a ∧ R.1 72 21 = nI a ∧ C.1 36 12 = nI hd ∧ R.1 72 28 = nI hd ∧ R.1 72 29 = nI v ∧ R.1 72 30 = nI j ∧ (∀ s, s < 3 → R.1 73 (5 * j + s) = nI (T s) ∧ C.1 36 (9 + s) = nI (T s)) ∧ C.1 36 7 = sumI (fun i => R.1 86 i) a ∧ C.1 36 8 = maxI (fun i => R.1 87 i) a ∧ ∀ i, i < a → C.1 37 i = R.1 84 i ∧ C.1 38 i = R.1 85 i ∧ C.1 39 i = R.1 86 i ∧ C.1 40 i = R.1 87 i ∧ Slp (C.1 37 i) (C.1 38 i) (C.1 41 i) (R.1 88 i) (R.1 89 i) ∧ ∃ x, x ≤ 990 ∧ R.1 86 i = nI x
theorem lenOf_le {s m T : Nat} (hT : T ≤ 99) (hm : m < 2 ^ 31) : lenOf s m T ≤ 990 := by
  have h1 := (dgs_le (v := m) (by omega) 10).mpr (by omega)
  have h2 : T * dgs m ≤ 99 * 10 := Nat.mul_le_mul hT h1
  unfold lenOf
  split
  · omega
  · split <;> omega
/-- one act more, on both sides -/
theorem Wy_act {n j a v hd s m : Nat} (hn : 1000 ≤ n) {T : Nat → Nat} {C R : Mm} (h : Wy j T C R a v hd) (hj : j < 6) (ha : a < 80) (hv : v < 2 ^ 31) (hs : s < 3) (hm : m < 2 ^ 31) (hd14 : C.1 36 14 = nI (dgs v)) {z sl no : Int32} (hz : Slp (nI s) (nI m) z sl no) : ∃ C' R', fX0_note (nI s) (nI m) (nI (lenOf s m (T s))) z C = some C' ∧ fX11_acts n (nI s) (nI m) sl no R = some R' ∧ Wy j T C' R' (a + 1) v hd ∧ C'.2 = C.2 ∧ R'.2 = R.2 ∧ (∀ q i, ¬ ((37 ≤ q ∧ q ≤ 41 ∧ i = a) ∨ (q = 36 ∧ (i = 6 ∨ i = 7 ∨ i = 8))) → C'.1 q i = C.1 q i) ∧ (∀ q i, ¬ ((84 ≤ q ∧ q ≤ 89 ∧ i = a) ∨ (q = 72 ∧ i = 21)) → R'.1 q i = R.1 q i) := by
  obtain ⟨w1, w2, w3, w4, w5, w6, w7, w8, w9, w10, w11⟩ := h
  obtain ⟨C', c1, c2, c3, c4, c5, c6, c7, c8, c9, c10, c11⟩ := notes_l ha (nI s) (nI m) (nI (lenOf s m (T s))) z w2
  obtain ⟨R', r1, r2, r3, r4, r5, r6, r7, r8, r9, r10⟩ := acts_l hn ha hv hs hm hj sl no w3 w6 w5 w7 (w8 s hs).1
  rw [w4, hd14, nI_add] at c6 c9
  refine ⟨C', R', c1, r1, ⟨⟨by omega, w1.2⟩, c10, r9, ?_, ?_, ?_, ?_, fun s2 hs2 => ⟨?_, ?_⟩, ?_, ?_, fun i hi => ?_⟩, c2, r2, c11, r10⟩
  · rw [c11 _ _ (by omega)]; exact w4
  · rw [r10 _ _ (by omega)]; exact w5
  · rw [r10 _ _ (by omega)]; exact w6
  · rw [r10 _ _ (by omega)]; exact w7
  · rw [r10 _ _ (by omega)]; exact (w8 s2 hs2).1
  · rw [c11 _ _ (by omega)]; exact (w8 s2 hs2).2
  · rw [c8, w9]
    show _ = sumI (fun i => R'.1 86 i) a + R'.1 86 a
    rw [r5, sumI_c (f := fun i => R'.1 86 i) (g := fun i => R.1 86 i) a (fun i hi => r10 _ _ (by omega))]
  · rw [c9, w10]
    show _ = imax (maxI (fun i => R'.1 87 i) a) (R'.1 87 a)
    rw [r6, maxI_c (f := fun i => R'.1 87 i) (g := fun i => R.1 87 i) a (fun i hi => r10 _ _ (by omega))]
  · by_cases hia : i = a
    · subst hia
      rw [c3, c4, c5, c6, c7, r3, r4, r5, r6, r7, r8]
      exact ⟨rfl, rfl, rfl, rfl, hz, _, lenOf_le (w1.2 s hs) hm, rfl⟩
    · rw [c11 37 i (by omega), c11 38 i (by omega), c11 39 i (by omega), c11 40 i (by omega), c11 41 i (by omega), r10 84 i (by omega), r10 85 i (by omega), r10 86 i (by omega), r10 87 i (by omega), r10 88 i (by omega), r10 89 i (by omega)]
      exact w11 i (by omega)
