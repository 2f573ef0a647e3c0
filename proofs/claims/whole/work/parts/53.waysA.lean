/-- going on: f = 1 before anything runs, 0 after -/
def Lf (j : Nat) (T : Nat → Nat) (f : Nat) (C R : Mm) (a v hd : Nat) : Prop := Wy j T C R a v hd ∧ C.1 36 13 = nI v ∧ C.1 36 14 = nI (dgs v) ∧ ((f = 1 ∧ v = 0 ∧ C.1 36 15 = nI 0) ∨ (f = 0 ∧ C.1 36 15 = nI 1))
/-- two figures, looked up and added: the class looks at noughts itself, the reference's caller does -/
theorem Lf_step {n j a v hd f x y k o : Nat} (hn : 1000 ≤ n) {T : Nat → Nat} {C R : Mm} (h : Lf j T f C R a v hd) (hj : j < 6) (ha : a + 2 ≤ 80) (hx : x ≤ 9) (hy : y ≤ 9) (hk : k ≤ 9) (ho : o ≤ 9) (hw : v + x * y * 10 ^ k < 2 ^ 31) : ∃ C' R' f' a', fX0_lookAndAdd n (nI x) (nI y) (nI (10 ^ k)) (nI (10 ^ o)) C = some C' ∧ ((x = 0 ∨ y = 0) ∧ R' = R ∧ f' = f ∨ (1 ≤ x ∧ 1 ≤ y) ∧ fX11_lookAndAdd n (nI x) (nI y) (nI k) (nI f) (nI o) R = some (nI f', R')) ∧ Lf j T f' C' R' a' (v + x * y * 10 ^ k) hd ∧ a' ≤ a + 2 := by
  by_cases h0 : x = 0 ∨ y = 0
  · have e : v + x * y * 10 ^ k = v := by rcases h0 with rfl | rfl <;> simp
    rw [e]
    refine ⟨C, R, f, a, ?_, Or.inl ⟨h0, rfl, rfl⟩, h, by omega⟩
    unfold fX0_lookAndAdd
    rcases h0 with rfl | rfl
    · simp (disch := omega) only [↓lt_d, eq_self, lN_add, i_l, wTn, wFa, wFb, wCT, wCF, mNe, mNe2, mLt, mLe, bp_s, bn_s, n_clampS, nI_1, nI_add, pk_sub, nI_mul, wrI_at, wrI_2, wrL_at, wrL_1, true_and, false_and, and_true, and_false, and_self, ↓reduceIte, Nat.reduceEqDiff, Nat.reduceAdd, Nat.reduceMul, Nat.add_zero, Nat.zero_add, reduceCtorEq, l_0, l_1, l_2, l_3, l_4, l_5, l_6, l_7, l_8, l_9, l_10, l_15, l_24, l_32, l_39, l_40, l_47, l_48, l_50, l_57, l_60, l_63, l_80, l_95, l_99, l_100, l_120, l_126, l_128, l_1000, l_9999, l_10000, L_0, L_1, L_2, L_3, L_4, L_5, L_7, L_9, L_15, L_40, L_50, L_99, L_127, L_9999, c_ltT, c_ltF, c_leT, c_leF, c_eqT, c_eqF, n_leF, n_ltF, c_gltT, c_gltF, c_ggtT, c_ggtF, false_or, or_false, or_self, true_or, or_true]
    · by_cases hx0 : x = 0
      · subst hx0
        simp (disch := omega) only [↓lt_d, eq_self, lN_add, i_l, wTn, wFa, wFb, wCT, wCF, mNe, mNe2, mLt, mLe, bp_s, bn_s, n_clampS, nI_1, nI_add, pk_sub, nI_mul, wrI_at, wrI_2, wrL_at, wrL_1, true_and, false_and, and_true, and_false, and_self, ↓reduceIte, Nat.reduceEqDiff, Nat.reduceAdd, Nat.reduceMul, Nat.add_zero, Nat.zero_add, reduceCtorEq, l_0, l_1, l_2, l_3, l_4, l_5, l_6, l_7, l_8, l_9, l_10, l_15, l_24, l_32, l_39, l_40, l_47, l_48, l_50, l_57, l_60, l_63, l_80, l_95, l_99, l_100, l_120, l_126, l_128, l_1000, l_9999, l_10000, L_0, L_1, L_2, L_3, L_4, L_5, L_7, L_9, L_15, L_40, L_50, L_99, L_127, L_9999, c_ltT, c_ltF, c_leT, c_leF, c_eqT, c_eqF, n_leF, n_ltF, c_gltT, c_gltF, c_ggtT, c_ggtF, false_or, or_false, or_self, true_or, or_true]
      · simp (disch := omega) only [↓lt_d, eq_self, lN_add, i_l, wTn, wFa, wFb, wCT, wCF, mNe, mNe2, mLt, mLe, bp_s, bn_s, n_clampS, nI_1, nI_add, pk_sub, nI_mul, wrI_at, wrI_2, wrL_at, wrL_1, true_and, false_and, and_true, and_false, and_self, ↓reduceIte, Nat.reduceEqDiff, Nat.reduceAdd, Nat.reduceMul, Nat.add_zero, Nat.zero_add, reduceCtorEq, l_0, l_1, l_2, l_3, l_4, l_5, l_6, l_7, l_8, l_9, l_10, l_15, l_24, l_32, l_39, l_40, l_47, l_48, l_50, l_57, l_60, l_63, l_80, l_95, l_99, l_100, l_120, l_126, l_128, l_1000, l_9999, l_10000, L_0, L_1, L_2, L_3, L_4, L_5, L_7, L_9, L_15, L_40, L_50, L_99, L_127, L_9999, c_ltT, c_ltF, c_leT, c_leF, c_eqT, c_eqF, n_leF, n_ltF, c_gltT, c_gltF, c_ggtT, c_ggtF, false_or, or_false, or_self, true_or, or_true]
  · obtain ⟨w, h13, h14, ⟨rfl, rfl, h15⟩ | ⟨rfl, h15⟩⟩ := h
    · rw [Nat.zero_add] at hw ⊢
      obtain ⟨C', R', c1, c2, c3, c4, c5, c6⟩ := Wy_look hn w hj ha (by omega) (by omega) (by omega) hk ho hw h14 h15
      exact ⟨C', R', 0, a + 1, c1, Or.inr ⟨by omega, c2⟩, ⟨c3, c4, c5, Or.inr ⟨rfl, c6⟩⟩, by omega⟩
    · obtain ⟨C', R', c1, c2, c3, c4, c5, c6⟩ := Wy_add hn w hj ha (by omega) (by omega) hk ho hw h13 h14 h15
      exact ⟨C', R', 0, a + 2, c1, Or.inr ⟨by omega, c2⟩, ⟨c3, c4, c5, Or.inr ⟨rfl, c6⟩⟩, by omega⟩
