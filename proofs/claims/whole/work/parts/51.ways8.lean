/-- look, and add to what runs -/
theorem Wy_add {n j a v hd x y k o : Nat} (hn : 1000 ≤ n) {T : Nat → Nat} {C R : Mm} (h : Wy j T C R a v hd) (hj : j < 6) (ha : a + 2 ≤ 80) (hx : 1 ≤ x ∧ x ≤ 9) (hy : 1 ≤ y ∧ y ≤ 9) (hk : k ≤ 9) (ho : o ≤ 9) (hw : v + x * y * 10 ^ k < 2 ^ 31) (h13 : C.1 36 13 = nI v) (hd14 : C.1 36 14 = nI (dgs v)) (h15 : C.1 36 15 = nI 1) : ∃ C' R', fX0_lookAndAdd n (nI x) (nI y) (nI (10 ^ k)) (nI (10 ^ o)) C = some C' ∧ fX11_lookAndAdd n (nI x) (nI y) (nI k) (nI 0) (nI o) R = some (nI 0, R') ∧ Wy j T C' R' (a + 2) (v + x * y * 10 ^ k) hd ∧ C'.1 36 13 = nI (v + x * y * 10 ^ k) ∧ C'.1 36 14 = nI (dgs (v + x * y * 10 ^ k)) ∧ C'.1 36 15 = nI 1 := by
  obtain ⟨C1, R1, c1, c2, c3, c4, c5, c6, c7⟩ := Wy_act hn h hj (by omega) (show v < 2 ^ 31 by omega) (s := 0) (m := x * y * 10 ^ k) (by omega) (by omega) hd14 (Slp_0 (by omega) (by omega) (nI ((if y < x then y else x) * 10 ^ k * 10 ^ o)))
  obtain ⟨C2, d1, d2, d3, d4, d5, d6, d7⟩ := Wy_run hn c3 hw
  obtain ⟨C3, R3, f1, f2, f3, f4, f5, f6, f7⟩ := Wy_act hn d2 hj (by omega) hw (s := 1) (m := v + x * y * 10 ^ k) (by omega) hw d4 (Slp_1 ho (Nat.le_trans (Nat.mul_pos (Nat.mul_pos hx.1 hy.1) (Nat.pow_pos (by decide))) (Nat.le_add_left _ _)) hw)
  have e9 : C.1 36 9 = nI (T 0) := (h.2.2.2.2.2.2.2.1 0 (by omega)).2
  have e10 : C2.1 36 10 = nI (T 1) := (d2.2.2.2.2.2.2.2.1 1 (by omega)).2
  have e13 : C1.1 36 13 = nI v := by rw [c6 _ _ (by omega)]; exact h13
  have e29 : R1.1 72 29 = nI v := c3.2.2.2.2.2.1
  have g : lenOf 0 (x * y * 10 ^ k) (T 0) = T 0 := rfl
  have g1 : lenOf 1 (v + x * y * 10 ^ k) (T 1) = T 1 * dgs (v + x * y * 10 ^ k) := rfl
  rw [g] at c1
  rw [g1] at f1
  refine ⟨C3, R3, ?_, ?_, f3, ?_, ?_, ?_⟩
  · unfold fX0_lookAndAdd fX0_lookAndAdd_b33
    simp (disch := omega) only [h15, e9, imin_l, c1, e13, d1, e10, d3, d4, f1, ↓lt_d, eq_self, lN_add, i_l, wTn, wFa, wFb, wCT, wCF, mNe, mNe2, mLt, mLe, bp_s, bn_s, n_clampS, nI_1, nI_add, pk_sub, nI_mul, wrI_at, wrI_2, wrL_at, wrL_1, true_and, false_and, and_true, and_false, and_self, ↓reduceIte, Nat.reduceEqDiff, Nat.reduceAdd, Nat.reduceMul, Nat.add_zero, Nat.zero_add, reduceCtorEq, l_0, l_1, l_2, l_3, l_4, l_5, l_6, l_7, l_8, l_9, l_10, l_15, l_24, l_32, l_39, l_40, l_47, l_48, l_50, l_57, l_60, l_63, l_80, l_95, l_99, l_100, l_120, l_126, l_128, l_1000, l_9999, l_10000, L_0, L_1, L_2, L_3, L_4, L_5, L_7, L_9, L_15, L_40, L_50, L_99, L_127, L_9999, c_ltT, c_ltF, c_leT, c_leF, c_eqT, c_eqF, n_leF, n_ltF, c_gltT, c_gltF, c_ggtT, c_ggtF, false_or, or_false, or_self, true_or, or_true]
  · unfold fX11_lookAndAdd fX11_lookAndAdd_b21 fX11_lookAndAdd_b35
    by_cases hxy : y < x
    · rw [if_pos hxy] at c2
      simp (disch := omega) only [tens_l hn hk, tens_l hn ho, c2, e29, f2, ↓lt_d, eq_self, lN_add, i_l, wTn, wFa, wFb, wCT, wCF, mNe, mNe2, mLt, mLe, bp_s, bn_s, n_clampS, nI_1, nI_add, pk_sub, nI_mul, wrI_at, wrI_2, wrL_at, wrL_1, true_and, false_and, and_true, and_false, and_self, ↓reduceIte, Nat.reduceEqDiff, Nat.reduceAdd, Nat.reduceMul, Nat.add_zero, Nat.zero_add, reduceCtorEq, l_0, l_1, l_2, l_3, l_4, l_5, l_6, l_7, l_8, l_9, l_10, l_15, l_24, l_32, l_39, l_40, l_47, l_48, l_50, l_57, l_60, l_63, l_80, l_95, l_99, l_100, l_120, l_126, l_128, l_1000, l_9999, l_10000, L_0, L_1, L_2, L_3, L_4, L_5, L_7, L_9, L_15, L_40, L_50, L_99, L_127, L_9999, c_ltT, c_ltF, c_leT, c_leF, c_eqT, c_eqF, n_leF, n_ltF, c_gltT, c_gltF, c_ggtT, c_ggtF, false_or, or_false, or_self, true_or, or_true]
    · rw [if_neg hxy] at c2
      by_cases hxy2 : y = x
      · subst hxy2
        simp (disch := omega) only [tens_l hn hk, tens_l hn ho, c2, e29, f2, ↓lt_d, eq_self, lN_add, i_l, wTn, wFa, wFb, wCT, wCF, mNe, mNe2, mLt, mLe, bp_s, bn_s, n_clampS, nI_1, nI_add, pk_sub, nI_mul, wrI_at, wrI_2, wrL_at, wrL_1, true_and, false_and, and_true, and_false, and_self, ↓reduceIte, Nat.reduceEqDiff, Nat.reduceAdd, Nat.reduceMul, Nat.add_zero, Nat.zero_add, reduceCtorEq, l_0, l_1, l_2, l_3, l_4, l_5, l_6, l_7, l_8, l_9, l_10, l_15, l_24, l_32, l_39, l_40, l_47, l_48, l_50, l_57, l_60, l_63, l_80, l_95, l_99, l_100, l_120, l_126, l_128, l_1000, l_9999, l_10000, L_0, L_1, L_2, L_3, L_4, L_5, L_7, L_9, L_15, L_40, L_50, L_99, L_127, L_9999, c_ltT, c_ltF, c_leT, c_leF, c_eqT, c_eqF, n_leF, n_ltF, c_gltT, c_gltF, c_ggtT, c_ggtF, false_or, or_false, or_self, true_or, or_true]
      · simp (disch := omega) only [tens_l hn hk, tens_l hn ho, c2, e29, f2, ↓lt_d, eq_self, lN_add, i_l, wTn, wFa, wFb, wCT, wCF, mNe, mNe2, mLt, mLe, bp_s, bn_s, n_clampS, nI_1, nI_add, pk_sub, nI_mul, wrI_at, wrI_2, wrL_at, wrL_1, true_and, false_and, and_true, and_false, and_self, ↓reduceIte, Nat.reduceEqDiff, Nat.reduceAdd, Nat.reduceMul, Nat.add_zero, Nat.zero_add, reduceCtorEq, l_0, l_1, l_2, l_3, l_4, l_5, l_6, l_7, l_8, l_9, l_10, l_15, l_24, l_32, l_39, l_40, l_47, l_48, l_50, l_57, l_60, l_63, l_80, l_95, l_99, l_100, l_120, l_126, l_128, l_1000, l_9999, l_10000, L_0, L_1, L_2, L_3, L_4, L_5, L_7, L_9, L_15, L_40, L_50, L_99, L_127, L_9999, c_ltT, c_ltF, c_leT, c_leF, c_eqT, c_eqF, n_leF, n_ltF, c_gltT, c_gltF, c_ggtT, c_ggtF, false_or, or_false, or_self, true_or, or_true]
  · rw [f6 _ _ (by omega)]; exact d3
  · rw [f6 _ _ (by omega)]; exact d4
  · rw [f6 _ _ (by omega)]; exact d5
