/-- look, and add where a number runs already -/
theorem Wy_look {n j a v hd x y k o : Nat} (hn : 1000 ≤ n) {T : Nat → Nat} {C R : Mm} (h : Wy j T C R a v hd) (hj : j < 6) (ha : a + 2 ≤ 80) (hv : v < 2 ^ 31) (hx : 1 ≤ x ∧ x ≤ 9) (hy : 1 ≤ y ∧ y ≤ 9) (hk : k ≤ 9) (ho : o ≤ 9) (hw : x * y * 10 ^ k < 2 ^ 31) (hd14 : C.1 36 14 = nI (dgs v)) (h15 : C.1 36 15 = nI 0) : ∃ C' R', fX0_lookAndAdd n (nI x) (nI y) (nI (10 ^ k)) (nI (10 ^ o)) C = some C' ∧ fX11_lookAndAdd n (nI x) (nI y) (nI k) (nI 1) (nI o) R = some (nI 0, R') ∧ Wy j T C' R' (a + 1) (x * y * 10 ^ k) hd ∧ C'.1 36 13 = nI (x * y * 10 ^ k) ∧ C'.1 36 14 = nI (dgs (x * y * 10 ^ k)) ∧ C'.1 36 15 = nI 1 := by
  obtain ⟨C1, c1, c2, c3, c4, c5, c6, c7⟩ := Wy_run hn h hw
  obtain ⟨C2, R2, d1, d2, d3, d4, d5, d6, d7⟩ := Wy_act hn c2 hj (by omega) hw (s := 0) (m := x * y * 10 ^ k) (by omega) hw c4 (Slp_0 (by omega) (by omega) (nI ((if y < x then y else x) * 10 ^ k * 10 ^ o)))
  have e9 : C1.1 36 9 = nI (T 0) := (c2.2.2.2.2.2.2.2.1 0 (by omega)).2
  have g : lenOf 0 (x * y * 10 ^ k) (T 0) = T 0 := rfl
  rw [g] at d1
  have hxb : x < 2 ^ 31 := by omega
  have hyb : y < 2 ^ 31 := by omega
  refine ⟨C2, R2, ?_, ?_, d3, ?_, ?_, ?_⟩
  · unfold fX0_lookAndAdd fX0_lookAndAdd_b33
    simp (disch := omega) only [h15, c1, e9, imin_l, d1, ↓lt_d, eq_self, lN_add, i_l, wTn, wFa, wFb, wCT, wCF, mNe, mNe2, mLt, mLe, bp_s, bn_s, n_clampS, nI_1, nI_add, pk_sub, nI_mul, wrI_at, wrI_2, wrL_at, wrL_1, true_and, false_and, and_true, and_false, and_self, ↓reduceIte, Nat.reduceEqDiff, Nat.reduceAdd, Nat.reduceMul, Nat.add_zero, Nat.zero_add, reduceCtorEq, l_0, l_1, l_2, l_3, l_4, l_5, l_6, l_7, l_8, l_9, l_10, l_15, l_24, l_32, l_39, l_40, l_47, l_48, l_50, l_57, l_60, l_63, l_80, l_95, l_99, l_100, l_120, l_126, l_128, l_1000, l_9999, l_10000, L_0, L_1, L_2, L_3, L_4, L_5, L_7, L_9, L_15, L_40, L_50, L_99, L_127, L_9999, c_ltT, c_ltF, c_leT, c_leF, c_eqT, c_eqF, n_leF, n_ltF, c_gltT, c_gltF, c_ggtT, c_ggtF, false_or, or_false, or_self, true_or, or_true]
  · unfold fX11_lookAndAdd fX11_lookAndAdd_b21 fX11_lookAndAdd_b35
    by_cases hxy : y < x
    · rw [if_pos hxy] at d2
      simp (disch := omega) only [tens_l hn hk, tens_l hn ho, d2, ↓lt_d, eq_self, lN_add, i_l, wTn, wFa, wFb, wCT, wCF, mNe, mNe2, mLt, mLe, bp_s, bn_s, n_clampS, nI_1, nI_add, pk_sub, nI_mul, wrI_at, wrI_2, wrL_at, wrL_1, true_and, false_and, and_true, and_false, and_self, ↓reduceIte, Nat.reduceEqDiff, Nat.reduceAdd, Nat.reduceMul, Nat.add_zero, Nat.zero_add, reduceCtorEq, l_0, l_1, l_2, l_3, l_4, l_5, l_6, l_7, l_8, l_9, l_10, l_15, l_24, l_32, l_39, l_40, l_47, l_48, l_50, l_57, l_60, l_63, l_80, l_95, l_99, l_100, l_120, l_126, l_128, l_1000, l_9999, l_10000, L_0, L_1, L_2, L_3, L_4, L_5, L_7, L_9, L_15, L_40, L_50, L_99, L_127, L_9999, c_ltT, c_ltF, c_leT, c_leF, c_eqT, c_eqF, n_leF, n_ltF, c_gltT, c_gltF, c_ggtT, c_ggtF, false_or, or_false, or_self, true_or, or_true]
    · rw [if_neg hxy] at d2
      by_cases hxy2 : y = x
      · subst hxy2
        simp (disch := omega) only [tens_l hn hk, tens_l hn ho, d2, ↓lt_d, eq_self, lN_add, i_l, wTn, wFa, wFb, wCT, wCF, mNe, mNe2, mLt, mLe, bp_s, bn_s, n_clampS, nI_1, nI_add, pk_sub, nI_mul, wrI_at, wrI_2, wrL_at, wrL_1, true_and, false_and, and_true, and_false, and_self, ↓reduceIte, Nat.reduceEqDiff, Nat.reduceAdd, Nat.reduceMul, Nat.add_zero, Nat.zero_add, reduceCtorEq, l_0, l_1, l_2, l_3, l_4, l_5, l_6, l_7, l_8, l_9, l_10, l_15, l_24, l_32, l_39, l_40, l_47, l_48, l_50, l_57, l_60, l_63, l_80, l_95, l_99, l_100, l_120, l_126, l_128, l_1000, l_9999, l_10000, L_0, L_1, L_2, L_3, L_4, L_5, L_7, L_9, L_15, L_40, L_50, L_99, L_127, L_9999, c_ltT, c_ltF, c_leT, c_leF, c_eqT, c_eqF, n_leF, n_ltF, c_gltT, c_gltF, c_ggtT, c_ggtF, false_or, or_false, or_self, true_or, or_true]
      · simp (disch := omega) only [tens_l hn hk, tens_l hn ho, d2, ↓lt_d, eq_self, lN_add, i_l, wTn, wFa, wFb, wCT, wCF, mNe, mNe2, mLt, mLe, bp_s, bn_s, n_clampS, nI_1, nI_add, pk_sub, nI_mul, wrI_at, wrI_2, wrL_at, wrL_1, true_and, false_and, and_true, and_false, and_self, ↓reduceIte, Nat.reduceEqDiff, Nat.reduceAdd, Nat.reduceMul, Nat.add_zero, Nat.zero_add, reduceCtorEq, l_0, l_1, l_2, l_3, l_4, l_5, l_6, l_7, l_8, l_9, l_10, l_15, l_24, l_32, l_39, l_40, l_47, l_48, l_50, l_57, l_60, l_63, l_80, l_95, l_99, l_100, l_120, l_126, l_128, l_1000, l_9999, l_10000, L_0, L_1, L_2, L_3, L_4, L_5, L_7, L_9, L_15, L_40, L_50, L_99, L_127, L_9999, c_ltT, c_ltF, c_leT, c_leF, c_eqT, c_eqF, n_leF, n_ltF, c_gltT, c_gltF, c_ggtT, c_ggtF, false_or, or_false, or_self, true_or, or_true]
  · rw [d6 _ _ (by omega)]; exact c3
  · rw [d6 _ _ (by omega)]; exact c4
  · rw [d6 _ _ (by omega)]; exact c5
