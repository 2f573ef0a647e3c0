/-! checks that both sides make alike -/
theorem head_cases {k : Nat} {C R : Mm} (h : I_head k C R) (p : Int32) : (∃ j, j < k ∧ p = nI j ∧ fX10_isHead p C = nI 1 ∧ fX11_isHead p R = nI 1) ∨ (fX10_isHead p C = nI 0 ∧ fX11_isHead p R = nI 0) := by
  obtain ⟨hk, h1, h2, -⟩ := h
  have e2 : Int32.toInt64 (nI k - 1) = Int64.ofInt ((k : Int) - 1) := by
    rcases (show k = 0 ∨ k = 1 ∨ k = 2 ∨ k = 3 ∨ k = 4 ∨ k = 5 ∨ k = 6 by omega) with rfl | rfl | rfl | rfl | rfl | rfl | rfl <;> rfl
  have e3 : (Int64.ofInt ((k : Int) - 1)).toInt = (k : Int) - 1 := by
    rcases (show k = 0 ∨ k = 1 ∨ k = 2 ∨ k = 3 ∨ k = 4 ∨ k = 5 ∨ k = 6 by omega) with rfl | rfl | rfl | rfl | rfl | rfl | rfl <;> rfl
  rcases i_cases p with hp | ⟨a, ha, rfl⟩
  · refine Or.inr ⟨?_, ?_⟩
    · unfold fX10_isHead
      rw [if_pos hp]
      rfl
    · unfold fX11_isHead
      rw [show (0 : Int64) = lN 0 from rfl, wFn hp (by decide)]
  · unfold fX10_isHead fX11_isHead
    rw [h1, h2, e2, wz, e3, nI_toInt ha, show (0 : Int64).toInt = 0 from rfl]
    by_cases hak : a < k
    · refine Or.inl ⟨a, hak, rfl, ?_, ?_⟩
      · simp (disch := omega) only [eq_self, g_gtT, g_gtF, lN_add, i_l, wTn, wFa, wFb, wCT, wCF, mNe, mNe2, mLt, mLe, lt_d, bp_s, bn_s, ic, i_leT, i_leF, i_ltT, i_ltF, i_eqT, i_eqF, n_clampS, nI_1, nI_add, pk_sub, nI_mul, wrI_at, wrI_2, wrL_at, wrL_1, true_and, false_and, and_true, and_false, and_self, ↓reduceIte, Nat.reduceEqDiff, Nat.reduceAdd, Nat.reduceMul, Nat.add_zero, Nat.zero_add, reduceCtorEq, l_0, l_1, l_2, l_3, l_4, l_5, l_6, l_7, l_8, l_9, l_10, l_15, l_24, l_32, l_39, l_40, l_47, l_48, l_50, l_57, l_60, l_63, l_80, l_95, l_99, l_100, l_120, l_126, l_128, l_1000, l_9999, l_10000, L_0, L_1, L_2, L_3, L_4, L_5, L_7, L_9, L_15, L_40, L_50, L_99, L_127, L_9999]
      · rw [if_pos (by omega)]
        rfl
    · refine Or.inr ⟨?_, ?_⟩
      · simp (disch := omega) only [eq_self, g_gtT, g_gtF, lN_add, i_l, wTn, wFa, wFb, wCT, wCF, mNe, mNe2, mLt, mLe, lt_d, bp_s, bn_s, ic, i_leT, i_leF, i_ltT, i_ltF, i_eqT, i_eqF, n_clampS, nI_1, nI_add, pk_sub, nI_mul, wrI_at, wrI_2, wrL_at, wrL_1, true_and, false_and, and_true, and_false, and_self, ↓reduceIte, Nat.reduceEqDiff, Nat.reduceAdd, Nat.reduceMul, Nat.add_zero, Nat.zero_add, reduceCtorEq, l_0, l_1, l_2, l_3, l_4, l_5, l_6, l_7, l_8, l_9, l_10, l_15, l_24, l_32, l_39, l_40, l_47, l_48, l_50, l_57, l_60, l_63, l_80, l_95, l_99, l_100, l_120, l_126, l_128, l_1000, l_9999, l_10000, L_0, L_1, L_2, L_3, L_4, L_5, L_7, L_9, L_15, L_40, L_50, L_99, L_127, L_9999]
      · rw [if_neg (by omega)]
        rfl
theorem div_1e4 {a : Nat} (ha : a < 2 ^ 31) : nI a / 10000 = nI (a / 10000) := pk_div ha (by decide) (by decide)
theorem rem_1e4 {a : Nat} (ha : a < 2 ^ 31) : irm (nI a) 10000 = nI (a % 10000) := pk_rem ha (by decide) (by decide)
theorem isNum_T {a : Nat} (h1 : 1 ≤ a) (h2 : a ≤ 9999) : fX10_isNumber (nI a) = nI 1 := by
  unfold fX10_isNumber
  simp (disch := omega) only [eq_self, g_gtT, g_gtF, lN_add, i_l, wTn, wFa, wFb, wCT, wCF, mNe, mNe2, mLt, mLe, lt_d, bp_s, bn_s, ic, i_leT, i_leF, i_ltT, i_ltF, i_eqT, i_eqF, n_clampS, nI_1, nI_add, pk_sub, nI_mul, wrI_at, wrI_2, wrL_at, wrL_1, true_and, false_and, and_true, and_false, and_self, ↓reduceIte, Nat.reduceEqDiff, Nat.reduceAdd, Nat.reduceMul, Nat.add_zero, Nat.zero_add, reduceCtorEq, l_0, l_1, l_2, l_3, l_4, l_5, l_6, l_7, l_8, l_9, l_10, l_15, l_24, l_32, l_39, l_40, l_47, l_48, l_50, l_57, l_60, l_63, l_80, l_95, l_99, l_100, l_120, l_126, l_128, l_1000, l_9999, l_10000, L_0, L_1, L_2, L_3, L_4, L_5, L_7, L_9, L_15, L_40, L_50, L_99, L_127, L_9999]
theorem isNum_F {a : Nat} (ha : a < 2 ^ 31) (h : a < 1 ∨ 9999 < a) : fX10_isNumber (nI a) = nI 0 := by
  unfold fX10_isNumber
  rcases h with h | h
  · simp (disch := omega) only [eq_self, g_gtT, g_gtF, lN_add, i_l, wTn, wFa, wFb, wCT, wCF, mNe, mNe2, mLt, mLe, lt_d, bp_s, bn_s, ic, i_leT, i_leF, i_ltT, i_ltF, i_eqT, i_eqF, n_clampS, nI_1, nI_add, pk_sub, nI_mul, wrI_at, wrI_2, wrL_at, wrL_1, true_and, false_and, and_true, and_false, and_self, ↓reduceIte, Nat.reduceEqDiff, Nat.reduceAdd, Nat.reduceMul, Nat.add_zero, Nat.zero_add, reduceCtorEq, l_0, l_1, l_2, l_3, l_4, l_5, l_6, l_7, l_8, l_9, l_10, l_15, l_24, l_32, l_39, l_40, l_47, l_48, l_50, l_57, l_60, l_63, l_80, l_95, l_99, l_100, l_120, l_126, l_128, l_1000, l_9999, l_10000, L_0, L_1, L_2, L_3, L_4, L_5, L_7, L_9, L_15, L_40, L_50, L_99, L_127, L_9999]
  · simp (disch := omega) only [eq_self, g_gtT, g_gtF, lN_add, i_l, wTn, wFa, wFb, wCT, wCF, mNe, mNe2, mLt, mLe, lt_d, bp_s, bn_s, ic, i_leT, i_leF, i_ltT, i_ltF, i_eqT, i_eqF, n_clampS, nI_1, nI_add, pk_sub, nI_mul, wrI_at, wrI_2, wrL_at, wrL_1, true_and, false_and, and_true, and_false, and_self, ↓reduceIte, Nat.reduceEqDiff, Nat.reduceAdd, Nat.reduceMul, Nat.add_zero, Nat.zero_add, reduceCtorEq, l_0, l_1, l_2, l_3, l_4, l_5, l_6, l_7, l_8, l_9, l_10, l_15, l_24, l_32, l_39, l_40, l_47, l_48, l_50, l_57, l_60, l_63, l_80, l_95, l_99, l_100, l_120, l_126, l_128, l_1000, l_9999, l_10000, L_0, L_1, L_2, L_3, L_4, L_5, L_7, L_9, L_15, L_40, L_50, L_99, L_127, L_9999]
theorem pair_cases (p : Int32) : (∃ v a b, isAB v a b ∧ p = nI v ∧ fX10_isPair p = nI 1 ∧ fX11_isAsk p = nI 1) ∨ (fX10_isPair p = nI 0 ∧ fX11_isAsk p = nI 0) := by
  rcases i_cases p with hp | ⟨v, hv, rfl⟩
  · refine Or.inr ⟨?_, ?_⟩
    · unfold fX10_isPair
      have h1 := neg_lt hp
      have h2 : (p / 10000) < 1 := by
        apply Int32.lt_iff_toInt_lt.mpr
        rw [Int32.toInt_div_of_ne_right _ _ (by decide), show (10000 : Int32).toInt = 10000 from rfl, show (1 : Int32).toInt = 1 from rfl]
        have h3 : (-p.toInt).tdiv 10000 = -(p.toInt.tdiv 10000) := Int.neg_tdiv _ _
        have h4 : 0 ≤ (-p.toInt).tdiv 10000 := Int.tdiv_nonneg (by omega) (by decide)
        omega
      have h3 : fX10_isNumber (p / 10000) = 0 := by
        unfold fX10_isNumber
        rw [if_pos h2]
      rw [h3, if_pos rfl]
      rfl
    · unfold fX11_isAsk
      rw [if_pos hp]
      rfl
  · unfold fX10_isPair fX11_isAsk
    rw [div_1e4 hv, rem_1e4 hv]
    have hn : ¬ nI v < 0 := nI_pos hv
    rw [if_neg hn]
    by_cases h1 : 1 ≤ v / 10000 ∧ v / 10000 ≤ 9999
    · by_cases h2 : 1 ≤ v % 10000 ∧ v % 10000 ≤ 9999
      · refine Or.inl ⟨v, v / 10000, v % 10000, ⟨by omega, h1.1, h1.2, h2.1, h2.2⟩, rfl, ?_, ?_⟩
        · rw [isNum_T h1.1 h1.2, isNum_T h2.1 h2.2]
          simp (disch := omega) only [eq_self, g_gtT, g_gtF, lN_add, i_l, wTn, wFa, wFb, wCT, wCF, mNe, mNe2, mLt, mLe, lt_d, bp_s, bn_s, ic, i_leT, i_leF, i_ltT, i_ltF, i_eqT, i_eqF, n_clampS, nI_1, nI_add, pk_sub, nI_mul, wrI_at, wrI_2, wrL_at, wrL_1, true_and, false_and, and_true, and_false, and_self, ↓reduceIte, Nat.reduceEqDiff, Nat.reduceAdd, Nat.reduceMul, Nat.add_zero, Nat.zero_add, reduceCtorEq, l_0, l_1, l_2, l_3, l_4, l_5, l_6, l_7, l_8, l_9, l_10, l_15, l_24, l_32, l_39, l_40, l_47, l_48, l_50, l_57, l_60, l_63, l_80, l_95, l_99, l_100, l_120, l_126, l_128, l_1000, l_9999, l_10000, L_0, L_1, L_2, L_3, L_4, L_5, L_7, L_9, L_15, L_40, L_50, L_99, L_127, L_9999]
        · simp (disch := omega) only [eq_self, g_gtT, g_gtF, lN_add, i_l, wTn, wFa, wFb, wCT, wCF, mNe, mNe2, mLt, mLe, lt_d, bp_s, bn_s, ic, i_leT, i_leF, i_ltT, i_ltF, i_eqT, i_eqF, n_clampS, nI_1, nI_add, pk_sub, nI_mul, wrI_at, wrI_2, wrL_at, wrL_1, true_and, false_and, and_true, and_false, and_self, ↓reduceIte, Nat.reduceEqDiff, Nat.reduceAdd, Nat.reduceMul, Nat.add_zero, Nat.zero_add, reduceCtorEq, l_0, l_1, l_2, l_3, l_4, l_5, l_6, l_7, l_8, l_9, l_10, l_15, l_24, l_32, l_39, l_40, l_47, l_48, l_50, l_57, l_60, l_63, l_80, l_95, l_99, l_100, l_120, l_126, l_128, l_1000, l_9999, l_10000, L_0, L_1, L_2, L_3, L_4, L_5, L_7, L_9, L_15, L_40, L_50, L_99, L_127, L_9999]
      · refine Or.inr ⟨?_, ?_⟩
        · rw [isNum_T h1.1 h1.2, isNum_F (by omega) (by omega)]
          simp (disch := omega) only [eq_self, g_gtT, g_gtF, lN_add, i_l, wTn, wFa, wFb, wCT, wCF, mNe, mNe2, mLt, mLe, lt_d, bp_s, bn_s, ic, i_leT, i_leF, i_ltT, i_ltF, i_eqT, i_eqF, n_clampS, nI_1, nI_add, pk_sub, nI_mul, wrI_at, wrI_2, wrL_at, wrL_1, true_and, false_and, and_true, and_false, and_self, ↓reduceIte, Nat.reduceEqDiff, Nat.reduceAdd, Nat.reduceMul, Nat.add_zero, Nat.zero_add, reduceCtorEq, l_0, l_1, l_2, l_3, l_4, l_5, l_6, l_7, l_8, l_9, l_10, l_15, l_24, l_32, l_39, l_40, l_47, l_48, l_50, l_57, l_60, l_63, l_80, l_95, l_99, l_100, l_120, l_126, l_128, l_1000, l_9999, l_10000, L_0, L_1, L_2, L_3, L_4, L_5, L_7, L_9, L_15, L_40, L_50, L_99, L_127, L_9999]
        · rcases (show v % 10000 < 1 ∨ 9999 < v % 10000 by omega) with h | h
          · simp (disch := omega) only [eq_self, g_gtT, g_gtF, lN_add, i_l, wTn, wFa, wFb, wCT, wCF, mNe, mNe2, mLt, mLe, lt_d, bp_s, bn_s, ic, i_leT, i_leF, i_ltT, i_ltF, i_eqT, i_eqF, n_clampS, nI_1, nI_add, pk_sub, nI_mul, wrI_at, wrI_2, wrL_at, wrL_1, true_and, false_and, and_true, and_false, and_self, ↓reduceIte, Nat.reduceEqDiff, Nat.reduceAdd, Nat.reduceMul, Nat.add_zero, Nat.zero_add, reduceCtorEq, l_0, l_1, l_2, l_3, l_4, l_5, l_6, l_7, l_8, l_9, l_10, l_15, l_24, l_32, l_39, l_40, l_47, l_48, l_50, l_57, l_60, l_63, l_80, l_95, l_99, l_100, l_120, l_126, l_128, l_1000, l_9999, l_10000, L_0, L_1, L_2, L_3, L_4, L_5, L_7, L_9, L_15, L_40, L_50, L_99, L_127, L_9999]
          · simp (disch := omega) only [eq_self, g_gtT, g_gtF, lN_add, i_l, wTn, wFa, wFb, wCT, wCF, mNe, mNe2, mLt, mLe, lt_d, bp_s, bn_s, ic, i_leT, i_leF, i_ltT, i_ltF, i_eqT, i_eqF, n_clampS, nI_1, nI_add, pk_sub, nI_mul, wrI_at, wrI_2, wrL_at, wrL_1, true_and, false_and, and_true, and_false, and_self, ↓reduceIte, Nat.reduceEqDiff, Nat.reduceAdd, Nat.reduceMul, Nat.add_zero, Nat.zero_add, reduceCtorEq, l_0, l_1, l_2, l_3, l_4, l_5, l_6, l_7, l_8, l_9, l_10, l_15, l_24, l_32, l_39, l_40, l_47, l_48, l_50, l_57, l_60, l_63, l_80, l_95, l_99, l_100, l_120, l_126, l_128, l_1000, l_9999, l_10000, L_0, L_1, L_2, L_3, L_4, L_5, L_7, L_9, L_15, L_40, L_50, L_99, L_127, L_9999]
    · refine Or.inr ⟨?_, ?_⟩
      · rw [isNum_F (by omega) (by omega)]
        simp (disch := omega) only [eq_self, g_gtT, g_gtF, lN_add, i_l, wTn, wFa, wFb, wCT, wCF, mNe, mNe2, mLt, mLe, lt_d, bp_s, bn_s, ic, i_leT, i_leF, i_ltT, i_ltF, i_eqT, i_eqF, n_clampS, nI_1, nI_add, pk_sub, nI_mul, wrI_at, wrI_2, wrL_at, wrL_1, true_and, false_and, and_true, and_false, and_self, ↓reduceIte, Nat.reduceEqDiff, Nat.reduceAdd, Nat.reduceMul, Nat.add_zero, Nat.zero_add, reduceCtorEq, l_0, l_1, l_2, l_3, l_4, l_5, l_6, l_7, l_8, l_9, l_10, l_15, l_24, l_32, l_39, l_40, l_47, l_48, l_50, l_57, l_60, l_63, l_80, l_95, l_99, l_100, l_120, l_126, l_128, l_1000, l_9999, l_10000, L_0, L_1, L_2, L_3, L_4, L_5, L_7, L_9, L_15, L_40, L_50, L_99, L_127, L_9999]
      · rcases (show v / 10000 < 1 ∨ 9999 < v / 10000 by omega) with h | h
        · simp (disch := omega) only [eq_self, g_gtT, g_gtF, lN_add, i_l, wTn, wFa, wFb, wCT, wCF, mNe, mNe2, mLt, mLe, lt_d, bp_s, bn_s, ic, i_leT, i_leF, i_ltT, i_ltF, i_eqT, i_eqF, n_clampS, nI_1, nI_add, pk_sub, nI_mul, wrI_at, wrI_2, wrL_at, wrL_1, true_and, false_and, and_true, and_false, and_self, ↓reduceIte, Nat.reduceEqDiff, Nat.reduceAdd, Nat.reduceMul, Nat.add_zero, Nat.zero_add, reduceCtorEq, l_0, l_1, l_2, l_3, l_4, l_5, l_6, l_7, l_8, l_9, l_10, l_15, l_24, l_32, l_39, l_40, l_47, l_48, l_50, l_57, l_60, l_63, l_80, l_95, l_99, l_100, l_120, l_126, l_128, l_1000, l_9999, l_10000, L_0, L_1, L_2, L_3, L_4, L_5, L_7, L_9, L_15, L_40, L_50, L_99, L_127, L_9999]
        · simp (disch := omega) only [eq_self, g_gtT, g_gtF, lN_add, i_l, wTn, wFa, wFb, wCT, wCF, mNe, mNe2, mLt, mLe, lt_d, bp_s, bn_s, ic, i_leT, i_leF, i_ltT, i_ltF, i_eqT, i_eqF, n_clampS, nI_1, nI_add, pk_sub, nI_mul, wrI_at, wrI_2, wrL_at, wrL_1, true_and, false_and, and_true, and_false, and_self, ↓reduceIte, Nat.reduceEqDiff, Nat.reduceAdd, Nat.reduceMul, Nat.add_zero, Nat.zero_add, reduceCtorEq, l_0, l_1, l_2, l_3, l_4, l_5, l_6, l_7, l_8, l_9, l_10, l_15, l_24, l_32, l_39, l_40, l_47, l_48, l_50, l_57, l_60, l_63, l_80, l_95, l_99, l_100, l_120, l_126, l_128, l_1000, l_9999, l_10000, L_0, L_1, L_2, L_3, L_4, L_5, L_7, L_9, L_15, L_40, L_50, L_99, L_127, L_9999]
/-- tell -/
theorem op_tell {t : Nat} {C R : Mm} (h : Inv t C R) (p : Int32) : ∃ r C' R', fX10_tell p C = some (r, C') ∧ fX11_tell p R = some (r, R') ∧ Inv (t + 1) C' R' := by
  have h0 := h
  obtain ⟨k, nb, h1, h2, h3, h4, h5, h6, h7, h8, h9, h10⟩ := h
  obtain ⟨m, hm, e1, e2, e3⟩ := h6
  unfold fX10_tell fX11_tell
  rcases pair_cases p with ⟨v, a, b, hv, rfl, g1, g2⟩ | ⟨g1, g2⟩
  · by_cases hm8 : m < 8
    · refine ⟨nI (m + 1), wrI (wrI C 47 m (nI v)) 0 8 (nI (m + 1)), wrI (wrI R 94 m (nI v)) 72 37 (nI (m + 1)), ?_, ?_, ?_⟩
      · simp (disch := omega) only [g1, e1, eq_self, g_gtT, g_gtF, lN_add, i_l, wTn, wFa, wFb, wCT, wCF, mNe, mNe2, mLt, mLe, lt_d, bp_s, bn_s, ic, i_leT, i_leF, i_ltT, i_ltF, i_eqT, i_eqF, n_clampS, nI_1, nI_add, pk_sub, nI_mul, wrI_at, wrI_2, wrL_at, wrL_1, true_and, false_and, and_true, and_false, and_self, ↓reduceIte, Nat.reduceEqDiff, Nat.reduceAdd, Nat.reduceMul, Nat.add_zero, Nat.zero_add, reduceCtorEq, l_0, l_1, l_2, l_3, l_4, l_5, l_6, l_7, l_8, l_9, l_10, l_15, l_24, l_32, l_39, l_40, l_47, l_48, l_50, l_57, l_60, l_63, l_80, l_95, l_99, l_100, l_120, l_126, l_128, l_1000, l_9999, l_10000, L_0, L_1, L_2, L_3, L_4, L_5, L_7, L_9, L_15, L_40, L_50, L_99, L_127, L_9999]
      · simp (disch := omega) only [g2, e2, eq_self, g_gtT, g_gtF, lN_add, i_l, wTn, wFa, wFb, wCT, wCF, mNe, mNe2, mLt, mLe, lt_d, bp_s, bn_s, ic, i_leT, i_leF, i_ltT, i_ltF, i_eqT, i_eqF, n_clampS, nI_1, nI_add, pk_sub, nI_mul, wrI_at, wrI_2, wrL_at, wrL_1, true_and, false_and, and_true, and_false, and_self, ↓reduceIte, Nat.reduceEqDiff, Nat.reduceAdd, Nat.reduceMul, Nat.add_zero, Nat.zero_add, reduceCtorEq, l_0, l_1, l_2, l_3, l_4, l_5, l_6, l_7, l_8, l_9, l_10, l_15, l_24, l_32, l_39, l_40, l_47, l_48, l_50, l_57, l_60, l_63, l_80, l_95, l_99, l_100, l_120, l_126, l_128, l_1000, l_9999, l_10000, L_0, L_1, L_2, L_3, L_4, L_5, L_7, L_9, L_15, L_40, L_50, L_99, L_127, L_9999]
      · refine ⟨k, nb, I_tape_fr h1 ?_ ?_, I_head_fr h2 ?_ ?_, I_pair_up (Nat.le_succ t) (I_pair_fr h2.1 h3 ?_ ?_), I_chg_fr h4 ?_ ?_, I_seen_fr h5 ?_ ?_, ⟨m + 1, by omega, ?_, ?_, fun i hi => ?_⟩, I_body_fr h7 ?_ ?_, I_ran_fr h8 ?_ ?_, I_shelf_fr h9 ?_ rfl ?_ (fun _ => rfl), I_cho_fr h10 ?_ ?_⟩
        all_goals try (intro q i hq; rw [wrI_at, if_neg (by omega), wrI_at, if_neg (by omega)])
        · simp (disch := omega) only [eq_self, g_gtT, g_gtF, lN_add, i_l, wTn, wFa, wFb, wCT, wCF, mNe, mNe2, mLt, mLe, lt_d, bp_s, bn_s, ic, i_leT, i_leF, i_ltT, i_ltF, i_eqT, i_eqF, n_clampS, nI_1, nI_add, pk_sub, nI_mul, wrI_at, wrI_2, wrL_at, wrL_1, true_and, false_and, and_true, and_false, and_self, ↓reduceIte, Nat.reduceEqDiff, Nat.reduceAdd, Nat.reduceMul, Nat.add_zero, Nat.zero_add, reduceCtorEq, l_0, l_1, l_2, l_3, l_4, l_5, l_6, l_7, l_8, l_9, l_10, l_15, l_24, l_32, l_39, l_40, l_47, l_48, l_50, l_57, l_60, l_63, l_80, l_95, l_99, l_100, l_120, l_126, l_128, l_1000, l_9999, l_10000, L_0, L_1, L_2, L_3, L_4, L_5, L_7, L_9, L_15, L_40, L_50, L_99, L_127, L_9999]
        · simp (disch := omega) only [eq_self, g_gtT, g_gtF, lN_add, i_l, wTn, wFa, wFb, wCT, wCF, mNe, mNe2, mLt, mLe, lt_d, bp_s, bn_s, ic, i_leT, i_leF, i_ltT, i_ltF, i_eqT, i_eqF, n_clampS, nI_1, nI_add, pk_sub, nI_mul, wrI_at, wrI_2, wrL_at, wrL_1, true_and, false_and, and_true, and_false, and_self, ↓reduceIte, Nat.reduceEqDiff, Nat.reduceAdd, Nat.reduceMul, Nat.add_zero, Nat.zero_add, reduceCtorEq, l_0, l_1, l_2, l_3, l_4, l_5, l_6, l_7, l_8, l_9, l_10, l_15, l_24, l_32, l_39, l_40, l_47, l_48, l_50, l_57, l_60, l_63, l_80, l_95, l_99, l_100, l_120, l_126, l_128, l_1000, l_9999, l_10000, L_0, L_1, L_2, L_3, L_4, L_5, L_7, L_9, L_15, L_40, L_50, L_99, L_127, L_9999]
        · by_cases hi2 : i = m
          · subst hi2
            exact ⟨v, a, b, hv, by simp (disch := omega) only [eq_self, g_gtT, g_gtF, lN_add, i_l, wTn, wFa, wFb, wCT, wCF, mNe, mNe2, mLt, mLe, lt_d, bp_s, bn_s, ic, i_leT, i_leF, i_ltT, i_ltF, i_eqT, i_eqF, n_clampS, nI_1, nI_add, pk_sub, nI_mul, wrI_at, wrI_2, wrL_at, wrL_1, true_and, false_and, and_true, and_false, and_self, ↓reduceIte, Nat.reduceEqDiff, Nat.reduceAdd, Nat.reduceMul, Nat.add_zero, Nat.zero_add, reduceCtorEq, l_0, l_1, l_2, l_3, l_4, l_5, l_6, l_7, l_8, l_9, l_10, l_15, l_24, l_32, l_39, l_40, l_47, l_48, l_50, l_57, l_60, l_63, l_80, l_95, l_99, l_100, l_120, l_126, l_128, l_1000, l_9999, l_10000, L_0, L_1, L_2, L_3, L_4, L_5, L_7, L_9, L_15, L_40, L_50, L_99, L_127, L_9999], by simp (disch := omega) only [eq_self, g_gtT, g_gtF, lN_add, i_l, wTn, wFa, wFb, wCT, wCF, mNe, mNe2, mLt, mLe, lt_d, bp_s, bn_s, ic, i_leT, i_leF, i_ltT, i_ltF, i_eqT, i_eqF, n_clampS, nI_1, nI_add, pk_sub, nI_mul, wrI_at, wrI_2, wrL_at, wrL_1, true_and, false_and, and_true, and_false, and_self, ↓reduceIte, Nat.reduceEqDiff, Nat.reduceAdd, Nat.reduceMul, Nat.add_zero, Nat.zero_add, reduceCtorEq, l_0, l_1, l_2, l_3, l_4, l_5, l_6, l_7, l_8, l_9, l_10, l_15, l_24, l_32, l_39, l_40, l_47, l_48, l_50, l_57, l_60, l_63, l_80, l_95, l_99, l_100, l_120, l_126, l_128, l_1000, l_9999, l_10000, L_0, L_1, L_2, L_3, L_4, L_5, L_7, L_9, L_15, L_40, L_50, L_99, L_127, L_9999]⟩
          · obtain ⟨w, a, b, f1, f2, f3⟩ := e3 i (by omega)
            refine ⟨w, a, b, f1, ?_, ?_⟩
            · rw [wrI_at, if_neg (by omega), wrI_at, if_neg (by omega)]; exact f2
            · rw [wrI_at, if_neg (by omega), wrI_at, if_neg (by omega)]; exact f3
    · have : m = 8 := by omega
      subst this
      refine ⟨-3, C, R, ?_, ?_, Inv_up (Nat.le_succ t) h0⟩
      · simp (disch := omega) only [g1, e1, eq_self, g_gtT, g_gtF, lN_add, i_l, wTn, wFa, wFb, wCT, wCF, mNe, mNe2, mLt, mLe, lt_d, bp_s, bn_s, ic, i_leT, i_leF, i_ltT, i_ltF, i_eqT, i_eqF, n_clampS, nI_1, nI_add, pk_sub, nI_mul, wrI_at, wrI_2, wrL_at, wrL_1, true_and, false_and, and_true, and_false, and_self, ↓reduceIte, Nat.reduceEqDiff, Nat.reduceAdd, Nat.reduceMul, Nat.add_zero, Nat.zero_add, reduceCtorEq, l_0, l_1, l_2, l_3, l_4, l_5, l_6, l_7, l_8, l_9, l_10, l_15, l_24, l_32, l_39, l_40, l_47, l_48, l_50, l_57, l_60, l_63, l_80, l_95, l_99, l_100, l_120, l_126, l_128, l_1000, l_9999, l_10000, L_0, L_1, L_2, L_3, L_4, L_5, L_7, L_9, L_15, L_40, L_50, L_99, L_127, L_9999]
      · simp (disch := omega) only [g2, e2, eq_self, g_gtT, g_gtF, lN_add, i_l, wTn, wFa, wFb, wCT, wCF, mNe, mNe2, mLt, mLe, lt_d, bp_s, bn_s, ic, i_leT, i_leF, i_ltT, i_ltF, i_eqT, i_eqF, n_clampS, nI_1, nI_add, pk_sub, nI_mul, wrI_at, wrI_2, wrL_at, wrL_1, true_and, false_and, and_true, and_false, and_self, ↓reduceIte, Nat.reduceEqDiff, Nat.reduceAdd, Nat.reduceMul, Nat.add_zero, Nat.zero_add, reduceCtorEq, l_0, l_1, l_2, l_3, l_4, l_5, l_6, l_7, l_8, l_9, l_10, l_15, l_24, l_32, l_39, l_40, l_47, l_48, l_50, l_57, l_60, l_63, l_80, l_95, l_99, l_100, l_120, l_126, l_128, l_1000, l_9999, l_10000, L_0, L_1, L_2, L_3, L_4, L_5, L_7, L_9, L_15, L_40, L_50, L_99, L_127, L_9999]
  · refine ⟨-1, C, R, ?_, ?_, Inv_up (Nat.le_succ t) h0⟩
    · simp (disch := omega) only [g1, eq_self, g_gtT, g_gtF, lN_add, i_l, wTn, wFa, wFb, wCT, wCF, mNe, mNe2, mLt, mLe, lt_d, bp_s, bn_s, ic, i_leT, i_leF, i_ltT, i_ltF, i_eqT, i_eqF, n_clampS, nI_1, nI_add, pk_sub, nI_mul, wrI_at, wrI_2, wrL_at, wrL_1, true_and, false_and, and_true, and_false, and_self, ↓reduceIte, Nat.reduceEqDiff, Nat.reduceAdd, Nat.reduceMul, Nat.add_zero, Nat.zero_add, reduceCtorEq, l_0, l_1, l_2, l_3, l_4, l_5, l_6, l_7, l_8, l_9, l_10, l_15, l_24, l_32, l_39, l_40, l_47, l_48, l_50, l_57, l_60, l_63, l_80, l_95, l_99, l_100, l_120, l_126, l_128, l_1000, l_9999, l_10000, L_0, L_1, L_2, L_3, L_4, L_5, L_7, L_9, L_15, L_40, L_50, L_99, L_127, L_9999]
    · simp (disch := omega) only [g2, eq_self, g_gtT, g_gtF, lN_add, i_l, wTn, wFa, wFb, wCT, wCF, mNe, mNe2, mLt, mLe, lt_d, bp_s, bn_s, ic, i_leT, i_leF, i_ltT, i_ltF, i_eqT, i_eqF, n_clampS, nI_1, nI_add, pk_sub, nI_mul, wrI_at, wrI_2, wrL_at, wrL_1, true_and, false_and, and_true, and_false, and_self, ↓reduceIte, Nat.reduceEqDiff, Nat.reduceAdd, Nat.reduceMul, Nat.add_zero, Nat.zero_add, reduceCtorEq, l_0, l_1, l_2, l_3, l_4, l_5, l_6, l_7, l_8, l_9, l_10, l_15, l_24, l_32, l_39, l_40, l_47, l_48, l_50, l_57, l_60, l_63, l_80, l_95, l_99, l_100, l_120, l_126, l_128, l_1000, l_9999, l_10000, L_0, L_1, L_2, L_3, L_4, L_5, L_7, L_9, L_15, L_40, L_50, L_99, L_127, L_9999]
