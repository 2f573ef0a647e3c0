/-! look and add, on both sides -/
theorem imin_l {x y : Nat} (hx : x < 2 ^ 31) (hy : y < 2 ^ 31) : imin (nI x) (nI y) = nI (if y < x then y else x) := by
  unfold imin
  by_cases h : y < x
  · rw [if_pos h]
    simp (disch := omega) only [↓lt_d, eq_self, lN_add, i_l, wTn, wFa, wFb, wCT, wCF, mNe, mNe2, mLt, mLe, bp_s, bn_s, n_clampS, nI_1, nI_add, pk_sub, nI_mul, wrI_at, wrI_2, wrL_at, wrL_1, true_and, false_and, and_true, and_false, and_self, ↓reduceIte, Nat.reduceEqDiff, Nat.reduceAdd, Nat.reduceMul, Nat.add_zero, Nat.zero_add, reduceCtorEq, l_0, l_1, l_2, l_3, l_4, l_5, l_6, l_7, l_8, l_9, l_10, l_15, l_24, l_32, l_39, l_40, l_47, l_48, l_50, l_57, l_60, l_63, l_80, l_95, l_99, l_100, l_120, l_126, l_128, l_1000, l_9999, l_10000, L_0, L_1, L_2, L_3, L_4, L_5, L_7, L_9, L_15, L_40, L_50, L_99, L_127, L_9999, c_ltT, c_ltF, c_leT, c_leF, c_eqT, c_eqF, n_leF, n_ltF, c_gltT, c_gltF, c_ggtT, c_ggtF, false_or, or_false, or_self, true_or, or_true]
  · rw [if_neg h]
    simp (disch := omega) only [↓lt_d, eq_self, lN_add, i_l, wTn, wFa, wFb, wCT, wCF, mNe, mNe2, mLt, mLe, bp_s, bn_s, n_clampS, nI_1, nI_add, pk_sub, nI_mul, wrI_at, wrI_2, wrL_at, wrL_1, true_and, false_and, and_true, and_false, and_self, ↓reduceIte, Nat.reduceEqDiff, Nat.reduceAdd, Nat.reduceMul, Nat.add_zero, Nat.zero_add, reduceCtorEq, l_0, l_1, l_2, l_3, l_4, l_5, l_6, l_7, l_8, l_9, l_10, l_15, l_24, l_32, l_39, l_40, l_47, l_48, l_50, l_57, l_60, l_63, l_80, l_95, l_99, l_100, l_120, l_126, l_128, l_1000, l_9999, l_10000, L_0, L_1, L_2, L_3, L_4, L_5, L_7, L_9, L_15, L_40, L_50, L_99, L_127, L_9999, c_ltT, c_ltF, c_leT, c_leF, c_eqT, c_eqF, n_leF, n_ltF, c_gltT, c_gltF, c_ggtT, c_ggtF, false_or, or_false, or_self, true_or, or_true]
theorem Slp_0 {s : Nat} (hs : s < 3) (h1 : s ≠ 1) {m : Int32} (z : Int32) : Slp (nI s) m z z (nI 0) := by
  refine Or.inr ⟨fun e => h1 ((nI_eq (by omega) (by omega)).mp e), rfl, rfl⟩
theorem Slp_1 {z k : Nat} (hz : z ≤ 9) (h1 : 1 ≤ k) (h2 : k < 2 ^ 31) : Slp (nI 1) (nI k) (nI (10 ^ z)) (nI 0) (nI z) := Or.inl ⟨rfl, ⟨z, hz, rfl, rfl, rfl⟩, k, h1, h2, rfl⟩
/-- a number comes to run, on both sides -/
theorem Wy_run {n j a v hd w : Nat} (hn : 1000 ≤ n) {T : Nat → Nat} {C R : Mm} (h : Wy j T C R a v hd) (hw : w < 2 ^ 31) : ∃ C', fX0_run n (nI w) C = some C' ∧ Wy j T C' (wrI R 72 29 (nI w)) a w hd ∧ C'.1 36 13 = nI w ∧ C'.1 36 14 = nI (dgs w) ∧ C'.1 36 15 = nI 1 ∧ C'.2 = C.2 ∧ ∀ q i, ¬ (q = 36 ∧ (i = 13 ∨ i = 14 ∨ i = 15)) → C'.1 q i = C.1 q i := by
  obtain ⟨w1, w2, w3, w4, w5, w6, w7, w8, w9, w10, w11⟩ := h
  have hc : ∀ q i, ¬ (q = 36 ∧ (i = 13 ∨ i = 14 ∨ i = 15)) → (wrI (wrI (wrI C 36 13 (nI w)) 36 14 (nI (dgs w))) 36 15 (nI 1)).1 q i = C.1 q i := by
    intro q i hq
    rw [wrI_at, if_neg (by omega), wrI_at, if_neg (by omega), wrI_at, if_neg (by omega)]
  have hr : ∀ q i, ¬ (q = 72 ∧ i = 29) → (wrI R 72 29 (nI w)).1 q i = R.1 q i := by
    intro q i hq
    rw [wrI_at, if_neg (by omega)]
  refine ⟨_, run_l hn hw C, ⟨w1, ?_, ?_, ?_, ?_, ?_, ?_, fun s hs => ⟨?_, ?_⟩, ?_, ?_, fun i hi => ?_⟩, ?_, ?_, ?_, rfl, hc⟩
  · rw [hc _ _ (by omega)]; exact w2
  · rw [hr _ _ (by omega)]; exact w3
  · rw [hc _ _ (by omega)]; exact w4
  · rw [hr _ _ (by omega)]; exact w5
  · simp (disch := omega) only [↓lt_d, eq_self, lN_add, i_l, wTn, wFa, wFb, wCT, wCF, mNe, mNe2, mLt, mLe, bp_s, bn_s, n_clampS, nI_1, nI_add, pk_sub, nI_mul, wrI_at, wrI_2, wrL_at, wrL_1, true_and, false_and, and_true, and_false, and_self, ↓reduceIte, Nat.reduceEqDiff, Nat.reduceAdd, Nat.reduceMul, Nat.add_zero, Nat.zero_add, reduceCtorEq, l_0, l_1, l_2, l_3, l_4, l_5, l_6, l_7, l_8, l_9, l_10, l_15, l_24, l_32, l_39, l_40, l_47, l_48, l_50, l_57, l_60, l_63, l_80, l_95, l_99, l_100, l_120, l_126, l_128, l_1000, l_9999, l_10000, L_0, L_1, L_2, L_3, L_4, L_5, L_7, L_9, L_15, L_40, L_50, L_99, L_127, L_9999, c_ltT, c_ltF, c_leT, c_leF, c_eqT, c_eqF, n_leF, n_ltF, c_gltT, c_gltF, c_ggtT, c_ggtF, false_or, or_false, or_self, true_or, or_true]
  · rw [hr _ _ (by omega)]; exact w7
  · rw [hr _ _ (by omega)]; exact (w8 s hs).1
  · rw [hc _ _ (by omega)]; exact (w8 s hs).2
  · rw [hc _ _ (by omega), w9]
    exact sumI_c a (fun i hi => (hr 86 i (by omega)).symm)
  · rw [hc _ _ (by omega), w10]
    exact maxI_c a (fun i hi => (hr 87 i (by omega)).symm)
  · rw [hc 37 i (by omega), hc 38 i (by omega), hc 39 i (by omega), hc 40 i (by omega), hc 41 i (by omega), hr 84 i (by omega), hr 85 i (by omega), hr 86 i (by omega), hr 87 i (by omega), hr 88 i (by omega), hr 89 i (by omega)]
    exact w11 i hi
  · simp (disch := omega) only [↓lt_d, eq_self, lN_add, i_l, wTn, wFa, wFb, wCT, wCF, mNe, mNe2, mLt, mLe, bp_s, bn_s, n_clampS, nI_1, nI_add, pk_sub, nI_mul, wrI_at, wrI_2, wrL_at, wrL_1, true_and, false_and, and_true, and_false, and_self, ↓reduceIte, Nat.reduceEqDiff, Nat.reduceAdd, Nat.reduceMul, Nat.add_zero, Nat.zero_add, reduceCtorEq, l_0, l_1, l_2, l_3, l_4, l_5, l_6, l_7, l_8, l_9, l_10, l_15, l_24, l_32, l_39, l_40, l_47, l_48, l_50, l_57, l_60, l_63, l_80, l_95, l_99, l_100, l_120, l_126, l_128, l_1000, l_9999, l_10000, L_0, L_1, L_2, L_3, L_4, L_5, L_7, L_9, L_15, L_40, L_50, L_99, L_127, L_9999, c_ltT, c_ltF, c_leT, c_leF, c_eqT, c_eqF, n_leF, n_ltF, c_gltT, c_gltF, c_ggtT, c_ggtF, false_or, or_false, or_self, true_or, or_true]
  · simp (disch := omega) only [↓lt_d, eq_self, lN_add, i_l, wTn, wFa, wFb, wCT, wCF, mNe, mNe2, mLt, mLe, bp_s, bn_s, n_clampS, nI_1, nI_add, pk_sub, nI_mul, wrI_at, wrI_2, wrL_at, wrL_1, true_and, false_and, and_true, and_false, and_self, ↓reduceIte, Nat.reduceEqDiff, Nat.reduceAdd, Nat.reduceMul, Nat.add_zero, Nat.zero_add, reduceCtorEq, l_0, l_1, l_2, l_3, l_4, l_5, l_6, l_7, l_8, l_9, l_10, l_15, l_24, l_32, l_39, l_40, l_47, l_48, l_50, l_57, l_60, l_63, l_80, l_95, l_99, l_100, l_120, l_126, l_128, l_1000, l_9999, l_10000, L_0, L_1, L_2, L_3, L_4, L_5, L_7, L_9, L_15, L_40, L_50, L_99, L_127, L_9999, c_ltT, c_ltF, c_leT, c_leF, c_eqT, c_eqF, n_leF, n_ltF, c_gltT, c_gltF, c_ggtT, c_ggtF, false_or, or_false, or_self, true_or, or_true]
  · simp (disch := omega) only [↓lt_d, eq_self, lN_add, i_l, wTn, wFa, wFb, wCT, wCF, mNe, mNe2, mLt, mLe, bp_s, bn_s, n_clampS, nI_1, nI_add, pk_sub, nI_mul, wrI_at, wrI_2, wrL_at, wrL_1, true_and, false_and, and_true, and_false, and_self, ↓reduceIte, Nat.reduceEqDiff, Nat.reduceAdd, Nat.reduceMul, Nat.add_zero, Nat.zero_add, reduceCtorEq, l_0, l_1, l_2, l_3, l_4, l_5, l_6, l_7, l_8, l_9, l_10, l_15, l_24, l_32, l_39, l_40, l_47, l_48, l_50, l_57, l_60, l_63, l_80, l_95, l_99, l_100, l_120, l_126, l_128, l_1000, l_9999, l_10000, L_0, L_1, L_2, L_3, L_4, L_5, L_7, L_9, L_15, L_40, L_50, L_99, L_127, L_9999, c_ltT, c_ltF, c_leT, c_leF, c_eqT, c_eqF, n_leF, n_ltF, c_gltT, c_gltF, c_ggtT, c_ggtF, false_or, or_false, or_self, true_or, or_true]
