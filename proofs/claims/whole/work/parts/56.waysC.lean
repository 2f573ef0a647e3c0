/-! known; more of what runs; RIGHT -/
theorem far_h {n jc pc v a b : Nat} {C : Mm} (hv : isAB v a b) (hs : ¬ (a ≤ 99 ∧ b ≤ 99)) (hp : pc ≤ 60) (e1 : C.1 (hdc jc) 3 = nI pc) (e3 : ∀ i, i < pc → ∃ a' b', 1 ≤ a' ∧ a' ≤ 99 ∧ 1 ≤ b' ∧ b' ≤ 99 ∧ C.1 (hdp jc) i = nI (a' * 10000 + b')) : ∀ d i fu, pc - i = d → i ≤ pc → d < fu → fX5_placeOf_h18 n jc fu (nI v) (nI (b * 10000 + a)) (nI i) C = some (nI pc) := by
  obtain ⟨v1, v2, v3⟩ := ab_div hv
  have hvv := hv
  unfold isAB at hvv
  intro d
  induction d with
  | zero =>
    intro i fu hd hi hf
    obtain ⟨fu, rfl⟩ : ∃ f, fu = f + 1 := ⟨fu - 1, by omega⟩
    rw [fX5_placeOf_h18.eq_2]
    have : i = pc := by omega
    subst this
    simp (disch := omega) only [e1, ↓lt_d, eq_self, lN_add, i_l, wTn, wFa, wFb, wCT, wCF, mNe, mNe2, mLt, mLe, bp_s, bn_s, n_clampS, nI_1, nI_add, pk_sub, nI_mul, wrI_at, wrI_2, wrL_at, wrL_1, true_and, false_and, and_true, and_false, and_self, ↓reduceIte, Nat.reduceEqDiff, Nat.reduceAdd, Nat.reduceMul, Nat.add_zero, Nat.zero_add, reduceCtorEq, l_0, l_1, l_2, l_3, l_4, l_5, l_6, l_7, l_8, l_9, l_10, l_15, l_24, l_32, l_39, l_40, l_47, l_48, l_50, l_57, l_60, l_63, l_80, l_95, l_99, l_100, l_120, l_126, l_128, l_1000, l_9999, l_10000, L_0, L_1, L_2, L_3, L_4, L_5, L_7, L_9, L_15, L_40, L_50, L_99, L_127, L_9999, c_ltT, c_ltF, c_leT, c_leF, c_eqT, c_eqF, n_leF, n_ltF, c_gltT, c_gltF, c_ggtT, c_ggtF, false_or, or_false, or_self, true_or, or_true]
  | succ d ih =>
    intro i fu hd hi hf
    obtain ⟨fu, rfl⟩ : ∃ f, fu = f + 1 := ⟨fu - 1, by omega⟩
    rw [fX5_placeOf_h18.eq_2]
    obtain ⟨a', b', p1, p2, p3, p4, p5⟩ := e3 i (by omega)
    have e := ih (i + 1) fu (by omega) (by omega) (by omega)
    have g1 : a' * 10000 + b' ≠ v := by omega
    have g2 : a' * 10000 + b' ≠ b * 10000 + a := by
      intro z
      have : a' = b := by omega
      omega
    have g3 : (nI (a' * 10000 + b') = nI (b * 10000 + a)) = False := c_eqF g2 (by omega) (by omega)
    simp (disch := omega) only [e1, p5, g3, ↓lt_d, eq_self, lN_add, i_l, wTn, wFa, wFb, wCT, wCF, mNe, mNe2, mLt, mLe, bp_s, bn_s, n_clampS, nI_1, nI_add, pk_sub, nI_mul, wrI_at, wrI_2, wrL_at, wrL_1, true_and, false_and, and_true, and_false, and_self, ↓reduceIte, Nat.reduceEqDiff, Nat.reduceAdd, Nat.reduceMul, Nat.add_zero, Nat.zero_add, reduceCtorEq, l_0, l_1, l_2, l_3, l_4, l_5, l_6, l_7, l_8, l_9, l_10, l_15, l_24, l_32, l_39, l_40, l_47, l_48, l_50, l_57, l_60, l_63, l_80, l_95, l_99, l_100, l_120, l_126, l_128, l_1000, l_9999, l_10000, L_0, L_1, L_2, L_3, L_4, L_5, L_7, L_9, L_15, L_40, L_50, L_99, L_127, L_9999, c_ltT, c_ltF, c_leT, c_leF, c_eqT, c_eqF, n_leF, n_ltF, c_gltT, c_gltF, c_ggtT, c_ggtF, false_or, or_false, or_self, true_or, or_true]
    exact e
theorem known_l {n t jc jr v a b tb : Nat} {C R : Mm} (hn : 1000 ≤ n) (ht : t < 2 ^ 30) (hj : jr < 6) (hv : isAB v a b) (h : I_prx t jc jr C R) (e3 : C.1 (hdn jc) 3 = nI tb) (htb : tb ≤ 99) (r30 : R.1 72 30 = nI jr) (r31 : R.1 72 31 = nI tb) : ∃ k, (k = 0 ∨ k = 1) ∧ fX5_looksUp n jc (nI v) C = some (nI k) ∧ fX11_isKnown n (nI a) (nI b) R = some (nI k) := by
  obtain ⟨v1, v2, v3⟩ := ab_div hv
  have hvv := hv
  unfold isAB at hvv
  have hv' : 10000 * a + b = v := by omega
  have hda : nI v / nI 10000 = nI a := by rw [dv v3 (by decide) (by decide), v1]
  have hdb : irm (nI v) (nI 10000) = nI b := by rw [rm v3 (by decide) (by decide), v2]
  have core : ∃ k, (k = 0 ∨ k = 1) ∧ fX5_looksUp_b30 n jc (nI v) C = some (nI k) ∧ fX11_isKnown_b16 n (nI a) (nI b) R = some (nI k) := by
    rcases small_l hv with ⟨s1, s2, s3, s4⟩ | ⟨s1, s3, s4⟩
    · obtain ⟨pc, r, q1, q2, q3, q4, q5, q6⟩ := place_l hn hj hv h
      rcases q6 ⟨s1, s2⟩ with ⟨q7, q8⟩ | ⟨q7, q8⟩
      · obtain ⟨pc2, p1, p2, p3, p4⟩ := h
        have hpc : pc2 = pc := (nI_eq (by omega) (by omega)).mp (p2.symm.trans q3)
        subst hpc
        obtain ⟨a', b', c, d1, d2, d3, d4, d5, d6, d7, d8, d9⟩ := p4 r q7
        by_cases hc : c < 3
        · refine ⟨0, Or.inl rfl, ?_, ?_⟩
          · unfold fX5_looksUp_b30
            simp (disch := omega) only [q5, q3, d7, ↓lt_d, eq_self, lN_add, i_l, wTn, wFa, wFb, wCT, wCF, mNe, mNe2, mLt, mLe, bp_s, bn_s, n_clampS, nI_1, nI_add, pk_sub, nI_mul, wrI_at, wrI_2, wrL_at, wrL_1, true_and, false_and, and_true, and_false, and_self, ↓reduceIte, Nat.reduceEqDiff, Nat.reduceAdd, Nat.reduceMul, Nat.add_zero, Nat.zero_add, reduceCtorEq, l_0, l_1, l_2, l_3, l_4, l_5, l_6, l_7, l_8, l_9, l_10, l_15, l_24, l_32, l_39, l_40, l_47, l_48, l_50, l_57, l_60, l_63, l_80, l_95, l_99, l_100, l_120, l_126, l_128, l_1000, l_9999, l_10000, L_0, L_1, L_2, L_3, L_4, L_5, L_7, L_9, L_15, L_40, L_50, L_99, L_127, L_9999, c_ltT, c_ltF, c_leT, c_leF, c_eqT, c_eqF, n_leF, n_ltF, c_gltT, c_gltF, c_ggtT, c_ggtF, false_or, or_false, or_self, true_or, or_true]
          · unfold fX11_isKnown_b16 fX11_isLearnt fX11_isLearnt_b17
            have l_360 : (360 : Int32) = nI 360 := by decide
            simp (disch := omega) only [r30, hv', s4, q8, d9, ↓lt_d, eq_self, lN_add, i_l, wTn, wFa, wFb, wCT, wCF, mNe, mNe2, mLt, mLe, bp_s, bn_s, n_clampS, nI_1, nI_add, pk_sub, nI_mul, wrI_at, wrI_2, wrL_at, wrL_1, true_and, false_and, and_true, and_false, and_self, ↓reduceIte, Nat.reduceEqDiff, Nat.reduceAdd, Nat.reduceMul, Nat.add_zero, Nat.zero_add, reduceCtorEq, l_0, l_1, l_2, l_3, l_4, l_5, l_6, l_7, l_8, l_9, l_10, l_15, l_24, l_32, l_39, l_40, l_47, l_48, l_50, l_57, l_60, l_63, l_80, l_95, l_99, l_100, l_120, l_126, l_128, l_1000, l_9999, l_10000, L_0, L_1, L_2, L_3, L_4, L_5, L_7, L_9, L_15, L_40, L_50, L_99, L_127, L_9999, c_ltT, c_ltF, c_leT, c_leF, c_eqT, c_eqF, n_leF, n_ltF, c_gltT, c_gltF, c_ggtT, c_ggtF, false_or, or_false, or_self, true_or, or_true]
        · refine ⟨1, Or.inr rfl, ?_, ?_⟩
          · unfold fX5_looksUp_b30
            simp (disch := omega) only [q5, q3, d7, ↓lt_d, eq_self, lN_add, i_l, wTn, wFa, wFb, wCT, wCF, mNe, mNe2, mLt, mLe, bp_s, bn_s, n_clampS, nI_1, nI_add, pk_sub, nI_mul, wrI_at, wrI_2, wrL_at, wrL_1, true_and, false_and, and_true, and_false, and_self, ↓reduceIte, Nat.reduceEqDiff, Nat.reduceAdd, Nat.reduceMul, Nat.add_zero, Nat.zero_add, reduceCtorEq, l_0, l_1, l_2, l_3, l_4, l_5, l_6, l_7, l_8, l_9, l_10, l_15, l_24, l_32, l_39, l_40, l_47, l_48, l_50, l_57, l_60, l_63, l_80, l_95, l_99, l_100, l_120, l_126, l_128, l_1000, l_9999, l_10000, L_0, L_1, L_2, L_3, L_4, L_5, L_7, L_9, L_15, L_40, L_50, L_99, L_127, L_9999, c_ltT, c_ltF, c_leT, c_leF, c_eqT, c_eqF, n_leF, n_ltF, c_gltT, c_gltF, c_ggtT, c_ggtF, false_or, or_false, or_self, true_or, or_true]
          · unfold fX11_isKnown_b16 fX11_isLearnt fX11_isLearnt_b17
            simp (disch := omega) only [r30, hv', s4, q8, d9, ↓lt_d, eq_self, lN_add, i_l, wTn, wFa, wFb, wCT, wCF, mNe, mNe2, mLt, mLe, bp_s, bn_s, n_clampS, nI_1, nI_add, pk_sub, nI_mul, wrI_at, wrI_2, wrL_at, wrL_1, true_and, false_and, and_true, and_false, and_self, ↓reduceIte, Nat.reduceEqDiff, Nat.reduceAdd, Nat.reduceMul, Nat.add_zero, Nat.zero_add, reduceCtorEq, l_0, l_1, l_2, l_3, l_4, l_5, l_6, l_7, l_8, l_9, l_10, l_15, l_24, l_32, l_39, l_40, l_47, l_48, l_50, l_57, l_60, l_63, l_80, l_95, l_99, l_100, l_120, l_126, l_128, l_1000, l_9999, l_10000, L_0, L_1, L_2, L_3, L_4, L_5, L_7, L_9, L_15, L_40, L_50, L_99, L_127, L_9999, c_ltT, c_ltF, c_leT, c_leF, c_eqT, c_eqF, n_leF, n_ltF, c_gltT, c_gltF, c_ggtT, c_ggtF, false_or, or_false, or_self, true_or, or_true]
      · subst q7
        refine ⟨0, Or.inl rfl, ?_, ?_⟩
        · unfold fX5_looksUp_b30
          simp (disch := omega) only [q5, q3, ↓lt_d, eq_self, lN_add, i_l, wTn, wFa, wFb, wCT, wCF, mNe, mNe2, mLt, mLe, bp_s, bn_s, n_clampS, nI_1, nI_add, pk_sub, nI_mul, wrI_at, wrI_2, wrL_at, wrL_1, true_and, false_and, and_true, and_false, and_self, ↓reduceIte, Nat.reduceEqDiff, Nat.reduceAdd, Nat.reduceMul, Nat.add_zero, Nat.zero_add, reduceCtorEq, l_0, l_1, l_2, l_3, l_4, l_5, l_6, l_7, l_8, l_9, l_10, l_15, l_24, l_32, l_39, l_40, l_47, l_48, l_50, l_57, l_60, l_63, l_80, l_95, l_99, l_100, l_120, l_126, l_128, l_1000, l_9999, l_10000, L_0, L_1, L_2, L_3, L_4, L_5, L_7, L_9, L_15, L_40, L_50, L_99, L_127, L_9999, c_ltT, c_ltF, c_leT, c_leF, c_eqT, c_eqF, n_leF, n_ltF, c_gltT, c_gltF, c_ggtT, c_ggtF, false_or, or_false, or_self, true_or, or_true]
        · unfold fX11_isKnown_b16 fX11_isLearnt fX11_isLearnt_b17
          simp (disch := omega) only [r30, hv', s4, q8, ↓lt_d, eq_self, lN_add, i_l, wTn, wFa, wFb, wCT, wCF, mNe, mNe2, mLt, mLe, bp_s, bn_s, n_clampS, nI_1, nI_add, pk_sub, nI_mul, wrI_at, wrI_2, wrL_at, wrL_1, true_and, false_and, and_true, and_false, and_self, ↓reduceIte, Nat.reduceEqDiff, Nat.reduceAdd, Nat.reduceMul, Nat.add_zero, Nat.zero_add, reduceCtorEq, l_0, l_1, l_2, l_3, l_4, l_5, l_6, l_7, l_8, l_9, l_10, l_15, l_24, l_32, l_39, l_40, l_47, l_48, l_50, l_57, l_60, l_63, l_80, l_95, l_99, l_100, l_120, l_126, l_128, l_1000, l_9999, l_10000, L_0, L_1, L_2, L_3, L_4, L_5, L_7, L_9, L_15, L_40, L_50, L_99, L_127, L_9999, c_ltT, c_ltF, c_leT, c_leF, c_eqT, c_eqF, n_leF, n_ltF, c_gltT, c_gltF, c_ggtT, c_ggtF, false_or, or_false, or_self, true_or, or_true]
    · obtain ⟨pc2, p1, p2, p3, p4⟩ := h
      have e := far_h (n := n) hv s1 p1 p2 (fun i hi => by
        obtain ⟨a', b', c, d1, d2, d3, d4, d5, d6, d7, d8, d9⟩ := p4 i hi
        exact ⟨a', b', d1, d2, d3, d4, d6⟩) pc2 0 n rfl (by omega) (by omega)
      refine ⟨0, Or.inl rfl, ?_, ?_⟩
      · unfold fX5_looksUp_b30 fX5_placeOf
        simp (disch := omega) only [hda, hdb, e, p2, ↓lt_d, eq_self, lN_add, i_l, wTn, wFa, wFb, wCT, wCF, mNe, mNe2, mLt, mLe, bp_s, bn_s, n_clampS, nI_1, nI_add, pk_sub, nI_mul, wrI_at, wrI_2, wrL_at, wrL_1, true_and, false_and, and_true, and_false, and_self, ↓reduceIte, Nat.reduceEqDiff, Nat.reduceAdd, Nat.reduceMul, Nat.add_zero, Nat.zero_add, reduceCtorEq, l_0, l_1, l_2, l_3, l_4, l_5, l_6, l_7, l_8, l_9, l_10, l_15, l_24, l_32, l_39, l_40, l_47, l_48, l_50, l_57, l_60, l_63, l_80, l_95, l_99, l_100, l_120, l_126, l_128, l_1000, l_9999, l_10000, L_0, L_1, L_2, L_3, L_4, L_5, L_7, L_9, L_15, L_40, L_50, L_99, L_127, L_9999, c_ltT, c_ltF, c_leT, c_leF, c_eqT, c_eqF, n_leF, n_ltF, c_gltT, c_gltF, c_ggtT, c_ggtF, false_or, or_false, or_self, true_or, or_true]
      · unfold fX11_isKnown_b16 fX11_isLearnt fX11_isLearnt_b17
        simp (disch := omega) only [r30, hv', s4, ↓lt_d, eq_self, lN_add, i_l, wTn, wFa, wFb, wCT, wCF, mNe, mNe2, mLt, mLe, bp_s, bn_s, n_clampS, nI_1, nI_add, pk_sub, nI_mul, wrI_at, wrI_2, wrL_at, wrL_1, true_and, false_and, and_true, and_false, and_self, ↓reduceIte, Nat.reduceEqDiff, Nat.reduceAdd, Nat.reduceMul, Nat.add_zero, Nat.zero_add, reduceCtorEq, l_0, l_1, l_2, l_3, l_4, l_5, l_6, l_7, l_8, l_9, l_10, l_15, l_24, l_32, l_39, l_40, l_47, l_48, l_50, l_57, l_60, l_63, l_80, l_95, l_99, l_100, l_120, l_126, l_128, l_1000, l_9999, l_10000, L_0, L_1, L_2, L_3, L_4, L_5, L_7, L_9, L_15, L_40, L_50, L_99, L_127, L_9999, c_ltT, c_ltF, c_leT, c_leF, c_eqT, c_eqF, n_leF, n_ltF, c_gltT, c_gltF, c_ggtT, c_ggtF, false_or, or_false, or_self, true_or, or_true]
  by_cases h1 : tb < a
  · obtain ⟨k, k1, k2, k3⟩ := core
    refine ⟨k, k1, ?_, ?_⟩
    · unfold fX5_looksUp
      simp (disch := omega) only [e3, hda, k2, ↓lt_d, eq_self, lN_add, i_l, wTn, wFa, wFb, wCT, wCF, mNe, mNe2, mLt, mLe, bp_s, bn_s, n_clampS, nI_1, nI_add, pk_sub, nI_mul, wrI_at, wrI_2, wrL_at, wrL_1, true_and, false_and, and_true, and_false, and_self, ↓reduceIte, Nat.reduceEqDiff, Nat.reduceAdd, Nat.reduceMul, Nat.add_zero, Nat.zero_add, reduceCtorEq, l_0, l_1, l_2, l_3, l_4, l_5, l_6, l_7, l_8, l_9, l_10, l_15, l_24, l_32, l_39, l_40, l_47, l_48, l_50, l_57, l_60, l_63, l_80, l_95, l_99, l_100, l_120, l_126, l_128, l_1000, l_9999, l_10000, L_0, L_1, L_2, L_3, L_4, L_5, L_7, L_9, L_15, L_40, L_50, L_99, L_127, L_9999, c_ltT, c_ltF, c_leT, c_leF, c_eqT, c_eqF, n_leF, n_ltF, c_gltT, c_gltF, c_ggtT, c_ggtF, false_or, or_false, or_self, true_or, or_true]
    · unfold fX11_isKnown
      simp (disch := omega) only [r31, k3, ↓lt_d, eq_self, lN_add, i_l, wTn, wFa, wFb, wCT, wCF, mNe, mNe2, mLt, mLe, bp_s, bn_s, n_clampS, nI_1, nI_add, pk_sub, nI_mul, wrI_at, wrI_2, wrL_at, wrL_1, true_and, false_and, and_true, and_false, and_self, ↓reduceIte, Nat.reduceEqDiff, Nat.reduceAdd, Nat.reduceMul, Nat.add_zero, Nat.zero_add, reduceCtorEq, l_0, l_1, l_2, l_3, l_4, l_5, l_6, l_7, l_8, l_9, l_10, l_15, l_24, l_32, l_39, l_40, l_47, l_48, l_50, l_57, l_60, l_63, l_80, l_95, l_99, l_100, l_120, l_126, l_128, l_1000, l_9999, l_10000, L_0, L_1, L_2, L_3, L_4, L_5, L_7, L_9, L_15, L_40, L_50, L_99, L_127, L_9999, c_ltT, c_ltF, c_leT, c_leF, c_eqT, c_eqF, n_leF, n_ltF, c_gltT, c_gltF, c_ggtT, c_ggtF, false_or, or_false, or_self, true_or, or_true]
  · by_cases h2 : tb < b
    · obtain ⟨k, k1, k2, k3⟩ := core
      refine ⟨k, k1, ?_, ?_⟩
      · unfold fX5_looksUp
        simp (disch := omega) only [e3, hda, hdb, k2, ↓lt_d, eq_self, lN_add, i_l, wTn, wFa, wFb, wCT, wCF, mNe, mNe2, mLt, mLe, bp_s, bn_s, n_clampS, nI_1, nI_add, pk_sub, nI_mul, wrI_at, wrI_2, wrL_at, wrL_1, true_and, false_and, and_true, and_false, and_self, ↓reduceIte, Nat.reduceEqDiff, Nat.reduceAdd, Nat.reduceMul, Nat.add_zero, Nat.zero_add, reduceCtorEq, l_0, l_1, l_2, l_3, l_4, l_5, l_6, l_7, l_8, l_9, l_10, l_15, l_24, l_32, l_39, l_40, l_47, l_48, l_50, l_57, l_60, l_63, l_80, l_95, l_99, l_100, l_120, l_126, l_128, l_1000, l_9999, l_10000, L_0, L_1, L_2, L_3, L_4, L_5, L_7, L_9, L_15, L_40, L_50, L_99, L_127, L_9999, c_ltT, c_ltF, c_leT, c_leF, c_eqT, c_eqF, n_leF, n_ltF, c_gltT, c_gltF, c_ggtT, c_ggtF, false_or, or_false, or_self, true_or, or_true]
      · unfold fX11_isKnown
        simp (disch := omega) only [r31, k3, ↓lt_d, eq_self, lN_add, i_l, wTn, wFa, wFb, wCT, wCF, mNe, mNe2, mLt, mLe, bp_s, bn_s, n_clampS, nI_1, nI_add, pk_sub, nI_mul, wrI_at, wrI_2, wrL_at, wrL_1, true_and, false_and, and_true, and_false, and_self, ↓reduceIte, Nat.reduceEqDiff, Nat.reduceAdd, Nat.reduceMul, Nat.add_zero, Nat.zero_add, reduceCtorEq, l_0, l_1, l_2, l_3, l_4, l_5, l_6, l_7, l_8, l_9, l_10, l_15, l_24, l_32, l_39, l_40, l_47, l_48, l_50, l_57, l_60, l_63, l_80, l_95, l_99, l_100, l_120, l_126, l_128, l_1000, l_9999, l_10000, L_0, L_1, L_2, L_3, L_4, L_5, L_7, L_9, L_15, L_40, L_50, L_99, L_127, L_9999, c_ltT, c_ltF, c_leT, c_leF, c_eqT, c_eqF, n_leF, n_ltF, c_gltT, c_gltF, c_ggtT, c_ggtF, false_or, or_false, or_self, true_or, or_true]
    · refine ⟨1, Or.inr rfl, ?_, ?_⟩
      · unfold fX5_looksUp
        simp (disch := omega) only [e3, hda, hdb, ↓lt_d, eq_self, lN_add, i_l, wTn, wFa, wFb, wCT, wCF, mNe, mNe2, mLt, mLe, bp_s, bn_s, n_clampS, nI_1, nI_add, pk_sub, nI_mul, wrI_at, wrI_2, wrL_at, wrL_1, true_and, false_and, and_true, and_false, and_self, ↓reduceIte, Nat.reduceEqDiff, Nat.reduceAdd, Nat.reduceMul, Nat.add_zero, Nat.zero_add, reduceCtorEq, l_0, l_1, l_2, l_3, l_4, l_5, l_6, l_7, l_8, l_9, l_10, l_15, l_24, l_32, l_39, l_40, l_47, l_48, l_50, l_57, l_60, l_63, l_80, l_95, l_99, l_100, l_120, l_126, l_128, l_1000, l_9999, l_10000, L_0, L_1, L_2, L_3, L_4, L_5, L_7, L_9, L_15, L_40, L_50, L_99, L_127, L_9999, c_ltT, c_ltF, c_leT, c_leF, c_eqT, c_eqF, n_leF, n_ltF, c_gltT, c_gltF, c_ggtT, c_ggtF, false_or, or_false, or_self, true_or, or_true]
      · unfold fX11_isKnown
        simp (disch := omega) only [r31, ↓lt_d, eq_self, lN_add, i_l, wTn, wFa, wFb, wCT, wCF, mNe, mNe2, mLt, mLe, bp_s, bn_s, n_clampS, nI_1, nI_add, pk_sub, nI_mul, wrI_at, wrI_2, wrL_at, wrL_1, true_and, false_and, and_true, and_false, and_self, ↓reduceIte, Nat.reduceEqDiff, Nat.reduceAdd, Nat.reduceMul, Nat.add_zero, Nat.zero_add, reduceCtorEq, l_0, l_1, l_2, l_3, l_4, l_5, l_6, l_7, l_8, l_9, l_10, l_15, l_24, l_32, l_39, l_40, l_47, l_48, l_50, l_57, l_60, l_63, l_80, l_95, l_99, l_100, l_120, l_126, l_128, l_1000, l_9999, l_10000, L_0, L_1, L_2, L_3, L_4, L_5, L_7, L_9, L_15, L_40, L_50, L_99, L_127, L_9999, c_ltT, c_ltF, c_leT, c_leF, c_eqT, c_eqF, n_leF, n_ltF, c_gltT, c_gltF, c_ggtT, c_ggtF, false_or, or_false, or_self, true_or, or_true]
/-- a way's own cells are all that Wy looks at -/
theorem Wy_ag {j a v hd : Nat} {T : Nat → Nat} {C R C' R' : Mm} (h : Wy j T C R a v hd) (hc : ∀ q i, 36 ≤ q ∧ q ≤ 41 → C'.1 q i = C.1 q i) (hr : ∀ q i, (q = 72 ∧ (i = 21 ∨ (28 ≤ i ∧ i ≤ 30))) ∨ q = 73 ∨ (84 ≤ q ∧ q ≤ 89) → R'.1 q i = R.1 q i) : Wy j T C' R' a v hd := by
  obtain ⟨w1, w2, w3, w4, w5, w6, w7, w8, w9, w10, w11⟩ := h
  refine ⟨w1, ?_, ?_, ?_, ?_, ?_, ?_, fun s hs => ⟨?_, ?_⟩, ?_, ?_, fun i hi => ?_⟩
  · rw [hc _ _ (by omega)]; exact w2
  · rw [hr _ _ (by omega)]; exact w3
  · rw [hc _ _ (by omega)]; exact w4
  · rw [hr _ _ (by omega)]; exact w5
  · rw [hr _ _ (by omega)]; exact w6
  · rw [hr _ _ (by omega)]; exact w7
  · rw [hr _ _ (by omega)]; exact (w8 s hs).1
  · rw [hc _ _ (by omega)]; exact (w8 s hs).2
  · rw [hc _ _ (by omega), w9]
    exact sumI_c a (fun i hi => (hr 86 i (by omega)).symm)
  · rw [hc _ _ (by omega), w10]
    exact maxI_c a (fun i hi => (hr 87 i (by omega)).symm)
  · rw [hc 37 i (by omega), hc 38 i (by omega), hc 39 i (by omega), hc 40 i (by omega), hc 41 i (by omega), hr 84 i (by omega), hr 85 i (by omega), hr 86 i (by omega), hr 87 i (by omega), hr 88 i (by omega), hr 89 i (by omega)]
    exact w11 i hi
theorem sz1_l {u : Nat} (h1 : 1 ≤ u) (h2 : u < 2 ^ 31) : sz1 u = dgs u := by
  obtain ⟨s, hs, -⟩ := dgs_pos h1 h2
  unfold sz1
  rw [if_neg (by omega)]
theorem letGo_l {n u hd : Nat} (hn : 1000 ≤ n) (h1 : 1 ≤ u) (h2 : u < 2 ^ 31) {C : Mm} (h : C.1 36 12 = nI hd) (hd1 : dgs u ≤ hd) : fX0_letGo n (nI u) C = some (wrI C 36 12 (nI (hd - dgs u))) := by
  unfold fX0_letGo
  simp (disch := omega) only [sizeOf_l hn (show u < 2 ^ 63 by omega), sz1_l h1 h2, h, ↓lt_d, eq_self, lN_add, i_l, wTn, wFa, wFb, wCT, wCF, mNe, mNe2, mLt, mLe, bp_s, bn_s, n_clampS, nI_1, nI_add, pk_sub, nI_mul, wrI_at, wrI_2, wrL_at, wrL_1, true_and, false_and, and_true, and_false, and_self, ↓reduceIte, Nat.reduceEqDiff, Nat.reduceAdd, Nat.reduceMul, Nat.add_zero, Nat.zero_add, reduceCtorEq, l_0, l_1, l_2, l_3, l_4, l_5, l_6, l_7, l_8, l_9, l_10, l_15, l_24, l_32, l_39, l_40, l_47, l_48, l_50, l_57, l_60, l_63, l_80, l_95, l_99, l_100, l_120, l_126, l_128, l_1000, l_9999, l_10000, L_0, L_1, L_2, L_3, L_4, L_5, L_7, L_9, L_15, L_40, L_50, L_99, L_127, L_9999, c_ltT, c_ltF, c_leT, c_leF, c_eqT, c_eqF, n_leF, n_ltF, c_gltT, c_gltF, c_ggtT, c_ggtF, false_or, or_false, or_self, true_or, or_true]
/-- a sum is added and runs then -/
theorem Wy_plus {n j a v hd w hd' : Nat} (hn : 1000 ≤ n) {T : Nat → Nat} {C R C1 R1 : Mm} (h : Wy j T C R a v hd) (hj : j < 6) (ha : a < 80) (hw1 : 1 ≤ w) (hw : w < 2 ^ 31) (hc : ∀ q i, ¬ (q = 36 ∧ 12 ≤ i ∧ i ≤ 15) → C1.1 q i = C.1 q i) (hr : ∀ q i, ¬ (q = 72 ∧ (i = 28 ∨ i = 29)) → R1.1 q i = R.1 q i) (h1 : C1.1 36 12 = nI hd') (h2 : R1.1 72 28 = nI hd') (h3 : R1.1 72 29 = nI w) : ∃ C' R', fX0_add n (nI w) (nI 1) C1 = some C' ∧ fX11_acts n (nI 1) (nI w) (nI 0) (nI 0) R1 = some R' ∧ Wy j T C' R' (a + 1) w hd' ∧ C'.1 36 13 = nI w ∧ C'.1 36 14 = nI (dgs w) := by
  have w2 := Wy_set (C' := wrI (wrI (wrI C1 36 13 (nI w)) 36 14 (nI (dgs w))) 36 15 (nI 1)) (R' := R1) (v' := w) (hd' := hd') h (fun q i hq => by rw [wrI_at, if_neg (by omega), wrI_at, if_neg (by omega), wrI_at, if_neg (by omega)]; exact hc q i hq) hr (by simp (disch := omega) only [h1, ↓lt_d, eq_self, lN_add, i_l, wTn, wFa, wFb, wCT, wCF, mNe, mNe2, mLt, mLe, bp_s, bn_s, n_clampS, nI_1, nI_add, pk_sub, nI_mul, wrI_at, wrI_2, wrL_at, wrL_1, true_and, false_and, and_true, and_false, and_self, ↓reduceIte, Nat.reduceEqDiff, Nat.reduceAdd, Nat.reduceMul, Nat.add_zero, Nat.zero_add, reduceCtorEq, l_0, l_1, l_2, l_3, l_4, l_5, l_6, l_7, l_8, l_9, l_10, l_15, l_24, l_32, l_39, l_40, l_47, l_48, l_50, l_57, l_60, l_63, l_80, l_95, l_99, l_100, l_120, l_126, l_128, l_1000, l_9999, l_10000, L_0, L_1, L_2, L_3, L_4, L_5, L_7, L_9, L_15, L_40, L_50, L_99, L_127, L_9999, c_ltT, c_ltF, c_leT, c_leF, c_eqT, c_eqF, n_leF, n_ltF, c_gltT, c_gltF, c_ggtT, c_ggtF, false_or, or_false, or_self, true_or, or_true]) h2 h3
  obtain ⟨C', R', e1, e2, e3, e4, e5, e6, e7⟩ := Wy_act hn w2 hj ha hw (s := 1) (m := w) (by omega) hw (by simp (disch := omega) only [↓lt_d, eq_self, lN_add, i_l, wTn, wFa, wFb, wCT, wCF, mNe, mNe2, mLt, mLe, bp_s, bn_s, n_clampS, nI_1, nI_add, pk_sub, nI_mul, wrI_at, wrI_2, wrL_at, wrL_1, true_and, false_and, and_true, and_false, and_self, ↓reduceIte, Nat.reduceEqDiff, Nat.reduceAdd, Nat.reduceMul, Nat.add_zero, Nat.zero_add, reduceCtorEq, l_0, l_1, l_2, l_3, l_4, l_5, l_6, l_7, l_8, l_9, l_10, l_15, l_24, l_32, l_39, l_40, l_47, l_48, l_50, l_57, l_60, l_63, l_80, l_95, l_99, l_100, l_120, l_126, l_128, l_1000, l_9999, l_10000, L_0, L_1, L_2, L_3, L_4, L_5, L_7, L_9, L_15, L_40, L_50, L_99, L_127, L_9999, c_ltT, c_ltF, c_leT, c_leF, c_eqT, c_eqF, n_leF, n_ltF, c_gltT, c_gltF, c_ggtT, c_ggtF, false_or, or_false, or_self, true_or, or_true]) (Slp_1 (z := 0) (by omega) hw1 hw)
  have g1 : lenOf 1 w (T 1) = T 1 * dgs w := rfl
  have e10 : C1.1 36 10 = nI (T 1) := by
    rw [hc _ _ (by omega)]
    exact (h.2.2.2.2.2.2.2.1 1 (by omega)).2
  rw [g1, Nat.pow_zero] at e1
  refine ⟨C', R', ?_, e2, e3, ?_, ?_⟩
  · unfold fX0_add
    simp (disch := omega) only [run_l hn hw, e10, e1, ↓lt_d, eq_self, lN_add, i_l, wTn, wFa, wFb, wCT, wCF, mNe, mNe2, mLt, mLe, bp_s, bn_s, n_clampS, nI_1, nI_add, pk_sub, nI_mul, wrI_at, wrI_2, wrL_at, wrL_1, true_and, false_and, and_true, and_false, and_self, ↓reduceIte, Nat.reduceEqDiff, Nat.reduceAdd, Nat.reduceMul, Nat.add_zero, Nat.zero_add, reduceCtorEq, l_0, l_1, l_2, l_3, l_4, l_5, l_6, l_7, l_8, l_9, l_10, l_15, l_24, l_32, l_39, l_40, l_47, l_48, l_50, l_57, l_60, l_63, l_80, l_95, l_99, l_100, l_120, l_126, l_128, l_1000, l_9999, l_10000, L_0, L_1, L_2, L_3, L_4, L_5, L_7, L_9, L_15, L_40, L_50, L_99, L_127, L_9999, c_ltT, c_ltF, c_leT, c_leF, c_eqT, c_eqF, n_leF, n_ltF, c_gltT, c_gltF, c_ggtT, c_ggtF, false_or, or_false, or_self, true_or, or_true]
  · rw [e6 _ _ (by omega)]
    simp (disch := omega) only [↓lt_d, eq_self, lN_add, i_l, wTn, wFa, wFb, wCT, wCF, mNe, mNe2, mLt, mLe, bp_s, bn_s, n_clampS, nI_1, nI_add, pk_sub, nI_mul, wrI_at, wrI_2, wrL_at, wrL_1, true_and, false_and, and_true, and_false, and_self, ↓reduceIte, Nat.reduceEqDiff, Nat.reduceAdd, Nat.reduceMul, Nat.add_zero, Nat.zero_add, reduceCtorEq, l_0, l_1, l_2, l_3, l_4, l_5, l_6, l_7, l_8, l_9, l_10, l_15, l_24, l_32, l_39, l_40, l_47, l_48, l_50, l_57, l_60, l_63, l_80, l_95, l_99, l_100, l_120, l_126, l_128, l_1000, l_9999, l_10000, L_0, L_1, L_2, L_3, L_4, L_5, L_7, L_9, L_15, L_40, L_50, L_99, L_127, L_9999, c_ltT, c_ltF, c_leT, c_leF, c_eqT, c_eqF, n_leF, n_ltF, c_gltT, c_gltF, c_ggtT, c_ggtF, false_or, or_false, or_self, true_or, or_true]
  · rw [e6 _ _ (by omega)]
    simp (disch := omega) only [↓lt_d, eq_self, lN_add, i_l, wTn, wFa, wFb, wCT, wCF, mNe, mNe2, mLt, mLe, bp_s, bn_s, n_clampS, nI_1, nI_add, pk_sub, nI_mul, wrI_at, wrI_2, wrL_at, wrL_1, true_and, false_and, and_true, and_false, and_self, ↓reduceIte, Nat.reduceEqDiff, Nat.reduceAdd, Nat.reduceMul, Nat.add_zero, Nat.zero_add, reduceCtorEq, l_0, l_1, l_2, l_3, l_4, l_5, l_6, l_7, l_8, l_9, l_10, l_15, l_24, l_32, l_39, l_40, l_47, l_48, l_50, l_57, l_60, l_63, l_80, l_95, l_99, l_100, l_120, l_126, l_128, l_1000, l_9999, l_10000, L_0, L_1, L_2, L_3, L_4, L_5, L_7, L_9, L_15, L_40, L_50, L_99, L_127, L_9999, c_ltT, c_ltF, c_leT, c_leF, c_eqT, c_eqF, n_leF, n_ltF, c_gltT, c_gltF, c_ggtT, c_ggtF, false_or, or_false, or_self, true_or, or_true]
def sumN (w : Nat → Nat) : Nat → Nat
  | 0 => 0
  | r + 1 => sumN w r + w r
theorem sumN_c {w u : Nat → Nat} : ∀ r, (∀ i, i < r → w i = u i) → sumN w r = sumN u r := by
  intro r
  induction r with
  | zero => exact fun _ => rfl
  | succ r ih =>
    intro h
    unfold sumN
    rw [ih (fun i hi => h i (by omega)), h r (by omega)]
theorem sumN_m {w : Nat → Nat} : ∀ d i, sumN w i ≤ sumN w (i + d) := by
  intro d
  induction d with
  | zero => exact fun i => Nat.le_refl _
  | succ d ih =>
    intro i
    have := ih i
    show _ ≤ sumN w (i + d) + w (i + d)
    omega
theorem sumN_s {w : Nat → Nat} {i r : Nat} (h : i < r) : sumN w i + w i ≤ sumN w r := by
  have := sumN_m (w := w) (r - (i + 1)) (i + 1)
  rw [show i + 1 + (r - (i + 1)) = r by omega] at this
  exact this
def RW (w : Nat → Nat) (r : Nat) (C R : Mm) : Prop := ∀ i, i < r → C.1 42 i = nI (w i) ∧ R.1 90 i = nI (w i) ∧ 1 ≤ w i
theorem addrows_h {n j r : Nat} (hn : 1000 ≤ n) (hj : j < 6) (hr4 : r ≤ 4) {T w : Nat → Nat} (hw : sumN w r < 2 ^ 31) : ∀ d i fu fv a C R, r - i = d → i ≤ r → d < fu → d < fv → a + d ≤ 80 → Wy j T C R a (sumN w i) (sumN (fun k => dgs (w k)) r - sumN (fun k => dgs (w k)) i) → C.1 36 13 = nI (sumN w i) → RW w r C R → ∃ C' R' a', fX0_addRows_h22 n fu (nI r) (nI i) C = some C' ∧ fX11_goRight_h98 n fv (nI r) (nI i) R = some R' ∧ ∃ v hd, Wy j T C' R' a' v hd := by
  intro d
  induction d with
  | zero =>
    intro i fu fv a C R hd hi hf hg ha h h13 hrw
    obtain ⟨fu, rfl⟩ : ∃ f, fu = f + 1 := ⟨fu - 1, by omega⟩
    obtain ⟨fv, rfl⟩ : ∃ f, fv = f + 1 := ⟨fv - 1, by omega⟩
    refine ⟨C, R, a, ?_, ?_, _, _, h⟩
    · rw [fX0_addRows_h22.eq_2]
      simp (disch := omega) only [↓lt_d, eq_self, lN_add, i_l, wTn, wFa, wFb, wCT, wCF, mNe, mNe2, mLt, mLe, bp_s, bn_s, n_clampS, nI_1, nI_add, pk_sub, nI_mul, wrI_at, wrI_2, wrL_at, wrL_1, true_and, false_and, and_true, and_false, and_self, ↓reduceIte, Nat.reduceEqDiff, Nat.reduceAdd, Nat.reduceMul, Nat.add_zero, Nat.zero_add, reduceCtorEq, l_0, l_1, l_2, l_3, l_4, l_5, l_6, l_7, l_8, l_9, l_10, l_15, l_24, l_32, l_39, l_40, l_47, l_48, l_50, l_57, l_60, l_63, l_80, l_95, l_99, l_100, l_120, l_126, l_128, l_1000, l_9999, l_10000, L_0, L_1, L_2, L_3, L_4, L_5, L_7, L_9, L_15, L_40, L_50, L_99, L_127, L_9999, c_ltT, c_ltF, c_leT, c_leF, c_eqT, c_eqF, n_leF, n_ltF, c_gltT, c_gltF, c_ggtT, c_ggtF, false_or, or_false, or_self, true_or, or_true]
    · rw [fX11_goRight_h98.eq_2]
      simp (disch := omega) only [↓lt_d, eq_self, lN_add, i_l, wTn, wFa, wFb, wCT, wCF, mNe, mNe2, mLt, mLe, bp_s, bn_s, n_clampS, nI_1, nI_add, pk_sub, nI_mul, wrI_at, wrI_2, wrL_at, wrL_1, true_and, false_and, and_true, and_false, and_self, ↓reduceIte, Nat.reduceEqDiff, Nat.reduceAdd, Nat.reduceMul, Nat.add_zero, Nat.zero_add, reduceCtorEq, l_0, l_1, l_2, l_3, l_4, l_5, l_6, l_7, l_8, l_9, l_10, l_15, l_24, l_32, l_39, l_40, l_47, l_48, l_50, l_57, l_60, l_63, l_80, l_95, l_99, l_100, l_120, l_126, l_128, l_1000, l_9999, l_10000, L_0, L_1, L_2, L_3, L_4, L_5, L_7, L_9, L_15, L_40, L_50, L_99, L_127, L_9999, c_ltT, c_ltF, c_leT, c_leF, c_eqT, c_eqF, n_leF, n_ltF, c_gltT, c_gltF, c_ggtT, c_ggtF, false_or, or_false, or_self, true_or, or_true]
  | succ d ih =>
    intro i fu fv a C R hd hi hf hg ha h h13 hrw
    obtain ⟨fu, rfl⟩ : ∃ f, fu = f + 1 := ⟨fu - 1, by omega⟩
    obtain ⟨fv, rfl⟩ : ∃ f, fv = f + 1 := ⟨fv - 1, by omega⟩
    obtain ⟨p1, p2, p3⟩ := hrw i (by omega)
    have hs := sumN_s (w := w) (i := i) (r := r) (by omega)
    have hs2 := sumN_s (w := fun k => dgs (w k)) (i := i) (r := r) (by omega)
    have w4 := h.2.2.2.1
    have w5 := h.2.2.2.2.1
    have w6 := h.2.2.2.2.2.1
    have hwi : w i < 2 ^ 31 := by omega
    have el := letGo_l hn p3 hwi w4 (by omega)
    have es : sumN (fun k => dgs (w k)) (i + 1) = sumN (fun k => dgs (w k)) i + dgs (w i) := rfl
    rw [show sumN (fun k => dgs (w k)) r - sumN (fun k => dgs (w k)) i - dgs (w i) = sumN (fun k => dgs (w k)) r - sumN (fun k => dgs (w k)) (i + 1) by omega] at el
    obtain ⟨C2, R2, f1, f2, f3, f4, f5⟩ := Wy_plus (w := sumN w i + w i) (hd' := sumN (fun k => dgs (w k)) r - sumN (fun k => dgs (w k)) (i + 1)) (C1 := wrI C 36 12 (nI (sumN (fun k => dgs (w k)) r - sumN (fun k => dgs (w k)) (i + 1)))) (R1 := wrI (wrI R 72 29 (nI (sumN w i + w i))) 72 28 (nI (sumN (fun k => dgs (w k)) r - sumN (fun k => dgs (w k)) (i + 1)))) hn h hj (by omega) (show 1 ≤ sumN w i + w i by omega) (show sumN w i + w i < 2 ^ 31 by omega) (fun q k hq => by rw [wrI_at, if_neg (by omega)]) (fun q k hq => by rw [wrI_at, if_neg (by omega), wrI_at, if_neg (by omega)]) (by simp (disch := omega) only [↓lt_d, eq_self, lN_add, i_l, wTn, wFa, wFb, wCT, wCF, mNe, mNe2, mLt, mLe, bp_s, bn_s, n_clampS, nI_1, nI_add, pk_sub, nI_mul, wrI_at, wrI_2, wrL_at, wrL_1, true_and, false_and, and_true, and_false, and_self, ↓reduceIte, Nat.reduceEqDiff, Nat.reduceAdd, Nat.reduceMul, Nat.add_zero, Nat.zero_add, reduceCtorEq, l_0, l_1, l_2, l_3, l_4, l_5, l_6, l_7, l_8, l_9, l_10, l_15, l_24, l_32, l_39, l_40, l_47, l_48, l_50, l_57, l_60, l_63, l_80, l_95, l_99, l_100, l_120, l_126, l_128, l_1000, l_9999, l_10000, L_0, L_1, L_2, L_3, L_4, L_5, L_7, L_9, L_15, L_40, L_50, L_99, L_127, L_9999, c_ltT, c_ltF, c_leT, c_leF, c_eqT, c_eqF, n_leF, n_ltF, c_gltT, c_gltF, c_ggtT, c_ggtF, false_or, or_false, or_self, true_or, or_true]) (by simp (disch := omega) only [↓lt_d, eq_self, lN_add, i_l, wTn, wFa, wFb, wCT, wCF, mNe, mNe2, mLt, mLe, bp_s, bn_s, n_clampS, nI_1, nI_add, pk_sub, nI_mul, wrI_at, wrI_2, wrL_at, wrL_1, true_and, false_and, and_true, and_false, and_self, ↓reduceIte, Nat.reduceEqDiff, Nat.reduceAdd, Nat.reduceMul, Nat.add_zero, Nat.zero_add, reduceCtorEq, l_0, l_1, l_2, l_3, l_4, l_5, l_6, l_7, l_8, l_9, l_10, l_15, l_24, l_32, l_39, l_40, l_47, l_48, l_50, l_57, l_60, l_63, l_80, l_95, l_99, l_100, l_120, l_126, l_128, l_1000, l_9999, l_10000, L_0, L_1, L_2, L_3, L_4, L_5, L_7, L_9, L_15, L_40, L_50, L_99, L_127, L_9999, c_ltT, c_ltF, c_leT, c_leF, c_eqT, c_eqF, n_leF, n_ltF, c_gltT, c_gltF, c_ggtT, c_ggtF, false_or, or_false, or_self, true_or, or_true]) (by simp (disch := omega) only [↓lt_d, eq_self, lN_add, i_l, wTn, wFa, wFb, wCT, wCF, mNe, mNe2, mLt, mLe, bp_s, bn_s, n_clampS, nI_1, nI_add, pk_sub, nI_mul, wrI_at, wrI_2, wrL_at, wrL_1, true_and, false_and, and_true, and_false, and_self, ↓reduceIte, Nat.reduceEqDiff, Nat.reduceAdd, Nat.reduceMul, Nat.add_zero, Nat.zero_add, reduceCtorEq, l_0, l_1, l_2, l_3, l_4, l_5, l_6, l_7, l_8, l_9, l_10, l_15, l_24, l_32, l_39, l_40, l_47, l_48, l_50, l_57, l_60, l_63, l_80, l_95, l_99, l_100, l_120, l_126, l_128, l_1000, l_9999, l_10000, L_0, L_1, L_2, L_3, L_4, L_5, L_7, L_9, L_15, L_40, L_50, L_99, L_127, L_9999, c_ltT, c_ltF, c_leT, c_leF, c_eqT, c_eqF, n_leF, n_ltF, c_gltT, c_gltF, c_ggtT, c_ggtF, false_or, or_false, or_self, true_or, or_true])
    have ga := gu_X0_add f1
    have gb := gv_X11_acts f2
    obtain ⟨C3, R3, a3, t1, t2, t3⟩ := ih (i + 1) fu fv (a + 1) C2 R2 (by omega) (by omega) (by omega) (by omega) (by omega) f3 f4 (fun k hk => by
      rw [ga.1 42 k (by unfold fAcu; omega), gb.1 90 k (by unfold fLau; omega), wrI_at, if_neg (by omega), wrI_at, if_neg (by omega), wrI_at, if_neg (by omega)]
      exact hrw k hk)
    refine ⟨C3, R3, a3, ?_, ?_, t3⟩
    · rw [fX0_addRows_h22.eq_2]
      simp (disch := omega) only [p1, el, h13, f1, ↓lt_d, eq_self, lN_add, i_l, wTn, wFa, wFb, wCT, wCF, mNe, mNe2, mLt, mLe, bp_s, bn_s, n_clampS, nI_1, nI_add, pk_sub, nI_mul, wrI_at, wrI_2, wrL_at, wrL_1, true_and, false_and, and_true, and_false, and_self, ↓reduceIte, Nat.reduceEqDiff, Nat.reduceAdd, Nat.reduceMul, Nat.add_zero, Nat.zero_add, reduceCtorEq, l_0, l_1, l_2, l_3, l_4, l_5, l_6, l_7, l_8, l_9, l_10, l_15, l_24, l_32, l_39, l_40, l_47, l_48, l_50, l_57, l_60, l_63, l_80, l_95, l_99, l_100, l_120, l_126, l_128, l_1000, l_9999, l_10000, L_0, L_1, L_2, L_3, L_4, L_5, L_7, L_9, L_15, L_40, L_50, L_99, L_127, L_9999, c_ltT, c_ltF, c_leT, c_leF, c_eqT, c_eqF, n_leF, n_ltF, c_gltT, c_gltF, c_ggtT, c_ggtF, false_or, or_false, or_self, true_or, or_true]
      exact t1
    · rw [fX11_goRight_h98.eq_2]
      have e5 : nI (sumN (fun k => dgs (w k)) r - sumN (fun k => dgs (w k)) i) - nI (dgs (w i)) = nI (sumN (fun k => dgs (w k)) r - sumN (fun k => dgs (w k)) (i + 1)) := by
        rw [pk_sub (by omega), show sumN (fun k => dgs (w k)) r - sumN (fun k => dgs (w k)) i - dgs (w i) = sumN (fun k => dgs (w k)) r - sumN (fun k => dgs (w k)) (i + 1) by omega]
      simp (disch := omega) only [w6, p2, digits_l hn hwi, w5, ↓e5, f2, ↓lt_d, eq_self, lN_add, i_l, wTn, wFa, wFb, wCT, wCF, mNe, mNe2, mLt, mLe, bp_s, bn_s, n_clampS, nI_1, nI_add, pk_sub, nI_mul, wrI_at, wrI_2, wrL_at, wrL_1, true_and, false_and, and_true, and_false, and_self, ↓reduceIte, Nat.reduceEqDiff, Nat.reduceAdd, Nat.reduceMul, Nat.add_zero, Nat.zero_add, reduceCtorEq, l_0, l_1, l_2, l_3, l_4, l_5, l_6, l_7, l_8, l_9, l_10, l_15, l_24, l_32, l_39, l_40, l_47, l_48, l_50, l_57, l_60, l_63, l_80, l_95, l_99, l_100, l_120, l_126, l_128, l_1000, l_9999, l_10000, L_0, L_1, L_2, L_3, L_4, L_5, L_7, L_9, L_15, L_40, L_50, L_99, L_127, L_9999, c_ltT, c_ltF, c_leT, c_leF, c_eqT, c_eqF, n_leF, n_ltF, c_gltT, c_gltF, c_ggtT, c_ggtF, false_or, or_false, or_self, true_or, or_true]
      exact t2
