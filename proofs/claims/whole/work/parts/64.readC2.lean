/-! operands, lines, the whole text: the class -/
theorem dig_bF {c : Nat} (h : ¬ (48 ≤ c ∧ c ≤ 57)) (hc : c ≤ 256) : fX4_isDigit (bC c) = nI 0 := by
  unfold fX4_isDigit bC
  by_cases h1 : c < 256
  · rw [if_pos h1]
    by_cases h2 : c < 48
    · simp (disch := omega) only [↓lt_d, eq_self, lN_add, i_l, wTn, wFa, wFb, wCT, wCF, mNe, mNe2, mLt, mLe, bp_s, bn_s, n_clampS, nI_1, nI_add, pk_sub, nI_mul, wrI_at, wrI_2, wrL_at, wrL_1, true_and, false_and, and_true, and_false, and_self, ↓reduceIte, Nat.reduceEqDiff, Nat.reduceAdd, Nat.reduceMul, Nat.add_zero, Nat.zero_add, reduceCtorEq, l_0, l_1, l_2, l_3, l_4, l_5, l_6, l_7, l_8, l_9, l_10, l_15, l_24, l_32, l_39, l_40, l_47, l_48, l_50, l_57, l_60, l_63, l_80, l_95, l_99, l_100, l_120, l_126, l_128, l_1000, l_9999, l_10000, L_0, L_1, L_2, L_3, L_4, L_5, L_7, L_9, L_15, L_40, L_50, L_99, L_127, L_9999, c_ltT, c_ltF, c_leT, c_leF, c_eqT, c_eqF, n_leF, n_ltF, c_gltT, c_gltF, c_ggtT, c_ggtF, false_or, or_false, or_self, true_or, or_true]
    · simp (disch := omega) only [↓lt_d, eq_self, lN_add, i_l, wTn, wFa, wFb, wCT, wCF, mNe, mNe2, mLt, mLe, bp_s, bn_s, n_clampS, nI_1, nI_add, pk_sub, nI_mul, wrI_at, wrI_2, wrL_at, wrL_1, true_and, false_and, and_true, and_false, and_self, ↓reduceIte, Nat.reduceEqDiff, Nat.reduceAdd, Nat.reduceMul, Nat.add_zero, Nat.zero_add, reduceCtorEq, l_0, l_1, l_2, l_3, l_4, l_5, l_6, l_7, l_8, l_9, l_10, l_15, l_24, l_32, l_39, l_40, l_47, l_48, l_50, l_57, l_60, l_63, l_80, l_95, l_99, l_100, l_120, l_126, l_128, l_1000, l_9999, l_10000, L_0, L_1, L_2, L_3, L_4, L_5, L_7, L_9, L_15, L_40, L_50, L_99, L_127, L_9999, c_ltT, c_ltF, c_leT, c_leF, c_eqT, c_eqF, n_leF, n_ltF, c_gltT, c_gltF, c_ggtT, c_ggtF, false_or, or_false, or_self, true_or, or_true]
  · rw [if_neg h1]
    simp (disch := omega) only [↓lt_d, eq_self, lN_add, i_l, wTn, wFa, wFb, wCT, wCF, mNe, mNe2, mLt, mLe, bp_s, bn_s, n_clampS, nI_1, nI_add, pk_sub, nI_mul, wrI_at, wrI_2, wrL_at, wrL_1, true_and, false_and, and_true, and_false, and_self, ↓reduceIte, Nat.reduceEqDiff, Nat.reduceAdd, Nat.reduceMul, Nat.add_zero, Nat.zero_add, reduceCtorEq, l_0, l_1, l_2, l_3, l_4, l_5, l_6, l_7, l_8, l_9, l_10, l_15, l_24, l_32, l_39, l_40, l_47, l_48, l_50, l_57, l_60, l_63, l_80, l_95, l_99, l_100, l_120, l_126, l_128, l_1000, l_9999, l_10000, L_0, L_1, L_2, L_3, L_4, L_5, L_7, L_9, L_15, L_40, L_50, L_99, L_127, L_9999, c_ltT, c_ltF, c_leT, c_leF, c_eqT, c_eqF, n_leF, n_ltF, c_gltT, c_gltF, c_ggtT, c_ggtF, false_or, or_false, or_self, true_or, or_true]
theorem num_c {n m : Nat} {T : Nat → Nat} : ∀ d fu k v p ks C, k + d = 4 → d < fu → v < 10 ^ k → CP T m 0 p ks C → ∃ C1, fX3_readNumber_h4 n fu (nI v) (nI k) C = fX3_readNumber_b62 n (nI (pNum T m d v p).1) C1 ∧ CP T m 0 (pNum T m d v p).2 ks C1 ∧ p ≤ (pNum T m d v p).2 ∧ (pNum T m d v p).1 < 10 ^ 4 := by
  intro d
  induction d with
  | zero =>
    intro fu k v p ks C hk hf hv hC
    obtain ⟨fu, rfl⟩ : ∃ f, fu = f + 1 := ⟨fu - 1, by omega⟩
    have hk4 : k = 4 := by omega
    subst hk4
    refine ⟨C, ?_, hC, Nat.le_refl _, hv⟩
    rw [fX3_readNumber_h4.eq_2]
    simp (disch := omega) only [↓lt_d, eq_self, lN_add, i_l, wTn, wFa, wFb, wCT, wCF, mNe, mNe2, mLt, mLe, bp_s, bn_s, n_clampS, nI_1, nI_add, pk_sub, nI_mul, wrI_at, wrI_2, wrL_at, wrL_1, true_and, false_and, and_true, and_false, and_self, ↓reduceIte, Nat.reduceEqDiff, Nat.reduceAdd, Nat.reduceMul, Nat.add_zero, Nat.zero_add, reduceCtorEq, l_0, l_1, l_2, l_3, l_4, l_5, l_6, l_7, l_8, l_9, l_10, l_15, l_24, l_32, l_39, l_40, l_47, l_48, l_50, l_57, l_60, l_63, l_80, l_95, l_99, l_100, l_120, l_126, l_128, l_1000, l_9999, l_10000, L_0, L_1, L_2, L_3, L_4, L_5, L_7, L_9, L_15, L_40, L_50, L_99, L_127, L_9999, c_ltT, c_ltF, c_leT, c_leF, c_eqT, c_eqF, n_leF, n_ltF, c_gltT, c_gltF, c_ggtT, c_ggtF, false_or, or_false, or_self, true_or, or_true]
    rfl
  | succ d ih =>
    intro fu k v p ks C hk hf hv hC
    obtain ⟨fu, rfl⟩ : ∃ f, fu = f + 1 := ⟨fu - 1, by omega⟩
    have hm : m ≤ 120 := hC.1.1
    have hp := hC.2.2.1
    have h7 := hC.2.1
    have hat := at_c hC.1 hp
    have hc256 := tk_le hC.1 p
    have hk4 : 10 ^ k ≤ 10 ^ 3 := Nat.pow_le_pow_right (by decide) (by omega)
    rw [fX3_readNumber_h4.eq_2]
    have e0 : pNum T m (d + 1) v p = if isDg (tk T m p) then pNum T m d (v * 10 + (tk T m p - 48)) (p + 1) else (v, p) := rfl
    rw [e0]
    by_cases hg : 48 ≤ tk T m p ∧ tk T m p ≤ 57
    · have hg2 : isDg (tk T m p) = true := decide_eq_true hg
      rw [if_pos hg2]
      have hpm : p < m := by
        by_cases hh : p < m
        · exact hh
        · have hg3 := hg
          unfold tk at hg3
          rw [if_neg hh] at hg3
          omega
      obtain ⟨C1, t1, t2, t3, t4⟩ := ih fu (k + 1) (v * 10 + (tk T m p - 48)) (p + 1) ks _ (by omega) (by omega) (by rw [Nat.pow_succ]; omega) (CP_step hC hpm)
      refine ⟨C1, ?_, t2, by omega, t4⟩
      have hdg := dig_T hg.1 hg.2
      have hbc := bC_T (c := tk T m p) (by omega)
      rw [hbc] at hat
      generalize tk T m p = c at *
      have hvv : v * 10 + c - 48 = v * 10 + (c - 48) := by omega
      simp (disch := omega) only [h7, hat, hdg, hvv, ↓lt_d, eq_self, lN_add, i_l, wTn, wFa, wFb, wCT, wCF, mNe, mNe2, mLt, mLe, bp_s, bn_s, n_clampS, nI_1, nI_add, pk_sub, nI_mul, wrI_at, wrI_2, wrL_at, wrL_1, true_and, false_and, and_true, and_false, and_self, ↓reduceIte, Nat.reduceEqDiff, Nat.reduceAdd, Nat.reduceMul, Nat.add_zero, Nat.zero_add, reduceCtorEq, l_0, l_1, l_2, l_3, l_4, l_5, l_6, l_7, l_8, l_9, l_10, l_15, l_24, l_32, l_39, l_40, l_47, l_48, l_50, l_57, l_60, l_63, l_80, l_95, l_99, l_100, l_120, l_126, l_128, l_1000, l_9999, l_10000, L_0, L_1, L_2, L_3, L_4, L_5, L_7, L_9, L_15, L_40, L_50, L_99, L_127, L_9999, c_ltT, c_ltF, c_leT, c_leF, c_eqT, c_eqF, n_leF, n_ltF, c_gltT, c_gltF, c_ggtT, c_ggtF, false_or, or_false, or_self, true_or, or_true]
      exact t1
    · have hg2 : ¬ isDg (tk T m p) = true := fun z => hg (of_decide_eq_true z)
      rw [if_neg hg2]
      refine ⟨C, ?_, hC, Nat.le_refl _, Nat.lt_of_lt_of_le hv (Nat.pow_le_pow_right (by decide) (by omega))⟩
      have hdg := dig_bF hg hc256
      simp (disch := omega) only [h7, hat, hdg, ↓lt_d, eq_self, lN_add, i_l, wTn, wFa, wFb, wCT, wCF, mNe, mNe2, mLt, mLe, bp_s, bn_s, n_clampS, nI_1, nI_add, pk_sub, nI_mul, wrI_at, wrI_2, wrL_at, wrL_1, true_and, false_and, and_true, and_false, and_self, ↓reduceIte, Nat.reduceEqDiff, Nat.reduceAdd, Nat.reduceMul, Nat.add_zero, Nat.zero_add, reduceCtorEq, l_0, l_1, l_2, l_3, l_4, l_5, l_6, l_7, l_8, l_9, l_10, l_15, l_24, l_32, l_39, l_40, l_47, l_48, l_50, l_57, l_60, l_63, l_80, l_95, l_99, l_100, l_120, l_126, l_128, l_1000, l_9999, l_10000, L_0, L_1, L_2, L_3, L_4, L_5, L_7, L_9, L_15, L_40, L_50, L_99, L_127, L_9999, c_ltT, c_ltF, c_leT, c_leF, c_eqT, c_eqF, n_leF, n_ltF, c_gltT, c_gltF, c_ggtT, c_ggtF, false_or, or_false, or_self, true_or, or_true]
theorem pNum_1 {T : Nat → Nat} {m d v p : Nat} (h : isDg (tk T m p) = true) : pNum T m (d + 1) v p = pNum T m d (v * 10 + (tk T m p - 48)) (p + 1) := by
  show (if isDg (tk T m p) then _ else _) = _
  rw [if_pos h]
theorem pNum_le {T : Nat → Nat} {m : Nat} : ∀ d v p, p ≤ (pNum T m d v p).2 := by
  intro d
  induction d with
  | zero => exact fun v p => Nat.le_refl _
  | succ d ih =>
    intro v p
    show p ≤ (if isDg (tk T m p) then pNum T m d (v * 10 + (tk T m p - 48)) (p + 1) else (v, p)).2
    by_cases h : isDg (tk T m p) = true
    · rw [if_pos h]
      have := ih (v * 10 + (tk T m p - 48)) (p + 1)
      omega
    · rw [if_neg h]
      exact Nat.le_refl _
def is3 (c : Nat) : Prop := c = 40 ∨ c = 33 ∨ c = 45
theorem is3_T {c : Nat} (h : is3 c) : (c == 40 || c == 33 || c == 45) = true := by
  rcases h with rfl | rfl | rfl <;> rfl
theorem is3_F {c : Nat} (h : ¬ is3 c) : ¬ (c == 40 || c == 33 || c == 45) = true := by
  intro z
  simp only [Bool.or_eq_true, beq_iff_eq] at z
  unfold is3 at h
  omega
theorem pOp_0 {T : Nat → Nat} {m p : Nat} (h : is3 (tk T m p)) : pOp T m 0 p = (none, p) := by
  unfold pOp
  rw [if_pos (is3_T h)]
theorem pOp_40 {T : Nat → Nat} {m o p : Nat} (h : tk T m p = 40) : pOp T m (o + 1) p = match pAny T m (pOp T m o) (p + 1) with
    | (none, q) => (none, q)
    | (some ks, q) => if tk T m q = 41 then (some ks, q + 1) else (none, q) := by
  rw [pOp]
  rw [if_pos (is3_T (Or.inl h))]
  simp only [h, beq_self_eq_true, if_true]
  cases pAny T m (pOp T m o) (p + 1) with
  | mk r q => cases r <;> rfl
theorem pOp_un {T : Nat → Nat} {m o p : Nat} (h : tk T m p = 33 ∨ tk T m p = 45) : pOp T m (o + 1) p = match pOp T m o (p + 1) with
    | (none, q) => (none, q)
    | (some ks, q) => (some (ks ++ [sg (if tk T m p = 45 then 126 else 33)]), q) := by
  rw [pOp]
  rw [if_pos (is3_T (Or.inr h))]
  have h2 : ¬ (tk T m p == 40) = true := by
    simp only [beq_iff_eq]
    omega
  simp only [h2]
  rfl
theorem pOp_num {T : Nat → Nat} {m o p : Nat} (h : isDg (tk T m p) = true) : pOp T m o p = (some [nI (pNum T m 4 0 p).1], (pNum T m 4 0 p).2) := by
  have h3 : ¬ is3 (tk T m p) := by
    have := of_decide_eq_true h
    unfold is3
    omega
  unfold pOp
  rw [if_neg (is3_F h3), if_pos h]
theorem pOp_nm {T : Nat → Nat} {m o p : Nat} (h3 : ¬ is3 (tk T m p)) (h1 : ¬ isDg (tk T m p) = true) (h : isNm (tk T m p) = true) : pOp T m o p = (some [sg (tk T m p)], p + 1) := by
  unfold pOp
  rw [if_neg (is3_F h3), if_neg h1, if_pos h]
theorem pOp_x {T : Nat → Nat} {m o p : Nat} (h3 : ¬ is3 (tk T m p)) (h1 : ¬ isDg (tk T m p) = true) (h : ¬ isNm (tk T m p) = true) : pOp T m o p = (none, p) := by
  unfold pOp
  rw [if_neg (is3_F h3), if_neg h1, if_neg h]
theorem any_c {n m : Nat} (hn : 1000 ≤ n) {T : Nat → Nat} {z : Int32 → Mm → Option (Int32 × Mm)} {y : Int32} {po : Nat → PR} (h : RdC T m (fX3_readOperand n z y) po) : RdC T m (fX3_readAny n z y) (pAny T m po) := row_any_c hn (row_all_c hn (cmp_c hn (row_sum_c hn (row_prod_c hn h))))
theorem CP_up {T : Nat → Nat} {m p : Nat} {ks : List Int32} {C : Mm} (h : CP T m 0 p ks C) : CP T m 1 p ks C := by
  obtain ⟨h1, h2, h3, h4, h5, h6⟩ := h
  exact ⟨h1, h2, h3, h4, by omega, h6⟩
theorem CP_dn {T : Nat → Nat} {m p : Nat} {ks : List Int32} {C : Mm} (h : CP T m 1 p ks C) (hp : p < m) : CP T m 0 (p + 1) ks (wrI C 32 7 (nI (p + 1))) := by
  obtain ⟨h1, h2, h3, h4, h5, h6⟩ := CP_step h hp
  have := h.2.2.2.2.1
  exact ⟨h1, h2, h3, h4, by omega, h6⟩
set_option maxRecDepth 20000 in
theorem isNm_l {c : Nat} (hc : c ≤ 256) : (isNm c = true ∧ fX3_isName (bC c) = nI 1) ∨ (¬ isNm c = true ∧ fX3_isName (bC c) = nI 0) := by
  have : ∀ c, c < 257 → (isNm c = true ∧ fX3_isName (bC c) = nI 1) ∨ (¬ isNm c = true ∧ fX3_isName (bC c) = nI 0) := by decide
  exact this c (by omega)
theorem operand_c {n m : Nat} (hn : 1000 ≤ n) {T : Nat → Nat} : ∀ o d, o ≤ 6 → o ≤ d → RdC T m (fX3_readOperand n (fX3_readOpened n d) (nI (6 - o))) (pOp T m o) := by
  intro o
  induction o with
  | zero =>
    intro d ho hd p ks C hC
    have hm : m ≤ 120 := hC.1.1
    have hp := hC.2.2.1
    have h7 := hC.2.1
    have hat := at_c hC.1 hp
    have hc256 := tk_le hC.1 p
    by_cases h3 : is3 (tk T m p)
    · refine Or.inl ⟨p, C, pOp_0 h3, ?_, h7, hp⟩
      unfold fX3_readOperand fX3_readOperand_b30
      rcases h3 with h3 | h3 | h3
      · rw [h3] at hat
        simp (disch := omega) only [h7, hat, bC_T, Nat.sub_zero, l_33, l_37, l_38, l_41, l_42, l_43, l_45, l_59, l_61, l_62, l_124, ↓lt_d, eq_self, lN_add, i_l, wTn, wFa, wFb, wCT, wCF, mNe, mNe2, mLt, mLe, bp_s, bn_s, n_clampS, nI_1, nI_add, pk_sub, nI_mul, wrI_at, wrI_2, wrL_at, wrL_1, true_and, false_and, and_true, and_false, and_self, ↓reduceIte, Nat.reduceEqDiff, Nat.reduceAdd, Nat.reduceMul, Nat.add_zero, Nat.zero_add, reduceCtorEq, l_0, l_1, l_2, l_3, l_4, l_5, l_6, l_7, l_8, l_9, l_10, l_15, l_24, l_32, l_39, l_40, l_47, l_48, l_50, l_57, l_60, l_63, l_80, l_95, l_99, l_100, l_120, l_126, l_128, l_1000, l_9999, l_10000, L_0, L_1, L_2, L_3, L_4, L_5, L_7, L_9, L_15, L_40, L_50, L_99, L_127, L_9999, c_ltT, c_ltF, c_leT, c_leF, c_eqT, c_eqF, n_leF, n_ltF, c_gltT, c_gltF, c_ggtT, c_ggtF, false_or, or_false, or_self, true_or, or_true]
      · rw [h3] at hat
        simp (disch := omega) only [h7, hat, bC_T, Nat.sub_zero, l_33, l_37, l_38, l_41, l_42, l_43, l_45, l_59, l_61, l_62, l_124, ↓lt_d, eq_self, lN_add, i_l, wTn, wFa, wFb, wCT, wCF, mNe, mNe2, mLt, mLe, bp_s, bn_s, n_clampS, nI_1, nI_add, pk_sub, nI_mul, wrI_at, wrI_2, wrL_at, wrL_1, true_and, false_and, and_true, and_false, and_self, ↓reduceIte, Nat.reduceEqDiff, Nat.reduceAdd, Nat.reduceMul, Nat.add_zero, Nat.zero_add, reduceCtorEq, l_0, l_1, l_2, l_3, l_4, l_5, l_6, l_7, l_8, l_9, l_10, l_15, l_24, l_32, l_39, l_40, l_47, l_48, l_50, l_57, l_60, l_63, l_80, l_95, l_99, l_100, l_120, l_126, l_128, l_1000, l_9999, l_10000, L_0, L_1, L_2, L_3, L_4, L_5, L_7, L_9, L_15, L_40, L_50, L_99, L_127, L_9999, c_ltT, c_ltF, c_leT, c_leF, c_eqT, c_eqF, n_leF, n_ltF, c_gltT, c_gltF, c_ggtT, c_ggtF, false_or, or_false, or_self, true_or, or_true]
      · rw [h3] at hat
        simp (disch := omega) only [h7, hat, bC_T, Nat.sub_zero, l_33, l_37, l_38, l_41, l_42, l_43, l_45, l_59, l_61, l_62, l_124, ↓lt_d, eq_self, lN_add, i_l, wTn, wFa, wFb, wCT, wCF, mNe, mNe2, mLt, mLe, bp_s, bn_s, n_clampS, nI_1, nI_add, pk_sub, nI_mul, wrI_at, wrI_2, wrL_at, wrL_1, true_and, false_and, and_true, and_false, and_self, ↓reduceIte, Nat.reduceEqDiff, Nat.reduceAdd, Nat.reduceMul, Nat.add_zero, Nat.zero_add, reduceCtorEq, l_0, l_1, l_2, l_3, l_4, l_5, l_6, l_7, l_8, l_9, l_10, l_15, l_24, l_32, l_39, l_40, l_47, l_48, l_50, l_57, l_60, l_63, l_80, l_95, l_99, l_100, l_120, l_126, l_128, l_1000, l_9999, l_10000, L_0, L_1, L_2, L_3, L_4, L_5, L_7, L_9, L_15, L_40, L_50, L_99, L_127, L_9999, c_ltT, c_ltF, c_leT, c_leF, c_eqT, c_eqF, n_leF, n_ltF, c_gltT, c_gltF, c_ggtT, c_ggtF, false_or, or_false, or_self, true_or, or_true]
    · have g1 : tk T m p ≠ 40 ∧ tk T m p ≠ 33 ∧ tk T m p ≠ 45 := by unfold is3 at h3; omega
      have hlen0 := hC.2.2.2.2.1
      by_cases hg : isDg (tk T m p) = true
      · have hg2 := of_decide_eq_true hg
        have hpm : p < m := goes_lt (k := tk T m p) (by omega) rfl
        have hdg := dig_T hg2.1 hg2.2
        have hbc := bC_T (c := tk T m p) (by omega)
        rw [hbc] at hat
        obtain ⟨C1, t1, t2, t3, t4⟩ := num_c (n := n) 4 n 0 0 p ks C (by omega) (by omega) (by omega) hC
        have e1 := pNum_1 (d := 3) (v := 0) hg
        have e2 := pNum_le (T := T) (m := m) 3 (0 * 10 + (tk T m p - 48)) (p + 1)
        rw [← e1] at e2
        have hq := t2.2.2.1
        rw [pOp_num hg]
        generalize pNum T m 4 0 p = w at *
        obtain ⟨C2, w1, w2⟩ := code_c (k := nI w.1) (by omega) (by omega) t2
        refine Or.inr ⟨[nI w.1], w.2, C2, rfl, ?_, w2, e2⟩
        unfold fX3_readOperand fX3_readNumber
        unfold fX3_readNumber_b62 at t1
        rw [w1] at t1
        generalize tk T m p = c at *
        simp (disch := omega) only [h7, hat, hdg, t1, l_33, l_37, l_38, l_41, l_42, l_43, l_45, l_59, l_61, l_62, l_124, ↓lt_d, eq_self, lN_add, i_l, wTn, wFa, wFb, wCT, wCF, mNe, mNe2, mLt, mLe, bp_s, bn_s, n_clampS, nI_1, nI_add, pk_sub, nI_mul, wrI_at, wrI_2, wrL_at, wrL_1, true_and, false_and, and_true, and_false, and_self, ↓reduceIte, Nat.reduceEqDiff, Nat.reduceAdd, Nat.reduceMul, Nat.add_zero, Nat.zero_add, reduceCtorEq, l_0, l_1, l_2, l_3, l_4, l_5, l_6, l_7, l_8, l_9, l_10, l_15, l_24, l_32, l_39, l_40, l_47, l_48, l_50, l_57, l_60, l_63, l_80, l_95, l_99, l_100, l_120, l_126, l_128, l_1000, l_9999, l_10000, L_0, L_1, L_2, L_3, L_4, L_5, L_7, L_9, L_15, L_40, L_50, L_99, L_127, L_9999, c_ltT, c_ltF, c_leT, c_leF, c_eqT, c_eqF, n_leF, n_ltF, c_gltT, c_gltF, c_ggtT, c_ggtF, false_or, or_false, or_self, true_or, or_true]
      · have hdg := dig_bF (c := tk T m p) (fun z => hg (decide_eq_true z)) hc256
        rcases isNm_l hc256 with ⟨q1, q2⟩ | ⟨q1, q2⟩
        · have hlt : tk T m p < 256 := by
            unfold isNm at q1
            simp only [Bool.or_eq_true, beq_iff_eq] at q1
            omega
          have hpm : p < m := goes_lt (k := tk T m p) hlt rfl
          rw [pOp_nm h3 hg q1]
          obtain ⟨C2, w1, w2⟩ := write_c (c := tk T m p) (by omega) ⟨by omega, by omega⟩ (CP_step hC hpm)
          refine Or.inr ⟨[sg (tk T m p)], p + 1, C2, rfl, ?_, w2, Nat.le_refl _⟩
          have hbc := bC_T (c := tk T m p) hlt
          rw [hbc] at hat q2 hdg
          unfold fX3_readOperand
          generalize tk T m p = c at *
          simp (disch := omega) only [h7, hat, hdg, q2, w1, l_33, l_37, l_38, l_41, l_42, l_43, l_45, l_59, l_61, l_62, l_124, ↓lt_d, eq_self, lN_add, i_l, wTn, wFa, wFb, wCT, wCF, mNe, mNe2, mLt, mLe, bp_s, bn_s, n_clampS, nI_1, nI_add, pk_sub, nI_mul, wrI_at, wrI_2, wrL_at, wrL_1, true_and, false_and, and_true, and_false, and_self, ↓reduceIte, Nat.reduceEqDiff, Nat.reduceAdd, Nat.reduceMul, Nat.add_zero, Nat.zero_add, reduceCtorEq, l_0, l_1, l_2, l_3, l_4, l_5, l_6, l_7, l_8, l_9, l_10, l_15, l_24, l_32, l_39, l_40, l_47, l_48, l_50, l_57, l_60, l_63, l_80, l_95, l_99, l_100, l_120, l_126, l_128, l_1000, l_9999, l_10000, L_0, L_1, L_2, L_3, L_4, L_5, L_7, L_9, L_15, L_40, L_50, L_99, L_127, L_9999, c_ltT, c_ltF, c_leT, c_leF, c_eqT, c_eqF, n_leF, n_ltF, c_gltT, c_gltF, c_ggtT, c_ggtF, false_or, or_false, or_self, true_or, or_true]
        · rw [pOp_x h3 hg q1]
          refine Or.inl ⟨p, C, rfl, ?_, h7, hp⟩
          unfold fX3_readOperand
          generalize tk T m p = c at *
          simp (disch := omega) only [h7, hat, bC_F, hdg, q2, l_33, l_37, l_38, l_41, l_42, l_43, l_45, l_59, l_61, l_62, l_124, ↓lt_d, eq_self, lN_add, i_l, wTn, wFa, wFb, wCT, wCF, mNe, mNe2, mLt, mLe, bp_s, bn_s, n_clampS, nI_1, nI_add, pk_sub, nI_mul, wrI_at, wrI_2, wrL_at, wrL_1, true_and, false_and, and_true, and_false, and_self, ↓reduceIte, Nat.reduceEqDiff, Nat.reduceAdd, Nat.reduceMul, Nat.add_zero, Nat.zero_add, reduceCtorEq, l_0, l_1, l_2, l_3, l_4, l_5, l_6, l_7, l_8, l_9, l_10, l_15, l_24, l_32, l_39, l_40, l_47, l_48, l_50, l_57, l_60, l_63, l_80, l_95, l_99, l_100, l_120, l_126, l_128, l_1000, l_9999, l_10000, L_0, L_1, L_2, L_3, L_4, L_5, L_7, L_9, L_15, L_40, L_50, L_99, L_127, L_9999, c_ltT, c_ltF, c_leT, c_leF, c_eqT, c_eqF, n_leF, n_ltF, c_gltT, c_gltF, c_ggtT, c_ggtF, false_or, or_false, or_self, true_or, or_true]
  | succ o ih =>
    intro d ho hd p ks C hC
    obtain ⟨d, rfl⟩ : ∃ d', d = d' + 1 := ⟨d - 1, by omega⟩
    have hm : m ≤ 120 := hC.1.1
    have hp := hC.2.2.1
    have h7 := hC.2.1
    have hat := at_c hC.1 hp
    have hc256 := tk_le hC.1 p
    have ih1 := ih d (by omega) (by omega)
    have e6 : 6 - (o + 1) + 1 = 6 - o := by omega
    have erd : fX3_readOpened n (d + 1) (nI (6 - o)) C = fX3_readOpened_w n (fX3_readOpened n d) (nI (6 - o)) C := rfl
    have hcond : (nI 6 ≤ nI (6 - (o + 1))) = False := c_leF (by omega) (by omega)
    by_cases h3 : is3 (tk T m p)
    · have hpm : p < m := goes_lt (k := tk T m p) (by rcases h3 with h3 | h3 | h3 <;> omega) rfl
      have hC1 := CP_step hC hpm
      by_cases h40 : tk T m p = 40
      · rw [h40] at hat
        rw [pOp_40 h40]
        rcases any_c hn ih1 (p + 1) ks _ hC1 with ⟨q, C2, e1, e2, e3, e4⟩ | ⟨k2, q, C2, e1, e2, e3, e4⟩
        · refine Or.inl ⟨q, C2, by rw [e1], ?_, e3, e4⟩
          unfold fX3_readOperand fX3_readOperand_b30
          simp (disch := omega) only [h7, hat, bC_T, hcond, e6, erd, l_33, l_37, l_38, l_41, l_42, l_43, l_45, l_59, l_61, l_62, l_124, ↓lt_d, eq_self, lN_add, i_l, wTn, wFa, wFb, wCT, wCF, mNe, mNe2, mLt, mLe, bp_s, bn_s, n_clampS, nI_1, nI_add, pk_sub, nI_mul, wrI_at, wrI_2, wrL_at, wrL_1, true_and, false_and, and_true, and_false, and_self, ↓reduceIte, Nat.reduceEqDiff, Nat.reduceAdd, Nat.reduceMul, Nat.add_zero, Nat.zero_add, reduceCtorEq, l_0, l_1, l_2, l_3, l_4, l_5, l_6, l_7, l_8, l_9, l_10, l_15, l_24, l_32, l_39, l_40, l_47, l_48, l_50, l_57, l_60, l_63, l_80, l_95, l_99, l_100, l_120, l_126, l_128, l_1000, l_9999, l_10000, L_0, L_1, L_2, L_3, L_4, L_5, L_7, L_9, L_15, L_40, L_50, L_99, L_127, L_9999, c_ltT, c_ltF, c_leT, c_leF, c_eqT, c_eqF, n_leF, n_ltF, c_gltT, c_gltF, c_ggtT, c_ggtF, false_or, or_false, or_self, true_or, or_true]
          unfold fX3_readOpened_w
          simp (disch := omega) only [h7, hat, bC_T, e2, l_33, l_37, l_38, l_41, l_42, l_43, l_45, l_59, l_61, l_62, l_124, ↓lt_d, eq_self, lN_add, i_l, wTn, wFa, wFb, wCT, wCF, mNe, mNe2, mLt, mLe, bp_s, bn_s, n_clampS, nI_1, nI_add, pk_sub, nI_mul, wrI_at, wrI_2, wrL_at, wrL_1, true_and, false_and, and_true, and_false, and_self, ↓reduceIte, Nat.reduceEqDiff, Nat.reduceAdd, Nat.reduceMul, Nat.add_zero, Nat.zero_add, reduceCtorEq, l_0, l_1, l_2, l_3, l_4, l_5, l_6, l_7, l_8, l_9, l_10, l_15, l_24, l_32, l_39, l_40, l_47, l_48, l_50, l_57, l_60, l_63, l_80, l_95, l_99, l_100, l_120, l_126, l_128, l_1000, l_9999, l_10000, L_0, L_1, L_2, L_3, L_4, L_5, L_7, L_9, L_15, L_40, L_50, L_99, L_127, L_9999, c_ltT, c_ltF, c_leT, c_leF, c_eqT, c_eqF, n_leF, n_ltF, c_gltT, c_gltF, c_ggtT, c_ggtF, false_or, or_false, or_self, true_or, or_true]
        · rw [e1]
          by_cases h41 : tk T m q = 41
          · have hg := goes_T e3 (k := 41) (by omega) h41
            refine Or.inr ⟨k2, q + 1, wrI C2 32 7 (nI (q + 1)), by simp only [h41, if_true], ?_, CP_step e3 (goes_lt (by omega) h41), by omega⟩
            unfold fX3_readOperand fX3_readOperand_b30
            simp (disch := omega) only [h7, hat, bC_T, hcond, e6, erd, l_33, l_37, l_38, l_41, l_42, l_43, l_45, l_59, l_61, l_62, l_124, ↓lt_d, eq_self, lN_add, i_l, wTn, wFa, wFb, wCT, wCF, mNe, mNe2, mLt, mLe, bp_s, bn_s, n_clampS, nI_1, nI_add, pk_sub, nI_mul, wrI_at, wrI_2, wrL_at, wrL_1, true_and, false_and, and_true, and_false, and_self, ↓reduceIte, Nat.reduceEqDiff, Nat.reduceAdd, Nat.reduceMul, Nat.add_zero, Nat.zero_add, reduceCtorEq, l_0, l_1, l_2, l_3, l_4, l_5, l_6, l_7, l_8, l_9, l_10, l_15, l_24, l_32, l_39, l_40, l_47, l_48, l_50, l_57, l_60, l_63, l_80, l_95, l_99, l_100, l_120, l_126, l_128, l_1000, l_9999, l_10000, L_0, L_1, L_2, L_3, L_4, L_5, L_7, L_9, L_15, L_40, L_50, L_99, L_127, L_9999, c_ltT, c_ltF, c_leT, c_leF, c_eqT, c_eqF, n_leF, n_ltF, c_gltT, c_gltF, c_ggtT, c_ggtF, false_or, or_false, or_self, true_or, or_true]
            unfold fX3_readOpened_w
            simp (disch := omega) only [h7, hat, bC_T, e2, hg, l_33, l_37, l_38, l_41, l_42, l_43, l_45, l_59, l_61, l_62, l_124, ↓lt_d, eq_self, lN_add, i_l, wTn, wFa, wFb, wCT, wCF, mNe, mNe2, mLt, mLe, bp_s, bn_s, n_clampS, nI_1, nI_add, pk_sub, nI_mul, wrI_at, wrI_2, wrL_at, wrL_1, true_and, false_and, and_true, and_false, and_self, ↓reduceIte, Nat.reduceEqDiff, Nat.reduceAdd, Nat.reduceMul, Nat.add_zero, Nat.zero_add, reduceCtorEq, l_0, l_1, l_2, l_3, l_4, l_5, l_6, l_7, l_8, l_9, l_10, l_15, l_24, l_32, l_39, l_40, l_47, l_48, l_50, l_57, l_60, l_63, l_80, l_95, l_99, l_100, l_120, l_126, l_128, l_1000, l_9999, l_10000, L_0, L_1, L_2, L_3, L_4, L_5, L_7, L_9, L_15, L_40, L_50, L_99, L_127, L_9999, c_ltT, c_ltF, c_leT, c_leF, c_eqT, c_eqF, n_leF, n_ltF, c_gltT, c_gltF, c_ggtT, c_ggtF, false_or, or_false, or_self, true_or, or_true]
          · have hg := goes_F e3 (k := 41) (by omega) h41
            refine Or.inl ⟨q, C2, by simp only [h41, if_false], ?_, e3.2.1, e3.2.2.1⟩
            unfold fX3_readOperand fX3_readOperand_b30
            simp (disch := omega) only [h7, hat, bC_T, hcond, e6, erd, l_33, l_37, l_38, l_41, l_42, l_43, l_45, l_59, l_61, l_62, l_124, ↓lt_d, eq_self, lN_add, i_l, wTn, wFa, wFb, wCT, wCF, mNe, mNe2, mLt, mLe, bp_s, bn_s, n_clampS, nI_1, nI_add, pk_sub, nI_mul, wrI_at, wrI_2, wrL_at, wrL_1, true_and, false_and, and_true, and_false, and_self, ↓reduceIte, Nat.reduceEqDiff, Nat.reduceAdd, Nat.reduceMul, Nat.add_zero, Nat.zero_add, reduceCtorEq, l_0, l_1, l_2, l_3, l_4, l_5, l_6, l_7, l_8, l_9, l_10, l_15, l_24, l_32, l_39, l_40, l_47, l_48, l_50, l_57, l_60, l_63, l_80, l_95, l_99, l_100, l_120, l_126, l_128, l_1000, l_9999, l_10000, L_0, L_1, L_2, L_3, L_4, L_5, L_7, L_9, L_15, L_40, L_50, L_99, L_127, L_9999, c_ltT, c_ltF, c_leT, c_leF, c_eqT, c_eqF, n_leF, n_ltF, c_gltT, c_gltF, c_ggtT, c_ggtF, false_or, or_false, or_self, true_or, or_true]
            unfold fX3_readOpened_w
            simp (disch := omega) only [h7, hat, bC_T, e2, hg, l_33, l_37, l_38, l_41, l_42, l_43, l_45, l_59, l_61, l_62, l_124, ↓lt_d, eq_self, lN_add, i_l, wTn, wFa, wFb, wCT, wCF, mNe, mNe2, mLt, mLe, bp_s, bn_s, n_clampS, nI_1, nI_add, pk_sub, nI_mul, wrI_at, wrI_2, wrL_at, wrL_1, true_and, false_and, and_true, and_false, and_self, ↓reduceIte, Nat.reduceEqDiff, Nat.reduceAdd, Nat.reduceMul, Nat.add_zero, Nat.zero_add, reduceCtorEq, l_0, l_1, l_2, l_3, l_4, l_5, l_6, l_7, l_8, l_9, l_10, l_15, l_24, l_32, l_39, l_40, l_47, l_48, l_50, l_57, l_60, l_63, l_80, l_95, l_99, l_100, l_120, l_126, l_128, l_1000, l_9999, l_10000, L_0, L_1, L_2, L_3, L_4, L_5, L_7, L_9, L_15, L_40, L_50, L_99, L_127, L_9999, c_ltT, c_ltF, c_leT, c_leF, c_eqT, c_eqF, n_leF, n_ltF, c_gltT, c_gltF, c_ggtT, c_ggtF, false_or, or_false, or_self, true_or, or_true]
      · have h35 : tk T m p = 33 ∨ tk T m p = 45 := by unfold is3 at h3; omega
        have hlen0 := hC.2.2.2.2.1
        rw [pOp_un h35]
        rcases ih1 (p + 1) ks _ hC1 with ⟨q, C2, e1, e2, e3, e4⟩ | ⟨k2, q, C2, e1, e2, e3, e4⟩
        · refine Or.inl ⟨q, C2, by rw [e1], ?_, e3, e4⟩
          unfold fX3_readOperand fX3_readOperand_b30
          rcases h35 with h35 | h35
          · rw [h35] at hat
            simp (disch := omega) only [h7, hat, bC_T, hcond, e6, erd, l_33, l_37, l_38, l_41, l_42, l_43, l_45, l_59, l_61, l_62, l_124, ↓lt_d, eq_self, lN_add, i_l, wTn, wFa, wFb, wCT, wCF, mNe, mNe2, mLt, mLe, bp_s, bn_s, n_clampS, nI_1, nI_add, pk_sub, nI_mul, wrI_at, wrI_2, wrL_at, wrL_1, true_and, false_and, and_true, and_false, and_self, ↓reduceIte, Nat.reduceEqDiff, Nat.reduceAdd, Nat.reduceMul, Nat.add_zero, Nat.zero_add, reduceCtorEq, l_0, l_1, l_2, l_3, l_4, l_5, l_6, l_7, l_8, l_9, l_10, l_15, l_24, l_32, l_39, l_40, l_47, l_48, l_50, l_57, l_60, l_63, l_80, l_95, l_99, l_100, l_120, l_126, l_128, l_1000, l_9999, l_10000, L_0, L_1, L_2, L_3, L_4, L_5, L_7, L_9, L_15, L_40, L_50, L_99, L_127, L_9999, c_ltT, c_ltF, c_leT, c_leF, c_eqT, c_eqF, n_leF, n_ltF, c_gltT, c_gltF, c_ggtT, c_ggtF, false_or, or_false, or_self, true_or, or_true]
            unfold fX3_readOpened_w
            simp (disch := omega) only [h7, hat, bC_T, e2, l_33, l_37, l_38, l_41, l_42, l_43, l_45, l_59, l_61, l_62, l_124, ↓lt_d, eq_self, lN_add, i_l, wTn, wFa, wFb, wCT, wCF, mNe, mNe2, mLt, mLe, bp_s, bn_s, n_clampS, nI_1, nI_add, pk_sub, nI_mul, wrI_at, wrI_2, wrL_at, wrL_1, true_and, false_and, and_true, and_false, and_self, ↓reduceIte, Nat.reduceEqDiff, Nat.reduceAdd, Nat.reduceMul, Nat.add_zero, Nat.zero_add, reduceCtorEq, l_0, l_1, l_2, l_3, l_4, l_5, l_6, l_7, l_8, l_9, l_10, l_15, l_24, l_32, l_39, l_40, l_47, l_48, l_50, l_57, l_60, l_63, l_80, l_95, l_99, l_100, l_120, l_126, l_128, l_1000, l_9999, l_10000, L_0, L_1, L_2, L_3, L_4, L_5, L_7, L_9, L_15, L_40, L_50, L_99, L_127, L_9999, c_ltT, c_ltF, c_leT, c_leF, c_eqT, c_eqF, n_leF, n_ltF, c_gltT, c_gltF, c_ggtT, c_ggtF, false_or, or_false, or_self, true_or, or_true]
          · rw [h35] at hat
            simp (disch := omega) only [h7, hat, bC_T, hcond, e6, erd, l_33, l_37, l_38, l_41, l_42, l_43, l_45, l_59, l_61, l_62, l_124, ↓lt_d, eq_self, lN_add, i_l, wTn, wFa, wFb, wCT, wCF, mNe, mNe2, mLt, mLe, bp_s, bn_s, n_clampS, nI_1, nI_add, pk_sub, nI_mul, wrI_at, wrI_2, wrL_at, wrL_1, true_and, false_and, and_true, and_false, and_self, ↓reduceIte, Nat.reduceEqDiff, Nat.reduceAdd, Nat.reduceMul, Nat.add_zero, Nat.zero_add, reduceCtorEq, l_0, l_1, l_2, l_3, l_4, l_5, l_6, l_7, l_8, l_9, l_10, l_15, l_24, l_32, l_39, l_40, l_47, l_48, l_50, l_57, l_60, l_63, l_80, l_95, l_99, l_100, l_120, l_126, l_128, l_1000, l_9999, l_10000, L_0, L_1, L_2, L_3, L_4, L_5, L_7, L_9, L_15, L_40, L_50, L_99, L_127, L_9999, c_ltT, c_ltF, c_leT, c_leF, c_eqT, c_eqF, n_leF, n_ltF, c_gltT, c_gltF, c_ggtT, c_ggtF, false_or, or_false, or_self, true_or, or_true]
            unfold fX3_readOpened_w
            simp (disch := omega) only [h7, hat, bC_T, e2, l_33, l_37, l_38, l_41, l_42, l_43, l_45, l_59, l_61, l_62, l_124, ↓lt_d, eq_self, lN_add, i_l, wTn, wFa, wFb, wCT, wCF, mNe, mNe2, mLt, mLe, bp_s, bn_s, n_clampS, nI_1, nI_add, pk_sub, nI_mul, wrI_at, wrI_2, wrL_at, wrL_1, true_and, false_and, and_true, and_false, and_self, ↓reduceIte, Nat.reduceEqDiff, Nat.reduceAdd, Nat.reduceMul, Nat.add_zero, Nat.zero_add, reduceCtorEq, l_0, l_1, l_2, l_3, l_4, l_5, l_6, l_7, l_8, l_9, l_10, l_15, l_24, l_32, l_39, l_40, l_47, l_48, l_50, l_57, l_60, l_63, l_80, l_95, l_99, l_100, l_120, l_126, l_128, l_1000, l_9999, l_10000, L_0, L_1, L_2, L_3, L_4, L_5, L_7, L_9, L_15, L_40, L_50, L_99, L_127, L_9999, c_ltT, c_ltF, c_leT, c_leF, c_eqT, c_eqF, n_leF, n_ltF, c_gltT, c_gltF, c_ggtT, c_ggtF, false_or, or_false, or_self, true_or, or_true]
        · have hq := e3.2.2.1
          have hl3 : (ks ++ k2).length + 1 ≤ q := by
            simp only [List.length_append] at hlen0 ⊢
            omega
          rcases h35 with h35 | h35
          · obtain ⟨C3, w1, w2⟩ := write_c (c := 33) (by omega) ⟨hl3, by omega⟩ e3
            rw [h35] at hat
            refine Or.inr ⟨k2 ++ [sg 33], q, C3, by rw [e1, h35]; rfl, ?_, by rw [← List.append_assoc]; exact w2, by simp only [List.length_append, List.length_cons, List.length_nil]; omega⟩
            unfold fX3_readOperand fX3_readOperand_b30
            simp (disch := omega) only [h7, hat, bC_T, hcond, e6, erd, l_33, l_37, l_38, l_41, l_42, l_43, l_45, l_59, l_61, l_62, l_124, ↓lt_d, eq_self, lN_add, i_l, wTn, wFa, wFb, wCT, wCF, mNe, mNe2, mLt, mLe, bp_s, bn_s, n_clampS, nI_1, nI_add, pk_sub, nI_mul, wrI_at, wrI_2, wrL_at, wrL_1, true_and, false_and, and_true, and_false, and_self, ↓reduceIte, Nat.reduceEqDiff, Nat.reduceAdd, Nat.reduceMul, Nat.add_zero, Nat.zero_add, reduceCtorEq, l_0, l_1, l_2, l_3, l_4, l_5, l_6, l_7, l_8, l_9, l_10, l_15, l_24, l_32, l_39, l_40, l_47, l_48, l_50, l_57, l_60, l_63, l_80, l_95, l_99, l_100, l_120, l_126, l_128, l_1000, l_9999, l_10000, L_0, L_1, L_2, L_3, L_4, L_5, L_7, L_9, L_15, L_40, L_50, L_99, L_127, L_9999, c_ltT, c_ltF, c_leT, c_leF, c_eqT, c_eqF, n_leF, n_ltF, c_gltT, c_gltF, c_ggtT, c_ggtF, false_or, or_false, or_self, true_or, or_true]
            unfold fX3_readOpened_w fX3_readOpened_b74
            simp (disch := omega) only [h7, hat, bC_T, e2, w1, l_33, l_37, l_38, l_41, l_42, l_43, l_45, l_59, l_61, l_62, l_124, ↓lt_d, eq_self, lN_add, i_l, wTn, wFa, wFb, wCT, wCF, mNe, mNe2, mLt, mLe, bp_s, bn_s, n_clampS, nI_1, nI_add, pk_sub, nI_mul, wrI_at, wrI_2, wrL_at, wrL_1, true_and, false_and, and_true, and_false, and_self, ↓reduceIte, Nat.reduceEqDiff, Nat.reduceAdd, Nat.reduceMul, Nat.add_zero, Nat.zero_add, reduceCtorEq, l_0, l_1, l_2, l_3, l_4, l_5, l_6, l_7, l_8, l_9, l_10, l_15, l_24, l_32, l_39, l_40, l_47, l_48, l_50, l_57, l_60, l_63, l_80, l_95, l_99, l_100, l_120, l_126, l_128, l_1000, l_9999, l_10000, L_0, L_1, L_2, L_3, L_4, L_5, L_7, L_9, L_15, L_40, L_50, L_99, L_127, L_9999, c_ltT, c_ltF, c_leT, c_leF, c_eqT, c_eqF, n_leF, n_ltF, c_gltT, c_gltF, c_ggtT, c_ggtF, false_or, or_false, or_self, true_or, or_true]
          · obtain ⟨C3, w1, w2⟩ := write_c (c := 126) (by omega) ⟨hl3, by omega⟩ e3
            rw [h35] at hat
            refine Or.inr ⟨k2 ++ [sg 126], q, C3, by rw [e1, h35]; rfl, ?_, by rw [← List.append_assoc]; exact w2, by simp only [List.length_append, List.length_cons, List.length_nil]; omega⟩
            unfold fX3_readOperand fX3_readOperand_b30
            simp (disch := omega) only [h7, hat, bC_T, hcond, e6, erd, l_33, l_37, l_38, l_41, l_42, l_43, l_45, l_59, l_61, l_62, l_124, ↓lt_d, eq_self, lN_add, i_l, wTn, wFa, wFb, wCT, wCF, mNe, mNe2, mLt, mLe, bp_s, bn_s, n_clampS, nI_1, nI_add, pk_sub, nI_mul, wrI_at, wrI_2, wrL_at, wrL_1, true_and, false_and, and_true, and_false, and_self, ↓reduceIte, Nat.reduceEqDiff, Nat.reduceAdd, Nat.reduceMul, Nat.add_zero, Nat.zero_add, reduceCtorEq, l_0, l_1, l_2, l_3, l_4, l_5, l_6, l_7, l_8, l_9, l_10, l_15, l_24, l_32, l_39, l_40, l_47, l_48, l_50, l_57, l_60, l_63, l_80, l_95, l_99, l_100, l_120, l_126, l_128, l_1000, l_9999, l_10000, L_0, L_1, L_2, L_3, L_4, L_5, L_7, L_9, L_15, L_40, L_50, L_99, L_127, L_9999, c_ltT, c_ltF, c_leT, c_leF, c_eqT, c_eqF, n_leF, n_ltF, c_gltT, c_gltF, c_ggtT, c_ggtF, false_or, or_false, or_self, true_or, or_true]
            unfold fX3_readOpened_w fX3_readOpened_b74
            simp (disch := omega) only [h7, hat, bC_T, e2, w1, l_33, l_37, l_38, l_41, l_42, l_43, l_45, l_59, l_61, l_62, l_124, ↓lt_d, eq_self, lN_add, i_l, wTn, wFa, wFb, wCT, wCF, mNe, mNe2, mLt, mLe, bp_s, bn_s, n_clampS, nI_1, nI_add, pk_sub, nI_mul, wrI_at, wrI_2, wrL_at, wrL_1, true_and, false_and, and_true, and_false, and_self, ↓reduceIte, Nat.reduceEqDiff, Nat.reduceAdd, Nat.reduceMul, Nat.add_zero, Nat.zero_add, reduceCtorEq, l_0, l_1, l_2, l_3, l_4, l_5, l_6, l_7, l_8, l_9, l_10, l_15, l_24, l_32, l_39, l_40, l_47, l_48, l_50, l_57, l_60, l_63, l_80, l_95, l_99, l_100, l_120, l_126, l_128, l_1000, l_9999, l_10000, L_0, L_1, L_2, L_3, L_4, L_5, L_7, L_9, L_15, L_40, L_50, L_99, L_127, L_9999, c_ltT, c_ltF, c_leT, c_leF, c_eqT, c_eqF, n_leF, n_ltF, c_gltT, c_gltF, c_ggtT, c_ggtF, false_or, or_false, or_self, true_or, or_true]
    · have g1 : tk T m p ≠ 40 ∧ tk T m p ≠ 33 ∧ tk T m p ≠ 45 := by unfold is3 at h3; omega
      have hlen0 := hC.2.2.2.2.1
      by_cases hg : isDg (tk T m p) = true
      · have hg2 := of_decide_eq_true hg
        have hpm : p < m := goes_lt (k := tk T m p) (by omega) rfl
        have hdg := dig_T hg2.1 hg2.2
        have hbc := bC_T (c := tk T m p) (by omega)
        rw [hbc] at hat
        obtain ⟨C1, t1, t2, t3, t4⟩ := num_c (n := n) 4 n 0 0 p ks C (by omega) (by omega) (by omega) hC
        have e1 := pNum_1 (d := 3) (v := 0) hg
        have e2 := pNum_le (T := T) (m := m) 3 (0 * 10 + (tk T m p - 48)) (p + 1)
        rw [← e1] at e2
        have hq := t2.2.2.1
        rw [pOp_num hg]
        generalize pNum T m 4 0 p = w at *
        obtain ⟨C2, w1, w2⟩ := code_c (k := nI w.1) (by omega) (by omega) t2
        refine Or.inr ⟨[nI w.1], w.2, C2, rfl, ?_, w2, e2⟩
        unfold fX3_readOperand fX3_readNumber
        unfold fX3_readNumber_b62 at t1
        rw [w1] at t1
        generalize tk T m p = c at *
        simp (disch := omega) only [h7, hat, hdg, t1, l_33, l_37, l_38, l_41, l_42, l_43, l_45, l_59, l_61, l_62, l_124, ↓lt_d, eq_self, lN_add, i_l, wTn, wFa, wFb, wCT, wCF, mNe, mNe2, mLt, mLe, bp_s, bn_s, n_clampS, nI_1, nI_add, pk_sub, nI_mul, wrI_at, wrI_2, wrL_at, wrL_1, true_and, false_and, and_true, and_false, and_self, ↓reduceIte, Nat.reduceEqDiff, Nat.reduceAdd, Nat.reduceMul, Nat.add_zero, Nat.zero_add, reduceCtorEq, l_0, l_1, l_2, l_3, l_4, l_5, l_6, l_7, l_8, l_9, l_10, l_15, l_24, l_32, l_39, l_40, l_47, l_48, l_50, l_57, l_60, l_63, l_80, l_95, l_99, l_100, l_120, l_126, l_128, l_1000, l_9999, l_10000, L_0, L_1, L_2, L_3, L_4, L_5, L_7, L_9, L_15, L_40, L_50, L_99, L_127, L_9999, c_ltT, c_ltF, c_leT, c_leF, c_eqT, c_eqF, n_leF, n_ltF, c_gltT, c_gltF, c_ggtT, c_ggtF, false_or, or_false, or_self, true_or, or_true]
      · have hdg := dig_bF (c := tk T m p) (fun z => hg (decide_eq_true z)) hc256
        rcases isNm_l hc256 with ⟨q1, q2⟩ | ⟨q1, q2⟩
        · have hlt : tk T m p < 256 := by
            unfold isNm at q1
            simp only [Bool.or_eq_true, beq_iff_eq] at q1
            omega
          have hpm : p < m := goes_lt (k := tk T m p) hlt rfl
          rw [pOp_nm h3 hg q1]
          obtain ⟨C2, w1, w2⟩ := write_c (c := tk T m p) (by omega) ⟨by omega, by omega⟩ (CP_step hC hpm)
          refine Or.inr ⟨[sg (tk T m p)], p + 1, C2, rfl, ?_, w2, Nat.le_refl _⟩
          have hbc := bC_T (c := tk T m p) hlt
          rw [hbc] at hat q2 hdg
          unfold fX3_readOperand
          generalize tk T m p = c at *
          simp (disch := omega) only [h7, hat, hdg, q2, w1, l_33, l_37, l_38, l_41, l_42, l_43, l_45, l_59, l_61, l_62, l_124, ↓lt_d, eq_self, lN_add, i_l, wTn, wFa, wFb, wCT, wCF, mNe, mNe2, mLt, mLe, bp_s, bn_s, n_clampS, nI_1, nI_add, pk_sub, nI_mul, wrI_at, wrI_2, wrL_at, wrL_1, true_and, false_and, and_true, and_false, and_self, ↓reduceIte, Nat.reduceEqDiff, Nat.reduceAdd, Nat.reduceMul, Nat.add_zero, Nat.zero_add, reduceCtorEq, l_0, l_1, l_2, l_3, l_4, l_5, l_6, l_7, l_8, l_9, l_10, l_15, l_24, l_32, l_39, l_40, l_47, l_48, l_50, l_57, l_60, l_63, l_80, l_95, l_99, l_100, l_120, l_126, l_128, l_1000, l_9999, l_10000, L_0, L_1, L_2, L_3, L_4, L_5, L_7, L_9, L_15, L_40, L_50, L_99, L_127, L_9999, c_ltT, c_ltF, c_leT, c_leF, c_eqT, c_eqF, n_leF, n_ltF, c_gltT, c_gltF, c_ggtT, c_ggtF, false_or, or_false, or_self, true_or, or_true]
        · rw [pOp_x h3 hg q1]
          refine Or.inl ⟨p, C, rfl, ?_, h7, hp⟩
          unfold fX3_readOperand
          generalize tk T m p = c at *
          simp (disch := omega) only [h7, hat, bC_F, hdg, q2, l_33, l_37, l_38, l_41, l_42, l_43, l_45, l_59, l_61, l_62, l_124, ↓lt_d, eq_self, lN_add, i_l, wTn, wFa, wFb, wCT, wCF, mNe, mNe2, mLt, mLe, bp_s, bn_s, n_clampS, nI_1, nI_add, pk_sub, nI_mul, wrI_at, wrI_2, wrL_at, wrL_1, true_and, false_and, and_true, and_false, and_self, ↓reduceIte, Nat.reduceEqDiff, Nat.reduceAdd, Nat.reduceMul, Nat.add_zero, Nat.zero_add, reduceCtorEq, l_0, l_1, l_2, l_3, l_4, l_5, l_6, l_7, l_8, l_9, l_10, l_15, l_24, l_32, l_39, l_40, l_47, l_48, l_50, l_57, l_60, l_63, l_80, l_95, l_99, l_100, l_120, l_126, l_128, l_1000, l_9999, l_10000, L_0, L_1, L_2, L_3, L_4, L_5, L_7, L_9, L_15, L_40, L_50, L_99, L_127, L_9999, c_ltT, c_ltF, c_leT, c_leF, c_eqT, c_eqF, n_leF, n_ltF, c_gltT, c_gltF, c_ggtT, c_ggtF, false_or, or_false, or_self, true_or, or_true]
