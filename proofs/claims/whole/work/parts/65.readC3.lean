/-! lines and the whole text: the class -/
theorem pLine_n {T : Nat → Nat} {m p q : Nat} (h : pAny T m (pOp T m 6) p = (none, q)) : pLine T m p = (none, q) := by
  unfold pLine
  rw [h]
theorem pLine_1 {T : Nat → Nat} {m p q : Nat} {k : List Int32} (h : pAny T m (pOp T m 6) p = (some k, q)) (h2 : tk T m q ≠ 63) : pLine T m p = (some (k ++ [sg 59]), q) := by
  unfold pLine
  rw [h]
  exact if_neg h2
theorem pLine_2n {T : Nat → Nat} {m p q r : Nat} {k : List Int32} (h : pAny T m (pOp T m 6) p = (some k, q)) (h2 : tk T m q = 63) (h3 : pAny T m (pOp T m 6) (q + 1) = (none, r)) : pLine T m p = (none, r) := by
  unfold pLine
  rw [h]
  show (if tk T m q = 63 then _ else _) = _
  rw [if_pos h2, h3]
theorem pLine_2 {T : Nat → Nat} {m p q r : Nat} {k k2 : List Int32} (h : pAny T m (pOp T m 6) p = (some k, q)) (h2 : tk T m q = 63) (h3 : pAny T m (pOp T m 6) (q + 1) = (some k2, r)) : pLine T m p = (some (k ++ [sg 63] ++ k2 ++ [sg 59]), r) := by
  unfold pLine
  rw [h]
  show (if tk T m q = 63 then _ else _) = _
  rw [if_pos h2, h3]
theorem line_c {n m p : Nat} (hn : 1000 ≤ n) {T : Nat → Nat} {ks : List Int32} {C : Mm} (hC : CP T m 0 p ks C) : (∃ q C', pLine T m p = (none, q) ∧ fX3_readLine n C = some (nI 0, C') ∧ C'.1 32 7 = nI q ∧ q ≤ m) ∨ (∃ k q C', pLine T m p = (some k, q) ∧ fX3_readLine n C = some (nI 1, C') ∧ CP T m 1 q (ks ++ k) C' ∧ 1 ≤ k.length) := by
  have hm : m ≤ 120 := hC.1.1
  have hlen0 := hC.2.2.2.2.1
  have hop := operand_c (n := n) (m := m) hn (T := T) 6 12 (by omega) (by omega)
  have hany := any_c hn hop
  rw [Nat.sub_self] at hany
  unfold fX3_readLine fX3_readLine_b35
  rcases hany p ks C hC with ⟨q, C2, e1, e2, e3, e4⟩ | ⟨k2, q, C2, e1, e2, e3, e4⟩
  · refine Or.inl ⟨q, C2, pLine_n e1, ?_, e3, e4⟩
    simp (disch := omega) only [e2, ↓lt_d, eq_self, lN_add, i_l, wTn, wFa, wFb, wCT, wCF, mNe, mNe2, mLt, mLe, bp_s, bn_s, n_clampS, nI_1, nI_add, pk_sub, nI_mul, wrI_at, wrI_2, wrL_at, wrL_1, true_and, false_and, and_true, and_false, and_self, ↓reduceIte, Nat.reduceEqDiff, Nat.reduceAdd, Nat.reduceMul, Nat.add_zero, Nat.zero_add, reduceCtorEq, l_0, l_1, l_2, l_3, l_4, l_5, l_6, l_7, l_8, l_9, l_10, l_15, l_24, l_32, l_39, l_40, l_47, l_48, l_50, l_57, l_60, l_63, l_80, l_95, l_99, l_100, l_120, l_126, l_128, l_1000, l_9999, l_10000, L_0, L_1, L_2, L_3, L_4, L_5, L_7, L_9, L_15, L_40, L_50, L_99, L_127, L_9999, c_ltT, c_ltF, c_leT, c_leF, c_eqT, c_eqF, n_leF, n_ltF, c_gltT, c_gltF, c_ggtT, c_ggtF, false_or, or_false, or_self, true_or, or_true]
  · have hq := e3.2.2.1
    by_cases h63 : tk T m q = 63
    · have hg := goes_T e3 (k := 63) (by omega) h63
      have hC3 := CP_step e3 (goes_lt (by omega) h63)
      have hlq := goes_lt (k := 63) (by omega) h63
      have hl3 : (ks ++ k2).length + 1 ≤ q + 1 := by
        have := e3.2.2.2.2.1
        omega
      obtain ⟨C4, w1, w2⟩ := write_c (e := 0) (p := q + 1) (c := 63) (by omega) ⟨hl3, by omega⟩ hC3
      rcases hany (q + 1) _ C4 w2 with ⟨r, C5, f1, f2, f3, f4⟩ | ⟨k3, r, C5, f1, f2, f3, f4⟩
      · refine Or.inl ⟨r, C5, pLine_2n e1 h63 f1, ?_, f3, f4⟩
        simp (disch := omega) only [e2, hg, w1, f2, ↓lt_d, eq_self, lN_add, i_l, wTn, wFa, wFb, wCT, wCF, mNe, mNe2, mLt, mLe, bp_s, bn_s, n_clampS, nI_1, nI_add, pk_sub, nI_mul, wrI_at, wrI_2, wrL_at, wrL_1, true_and, false_and, and_true, and_false, and_self, ↓reduceIte, Nat.reduceEqDiff, Nat.reduceAdd, Nat.reduceMul, Nat.add_zero, Nat.zero_add, reduceCtorEq, l_0, l_1, l_2, l_3, l_4, l_5, l_6, l_7, l_8, l_9, l_10, l_15, l_24, l_32, l_39, l_40, l_47, l_48, l_50, l_57, l_60, l_63, l_80, l_95, l_99, l_100, l_120, l_126, l_128, l_1000, l_9999, l_10000, L_0, L_1, L_2, L_3, L_4, L_5, L_7, L_9, L_15, L_40, L_50, L_99, L_127, L_9999, c_ltT, c_ltF, c_leT, c_leF, c_eqT, c_eqF, n_leF, n_ltF, c_gltT, c_gltF, c_ggtT, c_ggtF, false_or, or_false, or_self, true_or, or_true]
      · have hr := f3.2.2.1
        have hl4 := f3.2.2.2.2.1
        obtain ⟨C6, x1, x2⟩ := write_c (c := 59) (by omega) ⟨by omega, by omega⟩ (CP_up f3)
        refine Or.inr ⟨_, r, C6, pLine_2 e1 h63 f1, ?_, by rw [← List.append_assoc, ← List.append_assoc, ← List.append_assoc]; exact x2, by simp only [List.length_append, List.length_cons, List.length_nil]; omega⟩
        simp (disch := omega) only [e2, hg, w1, f2, l_59, x1, ↓lt_d, eq_self, lN_add, i_l, wTn, wFa, wFb, wCT, wCF, mNe, mNe2, mLt, mLe, bp_s, bn_s, n_clampS, nI_1, nI_add, pk_sub, nI_mul, wrI_at, wrI_2, wrL_at, wrL_1, true_and, false_and, and_true, and_false, and_self, ↓reduceIte, Nat.reduceEqDiff, Nat.reduceAdd, Nat.reduceMul, Nat.add_zero, Nat.zero_add, reduceCtorEq, l_0, l_1, l_2, l_3, l_4, l_5, l_6, l_7, l_8, l_9, l_10, l_15, l_24, l_32, l_39, l_40, l_47, l_48, l_50, l_57, l_60, l_63, l_80, l_95, l_99, l_100, l_120, l_126, l_128, l_1000, l_9999, l_10000, L_0, L_1, L_2, L_3, L_4, L_5, L_7, L_9, L_15, L_40, L_50, L_99, L_127, L_9999, c_ltT, c_ltF, c_leT, c_leF, c_eqT, c_eqF, n_leF, n_ltF, c_gltT, c_gltF, c_ggtT, c_ggtF, false_or, or_false, or_self, true_or, or_true]
    · have hg := goes_F e3 (k := 63) (by omega) h63
      have hl4 := e3.2.2.2.2.1
      obtain ⟨C6, x1, x2⟩ := write_c (c := 59) (by omega) ⟨by omega, by omega⟩ (CP_up e3)
      refine Or.inr ⟨_, q, C6, pLine_1 e1 h63, ?_, by rw [← List.append_assoc]; exact x2, by simp only [List.length_append, List.length_cons, List.length_nil]; omega⟩
      simp (disch := omega) only [e2, hg, l_59, x1, ↓lt_d, eq_self, lN_add, i_l, wTn, wFa, wFb, wCT, wCF, mNe, mNe2, mLt, mLe, bp_s, bn_s, n_clampS, nI_1, nI_add, pk_sub, nI_mul, wrI_at, wrI_2, wrL_at, wrL_1, true_and, false_and, and_true, and_false, and_self, ↓reduceIte, Nat.reduceEqDiff, Nat.reduceAdd, Nat.reduceMul, Nat.add_zero, Nat.zero_add, reduceCtorEq, l_0, l_1, l_2, l_3, l_4, l_5, l_6, l_7, l_8, l_9, l_10, l_15, l_24, l_32, l_39, l_40, l_47, l_48, l_50, l_57, l_60, l_63, l_80, l_95, l_99, l_100, l_120, l_126, l_128, l_1000, l_9999, l_10000, L_0, L_1, L_2, L_3, L_4, L_5, L_7, L_9, L_15, L_40, L_50, L_99, L_127, L_9999, c_ltT, c_ltF, c_leT, c_leF, c_eqT, c_eqF, n_leF, n_ltF, c_gltT, c_gltF, c_ggtT, c_ggtF, false_or, or_false, or_self, true_or, or_true]
theorem pLines_n {T : Nat → Nat} {m f p q : Nat} {ks : List Int32} (h : pLine T m p = (none, q)) : pLines T m (f + 1) ks p = (none, q) := by
  unfold pLines
  rw [h]
theorem pLines_s {T : Nat → Nat} {m f p q : Nat} {ks k : List Int32} (h : pLine T m p = (some k, q)) (h2 : tk T m q = 59) : pLines T m (f + 1) ks p = pLines T m f (ks ++ k) (q + 1) := by
  rw [pLines, h]
  exact if_pos h2
theorem pLines_e {T : Nat → Nat} {m f p q : Nat} {ks k : List Int32} (h : pLine T m p = (some k, q)) (h2 : tk T m q ≠ 59) (h3 : q = m) : pLines T m (f + 1) ks p = (some (ks ++ k), q) := by
  rw [pLines, h]
  show (if tk T m q = 59 then _ else _) = _
  rw [if_neg h2, if_pos h3]
theorem pLines_x {T : Nat → Nat} {m f p q : Nat} {ks k : List Int32} (h : pLine T m p = (some k, q)) (h2 : tk T m q ≠ 59) (h3 : q ≠ m) : pLines T m (f + 1) ks p = (none, q) := by
  rw [pLines, h]
  show (if tk T m q = 59 then _ else _) = _
  rw [if_neg h2, if_neg h3]
theorem lines_c {n m : Nat} (hn : 1000 ≤ n) {T : Nat → Nat} : ∀ f fu i p ks C, i + f = m + 1 → f < fu → CP T m 0 p ks C → (∃ q C', pLines T m f ks p = (none, q) ∧ fX3_readLines_h2 n fu (nI i) C = some (nI 0, C') ∧ C'.1 32 7 = nI q ∧ q ≤ m) ∨ (∃ k q C', pLines T m f ks p = (some k, q) ∧ fX3_readLines_h2 n fu (nI i) C = some (nI 1, C') ∧ CP T m 1 q k C' ∧ 1 ≤ k.length ∧ q = m) := by
  intro f
  induction f with
  | zero =>
    intro fu i p ks C hi hf hC
    obtain ⟨fu, rfl⟩ : ∃ f, fu = f + 1 := ⟨fu - 1, by omega⟩
    refine Or.inl ⟨p, C, rfl, ?_, hC.2.1, hC.2.2.1⟩
    have hm : m ≤ 120 := hC.1.1
    have hlen := hC.1.2.1
    rw [fX3_readLines_h2.eq_2]
    unfold fX9t_length
    simp (disch := omega) only [hlen, ↓lt_d, eq_self, lN_add, i_l, wTn, wFa, wFb, wCT, wCF, mNe, mNe2, mLt, mLe, bp_s, bn_s, n_clampS, nI_1, nI_add, pk_sub, nI_mul, wrI_at, wrI_2, wrL_at, wrL_1, true_and, false_and, and_true, and_false, and_self, ↓reduceIte, Nat.reduceEqDiff, Nat.reduceAdd, Nat.reduceMul, Nat.add_zero, Nat.zero_add, reduceCtorEq, l_0, l_1, l_2, l_3, l_4, l_5, l_6, l_7, l_8, l_9, l_10, l_15, l_24, l_32, l_39, l_40, l_47, l_48, l_50, l_57, l_60, l_63, l_80, l_95, l_99, l_100, l_120, l_126, l_128, l_1000, l_9999, l_10000, L_0, L_1, L_2, L_3, L_4, L_5, L_7, L_9, L_15, L_40, L_50, L_99, L_127, L_9999, c_ltT, c_ltF, c_leT, c_leF, c_eqT, c_eqF, n_leF, n_ltF, c_gltT, c_gltF, c_ggtT, c_ggtF, false_or, or_false, or_self, true_or, or_true]
  | succ f ih =>
    intro fu i p ks C hi hf hC
    obtain ⟨fu, rfl⟩ : ∃ f, fu = f + 1 := ⟨fu - 1, by omega⟩
    have hm : m ≤ 120 := hC.1.1
    have hlen := hC.1.2.1
    rw [fX3_readLines_h2.eq_2]
    unfold fX9t_length
    rcases line_c hn hC with ⟨q, C2, e1, e2, e3, e4⟩ | ⟨k2, q, C2, e1, e2, e3, e4⟩
    · refine Or.inl ⟨q, C2, pLines_n e1, ?_, e3, e4⟩
      simp (disch := omega) only [hlen, e2, ↓lt_d, eq_self, lN_add, i_l, wTn, wFa, wFb, wCT, wCF, mNe, mNe2, mLt, mLe, bp_s, bn_s, n_clampS, nI_1, nI_add, pk_sub, nI_mul, wrI_at, wrI_2, wrL_at, wrL_1, true_and, false_and, and_true, and_false, and_self, ↓reduceIte, Nat.reduceEqDiff, Nat.reduceAdd, Nat.reduceMul, Nat.add_zero, Nat.zero_add, reduceCtorEq, l_0, l_1, l_2, l_3, l_4, l_5, l_6, l_7, l_8, l_9, l_10, l_15, l_24, l_32, l_39, l_40, l_47, l_48, l_50, l_57, l_60, l_63, l_80, l_95, l_99, l_100, l_120, l_126, l_128, l_1000, l_9999, l_10000, L_0, L_1, L_2, L_3, L_4, L_5, L_7, L_9, L_15, L_40, L_50, L_99, L_127, L_9999, c_ltT, c_ltF, c_leT, c_leF, c_eqT, c_eqF, n_leF, n_ltF, c_gltT, c_gltF, c_ggtT, c_ggtF, false_or, or_false, or_self, true_or, or_true]
    · have hlen2 := e3.1.2.1
      have h7 := e3.2.1
      have hq := e3.2.2.1
      by_cases h59 : tk T m q = 59
      · have hg := goes_T e3 (k := 59) (by omega) h59
        rw [pLines_s e1 h59]
        rcases ih fu (i + 1) (q + 1) (ks ++ k2) _ (by omega) (by omega) (CP_dn e3 (goes_lt (by omega) h59)) with ⟨r, C3, t1, t2, t3⟩ | ⟨k, r, C3, t1, t2, t3⟩
        · refine Or.inl ⟨r, C3, t1, ?_, t3⟩
          simp (disch := omega) only [hlen, e2, l_59, hg, ↓lt_d, eq_self, lN_add, i_l, wTn, wFa, wFb, wCT, wCF, mNe, mNe2, mLt, mLe, bp_s, bn_s, n_clampS, nI_1, nI_add, pk_sub, nI_mul, wrI_at, wrI_2, wrL_at, wrL_1, true_and, false_and, and_true, and_false, and_self, ↓reduceIte, Nat.reduceEqDiff, Nat.reduceAdd, Nat.reduceMul, Nat.add_zero, Nat.zero_add, reduceCtorEq, l_0, l_1, l_2, l_3, l_4, l_5, l_6, l_7, l_8, l_9, l_10, l_15, l_24, l_32, l_39, l_40, l_47, l_48, l_50, l_57, l_60, l_63, l_80, l_95, l_99, l_100, l_120, l_126, l_128, l_1000, l_9999, l_10000, L_0, L_1, L_2, L_3, L_4, L_5, L_7, L_9, L_15, L_40, L_50, L_99, L_127, L_9999, c_ltT, c_ltF, c_leT, c_leF, c_eqT, c_eqF, n_leF, n_ltF, c_gltT, c_gltF, c_ggtT, c_ggtF, false_or, or_false, or_self, true_or, or_true]
          exact t2
        · refine Or.inr ⟨k, r, C3, t1, ?_, t3⟩
          simp (disch := omega) only [hlen, e2, l_59, hg, ↓lt_d, eq_self, lN_add, i_l, wTn, wFa, wFb, wCT, wCF, mNe, mNe2, mLt, mLe, bp_s, bn_s, n_clampS, nI_1, nI_add, pk_sub, nI_mul, wrI_at, wrI_2, wrL_at, wrL_1, true_and, false_and, and_true, and_false, and_self, ↓reduceIte, Nat.reduceEqDiff, Nat.reduceAdd, Nat.reduceMul, Nat.add_zero, Nat.zero_add, reduceCtorEq, l_0, l_1, l_2, l_3, l_4, l_5, l_6, l_7, l_8, l_9, l_10, l_15, l_24, l_32, l_39, l_40, l_47, l_48, l_50, l_57, l_60, l_63, l_80, l_95, l_99, l_100, l_120, l_126, l_128, l_1000, l_9999, l_10000, L_0, L_1, L_2, L_3, L_4, L_5, L_7, L_9, L_15, L_40, L_50, L_99, L_127, L_9999, c_ltT, c_ltF, c_leT, c_leF, c_eqT, c_eqF, n_leF, n_ltF, c_gltT, c_gltF, c_ggtT, c_ggtF, false_or, or_false, or_self, true_or, or_true]
          exact t2
      · have hg := goes_F e3 (k := 59) (by omega) h59
        by_cases hqm : q = m
        · rw [pLines_e e1 h59 hqm]
          refine Or.inr ⟨ks ++ k2, q, C2, rfl, ?_, e3, by simp only [List.length_append]; omega, hqm⟩
          simp (disch := omega) only [hlen, e2, l_59, hg, hlen2, h7, ↓lt_d, eq_self, lN_add, i_l, wTn, wFa, wFb, wCT, wCF, mNe, mNe2, mLt, mLe, bp_s, bn_s, n_clampS, nI_1, nI_add, pk_sub, nI_mul, wrI_at, wrI_2, wrL_at, wrL_1, true_and, false_and, and_true, and_false, and_self, ↓reduceIte, Nat.reduceEqDiff, Nat.reduceAdd, Nat.reduceMul, Nat.add_zero, Nat.zero_add, reduceCtorEq, l_0, l_1, l_2, l_3, l_4, l_5, l_6, l_7, l_8, l_9, l_10, l_15, l_24, l_32, l_39, l_40, l_47, l_48, l_50, l_57, l_60, l_63, l_80, l_95, l_99, l_100, l_120, l_126, l_128, l_1000, l_9999, l_10000, L_0, L_1, L_2, L_3, L_4, L_5, L_7, L_9, L_15, L_40, L_50, L_99, L_127, L_9999, c_ltT, c_ltF, c_leT, c_leF, c_eqT, c_eqF, n_leF, n_ltF, c_gltT, c_gltF, c_ggtT, c_ggtF, false_or, or_false, or_self, true_or, or_true]
        · rw [pLines_x e1 h59 hqm]
          refine Or.inl ⟨q, C2, rfl, ?_, h7, hq⟩
          simp (disch := omega) only [hlen, e2, l_59, hg, hlen2, h7, ↓lt_d, eq_self, lN_add, i_l, wTn, wFa, wFb, wCT, wCF, mNe, mNe2, mLt, mLe, bp_s, bn_s, n_clampS, nI_1, nI_add, pk_sub, nI_mul, wrI_at, wrI_2, wrL_at, wrL_1, true_and, false_and, and_true, and_false, and_self, ↓reduceIte, Nat.reduceEqDiff, Nat.reduceAdd, Nat.reduceMul, Nat.add_zero, Nat.zero_add, reduceCtorEq, l_0, l_1, l_2, l_3, l_4, l_5, l_6, l_7, l_8, l_9, l_10, l_15, l_24, l_32, l_39, l_40, l_47, l_48, l_50, l_57, l_60, l_63, l_80, l_95, l_99, l_100, l_120, l_126, l_128, l_1000, l_9999, l_10000, L_0, L_1, L_2, L_3, L_4, L_5, L_7, L_9, L_15, L_40, L_50, L_99, L_127, L_9999, c_ltT, c_ltF, c_leT, c_leF, c_eqT, c_eqF, n_leF, n_ltF, c_gltT, c_gltF, c_ggtT, c_ggtF, false_or, or_false, or_self, true_or, or_true]
/-- the chooser's tape becomes THE TAPE -/
theorem become_c {T : Nat → Nat} {m : Nat} {C : Mm} (h : BT T m C) : ∃ C1, fX9t_become C = some C1 ∧ BX T m C1 := by
  obtain ⟨hm, h11, h3⟩ := h
  have hcp : (cpI C 2 0 104 0 m).1 1 1 = nI m := by
    rw [cpI_at, if_neg (by omega)]
    exact h11
  refine ⟨wrI (cpI C 2 0 104 0 m) 103 1 (nI m), ?_, hm, ?_, fun i hi => ⟨(h3 i hi).1, ?_⟩⟩
  · unfold fX9t_become
    simp (disch := omega) only [h11, hcp, ↓hcp, ↓lt_d, eq_self, lN_add, i_l, wTn, wFa, wFb, wCT, wCF, mNe, mNe2, mLt, mLe, bp_s, bn_s, n_clampS, nI_1, nI_add, pk_sub, nI_mul, wrI_at, wrI_2, wrL_at, wrL_1, true_and, false_and, and_true, and_false, and_self, ↓reduceIte, Nat.reduceEqDiff, Nat.reduceAdd, Nat.reduceMul, Nat.add_zero, Nat.zero_add, reduceCtorEq, l_0, l_1, l_2, l_3, l_4, l_5, l_6, l_7, l_8, l_9, l_10, l_15, l_24, l_32, l_39, l_40, l_47, l_48, l_50, l_57, l_60, l_63, l_80, l_95, l_99, l_100, l_120, l_126, l_128, l_1000, l_9999, l_10000, L_0, L_1, L_2, L_3, L_4, L_5, L_7, L_9, L_15, L_40, L_50, L_99, L_127, L_9999, c_ltT, c_ltF, c_leT, c_leF, c_eqT, c_eqF, n_leF, n_ltF, c_gltT, c_gltF, c_ggtT, c_ggtF, false_or, or_false, or_self, true_or, or_true]
  · simp (disch := omega) only [↓lt_d, eq_self, lN_add, i_l, wTn, wFa, wFb, wCT, wCF, mNe, mNe2, mLt, mLe, bp_s, bn_s, n_clampS, nI_1, nI_add, pk_sub, nI_mul, wrI_at, wrI_2, wrL_at, wrL_1, true_and, false_and, and_true, and_false, and_self, ↓reduceIte, Nat.reduceEqDiff, Nat.reduceAdd, Nat.reduceMul, Nat.add_zero, Nat.zero_add, reduceCtorEq, l_0, l_1, l_2, l_3, l_4, l_5, l_6, l_7, l_8, l_9, l_10, l_15, l_24, l_32, l_39, l_40, l_47, l_48, l_50, l_57, l_60, l_63, l_80, l_95, l_99, l_100, l_120, l_126, l_128, l_1000, l_9999, l_10000, L_0, L_1, L_2, L_3, L_4, L_5, L_7, L_9, L_15, L_40, L_50, L_99, L_127, L_9999, c_ltT, c_ltF, c_leT, c_leF, c_eqT, c_eqF, n_leF, n_ltF, c_gltT, c_gltF, c_ggtT, c_ggtF, false_or, or_false, or_self, true_or, or_true]
  · rw [wrI_at, if_neg (by omega), cpI_at, if_pos (by omega), Nat.sub_zero, Nat.zero_add]
    exact (h3 i hi).2
theorem read_c {n m : Nat} (hn : 1000 ≤ n) {T : Nat → Nat} {C : Mm} (h : BT T m C) : (∃ q C', pLines T m (m + 1) [] 0 = (none, q) ∧ fX3_read n C = some (nI q, C') ∧ q ≤ m) ∨ (∃ k q C', pLines T m (m + 1) [] 0 = (some k, q) ∧ fX3_read n C = some (-nI 1, C') ∧ 1 ≤ k.length ∧ k.length ≤ 121 ∧ C'.1 32 1 = nI k.length ∧ ∀ i, i < k.length → C'.1 33 i = k.getD i 0) := by
  have hm : m ≤ 120 := h.1
  obtain ⟨C1, hb, hX⟩ := become_c h
  have hC : CP T m 0 0 [] (wrI (wrI C1 32 7 (nI 0)) 32 3 (nI 0)) := by
    refine ⟨BX_w (BX_w hX (by omega)) (by omega), ?_, Nat.zero_le _, ?_, Nat.le_refl _, fun i hi => absurd hi (by show ¬ i < 0; omega)⟩
    · simp (disch := omega) only [↓lt_d, eq_self, lN_add, i_l, wTn, wFa, wFb, wCT, wCF, mNe, mNe2, mLt, mLe, bp_s, bn_s, n_clampS, nI_1, nI_add, pk_sub, nI_mul, wrI_at, wrI_2, wrL_at, wrL_1, true_and, false_and, and_true, and_false, and_self, ↓reduceIte, Nat.reduceEqDiff, Nat.reduceAdd, Nat.reduceMul, Nat.add_zero, Nat.zero_add, reduceCtorEq, l_0, l_1, l_2, l_3, l_4, l_5, l_6, l_7, l_8, l_9, l_10, l_15, l_24, l_32, l_39, l_40, l_47, l_48, l_50, l_57, l_60, l_63, l_80, l_95, l_99, l_100, l_120, l_126, l_128, l_1000, l_9999, l_10000, L_0, L_1, L_2, L_3, L_4, L_5, L_7, L_9, L_15, L_40, L_50, L_99, L_127, L_9999, c_ltT, c_ltF, c_leT, c_leF, c_eqT, c_eqF, n_leF, n_ltF, c_gltT, c_gltF, c_ggtT, c_ggtF, false_or, or_false, or_self, true_or, or_true]
    · simp (disch := omega) only [↓lt_d, eq_self, lN_add, i_l, wTn, wFa, wFb, wCT, wCF, mNe, mNe2, mLt, mLe, bp_s, bn_s, n_clampS, nI_1, nI_add, pk_sub, nI_mul, wrI_at, wrI_2, wrL_at, wrL_1, true_and, false_and, and_true, and_false, and_self, ↓reduceIte, Nat.reduceEqDiff, Nat.reduceAdd, Nat.reduceMul, Nat.add_zero, Nat.zero_add, reduceCtorEq, l_0, l_1, l_2, l_3, l_4, l_5, l_6, l_7, l_8, l_9, l_10, l_15, l_24, l_32, l_39, l_40, l_47, l_48, l_50, l_57, l_60, l_63, l_80, l_95, l_99, l_100, l_120, l_126, l_128, l_1000, l_9999, l_10000, L_0, L_1, L_2, L_3, L_4, L_5, L_7, L_9, L_15, L_40, L_50, L_99, L_127, L_9999, c_ltT, c_ltF, c_leT, c_leF, c_eqT, c_eqF, n_leF, n_ltF, c_gltT, c_gltF, c_ggtT, c_ggtF, false_or, or_false, or_self, true_or, or_true]
      rfl
  unfold fX3_read fX3_readLines
  rcases lines_c hn (m + 1) n 0 0 [] _ (by omega) (by omega) hC with ⟨q, C2, e1, e2, e3, e4⟩ | ⟨k, q, C2, e1, e2, e3, e4, e5⟩
  · refine Or.inl ⟨q, C2, e1, ?_, e4⟩
    simp (disch := omega) only [hb, e2, e3, ↓lt_d, eq_self, lN_add, i_l, wTn, wFa, wFb, wCT, wCF, mNe, mNe2, mLt, mLe, bp_s, bn_s, n_clampS, nI_1, nI_add, pk_sub, nI_mul, wrI_at, wrI_2, wrL_at, wrL_1, true_and, false_and, and_true, and_false, and_self, ↓reduceIte, Nat.reduceEqDiff, Nat.reduceAdd, Nat.reduceMul, Nat.add_zero, Nat.zero_add, reduceCtorEq, l_0, l_1, l_2, l_3, l_4, l_5, l_6, l_7, l_8, l_9, l_10, l_15, l_24, l_32, l_39, l_40, l_47, l_48, l_50, l_57, l_60, l_63, l_80, l_95, l_99, l_100, l_120, l_126, l_128, l_1000, l_9999, l_10000, L_0, L_1, L_2, L_3, L_4, L_5, L_7, L_9, L_15, L_40, L_50, L_99, L_127, L_9999, c_ltT, c_ltF, c_leT, c_leF, c_eqT, c_eqF, n_leF, n_ltF, c_gltT, c_gltF, c_ggtT, c_ggtF, false_or, or_false, or_self, true_or, or_true]
  · obtain ⟨h1, h2, h3, h4, h5, h6⟩ := e3
    have hk : k.length ≤ 121 := by omega
    refine Or.inr ⟨k, q, wrI (cpI C2 34 0 33 0 k.length) 32 1 (nI k.length), e1, ?_, e4, hk, ?_, fun i hi => ?_⟩
    · have hcp : (cpI C2 34 0 33 0 k.length).1 32 3 = nI k.length := by
        rw [cpI_at, if_neg (by omega)]
        exact h4
      have l_128 : (128 : Int32) = nI 128 := by decide
      simp (disch := omega) only [hb, e2, h4, hcp, nI_1, ↓hcp, ↓lt_d, eq_self, lN_add, i_l, wTn, wFa, wFb, wCT, wCF, mNe, mNe2, mLt, mLe, bp_s, bn_s, n_clampS, nI_1, nI_add, pk_sub, nI_mul, wrI_at, wrI_2, wrL_at, wrL_1, true_and, false_and, and_true, and_false, and_self, ↓reduceIte, Nat.reduceEqDiff, Nat.reduceAdd, Nat.reduceMul, Nat.add_zero, Nat.zero_add, reduceCtorEq, l_0, l_1, l_2, l_3, l_4, l_5, l_6, l_7, l_8, l_9, l_10, l_15, l_24, l_32, l_39, l_40, l_47, l_48, l_50, l_57, l_60, l_63, l_80, l_95, l_99, l_100, l_120, l_126, l_128, l_1000, l_9999, l_10000, L_0, L_1, L_2, L_3, L_4, L_5, L_7, L_9, L_15, L_40, L_50, L_99, L_127, L_9999, c_ltT, c_ltF, c_leT, c_leF, c_eqT, c_eqF, n_leF, n_ltF, c_gltT, c_gltF, c_ggtT, c_ggtF, false_or, or_false, or_self, true_or, or_true]
    · simp (disch := omega) only [↓lt_d, eq_self, lN_add, i_l, wTn, wFa, wFb, wCT, wCF, mNe, mNe2, mLt, mLe, bp_s, bn_s, n_clampS, nI_1, nI_add, pk_sub, nI_mul, wrI_at, wrI_2, wrL_at, wrL_1, true_and, false_and, and_true, and_false, and_self, ↓reduceIte, Nat.reduceEqDiff, Nat.reduceAdd, Nat.reduceMul, Nat.add_zero, Nat.zero_add, reduceCtorEq, l_0, l_1, l_2, l_3, l_4, l_5, l_6, l_7, l_8, l_9, l_10, l_15, l_24, l_32, l_39, l_40, l_47, l_48, l_50, l_57, l_60, l_63, l_80, l_95, l_99, l_100, l_120, l_126, l_128, l_1000, l_9999, l_10000, L_0, L_1, L_2, L_3, L_4, L_5, L_7, L_9, L_15, L_40, L_50, L_99, L_127, L_9999, c_ltT, c_ltF, c_leT, c_leF, c_eqT, c_eqF, n_leF, n_ltF, c_gltT, c_gltF, c_ggtT, c_ggtF, false_or, or_false, or_self, true_or, or_true]
    · rw [wrI_at, if_neg (by omega), cpI_at, if_pos (by omega), Nat.sub_zero, Nat.zero_add]
      exact h6 i hi
