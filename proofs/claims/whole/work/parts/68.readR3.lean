/-! lines and the whole text: the reference -/
theorem nf_59 {V : Int32 → Int32} (rest st : List Int32) : nf V (sg 59 :: rest) st false = hd0 st := by
  show (if false = true then _ else if sg 59 = sg 59 then hd0 st else _) = _
  rw [if_neg (by decide), if_pos rfl]
theorem nf_63 {V : Int32 → Int32} (rest st : List Int32) : nf V (sg 63 :: rest) st false = nf V rest st.tail (decide (hd0 st = 0)) := by
  show (if false = true then _ else if sg 63 = sg 59 then hd0 st else if sg 63 = sg 63 then _ else _) = _
  rw [if_neg (by decide), if_neg (by decide), if_pos rfl]
theorem nf_59s {V : Int32 → Int32} (rest st : List Int32) : nf V (sg 59 :: rest) st true = nf V rest st false := by
  show (if true = true then nf V rest st (decide (sg 59 ≠ sg 59)) else _) = _
  rw [if_pos rfl]
  rfl
theorem nf_l1 {V : Int32 → Int32} {k : List Int32} {v : Int32} (h : Ex V k v) (rest : List Int32) : nf V (k ++ [sg 59] ++ rest) [] false = v := by
  rw [List.append_assoc, h.1]
  exact nf_59 rest [v]
theorem nf_l2 {V : Int32 → Int32} {k k2 : List Int32} {v w : Int32} (h : Ex V k v) (h2 : Ex V k2 w) (rest : List Int32) : nf V (k ++ [sg 63] ++ k2 ++ [sg 59] ++ rest) [] false = if v = 0 then nf V rest [] false else w := by
  rw [List.append_assoc, List.append_assoc, List.append_assoc, h.1]
  show nf V (sg 63 :: (k2 ++ ([sg 59] ++ rest))) [v] false = _
  rw [nf_63]
  by_cases hv : v = 0
  · rw [if_pos hv, show decide (hd0 [v] = 0) = true from decide_eq_true hv, h2.2]
    exact nf_59s rest _
  · rw [if_neg hv, show decide (hd0 [v] = 0) = false from decide_eq_false hv, h2.1]
    exact nf_59 rest _
theorem line_r {n m p fu : Nat} (hn : 1000 ≤ n) {V : Int32 → Int32} {T : Nat → Nat} {R : Mm} (hR : RP V T m 0 p R) (y3 y4 : Int32) : (∃ q w h R', pLine T m p = (none, q) ∧ fX11_workOut_h33 n (fu + 1) y3 y4 (nI 1) R = fX11_workOut_b74 n (fX11_workOut_h33 n fu) y3 y4 w h R' ∧ Dd T m q R') ∨ (∃ k q w h R', pLine T m p = (some k, q) ∧ fX11_workOut_h33 n (fu + 1) y3 y4 (nI 1) R = fX11_workOut_b74 n (fX11_workOut_h33 n fu) y3 y4 w (nI h) R' ∧ RP V T m 0 q R' ∧ p ≤ q ∧ (h = 0 ∨ h = 1) ∧ ∀ rest, nf V (k ++ rest) [] false = if h = 0 then nf V rest [] false else w) := by
  have hop := operand_r (n := n) (m := m) hn (V := V) (T := T) 6 12 (by omega) (by omega)
  rw [Nat.sub_self] at hop
  have hany := any_r hn hop
  rw [fX11_workOut_h33.eq_2]
  unfold fX11_workOut_b66
  rcases hany p R hR with ⟨q, x, R2, e1, e2, e3⟩ | ⟨k2, q, x, R2, e1, e2, e3, e4, e5⟩
  · have hdt := Dd_t e3 (nI 63)
    refine Or.inl ⟨q, x, nI 1, R2, pLine_n e1, ?_, e3⟩
    simp (disch := omega) only [e2, hdt, ↓lt_d, eq_self, lN_add, i_l, wTn, wFa, wFb, wCT, wCF, mNe, mNe2, mLt, mLe, bp_s, bn_s, n_clampS, nI_1, nI_add, pk_sub, nI_mul, wrI_at, wrI_2, wrL_at, wrL_1, true_and, false_and, and_true, and_false, and_self, ↓reduceIte, Nat.reduceEqDiff, Nat.reduceAdd, Nat.reduceMul, Nat.add_zero, Nat.zero_add, reduceCtorEq, l_0, l_1, l_2, l_3, l_4, l_5, l_6, l_7, l_8, l_9, l_10, l_15, l_24, l_32, l_39, l_40, l_47, l_48, l_50, l_57, l_60, l_63, l_80, l_95, l_99, l_100, l_120, l_126, l_128, l_1000, l_9999, l_10000, L_0, L_1, L_2, L_3, L_4, L_5, L_7, L_9, L_15, L_40, L_50, L_99, L_127, L_9999, c_ltT, c_ltF, c_leT, c_leF, c_eqT, c_eqF, n_leF, n_ltF, c_gltT, c_gltF, c_ggtT, c_ggtF, false_or, or_false, or_self, true_or, or_true]
  · by_cases h63 : tk T m q = 63
    · have hg := takes_T e3 (k := 63) (by omega) h63
      have hlq := goes_lt (k := 63) (by omega) h63
      rcases hany (q + 1) _ (RP_step e3 hlq) with ⟨r, w, R3, f1, f2, f3⟩ | ⟨k3, r, w, R3, f1, f2, f3, f4, f5⟩
      · by_cases hx : x = 0
        · subst hx
          refine Or.inl ⟨r, w, nI 0, R3, pLine_2n e1 h63 f1, ?_, f3⟩
          simp (disch := omega) only [e2, hg, f2, ↓lt_d, eq_self, lN_add, i_l, wTn, wFa, wFb, wCT, wCF, mNe, mNe2, mLt, mLe, bp_s, bn_s, n_clampS, nI_1, nI_add, pk_sub, nI_mul, wrI_at, wrI_2, wrL_at, wrL_1, true_and, false_and, and_true, and_false, and_self, ↓reduceIte, Nat.reduceEqDiff, Nat.reduceAdd, Nat.reduceMul, Nat.add_zero, Nat.zero_add, reduceCtorEq, l_0, l_1, l_2, l_3, l_4, l_5, l_6, l_7, l_8, l_9, l_10, l_15, l_24, l_32, l_39, l_40, l_47, l_48, l_50, l_57, l_60, l_63, l_80, l_95, l_99, l_100, l_120, l_126, l_128, l_1000, l_9999, l_10000, L_0, L_1, L_2, L_3, L_4, L_5, L_7, L_9, L_15, L_40, L_50, L_99, L_127, L_9999, c_ltT, c_ltF, c_leT, c_leF, c_eqT, c_eqF, n_leF, n_ltF, c_gltT, c_gltF, c_ggtT, c_ggtF, false_or, or_false, or_self, true_or, or_true]
        · have hx0 : (x = nI 0) = False := eq_false hx
          refine Or.inl ⟨r, w, nI 1, R3, pLine_2n e1 h63 f1, ?_, f3⟩
          simp (disch := omega) only [e2, hg, f2, hx0, ↓lt_d, eq_self, lN_add, i_l, wTn, wFa, wFb, wCT, wCF, mNe, mNe2, mLt, mLe, bp_s, bn_s, n_clampS, nI_1, nI_add, pk_sub, nI_mul, wrI_at, wrI_2, wrL_at, wrL_1, true_and, false_and, and_true, and_false, and_self, ↓reduceIte, Nat.reduceEqDiff, Nat.reduceAdd, Nat.reduceMul, Nat.add_zero, Nat.zero_add, reduceCtorEq, l_0, l_1, l_2, l_3, l_4, l_5, l_6, l_7, l_8, l_9, l_10, l_15, l_24, l_32, l_39, l_40, l_47, l_48, l_50, l_57, l_60, l_63, l_80, l_95, l_99, l_100, l_120, l_126, l_128, l_1000, l_9999, l_10000, L_0, L_1, L_2, L_3, L_4, L_5, L_7, L_9, L_15, L_40, L_50, L_99, L_127, L_9999, c_ltT, c_ltF, c_leT, c_leF, c_eqT, c_eqF, n_leF, n_ltF, c_gltT, c_gltF, c_ggtT, c_ggtF, false_or, or_false, or_self, true_or, or_true]
      · have hnf := nf_l2 e5 f5
        by_cases hx : x = 0
        · refine Or.inr ⟨_, r, w, 0, R3, pLine_2 e1 h63 f1, ?_, f3, by omega, Or.inl rfl, fun rest => ?_⟩
          · subst hx
            simp (disch := omega) only [e2, hg, f2, ↓lt_d, eq_self, lN_add, i_l, wTn, wFa, wFb, wCT, wCF, mNe, mNe2, mLt, mLe, bp_s, bn_s, n_clampS, nI_1, nI_add, pk_sub, nI_mul, wrI_at, wrI_2, wrL_at, wrL_1, true_and, false_and, and_true, and_false, and_self, ↓reduceIte, Nat.reduceEqDiff, Nat.reduceAdd, Nat.reduceMul, Nat.add_zero, Nat.zero_add, reduceCtorEq, l_0, l_1, l_2, l_3, l_4, l_5, l_6, l_7, l_8, l_9, l_10, l_15, l_24, l_32, l_39, l_40, l_47, l_48, l_50, l_57, l_60, l_63, l_80, l_95, l_99, l_100, l_120, l_126, l_128, l_1000, l_9999, l_10000, L_0, L_1, L_2, L_3, L_4, L_5, L_7, L_9, L_15, L_40, L_50, L_99, L_127, L_9999, c_ltT, c_ltF, c_leT, c_leF, c_eqT, c_eqF, n_leF, n_ltF, c_gltT, c_gltF, c_ggtT, c_ggtF, false_or, or_false, or_self, true_or, or_true]
          · rw [hnf, if_pos hx]
            rfl
        · have hx0 : (x = nI 0) = False := eq_false hx
          refine Or.inr ⟨_, r, w, 1, R3, pLine_2 e1 h63 f1, ?_, f3, by omega, Or.inr rfl, fun rest => ?_⟩
          · simp (disch := omega) only [e2, hg, f2, hx0, ↓lt_d, eq_self, lN_add, i_l, wTn, wFa, wFb, wCT, wCF, mNe, mNe2, mLt, mLe, bp_s, bn_s, n_clampS, nI_1, nI_add, pk_sub, nI_mul, wrI_at, wrI_2, wrL_at, wrL_1, true_and, false_and, and_true, and_false, and_self, ↓reduceIte, Nat.reduceEqDiff, Nat.reduceAdd, Nat.reduceMul, Nat.add_zero, Nat.zero_add, reduceCtorEq, l_0, l_1, l_2, l_3, l_4, l_5, l_6, l_7, l_8, l_9, l_10, l_15, l_24, l_32, l_39, l_40, l_47, l_48, l_50, l_57, l_60, l_63, l_80, l_95, l_99, l_100, l_120, l_126, l_128, l_1000, l_9999, l_10000, L_0, L_1, L_2, L_3, L_4, L_5, L_7, L_9, L_15, L_40, L_50, L_99, L_127, L_9999, c_ltT, c_ltF, c_leT, c_leF, c_eqT, c_eqF, n_leF, n_ltF, c_gltT, c_gltF, c_ggtT, c_ggtF, false_or, or_false, or_self, true_or, or_true]
          · rw [hnf, if_neg hx]
            rfl
    · have hg := takes_F e3 (k := 63) (by omega) (by omega) h63
      have hnf := nf_l1 e5
      refine Or.inr ⟨_, q, x, 1, R2, pLine_1 e1 h63, ?_, e3, e4, Or.inr rfl, fun rest => ?_⟩
      · simp (disch := omega) only [e2, hg, ↓lt_d, eq_self, lN_add, i_l, wTn, wFa, wFb, wCT, wCF, mNe, mNe2, mLt, mLe, bp_s, bn_s, n_clampS, nI_1, nI_add, pk_sub, nI_mul, wrI_at, wrI_2, wrL_at, wrL_1, true_and, false_and, and_true, and_false, and_self, ↓reduceIte, Nat.reduceEqDiff, Nat.reduceAdd, Nat.reduceMul, Nat.add_zero, Nat.zero_add, reduceCtorEq, l_0, l_1, l_2, l_3, l_4, l_5, l_6, l_7, l_8, l_9, l_10, l_15, l_24, l_32, l_39, l_40, l_47, l_48, l_50, l_57, l_60, l_63, l_80, l_95, l_99, l_100, l_120, l_126, l_128, l_1000, l_9999, l_10000, L_0, L_1, L_2, L_3, L_4, L_5, L_7, L_9, L_15, L_40, L_50, L_99, L_127, L_9999, c_ltT, c_ltF, c_leT, c_leF, c_eqT, c_eqF, n_leF, n_ltF, c_gltT, c_gltF, c_ggtT, c_ggtF, false_or, or_false, or_self, true_or, or_true]
      · rw [hnf]
        rfl
theorem b74_d {n m q fu : Nat} {T : Nat → Nat} {R : Mm} (h : Dd T m q R) (y3 y4 w x : Int32) : fX11_workOut_b74 n (fX11_workOut_h33 n (fu + 1)) y3 y4 w x R = some (y4, R) := by
  have hm := h.1.1
  have hd := h.2.1
  have hq := h.2.2.1
  have hdt := Dd_t h (nI 59)
  unfold fX11_workOut_b74 fX11_workOut_b96
  simp (disch := omega) only [hd, l_59, hdt, ↓lt_d, eq_self, lN_add, i_l, wTn, wFa, wFb, wCT, wCF, mNe, mNe2, mLt, mLe, bp_s, bn_s, n_clampS, nI_1, nI_add, pk_sub, nI_mul, wrI_at, wrI_2, wrL_at, wrL_1, true_and, false_and, and_true, and_false, and_self, ↓reduceIte, Nat.reduceEqDiff, Nat.reduceAdd, Nat.reduceMul, Nat.add_zero, Nat.zero_add, reduceCtorEq, l_0, l_1, l_2, l_3, l_4, l_5, l_6, l_7, l_8, l_9, l_10, l_15, l_24, l_32, l_39, l_40, l_47, l_48, l_50, l_57, l_60, l_63, l_80, l_95, l_99, l_100, l_120, l_126, l_128, l_1000, l_9999, l_10000, L_0, L_1, L_2, L_3, L_4, L_5, L_7, L_9, L_15, L_40, L_50, L_99, L_127, L_9999, c_ltT, c_ltF, c_leT, c_leF, c_eqT, c_eqF, n_leF, n_ltF, c_gltT, c_gltF, c_ggtT, c_ggtF, false_or, or_false, or_self, true_or, or_true]
  rw [fX11_workOut_h33.eq_2]
  simp (disch := omega) only [hd, ↓lt_d, eq_self, lN_add, i_l, wTn, wFa, wFb, wCT, wCF, mNe, mNe2, mLt, mLe, bp_s, bn_s, n_clampS, nI_1, nI_add, pk_sub, nI_mul, wrI_at, wrI_2, wrL_at, wrL_1, true_and, false_and, and_true, and_false, and_self, ↓reduceIte, Nat.reduceEqDiff, Nat.reduceAdd, Nat.reduceMul, Nat.add_zero, Nat.zero_add, reduceCtorEq, l_0, l_1, l_2, l_3, l_4, l_5, l_6, l_7, l_8, l_9, l_10, l_15, l_24, l_32, l_39, l_40, l_47, l_48, l_50, l_57, l_60, l_63, l_80, l_95, l_99, l_100, l_120, l_126, l_128, l_1000, l_9999, l_10000, L_0, L_1, L_2, L_3, L_4, L_5, L_7, L_9, L_15, L_40, L_50, L_99, L_127, L_9999, c_ltT, c_ltF, c_leT, c_leF, c_eqT, c_eqF, n_leF, n_ltF, c_gltT, c_gltF, c_ggtT, c_ggtF, false_or, or_false, or_self, true_or, or_true]
theorem b74_a {n m q fu y3 h : Nat} {V : Int32 → Int32} {T : Nat → Nat} {R : Mm} (hR : RP V T m 0 q R) (hy : y3 = 0 ∨ y3 = 1) (hh : h = 0 ∨ h = 1) (y4 w : Int32) : fX11_workOut_b74 n (fX11_workOut_h33 n fu) (nI y3) y4 w (nI h) R = fX11_workOut_b96 n (fX11_workOut_h33 n fu) (nI (if h = 0 then y3 else 1)) (if h = 0 then y4 else if y3 = 0 then w else y4) R := by
  have h13 := hR.2.2.2.1
  unfold fX11_workOut_b74
  rcases hh with rfl | rfl
  · rw [if_pos rfl, if_pos rfl]
    simp (disch := omega) only [h13, ↓lt_d, eq_self, lN_add, i_l, wTn, wFa, wFb, wCT, wCF, mNe, mNe2, mLt, mLe, bp_s, bn_s, n_clampS, nI_1, nI_add, pk_sub, nI_mul, wrI_at, wrI_2, wrL_at, wrL_1, true_and, false_and, and_true, and_false, and_self, ↓reduceIte, Nat.reduceEqDiff, Nat.reduceAdd, Nat.reduceMul, Nat.add_zero, Nat.zero_add, reduceCtorEq, l_0, l_1, l_2, l_3, l_4, l_5, l_6, l_7, l_8, l_9, l_10, l_15, l_24, l_32, l_39, l_40, l_47, l_48, l_50, l_57, l_60, l_63, l_80, l_95, l_99, l_100, l_120, l_126, l_128, l_1000, l_9999, l_10000, L_0, L_1, L_2, L_3, L_4, L_5, L_7, L_9, L_15, L_40, L_50, L_99, L_127, L_9999, c_ltT, c_ltF, c_leT, c_leF, c_eqT, c_eqF, n_leF, n_ltF, c_gltT, c_gltF, c_ggtT, c_ggtF, false_or, or_false, or_self, true_or, or_true]
  · rw [if_neg (show ¬ (1 : Nat) = 0 by decide), if_neg (show ¬ (1 : Nat) = 0 by decide)]
    rcases hy with rfl | rfl
    · rw [if_pos rfl]
      simp (disch := omega) only [h13, ↓lt_d, eq_self, lN_add, i_l, wTn, wFa, wFb, wCT, wCF, mNe, mNe2, mLt, mLe, bp_s, bn_s, n_clampS, nI_1, nI_add, pk_sub, nI_mul, wrI_at, wrI_2, wrL_at, wrL_1, true_and, false_and, and_true, and_false, and_self, ↓reduceIte, Nat.reduceEqDiff, Nat.reduceAdd, Nat.reduceMul, Nat.add_zero, Nat.zero_add, reduceCtorEq, l_0, l_1, l_2, l_3, l_4, l_5, l_6, l_7, l_8, l_9, l_10, l_15, l_24, l_32, l_39, l_40, l_47, l_48, l_50, l_57, l_60, l_63, l_80, l_95, l_99, l_100, l_120, l_126, l_128, l_1000, l_9999, l_10000, L_0, L_1, L_2, L_3, L_4, L_5, L_7, L_9, L_15, L_40, L_50, L_99, L_127, L_9999, c_ltT, c_ltF, c_leT, c_leF, c_eqT, c_eqF, n_leF, n_ltF, c_gltT, c_gltF, c_ggtT, c_ggtF, false_or, or_false, or_self, true_or, or_true]
    · rw [if_neg (show ¬ (1 : Nat) = 0 by decide)]
      simp (disch := omega) only [h13, ↓lt_d, eq_self, lN_add, i_l, wTn, wFa, wFb, wCT, wCF, mNe, mNe2, mLt, mLe, bp_s, bn_s, n_clampS, nI_1, nI_add, pk_sub, nI_mul, wrI_at, wrI_2, wrL_at, wrL_1, true_and, false_and, and_true, and_false, and_self, ↓reduceIte, Nat.reduceEqDiff, Nat.reduceAdd, Nat.reduceMul, Nat.add_zero, Nat.zero_add, reduceCtorEq, l_0, l_1, l_2, l_3, l_4, l_5, l_6, l_7, l_8, l_9, l_10, l_15, l_24, l_32, l_39, l_40, l_47, l_48, l_50, l_57, l_60, l_63, l_80, l_95, l_99, l_100, l_120, l_126, l_128, l_1000, l_9999, l_10000, L_0, L_1, L_2, L_3, L_4, L_5, L_7, L_9, L_15, L_40, L_50, L_99, L_127, L_9999, c_ltT, c_ltF, c_leT, c_leF, c_eqT, c_eqF, n_leF, n_ltF, c_gltT, c_gltF, c_ggtT, c_ggtF, false_or, or_false, or_self, true_or, or_true]
theorem b96_s {n m q fu : Nat} {V : Int32 → Int32} {T : Nat → Nat} {R : Mm} (hR : RP V T m 0 q R) (h59 : tk T m q = 59) (y3 y4 : Int32) : fX11_workOut_b96 n (fX11_workOut_h33 n fu) y3 y4 R = fX11_workOut_h33 n fu y3 y4 (nI 1) (wrI R 72 11 (nI (q + 1))) := by
  have hg := takes_T hR (k := 59) (by omega) h59
  unfold fX11_workOut_b96
  simp (disch := omega) only [l_59, hg, ↓lt_d, eq_self, lN_add, i_l, wTn, wFa, wFb, wCT, wCF, mNe, mNe2, mLt, mLe, bp_s, bn_s, n_clampS, nI_1, nI_add, pk_sub, nI_mul, wrI_at, wrI_2, wrL_at, wrL_1, true_and, false_and, and_true, and_false, and_self, ↓reduceIte, Nat.reduceEqDiff, Nat.reduceAdd, Nat.reduceMul, Nat.add_zero, Nat.zero_add, reduceCtorEq, l_0, l_1, l_2, l_3, l_4, l_5, l_6, l_7, l_8, l_9, l_10, l_15, l_24, l_32, l_39, l_40, l_47, l_48, l_50, l_57, l_60, l_63, l_80, l_95, l_99, l_100, l_120, l_126, l_128, l_1000, l_9999, l_10000, L_0, L_1, L_2, L_3, L_4, L_5, L_7, L_9, L_15, L_40, L_50, L_99, L_127, L_9999, c_ltT, c_ltF, c_leT, c_leF, c_eqT, c_eqF, n_leF, n_ltF, c_gltT, c_gltF, c_ggtT, c_ggtF, false_or, or_false, or_self, true_or, or_true]
theorem b96_e {n m q fu : Nat} {V : Int32 → Int32} {T : Nat → Nat} {R : Mm} (hR : RP V T m 0 q R) (h59 : tk T m q ≠ 59) (hq : q = m) (y3 y4 : Int32) : fX11_workOut_b96 n (fX11_workOut_h33 n (fu + 1)) y3 y4 R = some (y4, R) := by
  have hg := takes_F hR (k := 59) (by omega) (by omega) h59
  have hm := hR.1.1
  have h12 := hR.1.2.1
  have h11 := hR.2.1
  have h13 := hR.2.2.2.1
  unfold fX11_workOut_b96
  simp (disch := omega) only [l_59, hg, ↓lt_d, eq_self, lN_add, i_l, wTn, wFa, wFb, wCT, wCF, mNe, mNe2, mLt, mLe, bp_s, bn_s, n_clampS, nI_1, nI_add, pk_sub, nI_mul, wrI_at, wrI_2, wrL_at, wrL_1, true_and, false_and, and_true, and_false, and_self, ↓reduceIte, Nat.reduceEqDiff, Nat.reduceAdd, Nat.reduceMul, Nat.add_zero, Nat.zero_add, reduceCtorEq, l_0, l_1, l_2, l_3, l_4, l_5, l_6, l_7, l_8, l_9, l_10, l_15, l_24, l_32, l_39, l_40, l_47, l_48, l_50, l_57, l_60, l_63, l_80, l_95, l_99, l_100, l_120, l_126, l_128, l_1000, l_9999, l_10000, L_0, L_1, L_2, L_3, L_4, L_5, L_7, L_9, L_15, L_40, L_50, L_99, L_127, L_9999, c_ltT, c_ltF, c_leT, c_leF, c_eqT, c_eqF, n_leF, n_ltF, c_gltT, c_gltF, c_ggtT, c_ggtF, false_or, or_false, or_self, true_or, or_true]
  rw [fX11_workOut_h33.eq_2]
  simp (disch := omega) only [h13, h12, h11, ↓lt_d, eq_self, lN_add, i_l, wTn, wFa, wFb, wCT, wCF, mNe, mNe2, mLt, mLe, bp_s, bn_s, n_clampS, nI_1, nI_add, pk_sub, nI_mul, wrI_at, wrI_2, wrL_at, wrL_1, true_and, false_and, and_true, and_false, and_self, ↓reduceIte, Nat.reduceEqDiff, Nat.reduceAdd, Nat.reduceMul, Nat.add_zero, Nat.zero_add, reduceCtorEq, l_0, l_1, l_2, l_3, l_4, l_5, l_6, l_7, l_8, l_9, l_10, l_15, l_24, l_32, l_39, l_40, l_47, l_48, l_50, l_57, l_60, l_63, l_80, l_95, l_99, l_100, l_120, l_126, l_128, l_1000, l_9999, l_10000, L_0, L_1, L_2, L_3, L_4, L_5, L_7, L_9, L_15, L_40, L_50, L_99, L_127, L_9999, c_ltT, c_ltF, c_leT, c_leF, c_eqT, c_eqF, n_leF, n_ltF, c_gltT, c_gltF, c_ggtT, c_ggtF, false_or, or_false, or_self, true_or, or_true]
theorem b96_x {n m q fu : Nat} {V : Int32 → Int32} {T : Nat → Nat} {R : Mm} (hR : RP V T m 0 q R) (h59 : tk T m q ≠ 59) (hq : q ≠ m) (y3 y4 : Int32) : fX11_workOut_b96 n (fX11_workOut_h33 n (fu + 1)) y3 y4 R = some (nI 0, wrI R 72 13 (nI q)) := by
  have hg := takes_F hR (k := 59) (by omega) (by omega) h59
  have hm := hR.1.1
  have h12 := hR.1.2.1
  have h11 := hR.2.1
  have h13 := hR.2.2.2.1
  have hqm := hR.2.2.1
  have hw := wrongF_l h13 h11
  unfold fX11_workOut_b96
  simp (disch := omega) only [l_59, hg, ↓lt_d, eq_self, lN_add, i_l, wTn, wFa, wFb, wCT, wCF, mNe, mNe2, mLt, mLe, bp_s, bn_s, n_clampS, nI_1, nI_add, pk_sub, nI_mul, wrI_at, wrI_2, wrL_at, wrL_1, true_and, false_and, and_true, and_false, and_self, ↓reduceIte, Nat.reduceEqDiff, Nat.reduceAdd, Nat.reduceMul, Nat.add_zero, Nat.zero_add, reduceCtorEq, l_0, l_1, l_2, l_3, l_4, l_5, l_6, l_7, l_8, l_9, l_10, l_15, l_24, l_32, l_39, l_40, l_47, l_48, l_50, l_57, l_60, l_63, l_80, l_95, l_99, l_100, l_120, l_126, l_128, l_1000, l_9999, l_10000, L_0, L_1, L_2, L_3, L_4, L_5, L_7, L_9, L_15, L_40, L_50, L_99, L_127, L_9999, c_ltT, c_ltF, c_leT, c_leF, c_eqT, c_eqF, n_leF, n_ltF, c_gltT, c_gltF, c_ggtT, c_ggtF, false_or, or_false, or_self, true_or, or_true]
  rw [fX11_workOut_h33.eq_2]
  simp (disch := omega) only [h13, h12, h11, hw, ↓lt_d, eq_self, lN_add, i_l, wTn, wFa, wFb, wCT, wCF, mNe, mNe2, mLt, mLe, bp_s, bn_s, n_clampS, nI_1, nI_add, pk_sub, nI_mul, wrI_at, wrI_2, wrL_at, wrL_1, true_and, false_and, and_true, and_false, and_self, ↓reduceIte, Nat.reduceEqDiff, Nat.reduceAdd, Nat.reduceMul, Nat.add_zero, Nat.zero_add, reduceCtorEq, l_0, l_1, l_2, l_3, l_4, l_5, l_6, l_7, l_8, l_9, l_10, l_15, l_24, l_32, l_39, l_40, l_47, l_48, l_50, l_57, l_60, l_63, l_80, l_95, l_99, l_100, l_120, l_126, l_128, l_1000, l_9999, l_10000, L_0, L_1, L_2, L_3, L_4, L_5, L_7, L_9, L_15, L_40, L_50, L_99, L_127, L_9999, c_ltT, c_ltF, c_leT, c_leF, c_eqT, c_eqF, n_leF, n_ltF, c_gltT, c_gltF, c_ggtT, c_ggtF, false_or, or_false, or_self, true_or, or_true]
theorem lines_r {n m : Nat} (hn : 1000 ≤ n) {V : Int32 → Int32} {T : Nat → Nat} : ∀ f fu p ks R y3 y4, m + 1 ≤ p + f → f < fu → RP V T m 0 p R → (y3 = 0 ∨ y3 = 1) → (y3 = 0 → y4 = 0) → (∃ q w R', pLines T m f ks p = (none, q) ∧ fX11_workOut_h33 n fu (nI y3) y4 (nI 1) R = some (w, R') ∧ R'.1 72 13 = nI q ∧ q ≤ m) ∨ (∃ rest q w R', pLines T m f ks p = (some (ks ++ rest), q) ∧ fX11_workOut_h33 n fu (nI y3) y4 (nI 1) R = some (w, R') ∧ R'.1 72 13 = -nI 1 ∧ w = if y3 = 0 then nf V rest [] false else y4) := by
  intro f
  induction f with
  | zero =>
    intro fu p ks R y3 y4 hi hf hR
    have := hR.2.2.1
    omega
  | succ f ih =>
    intro fu p ks R y3 y4 hi hf hR hy hy4
    obtain ⟨fu, rfl⟩ : ∃ f, fu = f + 1 + 1 := ⟨fu - 2, by omega⟩
    rcases line_r (fu := fu + 1) hn hR (nI y3) y4 with ⟨q, w, h, R2, e1, e2, e3⟩ | ⟨k, q, w, h, R2, e1, e2, e3, e4, e5, e6⟩
    · refine Or.inl ⟨q, y4, R2, pLines_n e1, ?_, e3.2.1, e3.2.2.1⟩
      rw [e2]
      exact b74_d e3 _ _ _ _
    · rw [e2, b74_a e3 hy e5]
      by_cases h59 : tk T m q = 59
      · rw [b96_s e3 h59, pLines_s e1 h59]
        rcases ih (fu + 1) (q + 1) (ks ++ k) _ (if h = 0 then y3 else 1) (if h = 0 then y4 else if y3 = 0 then w else y4) (by omega) (by omega) (RP_step e3 (goes_lt (by omega) h59)) (by split <;> omega) (fun z => by
          by_cases hh : h = 0
          · rw [if_pos hh] at z ⊢
            exact hy4 z
          · rw [if_neg hh] at z
            omega) with ⟨r, x, R3, t1, t2, t3, t4⟩ | ⟨rest, r, x, R3, t1, t2, t3, t4⟩
        · exact Or.inl ⟨r, x, R3, t1, t2, t3, t4⟩
        · refine Or.inr ⟨k ++ rest, r, x, R3, by rw [← List.append_assoc]; exact t1, t2, t3, ?_⟩
          rw [t4, e6]
          by_cases hh : h = 0
          · rw [if_pos hh, if_pos hh, if_pos hh]
          · rw [if_neg hh, if_neg hh, if_neg hh, if_neg (show ¬ (1 : Nat) = 0 by decide)]
      · have hval : (if h = 0 then y4 else if y3 = 0 then w else y4) = if y3 = 0 then nf V k [] false else y4 := by
          have e7 := e6 []
          rw [List.append_nil] at e7
          rw [e7]
          by_cases hh : h = 0
          · rw [if_pos hh, if_pos hh]
            by_cases h3 : y3 = 0
            · rw [if_pos h3, hy4 h3]
              rfl
            · rw [if_neg h3]
          · rw [if_neg hh, if_neg hh]
        by_cases hqm : q = m
        · rw [b96_e e3 h59 hqm, pLines_e e1 h59 hqm]
          exact Or.inr ⟨k, q, _, R2, rfl, rfl, e3.2.2.2.1, hval⟩
        · rw [b96_x e3 h59 hqm, pLines_x e1 h59 hqm]
          refine Or.inl ⟨q, _, _, rfl, rfl, ?_, e3.2.2.1⟩
          simp (disch := omega) only [↓lt_d, eq_self, lN_add, i_l, wTn, wFa, wFb, wCT, wCF, mNe, mNe2, mLt, mLe, bp_s, bn_s, n_clampS, nI_1, nI_add, pk_sub, nI_mul, wrI_at, wrI_2, wrL_at, wrL_1, true_and, false_and, and_true, and_false, and_self, ↓reduceIte, Nat.reduceEqDiff, Nat.reduceAdd, Nat.reduceMul, Nat.add_zero, Nat.zero_add, reduceCtorEq, l_0, l_1, l_2, l_3, l_4, l_5, l_6, l_7, l_8, l_9, l_10, l_15, l_24, l_32, l_39, l_40, l_47, l_48, l_50, l_57, l_60, l_63, l_80, l_95, l_99, l_100, l_120, l_126, l_128, l_1000, l_9999, l_10000, L_0, L_1, L_2, L_3, L_4, L_5, L_7, L_9, L_15, L_40, L_50, L_99, L_127, L_9999, c_ltT, c_ltF, c_leT, c_leF, c_eqT, c_eqF, n_leF, n_ltF, c_gltT, c_gltF, c_ggtT, c_ggtF, false_or, or_false, or_self, true_or, or_true]
theorem workOut_r {n m : Nat} (hn : 1000 ≤ n) {V : Int32 → Int32} {T : Nat → Nat} {b : Int32} {R : Mm} (hm : m ≤ 120) (hT : ∀ i, i < m → T i < 256) (hb : (b = -nI 1 ∧ ∀ i, i < m → R.1 77 i = nI (T i)) ∨ (b = nI 0 ∧ ∀ i, i < m → R.1 78 i = nI (T i))) (hV : ∀ c, isNm c = true → R.1 79 (nmi c) = V (nI c)) : (∃ q w R', pLines T m (m + 1) [] 0 = (none, q) ∧ fX11_workOut n b (nI m) R = some (w, R') ∧ R'.1 72 13 = nI q ∧ q ≤ m) ∨ (∃ k q R', pLines T m (m + 1) [] 0 = (some k, q) ∧ fX11_workOut n b (nI m) R = some (nf V k [] false, R') ∧ R'.1 72 13 = -nI 1) := by
  have hR : RP V T m 0 0 (wrI (wrI (wrI (wrI (wrI R 72 10 b) 72 11 (nI 0)) 72 12 (nI m)) 72 13 (-nI 1)) 72 14 (nI 0)) := by
    refine ⟨⟨hm, by simp (disch := omega) only [↓lt_d, eq_self, lN_add, i_l, wTn, wFa, wFb, wCT, wCF, mNe, mNe2, mLt, mLe, bp_s, bn_s, n_clampS, nI_1, nI_add, pk_sub, nI_mul, wrI_at, wrI_2, wrL_at, wrL_1, true_and, false_and, and_true, and_false, and_self, ↓reduceIte, Nat.reduceEqDiff, Nat.reduceAdd, Nat.reduceMul, Nat.add_zero, Nat.zero_add, reduceCtorEq, l_0, l_1, l_2, l_3, l_4, l_5, l_6, l_7, l_8, l_9, l_10, l_15, l_24, l_32, l_39, l_40, l_47, l_48, l_50, l_57, l_60, l_63, l_80, l_95, l_99, l_100, l_120, l_126, l_128, l_1000, l_9999, l_10000, L_0, L_1, L_2, L_3, L_4, L_5, L_7, L_9, L_15, L_40, L_50, L_99, L_127, L_9999, c_ltT, c_ltF, c_leT, c_leF, c_eqT, c_eqF, n_leF, n_ltF, c_gltT, c_gltF, c_ggtT, c_ggtF, false_or, or_false, or_self, true_or, or_true], ?_, hT⟩, by simp (disch := omega) only [↓lt_d, eq_self, lN_add, i_l, wTn, wFa, wFb, wCT, wCF, mNe, mNe2, mLt, mLe, bp_s, bn_s, n_clampS, nI_1, nI_add, pk_sub, nI_mul, wrI_at, wrI_2, wrL_at, wrL_1, true_and, false_and, and_true, and_false, and_self, ↓reduceIte, Nat.reduceEqDiff, Nat.reduceAdd, Nat.reduceMul, Nat.add_zero, Nat.zero_add, reduceCtorEq, l_0, l_1, l_2, l_3, l_4, l_5, l_6, l_7, l_8, l_9, l_10, l_15, l_24, l_32, l_39, l_40, l_47, l_48, l_50, l_57, l_60, l_63, l_80, l_95, l_99, l_100, l_120, l_126, l_128, l_1000, l_9999, l_10000, L_0, L_1, L_2, L_3, L_4, L_5, L_7, L_9, L_15, L_40, L_50, L_99, L_127, L_9999, c_ltT, c_ltF, c_leT, c_leF, c_eqT, c_eqF, n_leF, n_ltF, c_gltT, c_gltF, c_ggtT, c_ggtF, false_or, or_false, or_self, true_or, or_true], Nat.zero_le _, by simp (disch := omega) only [↓lt_d, eq_self, lN_add, i_l, wTn, wFa, wFb, wCT, wCF, mNe, mNe2, mLt, mLe, bp_s, bn_s, n_clampS, nI_1, nI_add, pk_sub, nI_mul, wrI_at, wrI_2, wrL_at, wrL_1, true_and, false_and, and_true, and_false, and_self, ↓reduceIte, Nat.reduceEqDiff, Nat.reduceAdd, Nat.reduceMul, Nat.add_zero, Nat.zero_add, reduceCtorEq, l_0, l_1, l_2, l_3, l_4, l_5, l_6, l_7, l_8, l_9, l_10, l_15, l_24, l_32, l_39, l_40, l_47, l_48, l_50, l_57, l_60, l_63, l_80, l_95, l_99, l_100, l_120, l_126, l_128, l_1000, l_9999, l_10000, L_0, L_1, L_2, L_3, L_4, L_5, L_7, L_9, L_15, L_40, L_50, L_99, L_127, L_9999, c_ltT, c_ltF, c_leT, c_leF, c_eqT, c_eqF, n_leF, n_ltF, c_gltT, c_gltF, c_ggtT, c_ggtF, false_or, or_false, or_self, true_or, or_true], by simp (disch := omega) only [↓lt_d, eq_self, lN_add, i_l, wTn, wFa, wFb, wCT, wCF, mNe, mNe2, mLt, mLe, bp_s, bn_s, n_clampS, nI_1, nI_add, pk_sub, nI_mul, wrI_at, wrI_2, wrL_at, wrL_1, true_and, false_and, and_true, and_false, and_self, ↓reduceIte, Nat.reduceEqDiff, Nat.reduceAdd, Nat.reduceMul, Nat.add_zero, Nat.zero_add, reduceCtorEq, l_0, l_1, l_2, l_3, l_4, l_5, l_6, l_7, l_8, l_9, l_10, l_15, l_24, l_32, l_39, l_40, l_47, l_48, l_50, l_57, l_60, l_63, l_80, l_95, l_99, l_100, l_120, l_126, l_128, l_1000, l_9999, l_10000, L_0, L_1, L_2, L_3, L_4, L_5, L_7, L_9, L_15, L_40, L_50, L_99, L_127, L_9999, c_ltT, c_ltF, c_leT, c_leF, c_eqT, c_eqF, n_leF, n_ltF, c_gltT, c_gltF, c_ggtT, c_ggtF, false_or, or_false, or_self, true_or, or_true], fun c hc => ?_⟩
    · rcases hb with ⟨h1, h2⟩ | ⟨h1, h2⟩
      · refine Or.inl ⟨by simp (disch := omega) only [h1, ↓lt_d, eq_self, lN_add, i_l, wTn, wFa, wFb, wCT, wCF, mNe, mNe2, mLt, mLe, bp_s, bn_s, n_clampS, nI_1, nI_add, pk_sub, nI_mul, wrI_at, wrI_2, wrL_at, wrL_1, true_and, false_and, and_true, and_false, and_self, ↓reduceIte, Nat.reduceEqDiff, Nat.reduceAdd, Nat.reduceMul, Nat.add_zero, Nat.zero_add, reduceCtorEq, l_0, l_1, l_2, l_3, l_4, l_5, l_6, l_7, l_8, l_9, l_10, l_15, l_24, l_32, l_39, l_40, l_47, l_48, l_50, l_57, l_60, l_63, l_80, l_95, l_99, l_100, l_120, l_126, l_128, l_1000, l_9999, l_10000, L_0, L_1, L_2, L_3, L_4, L_5, L_7, L_9, L_15, L_40, L_50, L_99, L_127, L_9999, c_ltT, c_ltF, c_leT, c_leF, c_eqT, c_eqF, n_leF, n_ltF, c_gltT, c_gltF, c_ggtT, c_ggtF, false_or, or_false, or_self, true_or, or_true], fun i hi => ?_⟩
        rw [wrI_at, if_neg (by omega), wrI_at, if_neg (by omega), wrI_at, if_neg (by omega), wrI_at, if_neg (by omega), wrI_at, if_neg (by omega)]
        exact h2 i hi
      · refine Or.inr ⟨by simp (disch := omega) only [h1, ↓lt_d, eq_self, lN_add, i_l, wTn, wFa, wFb, wCT, wCF, mNe, mNe2, mLt, mLe, bp_s, bn_s, n_clampS, nI_1, nI_add, pk_sub, nI_mul, wrI_at, wrI_2, wrL_at, wrL_1, true_and, false_and, and_true, and_false, and_self, ↓reduceIte, Nat.reduceEqDiff, Nat.reduceAdd, Nat.reduceMul, Nat.add_zero, Nat.zero_add, reduceCtorEq, l_0, l_1, l_2, l_3, l_4, l_5, l_6, l_7, l_8, l_9, l_10, l_15, l_24, l_32, l_39, l_40, l_47, l_48, l_50, l_57, l_60, l_63, l_80, l_95, l_99, l_100, l_120, l_126, l_128, l_1000, l_9999, l_10000, L_0, L_1, L_2, L_3, L_4, L_5, L_7, L_9, L_15, L_40, L_50, L_99, L_127, L_9999, c_ltT, c_ltF, c_leT, c_leF, c_eqT, c_eqF, n_leF, n_ltF, c_gltT, c_gltF, c_ggtT, c_ggtF, false_or, or_false, or_self, true_or, or_true], fun i hi => ?_⟩
        rw [wrI_at, if_neg (by omega), wrI_at, if_neg (by omega), wrI_at, if_neg (by omega), wrI_at, if_neg (by omega), wrI_at, if_neg (by omega)]
        exact h2 i hi
    · rw [wrI_at, if_neg (by omega), wrI_at, if_neg (by omega), wrI_at, if_neg (by omega), wrI_at, if_neg (by omega), wrI_at, if_neg (by omega)]
      exact hV c hc
  have e : fX11_workOut n b (nI m) R = fX11_workOut_h33 n n (nI 0) (nI 0) (nI 1) (wrI (wrI (wrI (wrI (wrI R 72 10 b) 72 11 (nI 0)) 72 12 (nI m)) 72 13 (-nI 1)) 72 14 (nI 0)) := by
    unfold fX11_workOut
    simp (disch := omega) only [↓lt_d, eq_self, lN_add, i_l, wTn, wFa, wFb, wCT, wCF, mNe, mNe2, mLt, mLe, bp_s, bn_s, n_clampS, nI_1, nI_add, pk_sub, nI_mul, wrI_at, wrI_2, wrL_at, wrL_1, true_and, false_and, and_true, and_false, and_self, ↓reduceIte, Nat.reduceEqDiff, Nat.reduceAdd, Nat.reduceMul, Nat.add_zero, Nat.zero_add, reduceCtorEq, l_0, l_1, l_2, l_3, l_4, l_5, l_6, l_7, l_8, l_9, l_10, l_15, l_24, l_32, l_39, l_40, l_47, l_48, l_50, l_57, l_60, l_63, l_80, l_95, l_99, l_100, l_120, l_126, l_128, l_1000, l_9999, l_10000, L_0, L_1, L_2, L_3, L_4, L_5, L_7, L_9, L_15, L_40, L_50, L_99, L_127, L_9999, c_ltT, c_ltF, c_leT, c_leF, c_eqT, c_eqF, n_leF, n_ltF, c_gltT, c_gltF, c_ggtT, c_ggtF, false_or, or_false, or_self, true_or, or_true]
  rw [e]
  rcases lines_r hn (m + 1) n 0 [] _ 0 (nI 0) (by omega) (by omega) hR (Or.inl rfl) (fun _ => rfl) with ⟨q, w, R', t1, t2, t3, t4⟩ | ⟨k, q, w, R', t1, t2, t3, t4⟩
  · exact Or.inl ⟨q, w, R', t1, t2, t3, t4⟩
  · rw [if_pos rfl] at t4
    subst t4
    exact Or.inr ⟨k, q, R', t1, t2, t3⟩
