/-! the codes worked out on the class's stack -/
def SK (st : List Int32) (C : Mm) : Prop := C.1 32 5 = nI st.length ∧ ∀ i, i < st.length → C.1 35 i = st.getD (st.length - 1 - i) 0
theorem pop_l {st : List Int32} {C : Mm} (h : SK st C) (hl : st.length ≤ 128) : ∃ C', fX3_pop C = some (hd0 st, C') ∧ SK st.tail C' := by
  obtain ⟨h1, h2⟩ := h
  unfold fX3_pop
  cases st with
  | nil =>
    have h1 : C.1 32 5 = nI 0 := h1
    refine ⟨C, ?_, h1, fun i hi => absurd hi (by show ¬ i < 0; omega)⟩
    simp (disch := omega) only [h1, ↓lt_d, eq_self, lN_add, i_l, wTn, wFa, wFb, wCT, wCF, mNe, mNe2, mLt, mLe, bp_s, bn_s, n_clampS, nI_1, nI_add, pk_sub, nI_mul, wrI_at, wrI_2, wrL_at, wrL_1, true_and, false_and, and_true, and_false, and_self, ↓reduceIte, Nat.reduceEqDiff, Nat.reduceAdd, Nat.reduceMul, Nat.add_zero, Nat.zero_add, reduceCtorEq, l_0, l_1, l_2, l_3, l_4, l_5, l_6, l_7, l_8, l_9, l_10, l_15, l_24, l_32, l_39, l_40, l_47, l_48, l_50, l_57, l_60, l_63, l_80, l_95, l_99, l_100, l_120, l_126, l_128, l_1000, l_9999, l_10000, L_0, L_1, L_2, L_3, L_4, L_5, L_7, L_9, L_15, L_40, L_50, L_99, L_127, L_9999, c_ltT, c_ltF, c_leT, c_leF, c_eqT, c_eqF, n_leF, n_ltF, c_gltT, c_gltF, c_ggtT, c_ggtF, false_or, or_false, or_self, true_or, or_true]
    rfl
  | cons x st =>
    have hl1 : st.length < 128 := hl
    have h1 : C.1 32 5 = nI (st.length + 1) := h1
    have hx : C.1 35 st.length = x := by
      rw [h2 st.length (by show _ < st.length + 1; omega)]
      show (x :: st).getD (st.length + 1 - 1 - st.length) 0 = x
      rw [show st.length + 1 - 1 - st.length = 0 by omega]
      rfl
    refine ⟨wrI C 32 5 (nI st.length), ?_, ?_, fun i hi => ?_⟩
    · have l_128 : (128 : Int32) = nI 128 := by decide
      simp (disch := omega) only [h1, Nat.add_sub_cancel, hx, ↓lt_d, eq_self, lN_add, i_l, wTn, wFa, wFb, wCT, wCF, mNe, mNe2, mLt, mLe, bp_s, bn_s, n_clampS, nI_1, nI_add, pk_sub, nI_mul, wrI_at, wrI_2, wrL_at, wrL_1, true_and, false_and, and_true, and_false, and_self, ↓reduceIte, Nat.reduceEqDiff, Nat.reduceAdd, Nat.reduceMul, Nat.add_zero, Nat.zero_add, reduceCtorEq, l_0, l_1, l_2, l_3, l_4, l_5, l_6, l_7, l_8, l_9, l_10, l_15, l_24, l_32, l_39, l_40, l_47, l_48, l_50, l_57, l_60, l_63, l_80, l_95, l_99, l_100, l_120, l_126, l_128, l_1000, l_9999, l_10000, L_0, L_1, L_2, L_3, L_4, L_5, L_7, L_9, L_15, L_40, L_50, L_99, L_127, L_9999, c_ltT, c_ltF, c_leT, c_leF, c_eqT, c_eqF, n_leF, n_ltF, c_gltT, c_gltF, c_ggtT, c_ggtF, false_or, or_false, or_self, true_or, or_true]
      rfl
    · simp (disch := omega) only [↓lt_d, eq_self, lN_add, i_l, wTn, wFa, wFb, wCT, wCF, mNe, mNe2, mLt, mLe, bp_s, bn_s, n_clampS, nI_1, nI_add, pk_sub, nI_mul, wrI_at, wrI_2, wrL_at, wrL_1, true_and, false_and, and_true, and_false, and_self, ↓reduceIte, Nat.reduceEqDiff, Nat.reduceAdd, Nat.reduceMul, Nat.add_zero, Nat.zero_add, reduceCtorEq, l_0, l_1, l_2, l_3, l_4, l_5, l_6, l_7, l_8, l_9, l_10, l_15, l_24, l_32, l_39, l_40, l_47, l_48, l_50, l_57, l_60, l_63, l_80, l_95, l_99, l_100, l_120, l_126, l_128, l_1000, l_9999, l_10000, L_0, L_1, L_2, L_3, L_4, L_5, L_7, L_9, L_15, L_40, L_50, L_99, L_127, L_9999, c_ltT, c_ltF, c_leT, c_leF, c_eqT, c_eqF, n_leF, n_ltF, c_gltT, c_gltF, c_ggtT, c_ggtF, false_or, or_false, or_self, true_or, or_true]
      rfl
    · have hi : i < st.length := hi
      rw [wrI_at, if_neg (by omega), h2 i (by show _ < st.length + 1; omega)]
      show (x :: st).getD (st.length + 1 - 1 - i) 0 = st.getD (st.length - 1 - i) 0
      rw [show st.length + 1 - 1 - i = (st.length - 1 - i) + 1 by omega]
      rfl
theorem push_l {st : List Int32} {C : Mm} {v : Int32} (h : SK st C) (hl : st.length < 128) : ∃ C', fX3_push v C = some C' ∧ SK (v :: st) C' := by
  obtain ⟨h1, h2⟩ := h
  unfold fX3_push
  refine ⟨wrI (wrI C 35 st.length v) 32 5 (nI (st.length + 1)), ?_, ?_, fun i hi => ?_⟩
  · simp (disch := omega) only [h1, ↓lt_d, eq_self, lN_add, i_l, wTn, wFa, wFb, wCT, wCF, mNe, mNe2, mLt, mLe, bp_s, bn_s, n_clampS, nI_1, nI_add, pk_sub, nI_mul, wrI_at, wrI_2, wrL_at, wrL_1, true_and, false_and, and_true, and_false, and_self, ↓reduceIte, Nat.reduceEqDiff, Nat.reduceAdd, Nat.reduceMul, Nat.add_zero, Nat.zero_add, reduceCtorEq, l_0, l_1, l_2, l_3, l_4, l_5, l_6, l_7, l_8, l_9, l_10, l_15, l_24, l_32, l_39, l_40, l_47, l_48, l_50, l_57, l_60, l_63, l_80, l_95, l_99, l_100, l_120, l_126, l_128, l_1000, l_9999, l_10000, L_0, L_1, L_2, L_3, L_4, L_5, L_7, L_9, L_15, L_40, L_50, L_99, L_127, L_9999, c_ltT, c_ltF, c_leT, c_leF, c_eqT, c_eqF, n_leF, n_ltF, c_gltT, c_gltF, c_ggtT, c_ggtF, false_or, or_false, or_self, true_or, or_true]
  · simp (disch := omega) only [↓lt_d, eq_self, lN_add, i_l, wTn, wFa, wFb, wCT, wCF, mNe, mNe2, mLt, mLe, bp_s, bn_s, n_clampS, nI_1, nI_add, pk_sub, nI_mul, wrI_at, wrI_2, wrL_at, wrL_1, true_and, false_and, and_true, and_false, and_self, ↓reduceIte, Nat.reduceEqDiff, Nat.reduceAdd, Nat.reduceMul, Nat.add_zero, Nat.zero_add, reduceCtorEq, l_0, l_1, l_2, l_3, l_4, l_5, l_6, l_7, l_8, l_9, l_10, l_15, l_24, l_32, l_39, l_40, l_47, l_48, l_50, l_57, l_60, l_63, l_80, l_95, l_99, l_100, l_120, l_126, l_128, l_1000, l_9999, l_10000, L_0, L_1, L_2, L_3, L_4, L_5, L_7, L_9, L_15, L_40, L_50, L_99, L_127, L_9999, c_ltT, c_ltF, c_leT, c_leF, c_eqT, c_eqF, n_leF, n_ltF, c_gltT, c_gltF, c_ggtT, c_ggtF, false_or, or_false, or_self, true_or, or_true]
    rfl
  · have hi : i < st.length + 1 := hi
    rw [wrI_at, if_neg (by omega), wrI_at]
    by_cases hik : i = st.length
    · subst hik
      rw [if_pos ⟨rfl, rfl⟩]
      show v = (v :: st).getD (st.length + 1 - 1 - st.length) 0
      rw [show st.length + 1 - 1 - st.length = 0 by omega]
      rfl
    · rw [if_neg (by omega), h2 i (by omega)]
      show _ = (v :: st).getD (st.length + 1 - 1 - i) 0
      rw [show st.length + 1 - 1 - i = (st.length - 1 - i) + 1 by omega]
      rfl
/-! noughts -/
def nnF : Nat → Nat → Nat
  | 0, _ => 0
  | f + 1, v => if v = 0 then 0 else (if v % 10 = 0 then 1 else 0) + nnF f (v / 10)
theorem nought_h {n : Nat} : ∀ f v x fu, v < 10 ^ f → v < 2 ^ 31 → f < fu → fX4_noughtsIn_h4 n fu (nI x) (nI v) = some (nI (x + nnF f v)) ∧ fX11_noughtsOf_h4 n fu (nI x) (nI v) = some (nI (x + nnF f v)) := by
  intro f
  induction f with
  | zero =>
    intro v x fu hv hv2 hf
    obtain ⟨fu, rfl⟩ : ∃ f, fu = f + 1 := ⟨fu - 1, by omega⟩
    have : v = 0 := by simpa using hv
    subst this
    rw [fX4_noughtsIn_h4.eq_2, fX11_noughtsOf_h4.eq_2]
    unfold nnF
    refine ⟨?_, ?_⟩
    · simp (disch := omega) only [↓lt_d, eq_self, lN_add, i_l, wTn, wFa, wFb, wCT, wCF, mNe, mNe2, mLt, mLe, bp_s, bn_s, n_clampS, nI_1, nI_add, pk_sub, nI_mul, wrI_at, wrI_2, wrL_at, wrL_1, true_and, false_and, and_true, and_false, and_self, ↓reduceIte, Nat.reduceEqDiff, Nat.reduceAdd, Nat.reduceMul, Nat.add_zero, Nat.zero_add, reduceCtorEq, l_0, l_1, l_2, l_3, l_4, l_5, l_6, l_7, l_8, l_9, l_10, l_15, l_24, l_32, l_39, l_40, l_47, l_48, l_50, l_57, l_60, l_63, l_80, l_95, l_99, l_100, l_120, l_126, l_128, l_1000, l_9999, l_10000, L_0, L_1, L_2, L_3, L_4, L_5, L_7, L_9, L_15, L_40, L_50, L_99, L_127, L_9999, c_ltT, c_ltF, c_leT, c_leF, c_eqT, c_eqF, n_leF, n_ltF, c_gltT, c_gltF, c_ggtT, c_ggtF, false_or, or_false, or_self, true_or, or_true]
    · simp (disch := omega) only [↓lt_d, eq_self, lN_add, i_l, wTn, wFa, wFb, wCT, wCF, mNe, mNe2, mLt, mLe, bp_s, bn_s, n_clampS, nI_1, nI_add, pk_sub, nI_mul, wrI_at, wrI_2, wrL_at, wrL_1, true_and, false_and, and_true, and_false, and_self, ↓reduceIte, Nat.reduceEqDiff, Nat.reduceAdd, Nat.reduceMul, Nat.add_zero, Nat.zero_add, reduceCtorEq, l_0, l_1, l_2, l_3, l_4, l_5, l_6, l_7, l_8, l_9, l_10, l_15, l_24, l_32, l_39, l_40, l_47, l_48, l_50, l_57, l_60, l_63, l_80, l_95, l_99, l_100, l_120, l_126, l_128, l_1000, l_9999, l_10000, L_0, L_1, L_2, L_3, L_4, L_5, L_7, L_9, L_15, L_40, L_50, L_99, L_127, L_9999, c_ltT, c_ltF, c_leT, c_leF, c_eqT, c_eqF, n_leF, n_ltF, c_gltT, c_gltF, c_ggtT, c_ggtF, false_or, or_false, or_self, true_or, or_true]
  | succ f ih =>
    intro v x fu hv hv2 hf
    obtain ⟨fu, rfl⟩ : ∃ f, fu = f + 1 := ⟨fu - 1, by omega⟩
    rw [fX4_noughtsIn_h4.eq_2, fX11_noughtsOf_h4.eq_2]
    unfold nnF fX4_noughtsIn_b18 fX11_noughtsOf_b21
    by_cases h0 : v = 0
    · subst h0
      refine ⟨?_, ?_⟩
      · simp (disch := omega) only [↓lt_d, eq_self, lN_add, i_l, wTn, wFa, wFb, wCT, wCF, mNe, mNe2, mLt, mLe, bp_s, bn_s, n_clampS, nI_1, nI_add, pk_sub, nI_mul, wrI_at, wrI_2, wrL_at, wrL_1, true_and, false_and, and_true, and_false, and_self, ↓reduceIte, Nat.reduceEqDiff, Nat.reduceAdd, Nat.reduceMul, Nat.add_zero, Nat.zero_add, reduceCtorEq, l_0, l_1, l_2, l_3, l_4, l_5, l_6, l_7, l_8, l_9, l_10, l_15, l_24, l_32, l_39, l_40, l_47, l_48, l_50, l_57, l_60, l_63, l_80, l_95, l_99, l_100, l_120, l_126, l_128, l_1000, l_9999, l_10000, L_0, L_1, L_2, L_3, L_4, L_5, L_7, L_9, L_15, L_40, L_50, L_99, L_127, L_9999, c_ltT, c_ltF, c_leT, c_leF, c_eqT, c_eqF, n_leF, n_ltF, c_gltT, c_gltF, c_ggtT, c_ggtF, false_or, or_false, or_self, true_or, or_true]
      · simp (disch := omega) only [↓lt_d, eq_self, lN_add, i_l, wTn, wFa, wFb, wCT, wCF, mNe, mNe2, mLt, mLe, bp_s, bn_s, n_clampS, nI_1, nI_add, pk_sub, nI_mul, wrI_at, wrI_2, wrL_at, wrL_1, true_and, false_and, and_true, and_false, and_self, ↓reduceIte, Nat.reduceEqDiff, Nat.reduceAdd, Nat.reduceMul, Nat.add_zero, Nat.zero_add, reduceCtorEq, l_0, l_1, l_2, l_3, l_4, l_5, l_6, l_7, l_8, l_9, l_10, l_15, l_24, l_32, l_39, l_40, l_47, l_48, l_50, l_57, l_60, l_63, l_80, l_95, l_99, l_100, l_120, l_126, l_128, l_1000, l_9999, l_10000, L_0, L_1, L_2, L_3, L_4, L_5, L_7, L_9, L_15, L_40, L_50, L_99, L_127, L_9999, c_ltT, c_ltF, c_leT, c_leF, c_eqT, c_eqF, n_leF, n_ltF, c_gltT, c_gltF, c_ggtT, c_ggtF, false_or, or_false, or_self, true_or, or_true]
    · have hv3 : v / 10 < 10 ^ f := by
        rw [Nat.pow_succ] at hv
        omega
      rw [if_neg h0]
      by_cases h1 : v % 10 = 0
      · obtain ⟨e, e2⟩ := ih (v / 10) (x + 1) fu hv3 (by omega) (by omega)
        rw [if_pos h1, show x + (1 + nnF f (v / 10)) = x + 1 + nnF f (v / 10) by omega]
        refine ⟨?_, ?_⟩
        · simp (disch := omega) only [rm, dv, h1, ↓lt_d, eq_self, lN_add, i_l, wTn, wFa, wFb, wCT, wCF, mNe, mNe2, mLt, mLe, bp_s, bn_s, n_clampS, nI_1, nI_add, pk_sub, nI_mul, wrI_at, wrI_2, wrL_at, wrL_1, true_and, false_and, and_true, and_false, and_self, ↓reduceIte, Nat.reduceEqDiff, Nat.reduceAdd, Nat.reduceMul, Nat.add_zero, Nat.zero_add, reduceCtorEq, l_0, l_1, l_2, l_3, l_4, l_5, l_6, l_7, l_8, l_9, l_10, l_15, l_24, l_32, l_39, l_40, l_47, l_48, l_50, l_57, l_60, l_63, l_80, l_95, l_99, l_100, l_120, l_126, l_128, l_1000, l_9999, l_10000, L_0, L_1, L_2, L_3, L_4, L_5, L_7, L_9, L_15, L_40, L_50, L_99, L_127, L_9999, c_ltT, c_ltF, c_leT, c_leF, c_eqT, c_eqF, n_leF, n_ltF, c_gltT, c_gltF, c_ggtT, c_ggtF, false_or, or_false, or_self, true_or, or_true]
          exact e
        · simp (disch := omega) only [rm, dv, h1, ↓lt_d, eq_self, lN_add, i_l, wTn, wFa, wFb, wCT, wCF, mNe, mNe2, mLt, mLe, bp_s, bn_s, n_clampS, nI_1, nI_add, pk_sub, nI_mul, wrI_at, wrI_2, wrL_at, wrL_1, true_and, false_and, and_true, and_false, and_self, ↓reduceIte, Nat.reduceEqDiff, Nat.reduceAdd, Nat.reduceMul, Nat.add_zero, Nat.zero_add, reduceCtorEq, l_0, l_1, l_2, l_3, l_4, l_5, l_6, l_7, l_8, l_9, l_10, l_15, l_24, l_32, l_39, l_40, l_47, l_48, l_50, l_57, l_60, l_63, l_80, l_95, l_99, l_100, l_120, l_126, l_128, l_1000, l_9999, l_10000, L_0, L_1, L_2, L_3, L_4, L_5, L_7, L_9, L_15, L_40, L_50, L_99, L_127, L_9999, c_ltT, c_ltF, c_leT, c_leF, c_eqT, c_eqF, n_leF, n_ltF, c_gltT, c_gltF, c_ggtT, c_ggtF, false_or, or_false, or_self, true_or, or_true]
          exact e2
      · obtain ⟨e, e2⟩ := ih (v / 10) x fu hv3 (by omega) (by omega)
        rw [if_neg h1, Nat.zero_add]
        refine ⟨?_, ?_⟩
        · simp (disch := omega) only [rm, dv, ↓lt_d, eq_self, lN_add, i_l, wTn, wFa, wFb, wCT, wCF, mNe, mNe2, mLt, mLe, bp_s, bn_s, n_clampS, nI_1, nI_add, pk_sub, nI_mul, wrI_at, wrI_2, wrL_at, wrL_1, true_and, false_and, and_true, and_false, and_self, ↓reduceIte, Nat.reduceEqDiff, Nat.reduceAdd, Nat.reduceMul, Nat.add_zero, Nat.zero_add, reduceCtorEq, l_0, l_1, l_2, l_3, l_4, l_5, l_6, l_7, l_8, l_9, l_10, l_15, l_24, l_32, l_39, l_40, l_47, l_48, l_50, l_57, l_60, l_63, l_80, l_95, l_99, l_100, l_120, l_126, l_128, l_1000, l_9999, l_10000, L_0, L_1, L_2, L_3, L_4, L_5, L_7, L_9, L_15, L_40, L_50, L_99, L_127, L_9999, c_ltT, c_ltF, c_leT, c_leF, c_eqT, c_eqF, n_leF, n_ltF, c_gltT, c_gltF, c_ggtT, c_ggtF, false_or, or_false, or_self, true_or, or_true]
          exact e
        · simp (disch := omega) only [rm, dv, ↓lt_d, eq_self, lN_add, i_l, wTn, wFa, wFb, wCT, wCF, mNe, mNe2, mLt, mLe, bp_s, bn_s, n_clampS, nI_1, nI_add, pk_sub, nI_mul, wrI_at, wrI_2, wrL_at, wrL_1, true_and, false_and, and_true, and_false, and_self, ↓reduceIte, Nat.reduceEqDiff, Nat.reduceAdd, Nat.reduceMul, Nat.add_zero, Nat.zero_add, reduceCtorEq, l_0, l_1, l_2, l_3, l_4, l_5, l_6, l_7, l_8, l_9, l_10, l_15, l_24, l_32, l_39, l_40, l_47, l_48, l_50, l_57, l_60, l_63, l_80, l_95, l_99, l_100, l_120, l_126, l_128, l_1000, l_9999, l_10000, L_0, L_1, L_2, L_3, L_4, L_5, L_7, L_9, L_15, L_40, L_50, L_99, L_127, L_9999, c_ltT, c_ltF, c_leT, c_leF, c_eqT, c_eqF, n_leF, n_ltF, c_gltT, c_gltF, c_ggtT, c_ggtF, false_or, or_false, or_self, true_or, or_true]
          exact e2
theorem nought_l {n v : Nat} (hn : 1000 ≤ n) (hv : v < 2 ^ 31) : fX4_noughtsIn n (nI v) = some (nI (nnF 20 v)) ∧ fX11_noughtsOf n (nI v) = some (nI (nnF 20 v)) := by
  have e := nought_h (n := n) 20 v 0 n (by omega) hv (by omega)
  rw [Nat.zero_add] at e
  exact e
/-- what a name stands for -/
def vv (a b tb cp : Nat) (c : Nat) : Nat := if c = 109 then dgs a else if c = 110 then dgs b else if c = 120 then a % 10 else if c = 121 then b % 10 else if c = 100 then dif a b else if c = 122 then nnF 20 a + nnF 20 b else if c = 116 then tb else cp
def VV (a b tb cp : Nat) (x : Int32) : Int32 := nI (vv a b tb cp x.toNatClampNeg)
theorem isNm_e {c : Nat} (h : isNm c = true) : c = 109 ∨ c = 110 ∨ c = 120 ∨ c = 121 ∨ c = 100 ∨ c = 122 ∨ c = 116 ∨ c = 99 := by
  unfold isNm at h
  simp only [Bool.or_eq_true, beq_iff_eq] at h
  omega
theorem VV_l {a b tb cp c : Nat} (h : isNm c = true) : VV a b tb cp (nI c) = nI (vv a b tb cp c) := by
  have := isNm_e h
  unfold VV
  rw [n_clampS (by omega)]
theorem val_l {n jc a b tb cp c : Nat} (hn : 1000 ≤ n) (ha : 1 ≤ a) (ha2 : a ≤ 9999) (hb : 1 ≤ b) (hb2 : b ≤ 9999) {C : Mm} (h3 : C.1 (hdn jc) 3 = nI tb) (h4 : C.1 (hdn jc) 4 = nI cp) (h : isNm c = true) : fX3_valueOf n jc (nI c) (nI a) (nI b) C = some (VV a b tb cp (nI c)) := by
  rw [VV_l h]
  have e3 := num_l (jc := jc) (i := 3) (C := C) (by omega)
  rw [h3] at e3
  have ed := iabs_l (a := a) (b := b) (by omega) (by omega)
  have na := (nought_l (n := n) (v := a) hn (by omega)).1
  have nb := (nought_l (n := n) (v := b) hn (by omega)).1
  unfold fX3_valueOf fX5_capacity
  have sa := sizeOf_l (n := n) (v := a) hn (by omega)
  have sb := sizeOf_l (n := n) (v := b) hn (by omega)
  rw [sz1_l ha (by omega)] at sa
  rw [sz1_l hb (by omega)] at sb
  rcases isNm_e h with rfl | rfl | rfl | rfl | rfl | rfl | rfl | rfl
  · simp (disch := omega) only [sa, l_109, l_110, l_116, l_121, l_122, show vv a b tb cp 109 = dgs a from rfl, ↓lt_d, eq_self, lN_add, i_l, wTn, wFa, wFb, wCT, wCF, mNe, mNe2, mLt, mLe, bp_s, bn_s, n_clampS, nI_1, nI_add, pk_sub, nI_mul, wrI_at, wrI_2, wrL_at, wrL_1, true_and, false_and, and_true, and_false, and_self, ↓reduceIte, Nat.reduceEqDiff, Nat.reduceAdd, Nat.reduceMul, Nat.add_zero, Nat.zero_add, reduceCtorEq, l_0, l_1, l_2, l_3, l_4, l_5, l_6, l_7, l_8, l_9, l_10, l_15, l_24, l_32, l_39, l_40, l_47, l_48, l_50, l_57, l_60, l_63, l_80, l_95, l_99, l_100, l_120, l_126, l_128, l_1000, l_9999, l_10000, L_0, L_1, L_2, L_3, L_4, L_5, L_7, L_9, L_15, L_40, L_50, L_99, L_127, L_9999, c_ltT, c_ltF, c_leT, c_leF, c_eqT, c_eqF, n_leF, n_ltF, c_gltT, c_gltF, c_ggtT, c_ggtF, false_or, or_false, or_self, true_or, or_true]
  · simp (disch := omega) only [sb, l_109, l_110, l_116, l_121, l_122, show vv a b tb cp 110 = dgs b from rfl, ↓lt_d, eq_self, lN_add, i_l, wTn, wFa, wFb, wCT, wCF, mNe, mNe2, mLt, mLe, bp_s, bn_s, n_clampS, nI_1, nI_add, pk_sub, nI_mul, wrI_at, wrI_2, wrL_at, wrL_1, true_and, false_and, and_true, and_false, and_self, ↓reduceIte, Nat.reduceEqDiff, Nat.reduceAdd, Nat.reduceMul, Nat.add_zero, Nat.zero_add, reduceCtorEq, l_0, l_1, l_2, l_3, l_4, l_5, l_6, l_7, l_8, l_9, l_10, l_15, l_24, l_32, l_39, l_40, l_47, l_48, l_50, l_57, l_60, l_63, l_80, l_95, l_99, l_100, l_120, l_126, l_128, l_1000, l_9999, l_10000, L_0, L_1, L_2, L_3, L_4, L_5, L_7, L_9, L_15, L_40, L_50, L_99, L_127, L_9999, c_ltT, c_ltF, c_leT, c_leF, c_eqT, c_eqF, n_leF, n_ltF, c_gltT, c_gltF, c_ggtT, c_ggtF, false_or, or_false, or_self, true_or, or_true]
  · simp (disch := omega) only [rm, l_109, l_110, l_116, l_121, l_122, show vv a b tb cp 120 = a % 10 from rfl, ↓lt_d, eq_self, lN_add, i_l, wTn, wFa, wFb, wCT, wCF, mNe, mNe2, mLt, mLe, bp_s, bn_s, n_clampS, nI_1, nI_add, pk_sub, nI_mul, wrI_at, wrI_2, wrL_at, wrL_1, true_and, false_and, and_true, and_false, and_self, ↓reduceIte, Nat.reduceEqDiff, Nat.reduceAdd, Nat.reduceMul, Nat.add_zero, Nat.zero_add, reduceCtorEq, l_0, l_1, l_2, l_3, l_4, l_5, l_6, l_7, l_8, l_9, l_10, l_15, l_24, l_32, l_39, l_40, l_47, l_48, l_50, l_57, l_60, l_63, l_80, l_95, l_99, l_100, l_120, l_126, l_128, l_1000, l_9999, l_10000, L_0, L_1, L_2, L_3, L_4, L_5, L_7, L_9, L_15, L_40, L_50, L_99, L_127, L_9999, c_ltT, c_ltF, c_leT, c_leF, c_eqT, c_eqF, n_leF, n_ltF, c_gltT, c_gltF, c_ggtT, c_ggtF, false_or, or_false, or_self, true_or, or_true]
  · simp (disch := omega) only [rm, l_109, l_110, l_116, l_121, l_122, show vv a b tb cp 121 = b % 10 from rfl, ↓lt_d, eq_self, lN_add, i_l, wTn, wFa, wFb, wCT, wCF, mNe, mNe2, mLt, mLe, bp_s, bn_s, n_clampS, nI_1, nI_add, pk_sub, nI_mul, wrI_at, wrI_2, wrL_at, wrL_1, true_and, false_and, and_true, and_false, and_self, ↓reduceIte, Nat.reduceEqDiff, Nat.reduceAdd, Nat.reduceMul, Nat.add_zero, Nat.zero_add, reduceCtorEq, l_0, l_1, l_2, l_3, l_4, l_5, l_6, l_7, l_8, l_9, l_10, l_15, l_24, l_32, l_39, l_40, l_47, l_48, l_50, l_57, l_60, l_63, l_80, l_95, l_99, l_100, l_120, l_126, l_128, l_1000, l_9999, l_10000, L_0, L_1, L_2, L_3, L_4, L_5, L_7, L_9, L_15, L_40, L_50, L_99, L_127, L_9999, c_ltT, c_ltF, c_leT, c_leF, c_eqT, c_eqF, n_leF, n_ltF, c_gltT, c_gltF, c_ggtT, c_ggtF, false_or, or_false, or_self, true_or, or_true]
  · simp (disch := omega) only [↓ed, l_109, l_110, l_116, l_121, l_122, show vv a b tb cp 100 = dif a b from rfl, ↓lt_d, eq_self, lN_add, i_l, wTn, wFa, wFb, wCT, wCF, mNe, mNe2, mLt, mLe, bp_s, bn_s, n_clampS, nI_1, nI_add, pk_sub, nI_mul, wrI_at, wrI_2, wrL_at, wrL_1, true_and, false_and, and_true, and_false, and_self, ↓reduceIte, Nat.reduceEqDiff, Nat.reduceAdd, Nat.reduceMul, Nat.add_zero, Nat.zero_add, reduceCtorEq, l_0, l_1, l_2, l_3, l_4, l_5, l_6, l_7, l_8, l_9, l_10, l_15, l_24, l_32, l_39, l_40, l_47, l_48, l_50, l_57, l_60, l_63, l_80, l_95, l_99, l_100, l_120, l_126, l_128, l_1000, l_9999, l_10000, L_0, L_1, L_2, L_3, L_4, L_5, L_7, L_9, L_15, L_40, L_50, L_99, L_127, L_9999, c_ltT, c_ltF, c_leT, c_leF, c_eqT, c_eqF, n_leF, n_ltF, c_gltT, c_gltF, c_ggtT, c_ggtF, false_or, or_false, or_self, true_or, or_true]
  · simp (disch := omega) only [na, nb, l_109, l_110, l_116, l_121, l_122, show vv a b tb cp 122 = nnF 20 a + nnF 20 b from rfl, ↓lt_d, eq_self, lN_add, i_l, wTn, wFa, wFb, wCT, wCF, mNe, mNe2, mLt, mLe, bp_s, bn_s, n_clampS, nI_1, nI_add, pk_sub, nI_mul, wrI_at, wrI_2, wrL_at, wrL_1, true_and, false_and, and_true, and_false, and_self, ↓reduceIte, Nat.reduceEqDiff, Nat.reduceAdd, Nat.reduceMul, Nat.add_zero, Nat.zero_add, reduceCtorEq, l_0, l_1, l_2, l_3, l_4, l_5, l_6, l_7, l_8, l_9, l_10, l_15, l_24, l_32, l_39, l_40, l_47, l_48, l_50, l_57, l_60, l_63, l_80, l_95, l_99, l_100, l_120, l_126, l_128, l_1000, l_9999, l_10000, L_0, L_1, L_2, L_3, L_4, L_5, L_7, L_9, L_15, L_40, L_50, L_99, L_127, L_9999, c_ltT, c_ltF, c_leT, c_leF, c_eqT, c_eqF, n_leF, n_ltF, c_gltT, c_gltF, c_ggtT, c_ggtF, false_or, or_false, or_self, true_or, or_true]
  · simp (disch := omega) only [e3, l_109, l_110, l_116, l_121, l_122, show vv a b tb cp 116 = tb from rfl, ↓lt_d, eq_self, lN_add, i_l, wTn, wFa, wFb, wCT, wCF, mNe, mNe2, mLt, mLe, bp_s, bn_s, n_clampS, nI_1, nI_add, pk_sub, nI_mul, wrI_at, wrI_2, wrL_at, wrL_1, true_and, false_and, and_true, and_false, and_self, ↓reduceIte, Nat.reduceEqDiff, Nat.reduceAdd, Nat.reduceMul, Nat.add_zero, Nat.zero_add, reduceCtorEq, l_0, l_1, l_2, l_3, l_4, l_5, l_6, l_7, l_8, l_9, l_10, l_15, l_24, l_32, l_39, l_40, l_47, l_48, l_50, l_57, l_60, l_63, l_80, l_95, l_99, l_100, l_120, l_126, l_128, l_1000, l_9999, l_10000, L_0, L_1, L_2, L_3, L_4, L_5, L_7, L_9, L_15, L_40, L_50, L_99, L_127, L_9999, c_ltT, c_ltF, c_leT, c_leF, c_eqT, c_eqF, n_leF, n_ltF, c_gltT, c_gltF, c_ggtT, c_ggtF, false_or, or_false, or_self, true_or, or_true]
  · simp (disch := omega) only [h4, l_109, l_110, l_116, l_121, l_122, show vv a b tb cp 99 = cp from rfl, ↓lt_d, eq_self, lN_add, i_l, wTn, wFa, wFb, wCT, wCF, mNe, mNe2, mLt, mLe, bp_s, bn_s, n_clampS, nI_1, nI_add, pk_sub, nI_mul, wrI_at, wrI_2, wrL_at, wrL_1, true_and, false_and, and_true, and_false, and_self, ↓reduceIte, Nat.reduceEqDiff, Nat.reduceAdd, Nat.reduceMul, Nat.add_zero, Nat.zero_add, reduceCtorEq, l_0, l_1, l_2, l_3, l_4, l_5, l_6, l_7, l_8, l_9, l_10, l_15, l_24, l_32, l_39, l_40, l_47, l_48, l_50, l_57, l_60, l_63, l_80, l_95, l_99, l_100, l_120, l_126, l_128, l_1000, l_9999, l_10000, L_0, L_1, L_2, L_3, L_4, L_5, L_7, L_9, L_15, L_40, L_50, L_99, L_127, L_9999, c_ltT, c_ltF, c_leT, c_leF, c_eqT, c_eqF, n_leF, n_ltF, c_gltT, c_gltF, c_ggtT, c_ggtF, false_or, or_false, or_self, true_or, or_true]
theorem name_c {x : Int32} (h : ¬ fX3_isName x = 0) : ∃ c, isNm c = true ∧ x = nI c := by
  unfold fX3_isName at h
  repeat' split at h
  all_goals first
    | exact absurd rfl h
    | skip
  all_goals rename_i e
  · exact ⟨99, rfl, e⟩
  · exact ⟨100, rfl, e⟩
  · exact ⟨109, rfl, e⟩
  · exact ⟨110, rfl, e⟩
  · exact ⟨116, rfl, e⟩
  · exact ⟨120, rfl, e⟩
  · exact ⟨121, rfl, e⟩
  · exact ⟨122, rfl, e⟩
theorem xs1_len (V : Int32 → Int32) (k : Int32) (st : List Int32) : (xs1 V k st).length ≤ st.length + 1 := by
  unfold xs1
  repeat' split
  all_goals simp only [List.length_cons, List.length_tail]
  all_goals omega
theorem work_l {n jc v a b tb cp : Nat} (hn : 1000 ≤ n) (hv : isAB v a b) {st : List Int32} {C : Mm} (h : SK st C) (hl : st.length < 126) (h3 : C.1 (hdn jc) 3 = nI tb) (h4 : C.1 (hdn jc) 4 = nI cp) (hj : jc < 7) (k : Int32) : ∃ C', fX3_workOut n jc k (nI v) C = some C' ∧ SK (xs1 (VV a b tb cp) k st) C' := by
  obtain ⟨v1, v2, v3⟩ := ab_div hv
  have hvv := hv
  unfold isAB at hvv
  have hda : nI v / nI 10000 = nI a := by rw [dv v3 (by decide) (by decide), v1]
  have hdb : irm (nI v) (nI 10000) = nI b := by rw [rm v3 (by decide) (by decide), v2]
  unfold fX3_workOut fX3_workOut_b62 xs1
  by_cases hk : k < 0
  · rw [if_pos hk, if_pos hk]
    by_cases hm : fX3_isName (-k) = 0
    · rw [if_pos hm, if_pos hm]
      obtain ⟨C1, p1, p2⟩ := pop_l h (by omega)
      have t1 : st.tail.length ≤ st.length := by simp only [List.length_tail]; omega
      by_cases h33 : k = sg 33
      · rw [if_pos h33, if_pos (show k = -33 from h33)]
        obtain ⟨C2, q1, q2⟩ := push_l (v := if hd0 st = 0 then 1 else 0) p2 (by omega)
        refine ⟨C2, ?_, q2⟩
        rw [p1, bp_s]
        by_cases hx : hd0 st = 0
        · rw [if_pos hx] at q1 ⊢
          rw [q1]
          rfl
        · rw [if_neg hx] at q1 ⊢
          rw [q1]
          rfl
      · rw [if_neg h33, if_neg (show ¬ k = -33 from h33)]
        by_cases h126 : k = sg 126
        · rw [if_pos h126, if_pos (show k = -126 from h126)]
          obtain ⟨C2, q1, q2⟩ := push_l (v := -(hd0 st)) p2 (by omega)
          refine ⟨C2, ?_, q2⟩
          rw [p1, bp_s, q1]
          rfl
        · rw [if_neg h126, if_neg (show ¬ k = -126 from h126)]
          obtain ⟨C2, r1, r2⟩ := pop_l p2 (by omega)
          have t2 : st.tail.tail.length ≤ st.length := by simp only [List.length_tail]; omega
          obtain ⟨C3, q1, q2⟩ := push_l (v := jn (-k) (hd0 st.tail) (hd0 st)) r2 (by omega)
          refine ⟨C3, ?_, q2⟩
          rw [p1, bp_s, r1, bp_s, joined_l, bn_s, q1]
          rfl
    · rw [if_neg hm, if_neg hm]
      obtain ⟨c, c1, c2⟩ := name_c hm
      obtain ⟨C2, q1, q2⟩ := push_l (v := VV a b tb cp (-k)) h (by omega)
      refine ⟨C2, ?_, q2⟩
      have e := val_l (n := n) (jc := jc) (C := C) hn (show 1 ≤ a by omega) (by omega) (show 1 ≤ b by omega) (by omega) h3 h4 c1
      rw [l_10000, hda, hdb]
      rw [c2] at q1 ⊢
      rw [e, bn_s, q1]
      rfl
  · rw [if_neg hk, if_neg hk]
    obtain ⟨C2, q1, q2⟩ := push_l (v := k) h (by omega)
    exact ⟨C2, by rw [q1]; rfl, q2⟩
theorem nf_h {n jc v a b tb cp : Nat} (hn : 1000 ≤ n) (hv : isAB v a b) (hj : jc < 7) : ∀ (rest : List Int32) fu i st sk (C : Mm), (∀ k, k < rest.length → C.1 33 (i + k) = rest.getD k 0) → C.1 32 1 = nI (i + rest.length) → i + rest.length ≤ 121 → rest.length < fu → SK st C → st.length ≤ i → C.1 (hdn jc) 3 = nI tb → C.1 (hdn jc) 4 = nI cp → ∃ C', fX3_numberFor_h19 n jc fu (nI v) (if sk = true then nI 1 else nI 0) (nI i) C = some (nf (VV a b tb cp) rest st sk, C') := by
  intro rest
  have l_128 : (128 : Int32) = nI 128 := by decide
  have hh : hdn jc ≠ 32 ∧ hdn jc ≠ 35 := by unfold hdn; omega
  induction rest with
  | nil =>
    intro fu i st sk C hc h1 hi hf hs hl h3 h4
    obtain ⟨fu, rfl⟩ : ∃ f, fu = f + 1 := ⟨fu - 1, by omega⟩
    have h1 : C.1 32 1 = nI i := h1
    have hi : i ≤ 121 := hi
    refine ⟨C, ?_⟩
    rw [fX3_numberFor_h19.eq_2]
    simp (disch := omega) only [h1, ↓lt_d, eq_self, lN_add, i_l, wTn, wFa, wFb, wCT, wCF, mNe, mNe2, mLt, mLe, bp_s, bn_s, n_clampS, nI_1, nI_add, pk_sub, nI_mul, wrI_at, wrI_2, wrL_at, wrL_1, true_and, false_and, and_true, and_false, and_self, ↓reduceIte, Nat.reduceEqDiff, Nat.reduceAdd, Nat.reduceMul, Nat.add_zero, Nat.zero_add, reduceCtorEq, l_0, l_1, l_2, l_3, l_4, l_5, l_6, l_7, l_8, l_9, l_10, l_15, l_24, l_32, l_39, l_40, l_47, l_48, l_50, l_57, l_60, l_63, l_80, l_95, l_99, l_100, l_120, l_126, l_128, l_1000, l_9999, l_10000, L_0, L_1, L_2, L_3, L_4, L_5, L_7, L_9, L_15, L_40, L_50, L_99, L_127, L_9999, c_ltT, c_ltF, c_leT, c_leF, c_eqT, c_eqF, n_leF, n_ltF, c_gltT, c_gltF, c_ggtT, c_ggtF, false_or, or_false, or_self, true_or, or_true]
    rfl
  | cons x rest ih =>
    intro fu i st sk C hc h1 hi hf hs hl h3 h4
    obtain ⟨fu, rfl⟩ : ∃ f, fu = f + 1 := ⟨fu - 1, by omega⟩
    have h1 : C.1 32 1 = nI (i + (rest.length + 1)) := h1
    have hi : i + (rest.length + 1) ≤ 121 := hi
    have hf : rest.length + 1 < fu + 1 := hf
    have hx : C.1 33 i = x := hc 0 (by show 0 < rest.length + 1; omega)
    have hc2 : ∀ k, k < rest.length → C.1 33 (i + 1 + k) = rest.getD k 0 := by
      intro k hk
      rw [show i + 1 + k = i + (k + 1) by omega, hc (k + 1) (by show _ < rest.length + 1; omega)]
      rfl
    have next : ∀ st2 sk2 (C2 : Mm), ag fStk C C2 → SK st2 C2 → st2.length ≤ i + 1 → ∃ C', fX3_numberFor_h19 n jc fu (nI v) (if sk2 = true then nI 1 else nI 0) (nI (i + 1)) C2 = some (nf (VV a b tb cp) rest st2 sk2, C') := by
      intro st2 sk2 C2 hag hs2 hl2
      refine ih fu (i + 1) st2 sk2 C2 (fun k hk => ?_) ?_ (by omega) (by omega) hs2 hl2 ?_ ?_
      · rw [hag.1 _ _ (by unfold fStk; omega)]
        exact hc2 k hk
      · rw [hag.1 _ _ (by unfold fStk; omega), h1, show i + (rest.length + 1) = i + 1 + rest.length by omega]
      · rw [hag.1 _ _ (by unfold fStk; omega)]
        exact h3
      · rw [hag.1 _ _ (by unfold fStk; omega)]
        exact h4
    have ihd : C.1 32 1 = nI (i + rest.length + 1) := h1
    rw [fX3_numberFor_h19.eq_2]
    unfold fX3_numberFor_b88 fX3_numberFor_b53 fX3_numberFor_b100
    cases sk with
    | true =>
      have e0 : nf (VV a b tb cp) (x :: rest) st true = nf (VV a b tb cp) rest st (decide (x ≠ sg 59)) := rfl
      rw [e0]
      by_cases h59 : x = sg 59
      · rw [decide_eq_false (fun z => z h59)]
        obtain ⟨C', e⟩ := next st false C ag_rf hs (by omega)
        refine ⟨C', ?_⟩
        have h59' : (x = -nI 59) = True := eq_true h59
        simp only [Bool.false_eq_true, ↓reduceIte] at e
        simp (disch := omega) only [h1, hx, l_59, h59', ↓lt_d, eq_self, lN_add, i_l, wTn, wFa, wFb, wCT, wCF, mNe, mNe2, mLt, mLe, bp_s, bn_s, n_clampS, nI_1, nI_add, pk_sub, nI_mul, wrI_at, wrI_2, wrL_at, wrL_1, true_and, false_and, and_true, and_false, and_self, ↓reduceIte, Nat.reduceEqDiff, Nat.reduceAdd, Nat.reduceMul, Nat.add_zero, Nat.zero_add, reduceCtorEq, l_0, l_1, l_2, l_3, l_4, l_5, l_6, l_7, l_8, l_9, l_10, l_15, l_24, l_32, l_39, l_40, l_47, l_48, l_50, l_57, l_60, l_63, l_80, l_95, l_99, l_100, l_120, l_126, l_128, l_1000, l_9999, l_10000, L_0, L_1, L_2, L_3, L_4, L_5, L_7, L_9, L_15, L_40, L_50, L_99, L_127, L_9999, c_ltT, c_ltF, c_leT, c_leF, c_eqT, c_eqF, n_leF, n_ltF, c_gltT, c_gltF, c_ggtT, c_ggtF, false_or, or_false, or_self, true_or, or_true]
        exact e
      · rw [decide_eq_true h59]
        obtain ⟨C', e⟩ := next st true C ag_rf hs (by omega)
        refine ⟨C', ?_⟩
        have h59' : (x = -nI 59) = False := eq_false h59
        simp only [↓reduceIte] at e
        simp (disch := omega) only [h1, hx, l_59, h59', ↓lt_d, eq_self, lN_add, i_l, wTn, wFa, wFb, wCT, wCF, mNe, mNe2, mLt, mLe, bp_s, bn_s, n_clampS, nI_1, nI_add, pk_sub, nI_mul, wrI_at, wrI_2, wrL_at, wrL_1, true_and, false_and, and_true, and_false, and_self, ↓reduceIte, Nat.reduceEqDiff, Nat.reduceAdd, Nat.reduceMul, Nat.add_zero, Nat.zero_add, reduceCtorEq, l_0, l_1, l_2, l_3, l_4, l_5, l_6, l_7, l_8, l_9, l_10, l_15, l_24, l_32, l_39, l_40, l_47, l_48, l_50, l_57, l_60, l_63, l_80, l_95, l_99, l_100, l_120, l_126, l_128, l_1000, l_9999, l_10000, L_0, L_1, L_2, L_3, L_4, L_5, L_7, L_9, L_15, L_40, L_50, L_99, L_127, L_9999, c_ltT, c_ltF, c_leT, c_leF, c_eqT, c_eqF, n_leF, n_ltF, c_gltT, c_gltF, c_ggtT, c_ggtF, false_or, or_false, or_self, true_or, or_true]
        exact e
    | false =>
      by_cases h59 : x = sg 59
      · obtain ⟨C2, p1, p2⟩ := pop_l hs (by omega)
        refine ⟨C2, ?_⟩
        have h59' : (x = -nI 59) = True := eq_true h59
        have e0 : nf (VV a b tb cp) (x :: rest) st false = hd0 st := by rw [h59]; exact nf_59 rest st
        rw [e0]
        simp (disch := omega) only [Bool.false_eq_true, h1, hx, l_59, h59', p1, ↓lt_d, eq_self, lN_add, i_l, wTn, wFa, wFb, wCT, wCF, mNe, mNe2, mLt, mLe, bp_s, bn_s, n_clampS, nI_1, nI_add, pk_sub, nI_mul, wrI_at, wrI_2, wrL_at, wrL_1, true_and, false_and, and_true, and_false, and_self, ↓reduceIte, Nat.reduceEqDiff, Nat.reduceAdd, Nat.reduceMul, Nat.add_zero, Nat.zero_add, reduceCtorEq, l_0, l_1, l_2, l_3, l_4, l_5, l_6, l_7, l_8, l_9, l_10, l_15, l_24, l_32, l_39, l_40, l_47, l_48, l_50, l_57, l_60, l_63, l_80, l_95, l_99, l_100, l_120, l_126, l_128, l_1000, l_9999, l_10000, L_0, L_1, L_2, L_3, L_4, L_5, L_7, L_9, L_15, L_40, L_50, L_99, L_127, L_9999, c_ltT, c_ltF, c_leT, c_leF, c_eqT, c_eqF, n_leF, n_ltF, c_gltT, c_gltF, c_ggtT, c_ggtF, false_or, or_false, or_self, true_or, or_true]
      · have h59' : (x = -nI 59) = False := eq_false h59
        by_cases h63 : x = sg 63
        · have h63' : (x = -nI 63) = True := eq_true h63
          have e0 : nf (VV a b tb cp) (x :: rest) st false = nf (VV a b tb cp) rest st.tail (decide (hd0 st = 0)) := by rw [h63]; exact nf_63 rest st
          rw [e0]
          obtain ⟨C2, p1, p2⟩ := pop_l hs (by omega)
          have t1 : st.tail.length ≤ st.length := by simp only [List.length_tail]; omega
          by_cases h0 : hd0 st = 0
          · rw [decide_eq_true h0]
            obtain ⟨C', e⟩ := next st.tail true C2 (gs_X3_pop p1) p2 (by omega)
            refine ⟨C', ?_⟩
            have h0' : (hd0 st = nI 0) = True := eq_true h0
            simp only [↓reduceIte] at e
            simp (disch := omega) only [Bool.false_eq_true, h1, hx, l_59, h59', h63', p1, h0', ↓lt_d, eq_self, lN_add, i_l, wTn, wFa, wFb, wCT, wCF, mNe, mNe2, mLt, mLe, bp_s, bn_s, n_clampS, nI_1, nI_add, pk_sub, nI_mul, wrI_at, wrI_2, wrL_at, wrL_1, true_and, false_and, and_true, and_false, and_self, ↓reduceIte, Nat.reduceEqDiff, Nat.reduceAdd, Nat.reduceMul, Nat.add_zero, Nat.zero_add, reduceCtorEq, l_0, l_1, l_2, l_3, l_4, l_5, l_6, l_7, l_8, l_9, l_10, l_15, l_24, l_32, l_39, l_40, l_47, l_48, l_50, l_57, l_60, l_63, l_80, l_95, l_99, l_100, l_120, l_126, l_128, l_1000, l_9999, l_10000, L_0, L_1, L_2, L_3, L_4, L_5, L_7, L_9, L_15, L_40, L_50, L_99, L_127, L_9999, c_ltT, c_ltF, c_leT, c_leF, c_eqT, c_eqF, n_leF, n_ltF, c_gltT, c_gltF, c_ggtT, c_ggtF, false_or, or_false, or_self, true_or, or_true]
            exact e
          · rw [decide_eq_false h0]
            obtain ⟨C', e⟩ := next st.tail false C2 (gs_X3_pop p1) p2 (by omega)
            refine ⟨C', ?_⟩
            have h0' : (hd0 st = nI 0) = False := eq_false h0
            simp only [Bool.false_eq_true, ↓reduceIte] at e
            simp (disch := omega) only [Bool.false_eq_true, h1, hx, l_59, h59', h63', p1, h0', ↓lt_d, eq_self, lN_add, i_l, wTn, wFa, wFb, wCT, wCF, mNe, mNe2, mLt, mLe, bp_s, bn_s, n_clampS, nI_1, nI_add, pk_sub, nI_mul, wrI_at, wrI_2, wrL_at, wrL_1, true_and, false_and, and_true, and_false, and_self, ↓reduceIte, Nat.reduceEqDiff, Nat.reduceAdd, Nat.reduceMul, Nat.add_zero, Nat.zero_add, reduceCtorEq, l_0, l_1, l_2, l_3, l_4, l_5, l_6, l_7, l_8, l_9, l_10, l_15, l_24, l_32, l_39, l_40, l_47, l_48, l_50, l_57, l_60, l_63, l_80, l_95, l_99, l_100, l_120, l_126, l_128, l_1000, l_9999, l_10000, L_0, L_1, L_2, L_3, L_4, L_5, L_7, L_9, L_15, L_40, L_50, L_99, L_127, L_9999, c_ltT, c_ltF, c_leT, c_leF, c_eqT, c_eqF, n_leF, n_ltF, c_gltT, c_gltF, c_ggtT, c_ggtF, false_or, or_false, or_self, true_or, or_true]
            exact e
        · have h63' : (x = -nI 63) = False := eq_false h63
          rw [nf_c h59 h63]
          obtain ⟨C2, w1, w2⟩ := work_l hn hv hs (by omega) h3 h4 hj x
          have := xs1_len (VV a b tb cp) x st
          obtain ⟨C', e⟩ := next (xs1 (VV a b tb cp) x st) false C2 (gs_X3_workOut hj w1) w2 (by omega)
          refine ⟨C', ?_⟩
          simp only [Bool.false_eq_true, ↓reduceIte] at e
          simp (disch := omega) only [Bool.false_eq_true, h1, hx, l_59, h59', h63', w1, ↓lt_d, eq_self, lN_add, i_l, wTn, wFa, wFb, wCT, wCF, mNe, mNe2, mLt, mLe, bp_s, bn_s, n_clampS, nI_1, nI_add, pk_sub, nI_mul, wrI_at, wrI_2, wrL_at, wrL_1, true_and, false_and, and_true, and_false, and_self, ↓reduceIte, Nat.reduceEqDiff, Nat.reduceAdd, Nat.reduceMul, Nat.add_zero, Nat.zero_add, reduceCtorEq, l_0, l_1, l_2, l_3, l_4, l_5, l_6, l_7, l_8, l_9, l_10, l_15, l_24, l_32, l_39, l_40, l_47, l_48, l_50, l_57, l_60, l_63, l_80, l_95, l_99, l_100, l_120, l_126, l_128, l_1000, l_9999, l_10000, L_0, L_1, L_2, L_3, L_4, L_5, L_7, L_9, L_15, L_40, L_50, L_99, L_127, L_9999, c_ltT, c_ltF, c_leT, c_leF, c_eqT, c_eqF, n_leF, n_ltF, c_gltT, c_gltF, c_ggtT, c_ggtF, false_or, or_false, or_self, true_or, or_true]
          exact e
