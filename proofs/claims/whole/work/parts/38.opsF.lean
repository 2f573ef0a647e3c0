/-! act -/
def FrA (C0 R0 C R : Mm) : Prop := C.2 = C0.2 ∧ R.2 = R0.2 ∧ (∀ q i, ¬ ((q = 56 ∧ i = 3) ∨ q = 58) → C.1 q i = C0.1 q i) ∧ ∀ q i, ¬ ((q = 72 ∧ i = 48) ∨ q = 98) → R.1 q i = R0.1 q i
def Ac (C0 R0 : Mm) (m : Nat) (C R : Mm) : Prop := FrA C0 R0 C R ∧ C.1 56 3 = nI m ∧ R.1 72 48 = nI m ∧ ∀ i, i < m → i < 24 → C.1 58 i = R.1 98 i
def Kn (C0 R0 : Mm) (d b : Nat) : Prop := d < 8 ∧ b < 50 ∧ (∃ nb, nb ≤ 50 ∧ b < nb ∧ C0.1 56 1 = nI nb) ∧ C0.1 56 4 = nI b ∧ C0.1 57 b = nI d ∧ R0.1 72 49 = nI d ∧ R0.1 72 50 = nI b
def Sm (C0 R0 : Mm) (K : Nat) (f g : Mm → Option (Int32 × Mm)) : Prop := ∀ m C R, Ac C0 R0 m C R → m + K ≤ 1000 → ∃ r m' C' R', f C = some (r, C') ∧ g R = some (r, R') ∧ m' ≤ m + K ∧ Ac C0 R0 m' C' R'
theorem note_l {C0 R0 : Mm} {m : Nat} {C R : Mm} (h : Ac C0 R0 m C R) (hm : m < 1000) (c : Int32) : ∃ C' R', fX1_noteRun c C = some C' ∧ fX11_begins c R = some R' ∧ Ac C0 R0 (m + 1) C' R' := by
  obtain ⟨⟨f1, f2, f3, f4⟩, e1, e2, e3⟩ := h
  unfold fX1_noteRun fX1_noteRun_b19 fX11_begins fX11_begins_b19
  by_cases h24 : 24 ≤ m
  · refine ⟨wrI C 56 3 (nI (m + 1)), wrI R 72 48 (nI (m + 1)), ?_, ?_, ⟨f1, f2, fun q i hq => ?_, fun q i hq => ?_⟩, ?_, ?_, fun i hi hi2 => ?_⟩
    · simp (disch := omega) only [e1, ↓lt_d, eq_self, lN_add, i_l, wTn, wFa, wFb, wCT, wCF, mNe, mNe2, mLt, mLe, bp_s, bn_s, n_clampS, nI_1, nI_add, pk_sub, nI_mul, wrI_at, wrI_2, wrL_at, wrL_1, true_and, false_and, and_true, and_false, and_self, ↓reduceIte, Nat.reduceEqDiff, Nat.reduceAdd, Nat.reduceMul, Nat.add_zero, Nat.zero_add, reduceCtorEq, l_0, l_1, l_2, l_3, l_4, l_5, l_6, l_7, l_8, l_9, l_10, l_15, l_24, l_32, l_39, l_40, l_47, l_48, l_50, l_57, l_60, l_63, l_80, l_95, l_99, l_100, l_120, l_126, l_128, l_1000, l_9999, l_10000, L_0, L_1, L_2, L_3, L_4, L_5, L_7, L_9, L_15, L_40, L_50, L_99, L_127, L_9999, c_ltT, c_ltF, c_leT, c_leF, c_eqT, c_eqF, n_leF, n_ltF, c_gltT, c_gltF, c_ggtT, c_ggtF, false_or, or_false, or_self, true_or, or_true]
    · simp (disch := omega) only [e2, ↓lt_d, eq_self, lN_add, i_l, wTn, wFa, wFb, wCT, wCF, mNe, mNe2, mLt, mLe, bp_s, bn_s, n_clampS, nI_1, nI_add, pk_sub, nI_mul, wrI_at, wrI_2, wrL_at, wrL_1, true_and, false_and, and_true, and_false, and_self, ↓reduceIte, Nat.reduceEqDiff, Nat.reduceAdd, Nat.reduceMul, Nat.add_zero, Nat.zero_add, reduceCtorEq, l_0, l_1, l_2, l_3, l_4, l_5, l_6, l_7, l_8, l_9, l_10, l_15, l_24, l_32, l_39, l_40, l_47, l_48, l_50, l_57, l_60, l_63, l_80, l_95, l_99, l_100, l_120, l_126, l_128, l_1000, l_9999, l_10000, L_0, L_1, L_2, L_3, L_4, L_5, L_7, L_9, L_15, L_40, L_50, L_99, L_127, L_9999, c_ltT, c_ltF, c_leT, c_leF, c_eqT, c_eqF, n_leF, n_ltF, c_gltT, c_gltF, c_ggtT, c_ggtF, false_or, or_false, or_self, true_or, or_true]
    · rw [wrI_at, if_neg (by omega)]; exact f3 q i hq
    · rw [wrI_at, if_neg (by omega)]; exact f4 q i hq
    · simp (disch := omega) only [↓lt_d, eq_self, lN_add, i_l, wTn, wFa, wFb, wCT, wCF, mNe, mNe2, mLt, mLe, bp_s, bn_s, n_clampS, nI_1, nI_add, pk_sub, nI_mul, wrI_at, wrI_2, wrL_at, wrL_1, true_and, false_and, and_true, and_false, and_self, ↓reduceIte, Nat.reduceEqDiff, Nat.reduceAdd, Nat.reduceMul, Nat.add_zero, Nat.zero_add, reduceCtorEq, l_0, l_1, l_2, l_3, l_4, l_5, l_6, l_7, l_8, l_9, l_10, l_15, l_24, l_32, l_39, l_40, l_47, l_48, l_50, l_57, l_60, l_63, l_80, l_95, l_99, l_100, l_120, l_126, l_128, l_1000, l_9999, l_10000, L_0, L_1, L_2, L_3, L_4, L_5, L_7, L_9, L_15, L_40, L_50, L_99, L_127, L_9999, c_ltT, c_ltF, c_leT, c_leF, c_eqT, c_eqF, n_leF, n_ltF, c_gltT, c_gltF, c_ggtT, c_ggtF, false_or, or_false, or_self, true_or, or_true]
    · simp (disch := omega) only [↓lt_d, eq_self, lN_add, i_l, wTn, wFa, wFb, wCT, wCF, mNe, mNe2, mLt, mLe, bp_s, bn_s, n_clampS, nI_1, nI_add, pk_sub, nI_mul, wrI_at, wrI_2, wrL_at, wrL_1, true_and, false_and, and_true, and_false, and_self, ↓reduceIte, Nat.reduceEqDiff, Nat.reduceAdd, Nat.reduceMul, Nat.add_zero, Nat.zero_add, reduceCtorEq, l_0, l_1, l_2, l_3, l_4, l_5, l_6, l_7, l_8, l_9, l_10, l_15, l_24, l_32, l_39, l_40, l_47, l_48, l_50, l_57, l_60, l_63, l_80, l_95, l_99, l_100, l_120, l_126, l_128, l_1000, l_9999, l_10000, L_0, L_1, L_2, L_3, L_4, L_5, L_7, L_9, L_15, L_40, L_50, L_99, L_127, L_9999, c_ltT, c_ltF, c_leT, c_leF, c_eqT, c_eqF, n_leF, n_ltF, c_gltT, c_gltF, c_ggtT, c_ggtF, false_or, or_false, or_self, true_or, or_true]
    · rw [wrI_at, if_neg (by omega), wrI_at, if_neg (by omega)]; exact e3 i (by omega) hi2
  · refine ⟨wrI (wrI C 58 m c) 56 3 (nI (m + 1)), wrI (wrI R 98 m c) 72 48 (nI (m + 1)), ?_, ?_, ⟨f1, f2, fun q i hq => ?_, fun q i hq => ?_⟩, ?_, ?_, fun i hi hi2 => ?_⟩
    · simp (disch := omega) only [e1, ↓lt_d, eq_self, lN_add, i_l, wTn, wFa, wFb, wCT, wCF, mNe, mNe2, mLt, mLe, bp_s, bn_s, n_clampS, nI_1, nI_add, pk_sub, nI_mul, wrI_at, wrI_2, wrL_at, wrL_1, true_and, false_and, and_true, and_false, and_self, ↓reduceIte, Nat.reduceEqDiff, Nat.reduceAdd, Nat.reduceMul, Nat.add_zero, Nat.zero_add, reduceCtorEq, l_0, l_1, l_2, l_3, l_4, l_5, l_6, l_7, l_8, l_9, l_10, l_15, l_24, l_32, l_39, l_40, l_47, l_48, l_50, l_57, l_60, l_63, l_80, l_95, l_99, l_100, l_120, l_126, l_128, l_1000, l_9999, l_10000, L_0, L_1, L_2, L_3, L_4, L_5, L_7, L_9, L_15, L_40, L_50, L_99, L_127, L_9999, c_ltT, c_ltF, c_leT, c_leF, c_eqT, c_eqF, n_leF, n_ltF, c_gltT, c_gltF, c_ggtT, c_ggtF, false_or, or_false, or_self, true_or, or_true]
    · simp (disch := omega) only [e2, ↓lt_d, eq_self, lN_add, i_l, wTn, wFa, wFb, wCT, wCF, mNe, mNe2, mLt, mLe, bp_s, bn_s, n_clampS, nI_1, nI_add, pk_sub, nI_mul, wrI_at, wrI_2, wrL_at, wrL_1, true_and, false_and, and_true, and_false, and_self, ↓reduceIte, Nat.reduceEqDiff, Nat.reduceAdd, Nat.reduceMul, Nat.add_zero, Nat.zero_add, reduceCtorEq, l_0, l_1, l_2, l_3, l_4, l_5, l_6, l_7, l_8, l_9, l_10, l_15, l_24, l_32, l_39, l_40, l_47, l_48, l_50, l_57, l_60, l_63, l_80, l_95, l_99, l_100, l_120, l_126, l_128, l_1000, l_9999, l_10000, L_0, L_1, L_2, L_3, L_4, L_5, L_7, L_9, L_15, L_40, L_50, L_99, L_127, L_9999, c_ltT, c_ltF, c_leT, c_leF, c_eqT, c_eqF, n_leF, n_ltF, c_gltT, c_gltF, c_ggtT, c_ggtF, false_or, or_false, or_self, true_or, or_true]
    · rw [wrI_at, if_neg (by omega), wrI_at, if_neg (by omega)]; exact f3 q i hq
    · rw [wrI_at, if_neg (by omega), wrI_at, if_neg (by omega)]; exact f4 q i hq
    · simp (disch := omega) only [↓lt_d, eq_self, lN_add, i_l, wTn, wFa, wFb, wCT, wCF, mNe, mNe2, mLt, mLe, bp_s, bn_s, n_clampS, nI_1, nI_add, pk_sub, nI_mul, wrI_at, wrI_2, wrL_at, wrL_1, true_and, false_and, and_true, and_false, and_self, ↓reduceIte, Nat.reduceEqDiff, Nat.reduceAdd, Nat.reduceMul, Nat.add_zero, Nat.zero_add, reduceCtorEq, l_0, l_1, l_2, l_3, l_4, l_5, l_6, l_7, l_8, l_9, l_10, l_15, l_24, l_32, l_39, l_40, l_47, l_48, l_50, l_57, l_60, l_63, l_80, l_95, l_99, l_100, l_120, l_126, l_128, l_1000, l_9999, l_10000, L_0, L_1, L_2, L_3, L_4, L_5, L_7, L_9, L_15, L_40, L_50, L_99, L_127, L_9999, c_ltT, c_ltF, c_leT, c_leF, c_eqT, c_eqF, n_leF, n_ltF, c_gltT, c_gltF, c_ggtT, c_ggtF, false_or, or_false, or_self, true_or, or_true]
    · simp (disch := omega) only [↓lt_d, eq_self, lN_add, i_l, wTn, wFa, wFb, wCT, wCF, mNe, mNe2, mLt, mLe, bp_s, bn_s, n_clampS, nI_1, nI_add, pk_sub, nI_mul, wrI_at, wrI_2, wrL_at, wrL_1, true_and, false_and, and_true, and_false, and_self, ↓reduceIte, Nat.reduceEqDiff, Nat.reduceAdd, Nat.reduceMul, Nat.add_zero, Nat.zero_add, reduceCtorEq, l_0, l_1, l_2, l_3, l_4, l_5, l_6, l_7, l_8, l_9, l_10, l_15, l_24, l_32, l_39, l_40, l_47, l_48, l_50, l_57, l_60, l_63, l_80, l_95, l_99, l_100, l_120, l_126, l_128, l_1000, l_9999, l_10000, L_0, L_1, L_2, L_3, L_4, L_5, L_7, L_9, L_15, L_40, L_50, L_99, L_127, L_9999, c_ltT, c_ltF, c_leT, c_leF, c_eqT, c_eqF, n_leF, n_ltF, c_gltT, c_gltF, c_ggtT, c_ggtF, false_or, or_false, or_self, true_or, or_true]
    · by_cases him : i = m
      · subst him
        simp (disch := omega) only [↓lt_d, eq_self, lN_add, i_l, wTn, wFa, wFb, wCT, wCF, mNe, mNe2, mLt, mLe, bp_s, bn_s, n_clampS, nI_1, nI_add, pk_sub, nI_mul, wrI_at, wrI_2, wrL_at, wrL_1, true_and, false_and, and_true, and_false, and_self, ↓reduceIte, Nat.reduceEqDiff, Nat.reduceAdd, Nat.reduceMul, Nat.add_zero, Nat.zero_add, reduceCtorEq, l_0, l_1, l_2, l_3, l_4, l_5, l_6, l_7, l_8, l_9, l_10, l_15, l_24, l_32, l_39, l_40, l_47, l_48, l_50, l_57, l_60, l_63, l_80, l_95, l_99, l_100, l_120, l_126, l_128, l_1000, l_9999, l_10000, L_0, L_1, L_2, L_3, L_4, L_5, L_7, L_9, L_15, L_40, L_50, L_99, L_127, L_9999, c_ltT, c_ltF, c_leT, c_leF, c_eqT, c_eqF, n_leF, n_ltF, c_gltT, c_gltF, c_ggtT, c_ggtF, false_or, or_false, or_self, true_or, or_true]
      · simp (disch := omega) only [him, ↓lt_d, eq_self, lN_add, i_l, wTn, wFa, wFb, wCT, wCF, mNe, mNe2, mLt, mLe, bp_s, bn_s, n_clampS, nI_1, nI_add, pk_sub, nI_mul, wrI_at, wrI_2, wrL_at, wrL_1, true_and, false_and, and_true, and_false, and_self, ↓reduceIte, Nat.reduceEqDiff, Nat.reduceAdd, Nat.reduceMul, Nat.add_zero, Nat.zero_add, reduceCtorEq, l_0, l_1, l_2, l_3, l_4, l_5, l_6, l_7, l_8, l_9, l_10, l_15, l_24, l_32, l_39, l_40, l_47, l_48, l_50, l_57, l_60, l_63, l_80, l_95, l_99, l_100, l_120, l_126, l_128, l_1000, l_9999, l_10000, L_0, L_1, L_2, L_3, L_4, L_5, L_7, L_9, L_15, L_40, L_50, L_99, L_127, L_9999, c_ltT, c_ltF, c_leT, c_leF, c_eqT, c_eqF, n_leF, n_ltF, c_gltT, c_gltF, c_ggtT, c_ggtF, false_or, or_false, or_self, true_or, or_true]
        exact e3 i (by omega) hi2
theorem bp_eta {α β : Type} (o : Option (α × β)) : bp' o (fun r c => some (r, c)) = o := by
  cases o with
  | none => rfl
  | some x => rfl
def cdT (k w : Nat) : Nat := if w = 0 then (if k = 1 then 20 else if k = 5 then 60 else 1) else if w = 1 then (if k = 2 ∨ k = 3 then 30 else if k = 7 then 80 else 10) else if w = 2 then (if k = 3 then 40 else if k = 5 then 61 else if k = 6 ∨ k = 7 then 70 else 11) else (if k = 4 then 50 else if k = 7 then 81 else 2)
def s6 (j : Nat) : Nat := [1, 10, 11, 2, 20, 0, 0, 0, 0, 30, 0, 0, 0, 0, 40, 0, 0, 0, 0, 50, 60, 0, 61, 0, 0, 0, 70, 0, 0, 80, 0, 81].getD j 0
theorem s6_l {j : Nat} (h : j < 32) : stv6 j = nI (s6 j) := by
  have : ∀ j, j < 32 → stv6 j = nI (s6 j) := by decide
  exact this j h
theorem nr_hit {n k w y i fu : Nat} {z : Int32 → Int32 → Int32 → Mm → Option (Int32 × Mm)} (p : Int32) (C : Mm) (hk : k < 8) (hw : w < 4) (hy : y < 40) (hi : i < 8) (hc : s6 (k * 4 + w) ≠ 0) (hc2 : s6 (k * 4 + w) < 100) : fX1_nearest_h6 n z (fu + 1) (nI w) p (nI y) (nI k) (nI i) C = z (nI (s6 (k * 4 + w))) p (nI (y + 1)) C := by
  simp only [fX1_nearest_h6.eq_2]
  unfold fX1_isKind
  simp (disch := omega) only [s6_l, bp_eta, ↓lt_d, eq_self, lN_add, i_l, wTn, wFa, wFb, wCT, wCF, mNe, mNe2, mLt, mLe, bp_s, bn_s, n_clampS, nI_1, nI_add, pk_sub, nI_mul, wrI_at, wrI_2, wrL_at, wrL_1, true_and, false_and, and_true, and_false, and_self, ↓reduceIte, Nat.reduceEqDiff, Nat.reduceAdd, Nat.reduceMul, Nat.add_zero, Nat.zero_add, reduceCtorEq, l_0, l_1, l_2, l_3, l_4, l_5, l_6, l_7, l_8, l_9, l_10, l_15, l_24, l_32, l_39, l_40, l_47, l_48, l_50, l_57, l_60, l_63, l_80, l_95, l_99, l_100, l_120, l_126, l_128, l_1000, l_9999, l_10000, L_0, L_1, L_2, L_3, L_4, L_5, L_7, L_9, L_15, L_40, L_50, L_99, L_127, L_9999, c_ltT, c_ltF, c_leT, c_leF, c_eqT, c_eqF, n_leF, n_ltF, c_gltT, c_gltF, c_ggtT, c_ggtF, false_or, or_false, or_self, true_or, or_true]
theorem nr_up {n k w y i fu : Nat} {z : Int32 → Int32 → Int32 → Mm → Option (Int32 × Mm)} (p : Int32) (C : Mm) (hk : k < 8) (hk0 : k ≠ 0) (hw : w < 4) (hi : i < 8) (hc : s6 (k * 4 + w) = 0) : fX1_nearest_h6 n z (fu + 1) (nI w) p (nI y) (nI k) (nI i) C = fX1_nearest_h6 n z fu (nI w) p (nI y) (nI (upK k)) (nI (i + 1)) C := by
  simp only [fX1_nearest_h6.eq_2]
  unfold fX1_isKind
  simp (disch := omega) only [s6_l, hc, stv5_up hk hk0, ↓lt_d, eq_self, lN_add, i_l, wTn, wFa, wFb, wCT, wCF, mNe, mNe2, mLt, mLe, bp_s, bn_s, n_clampS, nI_1, nI_add, pk_sub, nI_mul, wrI_at, wrI_2, wrL_at, wrL_1, true_and, false_and, and_true, and_false, and_self, ↓reduceIte, Nat.reduceEqDiff, Nat.reduceAdd, Nat.reduceMul, Nat.add_zero, Nat.zero_add, reduceCtorEq, l_0, l_1, l_2, l_3, l_4, l_5, l_6, l_7, l_8, l_9, l_10, l_15, l_24, l_32, l_39, l_40, l_47, l_48, l_50, l_57, l_60, l_63, l_80, l_95, l_99, l_100, l_120, l_126, l_128, l_1000, l_9999, l_10000, L_0, L_1, L_2, L_3, L_4, L_5, L_7, L_9, L_15, L_40, L_50, L_99, L_127, L_9999, c_ltT, c_ltF, c_leT, c_leF, c_eqT, c_eqF, n_leF, n_ltF, c_gltT, c_gltF, c_ggtT, c_ggtF, false_or, or_false, or_self, true_or, or_true]
theorem near_l {n : Nat} (hn : 1000 ≤ n) {k w y : Nat} {z : Int32 → Int32 → Int32 → Mm → Option (Int32 × Mm)} (p : Int32) (C : Mm) (hk : k < 8) (hw : w < 4) (hy : y < 40) : fX1_nearest n z (nI k) (nI w) p (nI y) C = z (nI (cdT k w)) p (nI (y + 1)) C := by
  obtain ⟨n, rfl⟩ : ∃ f, n = f + 4 := ⟨n - 4, by omega⟩
  unfold fX1_nearest
  rw [l_0]
  by_cases h1 : s6 (k * 4 + w) = 0
  · have hk0 : k ≠ 0 := by
      rintro rfl
      revert h1
      rcases (show w = 0 ∨ w = 1 ∨ w = 2 ∨ w = 3 by omega) with rfl | rfl | rfl | rfl <;> decide
    have hu : upK k < 8 := by unfold upK; split <;> (try split) <;> (try split) <;> omega
    rw [nr_up p C hk hk0 hw (by omega) h1]
    by_cases h2 : s6 (upK k * 4 + w) = 0
    · have hk1 : upK k ≠ 0 := by
        intro e
        rw [e] at h2
        revert h2
        rcases (show w = 0 ∨ w = 1 ∨ w = 2 ∨ w = 3 by omega) with rfl | rfl | rfl | rfl <;> decide
      have e2 : upK (upK k) = 0 := by
        rcases (show k = 0 ∨ k = 1 ∨ k = 2 ∨ k = 3 ∨ k = 4 ∨ k = 5 ∨ k = 6 ∨ k = 7 by omega) with rfl | rfl | rfl | rfl | rfl | rfl | rfl | rfl <;> decide
      have e3 : s6 (0 * 4 + w) = cdT k w ∧ s6 (0 * 4 + w) ≠ 0 ∧ s6 (0 * 4 + w) < 100 := by
        revert h1 h2 hk1
        rcases (show w = 0 ∨ w = 1 ∨ w = 2 ∨ w = 3 by omega) with rfl | rfl | rfl | rfl <;> rcases (show k = 0 ∨ k = 1 ∨ k = 2 ∨ k = 3 ∨ k = 4 ∨ k = 5 ∨ k = 6 ∨ k = 7 by omega) with rfl | rfl | rfl | rfl | rfl | rfl | rfl | rfl <;> decide
      rw [nr_up p C hu hk1 hw (by omega) h2, e2, nr_hit p C (by omega) hw hy (by omega) e3.2.1 e3.2.2, e3.1]
    · have e3 : s6 (upK k * 4 + w) = cdT k w ∧ s6 (upK k * 4 + w) < 100 := by
        revert h1 h2
        rcases (show w = 0 ∨ w = 1 ∨ w = 2 ∨ w = 3 by omega) with rfl | rfl | rfl | rfl <;> rcases (show k = 0 ∨ k = 1 ∨ k = 2 ∨ k = 3 ∨ k = 4 ∨ k = 5 ∨ k = 6 ∨ k = 7 by omega) with rfl | rfl | rfl | rfl | rfl | rfl | rfl | rfl <;> decide
      rw [nr_hit p C hu hw hy (by omega) h2 e3.2, e3.1]
  · have e3 : s6 (k * 4 + w) = cdT k w ∧ s6 (k * 4 + w) < 100 := by
      revert h1
      rcases (show w = 0 ∨ w = 1 ∨ w = 2 ∨ w = 3 by omega) with rfl | rfl | rfl | rfl <;> rcases (show k = 0 ∨ k = 1 ∨ k = 2 ∨ k = 3 ∨ k = 4 ∨ k = 5 ∨ k = 6 ∨ k = 7 by omega) with rfl | rfl | rfl | rfl | rfl | rfl | rfl | rfl <;> decide
    rw [nr_hit p C hk hw hy (by omega) h1 e3.2, e3.1]
/-! the four acts, kind by kind; the class looks n up from a kind, the reference goes by kinds -/
theorem Sm_up {C0 R0 : Mm} {K K' : Nat} {f g : Mm → Option (Int32 × Mm)} (h : K ≤ K') (s : Sm C0 R0 K f g) : Sm C0 R0 K' f g := by
  intro m C R hA hm
  obtain ⟨r, m', C', R', e1, e2, e3, e4⟩ := s m C R hA (by omega)
  exact ⟨r, m', C', R', e1, e2, by omega, e4⟩
/-- a step: note the code, then go on, then work the value over -/
theorem Sm_note {C0 R0 : Mm} {K : Nat} {f g : Mm → Option (Int32 × Mm)} (c : Int32) (s : Sm C0 R0 K f g) : Sm C0 R0 (K + 1) (fun C => Option.bind (fX1_noteRun c C) f) (fun R => Option.bind (fX11_begins c R) g) := by
  intro m C R hA hm
  obtain ⟨C1, R1, e1, e2, e3⟩ := note_l hA (by omega) c
  obtain ⟨r, m', C', R', d1, d2, d3, d4⟩ := s (m + 1) C1 R1 e3 (by omega)
  refine ⟨r, m', C', R', ?_, ?_, by omega, d4⟩
  · simp only [e1, bn_s, d1]
  · simp only [e2, bn_s, d2]
theorem Sm_map {C0 R0 : Mm} {K : Nat} {f g : Mm → Option (Int32 × Mm)} (h : Int32 → Int32) (s : Sm C0 R0 K f g) : Sm C0 R0 K (fun C => bp' (f C) fun r C => some (h r, C)) (fun R => bp' (g R) fun r R => some (h r, R)) := by
  intro m C R hA hm
  obtain ⟨r, m', C', R', d1, d2, d3, d4⟩ := s m C R hA hm
  refine ⟨h r, m', C', R', ?_, ?_, d3, d4⟩
  · simp only [d1, bp_s]
  · simp only [d2, bp_s]
theorem Sm_two {C0 R0 : Mm} {K K2 : Nat} {f g f2 g2 : Mm → Option (Int32 × Mm)} (h : Int32 → Int32 → Int32) (s : Sm C0 R0 K f g) (s2 : Sm C0 R0 K2 f2 g2) : Sm C0 R0 (K + K2) (fun C => bp' (f C) fun r C => bp' (f2 C) fun r2 C => some (h r r2, C)) (fun R => bp' (g R) fun r R => bp' (g2 R) fun r2 R => some (h r r2, R)) := by
  intro m C R hA hm
  obtain ⟨r, m', C', R', d1, d2, d3, d4⟩ := s m C R hA (by omega)
  obtain ⟨r2, m2, C2, R2, c1, c2, c3, c4⟩ := s2 m' C' R' d4 (by omega)
  refine ⟨h r r2, m2, C2, R2, ?_, ?_, by omega, c4⟩
  · simp only [d1, bp_s, c1]
  · simp only [d2, bp_s, c2]
theorem Sm_eq {C0 R0 : Mm} {K : Nat} {f g f' g' : Mm → Option (Int32 × Mm)} (hf : ∀ C, f' C = f C) (hg : ∀ C, g' C = g C) (s : Sm C0 R0 K f g) : Sm C0 R0 K f' g' := by
  rw [funext hf, funext hg]
  exact s
/-- what each side knows of the body stays -/
theorem Kn_c {C0 R0 : Mm} {d b : Nat} (h : Kn C0 R0 d b) {m : Nat} {C R : Mm} (hA : Ac C0 R0 m C R) : fX1_kindOf (C.1 56 4) C = some (nI d) ∧ C.1 56 4 = nI b ∧ R.1 72 49 = nI d ∧ R.1 72 50 = nI b := by
  obtain ⟨h1, h2, ⟨nb, h3, h4, h5⟩, h6, h7, h8, h9⟩ := h
  obtain ⟨⟨-, -, f3, f4⟩, -⟩ := hA
  have e1 : C.1 56 4 = nI b := by rw [f3 _ _ (by omega)]; exact h6
  have e2 : C.1 56 1 = nI nb := by rw [f3 _ _ (by omega)]; exact h5
  have e3 : C.1 57 b = nI d := by rw [f3 _ _ (by omega)]; exact h7
  refine ⟨?_, e1, by rw [f4 _ _ (by omega)]; exact h8, by rw [f4 _ _ (by omega)]; exact h9⟩
  unfold fX1_kindOf fX1_has
  rw [e1]
  simp (disch := omega) only [e2, e3, ↓lt_d, eq_self, lN_add, i_l, wTn, wFa, wFb, wCT, wCF, mNe, mNe2, mLt, mLe, bp_s, bn_s, n_clampS, nI_1, nI_add, pk_sub, nI_mul, wrI_at, wrI_2, wrL_at, wrL_1, true_and, false_and, and_true, and_false, and_self, ↓reduceIte, Nat.reduceEqDiff, Nat.reduceAdd, Nat.reduceMul, Nat.add_zero, Nat.zero_add, reduceCtorEq, l_0, l_1, l_2, l_3, l_4, l_5, l_6, l_7, l_8, l_9, l_10, l_15, l_24, l_32, l_39, l_40, l_47, l_48, l_50, l_57, l_60, l_63, l_80, l_95, l_99, l_100, l_120, l_126, l_128, l_1000, l_9999, l_10000, L_0, L_1, L_2, L_3, L_4, L_5, L_7, L_9, L_15, L_40, L_50, L_99, L_127, L_9999, c_ltT, c_ltF, c_leT, c_leF, c_eqT, c_eqF, n_leF, n_ltF, c_gltT, c_gltF, c_ggtT, c_ggtF, false_or, or_false, or_self, true_or, or_true]
theorem own_l {n : Nat} (hn : 1000 ≤ n) {C0 R0 : Mm} {d b : Nat} (h : Kn C0 R0 d b) {m w y : Nat} {C R : Mm} (hA : Ac C0 R0 m C R) {z : Int32 → Int32 → Int32 → Mm → Option (Int32 × Mm)} (p : Int32) (hw : w < 4) (hy : y < 40) : fX1_own n z (nI w) p (nI y) C = z (nI (cdT d w)) p (nI (y + 1)) C := by
  unfold fX1_own
  rw [(Kn_c h hA).1, bn_s]
  simp only [bp_eta]
  exact near_l hn p C h.1 hw hy
theorem fromA_l {n : Nat} (hn : 1000 ≤ n) {k w y : Nat} {z : Int32 → Int32 → Int32 → Mm → Option (Int32 × Mm)} (p : Int32) (C : Mm) (hk : k < 8) (hk0 : k ≠ 0) (hw : w < 4) (hy : y < 40) : fX1_fromAbove n z (nI k) (nI w) p (nI y) C = z (nI (cdT (upK k) w)) p (nI (y + 1)) C := by
  have hu : upK k < 8 := by unfold upK; split <;> (try split) <;> (try split) <;> omega
  have e := near_l hn (k := upK k) (z := z) p C hu hw hy
  unfold fX1_fromAbove fX1_isKind fX1_fromAbove_b17
  simp (disch := omega) only [stv5_up hk hk0, bp_eta, ↓lt_d, eq_self, lN_add, i_l, wTn, wFa, wFb, wCT, wCF, mNe, mNe2, mLt, mLe, bp_s, bn_s, n_clampS, nI_1, nI_add, pk_sub, nI_mul, wrI_at, wrI_2, wrL_at, wrL_1, true_and, false_and, and_true, and_false, and_self, ↓reduceIte, Nat.reduceEqDiff, Nat.reduceAdd, Nat.reduceMul, Nat.add_zero, Nat.zero_add, reduceCtorEq, l_0, l_1, l_2, l_3, l_4, l_5, l_6, l_7, l_8, l_9, l_10, l_15, l_24, l_32, l_39, l_40, l_47, l_48, l_50, l_57, l_60, l_63, l_80, l_95, l_99, l_100, l_120, l_126, l_128, l_1000, l_9999, l_10000, L_0, L_1, L_2, L_3, L_4, L_5, L_7, L_9, L_15, L_40, L_50, L_99, L_127, L_9999, c_ltT, c_ltF, c_leT, c_leF, c_eqT, c_eqF, n_leF, n_ltF, c_gltT, c_gltF, c_ggtT, c_ggtF, false_or, or_false, or_self, true_or, or_true]
  exact e
