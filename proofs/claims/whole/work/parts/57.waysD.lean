/-! RIGHT, on both sides -/
theorem dgs4 {q : Nat} (h : q ≤ 9999) : dgs q ≤ 4 := (dgs_le (by omega) 4).mpr (by omega)
theorem nz_le (p : Nat) : nz p ≤ dgs p := nzc_le p (dgs p)
theorem right_h {n j p q : Nat} (hn : 1000 ≤ n) (hj : j < 6) {T : Nat → Nat} (hp : 1 ≤ p) (hp2 : p ≤ 9999) (hq : 1 ≤ q) (hq2 : q ≤ 9999) : ∀ d k fu fv r a w C R, dgs q - k = d → k ≤ dgs q → d < fu → d < fv → r ≤ k → RW w r C R → sumN w r = p * (q % 10 ^ k) → Lf j T 1 C R a 0 (sumN (fun i => dgs (w i)) r) → a ≤ 9 * r → ∃ C' R' a', fX0_goRight_h5 n fu (nI p) (nI q) (nI r) (nI k) C = some (nI 1, C') ∧ fX11_goRight_h5 n fv (nI p) (nI q) (nI r) (nI k) R = some R' ∧ ∃ v hd, Wy j T C' R' a' v hd := by
  have hq3 := dgs4 hq2
  have hp3 := dgs4 hp2
  have hz := sz1_l hq (show q < 2 ^ 31 by omega)
  have hso := sizeOf_l (n := n) (v := q) hn (by omega)
  have hdi := digits_l (n := n) (v := q) hn (by omega)
  have hpq : p * q ≤ 9999 * 9999 := Nat.mul_le_mul hp2 hq2
  rw [hz] at hso
  intro d
  induction d with
  | zero =>
    intro k fu fv r a w C R hd hk hf hg hr hrw hs h ha
    obtain ⟨fu, rfl⟩ : ∃ f, fu = f + 1 := ⟨fu - 1, by omega⟩
    obtain ⟨fv, rfl⟩ : ∃ f, fv = f + 1 := ⟨fv - 1, by omega⟩
    have hkq : k = dgs q := by omega
    subst hkq
    have hqm : q % 10 ^ dgs q = q := Nat.mod_eq_of_lt ((dgs_le (by omega) _).mp (Nat.le_refl _))
    rw [hqm] at hs
    have hw := h.1
    by_cases h2 : r ≤ 1
    · refine ⟨C, R, a, ?_, ?_, _, _, hw⟩
      · rw [fX0_goRight_h5.eq_2]
        unfold fX0_goRight_b70
        simp (disch := omega) only [hso, ↓lt_d, eq_self, lN_add, i_l, wTn, wFa, wFb, wCT, wCF, mNe, mNe2, mLt, mLe, bp_s, bn_s, n_clampS, nI_1, nI_add, pk_sub, nI_mul, wrI_at, wrI_2, wrL_at, wrL_1, true_and, false_and, and_true, and_false, and_self, ↓reduceIte, Nat.reduceEqDiff, Nat.reduceAdd, Nat.reduceMul, Nat.add_zero, Nat.zero_add, reduceCtorEq, l_0, l_1, l_2, l_3, l_4, l_5, l_6, l_7, l_8, l_9, l_10, l_15, l_24, l_32, l_39, l_40, l_47, l_48, l_50, l_57, l_60, l_63, l_80, l_95, l_99, l_100, l_120, l_126, l_128, l_1000, l_9999, l_10000, L_0, L_1, L_2, L_3, L_4, L_5, L_7, L_9, L_15, L_40, L_50, L_99, L_127, L_9999, c_ltT, c_ltF, c_leT, c_leF, c_eqT, c_eqF, n_leF, n_ltF, c_gltT, c_gltF, c_ggtT, c_ggtF, false_or, or_false, or_self, true_or, or_true]
      · rw [fX11_goRight_h5.eq_2]
        simp (disch := omega) only [hdi, ↓lt_d, eq_self, lN_add, i_l, wTn, wFa, wFb, wCT, wCF, mNe, mNe2, mLt, mLe, bp_s, bn_s, n_clampS, nI_1, nI_add, pk_sub, nI_mul, wrI_at, wrI_2, wrL_at, wrL_1, true_and, false_and, and_true, and_false, and_self, ↓reduceIte, Nat.reduceEqDiff, Nat.reduceAdd, Nat.reduceMul, Nat.add_zero, Nat.zero_add, reduceCtorEq, l_0, l_1, l_2, l_3, l_4, l_5, l_6, l_7, l_8, l_9, l_10, l_15, l_24, l_32, l_39, l_40, l_47, l_48, l_50, l_57, l_60, l_63, l_80, l_95, l_99, l_100, l_120, l_126, l_128, l_1000, l_9999, l_10000, L_0, L_1, L_2, L_3, L_4, L_5, L_7, L_9, L_15, L_40, L_50, L_99, L_127, L_9999, c_ltT, c_ltF, c_leT, c_leF, c_eqT, c_eqF, n_leF, n_ltF, c_gltT, c_gltF, c_ggtT, c_ggtF, false_or, or_false, or_self, true_or, or_true]
    · obtain ⟨p1, p2, p3⟩ := hrw 0 (by omega)
      have hs1 := sumN_s (w := w) (i := 0) (r := r) (by omega)
      have hs2 := sumN_s (w := fun i => dgs (w i)) (i := 0) (r := r) (by omega)
      have w4 := hw.2.2.2.1
      have w5 := hw.2.2.2.2.1
      have hw0 : w 0 < 2 ^ 31 := by omega
      have e1 : sumN w 1 = w 0 := Nat.zero_add _
      have e2 : sumN (fun i => dgs (w i)) 1 = dgs (w 0) := Nat.zero_add _
      have e0 : sumN (fun i => dgs (w i)) 0 = 0 := rfl
      have hle : dgs (w 0) ≤ sumN (fun i => dgs (w i)) r := by
        have hs3 : sumN (fun i => dgs (w i)) 0 + dgs (w 0) ≤ sumN (fun i => dgs (w i)) r := hs2
        omega
      have el := letGo_l hn p3 hw0 w4 hle
      have er := run_l (n := n) hn hw0 (wrI C 36 12 (nI (sumN (fun i => dgs (w i)) r - dgs (w 0))))
      have wy := Wy_set (C' := wrI (wrI (wrI (wrI C 36 12 (nI (sumN (fun i => dgs (w i)) r - dgs (w 0)))) 36 13 (nI (w 0))) 36 14 (nI (dgs (w 0)))) 36 15 (nI 1)) (R' := wrI (wrI R 72 29 (nI (w 0))) 72 28 (nI (sumN (fun i => dgs (w i)) r - dgs (w 0)))) (v' := w 0) (hd' := sumN (fun i => dgs (w i)) r - dgs (w 0)) hw (fun q i hq => by rw [wrI_at, if_neg (by omega), wrI_at, if_neg (by omega), wrI_at, if_neg (by omega), wrI_at, if_neg (by omega)]) (fun q i hq => by rw [wrI_at, if_neg (by omega), wrI_at, if_neg (by omega)]) (by simp (disch := omega) only [↓lt_d, eq_self, lN_add, i_l, wTn, wFa, wFb, wCT, wCF, mNe, mNe2, mLt, mLe, bp_s, bn_s, n_clampS, nI_1, nI_add, pk_sub, nI_mul, wrI_at, wrI_2, wrL_at, wrL_1, true_and, false_and, and_true, and_false, and_self, ↓reduceIte, Nat.reduceEqDiff, Nat.reduceAdd, Nat.reduceMul, Nat.add_zero, Nat.zero_add, reduceCtorEq, l_0, l_1, l_2, l_3, l_4, l_5, l_6, l_7, l_8, l_9, l_10, l_15, l_24, l_32, l_39, l_40, l_47, l_48, l_50, l_57, l_60, l_63, l_80, l_95, l_99, l_100, l_120, l_126, l_128, l_1000, l_9999, l_10000, L_0, L_1, L_2, L_3, L_4, L_5, L_7, L_9, L_15, L_40, L_50, L_99, L_127, L_9999, c_ltT, c_ltF, c_leT, c_leF, c_eqT, c_eqF, n_leF, n_ltF, c_gltT, c_gltF, c_ggtT, c_ggtF, false_or, or_false, or_self, true_or, or_true]) (by simp (disch := omega) only [↓lt_d, eq_self, lN_add, i_l, wTn, wFa, wFb, wCT, wCF, mNe, mNe2, mLt, mLe, bp_s, bn_s, n_clampS, nI_1, nI_add, pk_sub, nI_mul, wrI_at, wrI_2, wrL_at, wrL_1, true_and, false_and, and_true, and_false, and_self, ↓reduceIte, Nat.reduceEqDiff, Nat.reduceAdd, Nat.reduceMul, Nat.add_zero, Nat.zero_add, reduceCtorEq, l_0, l_1, l_2, l_3, l_4, l_5, l_6, l_7, l_8, l_9, l_10, l_15, l_24, l_32, l_39, l_40, l_47, l_48, l_50, l_57, l_60, l_63, l_80, l_95, l_99, l_100, l_120, l_126, l_128, l_1000, l_9999, l_10000, L_0, L_1, L_2, L_3, L_4, L_5, L_7, L_9, L_15, L_40, L_50, L_99, L_127, L_9999, c_ltT, c_ltF, c_leT, c_leF, c_eqT, c_eqF, n_leF, n_ltF, c_gltT, c_gltF, c_ggtT, c_ggtF, false_or, or_false, or_self, true_or, or_true]) (by simp (disch := omega) only [↓lt_d, eq_self, lN_add, i_l, wTn, wFa, wFb, wCT, wCF, mNe, mNe2, mLt, mLe, bp_s, bn_s, n_clampS, nI_1, nI_add, pk_sub, nI_mul, wrI_at, wrI_2, wrL_at, wrL_1, true_and, false_and, and_true, and_false, and_self, ↓reduceIte, Nat.reduceEqDiff, Nat.reduceAdd, Nat.reduceMul, Nat.add_zero, Nat.zero_add, reduceCtorEq, l_0, l_1, l_2, l_3, l_4, l_5, l_6, l_7, l_8, l_9, l_10, l_15, l_24, l_32, l_39, l_40, l_47, l_48, l_50, l_57, l_60, l_63, l_80, l_95, l_99, l_100, l_120, l_126, l_128, l_1000, l_9999, l_10000, L_0, L_1, L_2, L_3, L_4, L_5, L_7, L_9, L_15, L_40, L_50, L_99, L_127, L_9999, c_ltT, c_ltF, c_leT, c_leF, c_eqT, c_eqF, n_leF, n_ltF, c_gltT, c_gltF, c_ggtT, c_ggtF, false_or, or_false, or_self, true_or, or_true])
      obtain ⟨C3, R3, a3, t1, t2, t3⟩ := addrows_h hn hj (r := r) (by omega) (T := T) (w := w) (by omega) (r - 1) 1 n n a _ _ rfl (by omega) (by omega) (by omega) (by omega) (by rw [e1, e2]; exact wy) (by rw [e1]; simp (disch := omega) only [↓lt_d, eq_self, lN_add, i_l, wTn, wFa, wFb, wCT, wCF, mNe, mNe2, mLt, mLe, bp_s, bn_s, n_clampS, nI_1, nI_add, pk_sub, nI_mul, wrI_at, wrI_2, wrL_at, wrL_1, true_and, false_and, and_true, and_false, and_self, ↓reduceIte, Nat.reduceEqDiff, Nat.reduceAdd, Nat.reduceMul, Nat.add_zero, Nat.zero_add, reduceCtorEq, l_0, l_1, l_2, l_3, l_4, l_5, l_6, l_7, l_8, l_9, l_10, l_15, l_24, l_32, l_39, l_40, l_47, l_48, l_50, l_57, l_60, l_63, l_80, l_95, l_99, l_100, l_120, l_126, l_128, l_1000, l_9999, l_10000, L_0, L_1, L_2, L_3, L_4, L_5, L_7, L_9, L_15, L_40, L_50, L_99, L_127, L_9999, c_ltT, c_ltF, c_leT, c_leF, c_eqT, c_eqF, n_leF, n_ltF, c_gltT, c_gltF, c_ggtT, c_ggtF, false_or, or_false, or_self, true_or, or_true]) (fun i hi => by
        rw [wrI_at, if_neg (by omega), wrI_at, if_neg (by omega), wrI_at, if_neg (by omega), wrI_at, if_neg (by omega), wrI_at, if_neg (by omega), wrI_at, if_neg (by omega)]
        exact hrw i hi)
      refine ⟨C3, R3, a3, ?_, ?_, t3⟩
      · rw [fX0_goRight_h5.eq_2]
        unfold fX0_goRight_b70 fX0_addRows
        simp (disch := omega) only [hso, p1, el, er, t1, ↓lt_d, eq_self, lN_add, i_l, wTn, wFa, wFb, wCT, wCF, mNe, mNe2, mLt, mLe, bp_s, bn_s, n_clampS, nI_1, nI_add, pk_sub, nI_mul, wrI_at, wrI_2, wrL_at, wrL_1, true_and, false_and, and_true, and_false, and_self, ↓reduceIte, Nat.reduceEqDiff, Nat.reduceAdd, Nat.reduceMul, Nat.add_zero, Nat.zero_add, reduceCtorEq, l_0, l_1, l_2, l_3, l_4, l_5, l_6, l_7, l_8, l_9, l_10, l_15, l_24, l_32, l_39, l_40, l_47, l_48, l_50, l_57, l_60, l_63, l_80, l_95, l_99, l_100, l_120, l_126, l_128, l_1000, l_9999, l_10000, L_0, L_1, L_2, L_3, L_4, L_5, L_7, L_9, L_15, L_40, L_50, L_99, L_127, L_9999, c_ltT, c_ltF, c_leT, c_leF, c_eqT, c_eqF, n_leF, n_ltF, c_gltT, c_gltF, c_ggtT, c_ggtF, false_or, or_false, or_self, true_or, or_true]
      · rw [fX11_goRight_h5.eq_2]
        simp (disch := omega) only [hdi, p2, digits_l hn hw0, w5, ↓lt_d, eq_self, lN_add, i_l, wTn, wFa, wFb, wCT, wCF, mNe, mNe2, mLt, mLe, bp_s, bn_s, n_clampS, nI_1, nI_add, pk_sub, nI_mul, wrI_at, wrI_2, wrL_at, wrL_1, true_and, false_and, and_true, and_false, and_self, ↓reduceIte, Nat.reduceEqDiff, Nat.reduceAdd, Nat.reduceMul, Nat.add_zero, Nat.zero_add, reduceCtorEq, l_0, l_1, l_2, l_3, l_4, l_5, l_6, l_7, l_8, l_9, l_10, l_15, l_24, l_32, l_39, l_40, l_47, l_48, l_50, l_57, l_60, l_63, l_80, l_95, l_99, l_100, l_120, l_126, l_128, l_1000, l_9999, l_10000, L_0, L_1, L_2, L_3, L_4, L_5, L_7, L_9, L_15, L_40, L_50, L_99, L_127, L_9999, c_ltT, c_ltF, c_leT, c_leF, c_eqT, c_eqF, n_leF, n_ltF, c_gltT, c_gltF, c_ggtT, c_ggtF, false_or, or_false, or_self, true_or, or_true]
        exact t2
  | succ d ih =>
    intro k fu fv r a w C R hd hk hf hg hr hrw hs h ha
    obtain ⟨fu, rfl⟩ : ∃ f, fu = f + 1 := ⟨fu - 1, by omega⟩
    obtain ⟨fv, rfl⟩ : ∃ f, fv = f + 1 := ⟨fv - 1, by omega⟩
    have e1 := figureAt_l (k := k) (v := q) (by omega) (by omega)
    have e2 := figure_l (n := n) (k := k) (v := q) hn (by omega) (by omega)
    have hy : q / 10 ^ k % 10 ≤ 9 := by omega
    have hm := Nat.mod_pow_succ (x := q) (b := 10) (k := k)
    have hyq : q % 10 ^ (k + 1) ≤ q := Nat.mod_le _ _
    generalize q / 10 ^ k % 10 = y at *
    by_cases hy0 : y = 0
    · subst hy0
      rw [Nat.mul_zero, Nat.add_zero] at hm
      obtain ⟨C3, R3, a3, t1, t2, t3⟩ := ih (k + 1) fu fv r a w C R (by omega) (by omega) (by omega) (by omega) (by omega) hrw (by rw [hm]; exact hs) h ha
      refine ⟨C3, R3, a3, ?_, ?_, t3⟩
      · rw [fX0_goRight_h5.eq_2]
        unfold fX0_goRight_b64
        simp (disch := omega) only [hso, e1, ↓lt_d, eq_self, lN_add, i_l, wTn, wFa, wFb, wCT, wCF, mNe, mNe2, mLt, mLe, bp_s, bn_s, n_clampS, nI_1, nI_add, pk_sub, nI_mul, wrI_at, wrI_2, wrL_at, wrL_1, true_and, false_and, and_true, and_false, and_self, ↓reduceIte, Nat.reduceEqDiff, Nat.reduceAdd, Nat.reduceMul, Nat.add_zero, Nat.zero_add, reduceCtorEq, l_0, l_1, l_2, l_3, l_4, l_5, l_6, l_7, l_8, l_9, l_10, l_15, l_24, l_32, l_39, l_40, l_47, l_48, l_50, l_57, l_60, l_63, l_80, l_95, l_99, l_100, l_120, l_126, l_128, l_1000, l_9999, l_10000, L_0, L_1, L_2, L_3, L_4, L_5, L_7, L_9, L_15, L_40, L_50, L_99, L_127, L_9999, c_ltT, c_ltF, c_leT, c_leF, c_eqT, c_eqF, n_leF, n_ltF, c_gltT, c_gltF, c_ggtT, c_ggtF, false_or, or_false, or_self, true_or, or_true]
        exact t1
      · rw [fX11_goRight_h5.eq_2]
        unfold fX11_goRight_b57
        simp (disch := omega) only [hdi, e2, ↓lt_d, eq_self, lN_add, i_l, wTn, wFa, wFb, wCT, wCF, mNe, mNe2, mLt, mLe, bp_s, bn_s, n_clampS, nI_1, nI_add, pk_sub, nI_mul, wrI_at, wrI_2, wrL_at, wrL_1, true_and, false_and, and_true, and_false, and_self, ↓reduceIte, Nat.reduceEqDiff, Nat.reduceAdd, Nat.reduceMul, Nat.add_zero, Nat.zero_add, reduceCtorEq, l_0, l_1, l_2, l_3, l_4, l_5, l_6, l_7, l_8, l_9, l_10, l_15, l_24, l_32, l_39, l_40, l_47, l_48, l_50, l_57, l_60, l_63, l_80, l_95, l_99, l_100, l_120, l_126, l_128, l_1000, l_9999, l_10000, L_0, L_1, L_2, L_3, L_4, L_5, L_7, L_9, L_15, L_40, L_50, L_99, L_127, L_9999, c_ltT, c_ltF, c_leT, c_leF, c_eqT, c_eqF, n_leF, n_ltF, c_gltT, c_gltF, c_ggtT, c_ggtF, false_or, or_false, or_self, true_or, or_true]
        exact t2
    · have hyk : y * 10 ^ k ≤ q := by
        rw [Nat.mul_comm]
        omega
      have hy1 : 1 ≤ y * 10 ^ k := Nat.mul_pos (by omega) (Nat.pow_pos (by decide))
      have hpy : p * (y * 10 ^ k) ≤ p * q := Nat.mul_le_mul_left p hyk
      have hpy1 : 1 ≤ p * (y * 10 ^ k) := Nat.mul_pos hp hy1
      have hnz : nz p * nz (y * 10 ^ k) ≤ 4 * 1 := Nat.mul_le_mul (Nat.le_trans (nz_le p) hp3) (nzc_p hy k _)
      obtain ⟨C1, R1, f1, a1, s1, s2, s3, s4⟩ := left_l hn hj hp hy1 (by omega) h (by omega)
      obtain ⟨g1, g2, g3, -⟩ := s3
      have g4 := g1.2.2.2.2.2.1
      have wy := Wy_ag (C' := wrI C1 42 r (nI (p * (y * 10 ^ k)))) (R' := wrI R1 90 r (nI (p * (y * 10 ^ k)))) g1 (fun q i hq => by rw [wrI_at, if_neg (by omega)]) (fun q i hq => by rw [wrI_at, if_neg (by omega)])
      obtain ⟨C2, R2, u1, u2, u3, u4, u5, u6⟩ := Wy_hold hn wy hj (by omega) hpy1 (by omega) (by simp (disch := omega) only [g2, ↓lt_d, eq_self, lN_add, i_l, wTn, wFa, wFb, wCT, wCF, mNe, mNe2, mLt, mLe, bp_s, bn_s, n_clampS, nI_1, nI_add, pk_sub, nI_mul, wrI_at, wrI_2, wrL_at, wrL_1, true_and, false_and, and_true, and_false, and_self, ↓reduceIte, Nat.reduceEqDiff, Nat.reduceAdd, Nat.reduceMul, Nat.add_zero, Nat.zero_add, reduceCtorEq, l_0, l_1, l_2, l_3, l_4, l_5, l_6, l_7, l_8, l_9, l_10, l_15, l_24, l_32, l_39, l_40, l_47, l_48, l_50, l_57, l_60, l_63, l_80, l_95, l_99, l_100, l_120, l_126, l_128, l_1000, l_9999, l_10000, L_0, L_1, L_2, L_3, L_4, L_5, L_7, L_9, L_15, L_40, L_50, L_99, L_127, L_9999, c_ltT, c_ltF, c_leT, c_leF, c_eqT, c_eqF, n_leF, n_ltF, c_gltT, c_gltF, c_ggtT, c_ggtF, false_or, or_false, or_self, true_or, or_true]) (by simp (disch := omega) only [g3, ↓lt_d, eq_self, lN_add, i_l, wTn, wFa, wFb, wCT, wCF, mNe, mNe2, mLt, mLe, bp_s, bn_s, n_clampS, nI_1, nI_add, pk_sub, nI_mul, wrI_at, wrI_2, wrL_at, wrL_1, true_and, false_and, and_true, and_false, and_self, ↓reduceIte, Nat.reduceEqDiff, Nat.reduceAdd, Nat.reduceMul, Nat.add_zero, Nat.zero_add, reduceCtorEq, l_0, l_1, l_2, l_3, l_4, l_5, l_6, l_7, l_8, l_9, l_10, l_15, l_24, l_32, l_39, l_40, l_47, l_48, l_50, l_57, l_60, l_63, l_80, l_95, l_99, l_100, l_120, l_126, l_128, l_1000, l_9999, l_10000, L_0, L_1, L_2, L_3, L_4, L_5, L_7, L_9, L_15, L_40, L_50, L_99, L_127, L_9999, c_ltT, c_ltF, c_leT, c_leF, c_eqT, c_eqF, n_leF, n_ltF, c_gltT, c_gltF, c_ggtT, c_ggtF, false_or, or_false, or_self, true_or, or_true])
      have fa := gu_X0_goLeft s1
      have fb := gv_X11_goLeft s2
      have fc := gu_X0_holdRunning u1
      have fd := gv_X11_holds u2
      have hww : ∀ i, i < r → (fun i => if i = r then p * (y * 10 ^ k) else w i) i = w i := fun i hi => if_neg (by omega)
      have hwr : (fun i => if i = r then p * (y * 10 ^ k) else w i) r = p * (y * 10 ^ k) := if_pos rfl
      have es : sumN (fun i => if i = r then p * (y * 10 ^ k) else w i) (r + 1) = p * (q % 10 ^ (k + 1)) := by
        show sumN (fun i => if i = r then p * (y * 10 ^ k) else w i) r + (fun i => if i = r then p * (y * 10 ^ k) else w i) r = _
        rw [sumN_c r hww, hwr, hs, hm, Nat.mul_add, Nat.mul_comm y]
      have ed : sumN (fun i => dgs ((fun i => if i = r then p * (y * 10 ^ k) else w i) i)) (r + 1) = sumN (fun i => dgs (w i)) r + dgs (p * (y * 10 ^ k)) := by
        show sumN (fun i => dgs ((fun i => if i = r then p * (y * 10 ^ k) else w i) i)) r + dgs ((fun i => if i = r then p * (y * 10 ^ k) else w i) r) = _
        rw [hwr, sumN_c (u := fun i => dgs (w i)) r (fun i hi => by show dgs ((fun i => if i = r then p * (y * 10 ^ k) else w i) i) = dgs (w i); rw [hww i hi])]
      obtain ⟨C3, R3, a3, t1, t2, t3⟩ := ih (k + 1) fu fv (r + 1) (a1 + 1) (fun i => if i = r then p * (y * 10 ^ k) else w i) C2 R2 (by omega) (by omega) (by omega) (by omega) (by omega) (fun i hi => by
        rw [fc.1 42 i (by unfold fAcu; omega), fd.1 90 i (by unfold fLau; omega), wrI_at, wrI_at]
        by_cases hir : i = r
        · subst hir
          rw [if_pos ⟨rfl, rfl⟩, if_pos ⟨rfl, rfl⟩, hwr]
          exact ⟨rfl, rfl, hpy1⟩
        · rw [if_neg (by omega), if_neg (by omega), fa.1 42 i (by unfold fAcu; omega), fb.1 90 i (by unfold fLau; omega), hww i (by omega)]
          exact hrw i (by omega)) es (by rw [ed]; exact ⟨u3, u4, u5, Or.inl ⟨rfl, rfl, u6⟩⟩) (by omega)
      refine ⟨C3, R3, a3, ?_, ?_, t3⟩
      · rw [fX0_goRight_h5.eq_2]
        unfold fX0_goRight_b64
        simp (disch := omega) only [hso, e1, tenTo_l, s1, g2, u1, ↓lt_d, eq_self, lN_add, i_l, wTn, wFa, wFb, wCT, wCF, mNe, mNe2, mLt, mLe, bp_s, bn_s, n_clampS, nI_1, nI_add, pk_sub, nI_mul, wrI_at, wrI_2, wrL_at, wrL_1, true_and, false_and, and_true, and_false, and_self, ↓reduceIte, Nat.reduceEqDiff, Nat.reduceAdd, Nat.reduceMul, Nat.add_zero, Nat.zero_add, reduceCtorEq, l_0, l_1, l_2, l_3, l_4, l_5, l_6, l_7, l_8, l_9, l_10, l_15, l_24, l_32, l_39, l_40, l_47, l_48, l_50, l_57, l_60, l_63, l_80, l_95, l_99, l_100, l_120, l_126, l_128, l_1000, l_9999, l_10000, L_0, L_1, L_2, L_3, L_4, L_5, L_7, L_9, L_15, L_40, L_50, L_99, L_127, L_9999, c_ltT, c_ltF, c_leT, c_leF, c_eqT, c_eqF, n_leF, n_ltF, c_gltT, c_gltF, c_ggtT, c_ggtF, false_or, or_false, or_self, true_or, or_true]
        exact t1
      · rw [fX11_goRight_h5.eq_2]
        unfold fX11_goRight_b57
        simp (disch := omega) only [hdi, e2, tens_l hn, s2, g4, u2, ↓lt_d, eq_self, lN_add, i_l, wTn, wFa, wFb, wCT, wCF, mNe, mNe2, mLt, mLe, bp_s, bn_s, n_clampS, nI_1, nI_add, pk_sub, nI_mul, wrI_at, wrI_2, wrL_at, wrL_1, true_and, false_and, and_true, and_false, and_self, ↓reduceIte, Nat.reduceEqDiff, Nat.reduceAdd, Nat.reduceMul, Nat.add_zero, Nat.zero_add, reduceCtorEq, l_0, l_1, l_2, l_3, l_4, l_5, l_6, l_7, l_8, l_9, l_10, l_15, l_24, l_32, l_39, l_40, l_47, l_48, l_50, l_57, l_60, l_63, l_80, l_95, l_99, l_100, l_120, l_126, l_128, l_1000, l_9999, l_10000, L_0, L_1, L_2, L_3, L_4, L_5, L_7, L_9, L_15, L_40, L_50, L_99, L_127, L_9999, c_ltT, c_ltF, c_leT, c_leF, c_eqT, c_eqF, n_leF, n_ltF, c_gltT, c_gltF, c_ggtT, c_ggtF, false_or, or_false, or_self, true_or, or_true]
        exact t2
theorem right_l {n j p q : Nat} (hn : 1000 ≤ n) (hj : j < 6) {T : Nat → Nat} (hp : 1 ≤ p) (hp2 : p ≤ 9999) (hq : 1 ≤ q) (hq2 : q ≤ 9999) {C R : Mm} (h : Lf j T 1 C R 0 0 0) : ∃ C' R' a', fX0_goRight n (nI p) (nI q) C = some (nI 1, C') ∧ fX11_goRight n (nI p) (nI q) R = some R' ∧ ∃ v hd, Wy j T C' R' a' v hd := by
  have := dgs4 hq2
  exact right_h hn hj hp hp2 hq hq2 (dgs q) 0 n n 0 0 (fun _ => 0) C R (by omega) (by omega) (by omega) (by omega) (by omega) (fun i hi => by omega) (by rw [Nat.pow_zero, Nat.mod_one]; rfl) h (by omega)
