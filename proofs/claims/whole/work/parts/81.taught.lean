/-! an asking on both sides, by the table; taught -/
theorem hearC {n t jc v a b : Nat} {P : TB} {C : Mm} (hn : 1000 ≤ n) (ht : t < 2 ^ 30) (hv : isAB v a b) (ha : a ≤ 99) (hb : b ≤ 99) (hB : Bd t P) (h : RepC jc P C) : ∃ C', fX5_hear n jc (nI v) C = some (nI (hr P (asP a b)).1, C') ∧ RepC jc (hr P (asP a b)).2 C' ∧ (∀ q i, ¬ (q = hdc jc ∨ q = hdp jc ∨ q = hdk jc) → C'.1 q i = C.1 q i) := by
  have hpl := placeC hn hv ha hb hB.1 h
  have hs := (small_T hv ha hb).1
  obtain ⟨g1, g2, g3⟩ := fnd_sp P (asP a b)
  obtain ⟨e1, e2⟩ := h
  have hp := hB.1
  have hvv := hv
  unfold isAB at hvv
  have hkc : ¬ hdc jc = hdk jc := by unfold hdk hdc; omega
  have hpc' : ¬ hdc jc = hdp jc := by unfold hdp hdc; omega
  have hkp : ¬ hdk jc = hdp jc := by unfold hdk hdp; omega
  have hkc2 : ¬ hdk jc = hdc jc := by unfold hdk hdc; omega
  have hpc2 : ¬ hdp jc = hdc jc := by unfold hdp hdc; omega
  have hkp2 : ¬ hdp jc = hdk jc := by unfold hdk hdp; omega
  unfold fX5_hear fX5_hear_b53 hr
  generalize fnd P (asP a b) = f at *
  by_cases z1 : 60 ≤ f
  · rw [if_pos z1]
    refine ⟨C, ?_, ⟨e1, e2⟩, fun _ _ _ => rfl⟩
    rw [hpl, bn_s, hs]
    simp (disch := omega) only [↓lt_d, eq_self, lN_add, i_l, wTn, wFa, wFb, wCT, wCF, mNe, mNe2, mLt, mLe, bp_s, bn_s, n_clampS, nI_1, nI_add, pk_sub, nI_mul, wrI_at, wrI_2, wrL_at, wrL_1, true_and, false_and, and_true, and_false, and_self, ↓reduceIte, Nat.reduceEqDiff, Nat.reduceAdd, Nat.reduceMul, Nat.add_zero, Nat.zero_add, reduceCtorEq, l_0, l_1, l_2, l_3, l_4, l_5, l_6, l_7, l_8, l_9, l_10, l_15, l_24, l_32, l_39, l_40, l_47, l_48, l_50, l_57, l_60, l_63, l_80, l_95, l_99, l_100, l_120, l_126, l_128, l_1000, l_9999, l_10000, L_0, L_1, L_2, L_3, L_4, L_5, L_7, L_9, L_15, L_40, L_50, L_99, L_127, L_9999, c_ltT, c_ltF, c_leT, c_leF, c_eqT, c_eqF, n_leF, n_ltF, c_gltT, c_gltF, c_ggtT, c_ggtF, false_or, or_false, or_self, true_or, or_true]
  · rw [if_neg z1]
    by_cases z2 : f = P.1
    · rw [if_pos z2]
      refine ⟨wrI (wrI (wrI (wrI C (hdp jc) f (nI v)) (hdk jc) f (nI 0)) (hdc jc) 3 (nI (f + 1))) (hdk jc) f (nI 1), ?_, ⟨?_, fun i hi => ?_⟩, fun q i hq => ?_⟩
      · rw [← z2] at e1
        simp (disch := omega) only [hpl, hs, e1, hkc, hpc', hkc2, hkp, hkp2, ↓lt_d, eq_self, lN_add, i_l, wTn, wFa, wFb, wCT, wCF, mNe, mNe2, mLt, mLe, bp_s, bn_s, n_clampS, nI_1, nI_add, pk_sub, nI_mul, wrI_at, wrI_2, wrL_at, wrL_1, true_and, false_and, and_true, and_false, and_self, ↓reduceIte, Nat.reduceEqDiff, Nat.reduceAdd, Nat.reduceMul, Nat.add_zero, Nat.zero_add, reduceCtorEq, l_0, l_1, l_2, l_3, l_4, l_5, l_6, l_7, l_8, l_9, l_10, l_15, l_24, l_32, l_39, l_40, l_47, l_48, l_50, l_57, l_60, l_63, l_80, l_95, l_99, l_100, l_120, l_126, l_128, l_1000, l_9999, l_10000, L_0, L_1, L_2, L_3, L_4, L_5, L_7, L_9, L_15, L_40, L_50, L_99, L_127, L_9999, c_ltT, c_ltF, c_leT, c_leF, c_eqT, c_eqF, n_leF, n_ltF, c_gltT, c_gltF, c_ggtT, c_ggtF, false_or, or_false, or_self, true_or, or_true]
      · show _ = nI (P.1 + 1)
        rw [← z2]
        simp (disch := omega) only [hkc, hpc', hkc2, hkp, hkp2, ↓lt_d, eq_self, lN_add, i_l, wTn, wFa, wFb, wCT, wCF, mNe, mNe2, mLt, mLe, bp_s, bn_s, n_clampS, nI_1, nI_add, pk_sub, nI_mul, wrI_at, wrI_2, wrL_at, wrL_1, true_and, false_and, and_true, and_false, and_self, ↓reduceIte, Nat.reduceEqDiff, Nat.reduceAdd, Nat.reduceMul, Nat.add_zero, Nat.zero_add, reduceCtorEq, l_0, l_1, l_2, l_3, l_4, l_5, l_6, l_7, l_8, l_9, l_10, l_15, l_24, l_32, l_39, l_40, l_47, l_48, l_50, l_57, l_60, l_63, l_80, l_95, l_99, l_100, l_120, l_126, l_128, l_1000, l_9999, l_10000, L_0, L_1, L_2, L_3, L_4, L_5, L_7, L_9, L_15, L_40, L_50, L_99, L_127, L_9999, c_ltT, c_ltF, c_leT, c_leF, c_eqT, c_eqF, n_leF, n_ltF, c_gltT, c_gltF, c_ggtT, c_ggtF, false_or, or_false, or_self, true_or, or_true]
      · have hi : i < P.1 + 1 := hi
        show ∃ a' b', 1 ≤ a' ∧ a' ≤ 99 ∧ 1 ≤ b' ∧ b' ≤ 99 ∧ udn P.2.1 f (asP a b) i = asP a' b' ∧ _ ∧ _ = nI (udn P.2.2 f 1 i)
        by_cases hir : i = f
        · subst hir
          rw [udn_s, udn_s]
          refine ⟨a, b, by omega, ha, by omega, hb, rfl, ?_, ?_⟩
          · simp (disch := omega) only [hkc, hpc', hkc2, hkp, hkp2, hpc2, hvv.1, ↓lt_d, eq_self, lN_add, i_l, wTn, wFa, wFb, wCT, wCF, mNe, mNe2, mLt, mLe, bp_s, bn_s, n_clampS, nI_1, nI_add, pk_sub, nI_mul, wrI_at, wrI_2, wrL_at, wrL_1, true_and, false_and, and_true, and_false, and_self, ↓reduceIte, Nat.reduceEqDiff, Nat.reduceAdd, Nat.reduceMul, Nat.add_zero, Nat.zero_add, reduceCtorEq, l_0, l_1, l_2, l_3, l_4, l_5, l_6, l_7, l_8, l_9, l_10, l_15, l_24, l_32, l_39, l_40, l_47, l_48, l_50, l_57, l_60, l_63, l_80, l_95, l_99, l_100, l_120, l_126, l_128, l_1000, l_9999, l_10000, L_0, L_1, L_2, L_3, L_4, L_5, L_7, L_9, L_15, L_40, L_50, L_99, L_127, L_9999, c_ltT, c_ltF, c_leT, c_leF, c_eqT, c_eqF, n_leF, n_ltF, c_gltT, c_gltF, c_ggtT, c_ggtF, false_or, or_false, or_self, true_or, or_true]
          · simp (disch := omega) only [↓lt_d, eq_self, lN_add, i_l, wTn, wFa, wFb, wCT, wCF, mNe, mNe2, mLt, mLe, bp_s, bn_s, n_clampS, nI_1, nI_add, pk_sub, nI_mul, wrI_at, wrI_2, wrL_at, wrL_1, true_and, false_and, and_true, and_false, and_self, ↓reduceIte, Nat.reduceEqDiff, Nat.reduceAdd, Nat.reduceMul, Nat.add_zero, Nat.zero_add, reduceCtorEq, l_0, l_1, l_2, l_3, l_4, l_5, l_6, l_7, l_8, l_9, l_10, l_15, l_24, l_32, l_39, l_40, l_47, l_48, l_50, l_57, l_60, l_63, l_80, l_95, l_99, l_100, l_120, l_126, l_128, l_1000, l_9999, l_10000, L_0, L_1, L_2, L_3, L_4, L_5, L_7, L_9, L_15, L_40, L_50, L_99, L_127, L_9999, c_ltT, c_ltF, c_leT, c_leF, c_eqT, c_eqF, n_leF, n_ltF, c_gltT, c_gltF, c_ggtT, c_ggtF, false_or, or_false, or_self, true_or, or_true]
        · obtain ⟨a2, b2, w1, w2, w3, w4, w5, w6, w7⟩ := e2 i (by omega)
          rw [udn_n _ _ hir, udn_n _ _ hir]
          refine ⟨a2, b2, w1, w2, w3, w4, w5, ?_, ?_⟩
          · rw [wrI_at, if_neg (by omega), wrI_at, if_neg (by omega), wrI_at, if_neg (by omega), wrI_at, if_neg (by omega)]; exact w6
          · rw [wrI_at, if_neg (by omega), wrI_at, if_neg (by omega), wrI_at, if_neg (by omega), wrI_at, if_neg (by omega)]; exact w7
      · rw [wrI_at, if_neg (by omega), wrI_at, if_neg (by omega), wrI_at, if_neg (by omega), wrI_at, if_neg (by omega)]
    · rw [if_neg z2]
      have hfp : f < P.1 := by omega
      obtain ⟨a', b', q1, q2, q3, q4, q5, q6, q7⟩ := e2 f hfp
      have hct := hB.2 f hfp
      refine ⟨wrI C (hdk jc) f (nI (P.2.2 f + 1)), ?_, ⟨?_, fun i hi => ?_⟩, fun q i hq => ?_⟩
      · rw [hpl, bn_s, hs]
        simp (disch := omega) only [e1, q7, ↓lt_d, eq_self, lN_add, i_l, wTn, wFa, wFb, wCT, wCF, mNe, mNe2, mLt, mLe, bp_s, bn_s, n_clampS, nI_1, nI_add, pk_sub, nI_mul, wrI_at, wrI_2, wrL_at, wrL_1, true_and, false_and, and_true, and_false, and_self, ↓reduceIte, Nat.reduceEqDiff, Nat.reduceAdd, Nat.reduceMul, Nat.add_zero, Nat.zero_add, reduceCtorEq, l_0, l_1, l_2, l_3, l_4, l_5, l_6, l_7, l_8, l_9, l_10, l_15, l_24, l_32, l_39, l_40, l_47, l_48, l_50, l_57, l_60, l_63, l_80, l_95, l_99, l_100, l_120, l_126, l_128, l_1000, l_9999, l_10000, L_0, L_1, L_2, L_3, L_4, L_5, L_7, L_9, L_15, L_40, L_50, L_99, L_127, L_9999, c_ltT, c_ltF, c_leT, c_leF, c_eqT, c_eqF, n_leF, n_ltF, c_gltT, c_gltF, c_ggtT, c_ggtF, false_or, or_false, or_self, true_or, or_true]
      · rw [wrI_at, if_neg (by omega)]
        exact e1
      · have hi : i < P.1 := hi
        show ∃ a' b', 1 ≤ a' ∧ a' ≤ 99 ∧ 1 ≤ b' ∧ b' ≤ 99 ∧ P.2.1 i = asP a' b' ∧ _ ∧ _ = nI (udn P.2.2 f (P.2.2 f + 1) i)
        obtain ⟨a2, b2, w1, w2, w3, w4, w5, w6, w7⟩ := e2 i hi
        by_cases hir : i = f
        · subst hir
          rw [udn_s]
          refine ⟨a2, b2, w1, w2, w3, w4, w5, ?_, ?_⟩
          · rw [wrI_at, if_neg (by omega)]; exact w6
          · simp (disch := omega) only [↓lt_d, eq_self, lN_add, i_l, wTn, wFa, wFb, wCT, wCF, mNe, mNe2, mLt, mLe, bp_s, bn_s, n_clampS, nI_1, nI_add, pk_sub, nI_mul, wrI_at, wrI_2, wrL_at, wrL_1, true_and, false_and, and_true, and_false, and_self, ↓reduceIte, Nat.reduceEqDiff, Nat.reduceAdd, Nat.reduceMul, Nat.add_zero, Nat.zero_add, reduceCtorEq, l_0, l_1, l_2, l_3, l_4, l_5, l_6, l_7, l_8, l_9, l_10, l_15, l_24, l_32, l_39, l_40, l_47, l_48, l_50, l_57, l_60, l_63, l_80, l_95, l_99, l_100, l_120, l_126, l_128, l_1000, l_9999, l_10000, L_0, L_1, L_2, L_3, L_4, L_5, L_7, L_9, L_15, L_40, L_50, L_99, L_127, L_9999, c_ltT, c_ltF, c_leT, c_leF, c_eqT, c_eqF, n_leF, n_ltF, c_gltT, c_gltF, c_ggtT, c_ggtF, false_or, or_false, or_self, true_or, or_true]
        · rw [udn_n _ _ hir]
          refine ⟨a2, b2, w1, w2, w3, w4, w5, ?_, ?_⟩
          · rw [wrI_at, if_neg (by omega)]; exact w6
          · rw [wrI_at, if_neg (by omega)]; exact w7
      · rw [wrI_at, if_neg (by omega)]
/-- what an asking changes of the reference's -/
def fAsk (jr q i : Nat) : Prop := (q = 81 ∧ i = jr) ∨ ((q = 82 ∨ q = 83) ∧ 60 * jr ≤ i ∧ i < 60 * jr + 60)
theorem askR {n t jr v a b : Nat} {P : TB} {R : Mm} (hn : 1000 ≤ n) (ht : t < 2 ^ 30) (hj : jr < 6) (hv : isAB v a b) (ha : a ≤ 99) (hb : b ≤ 99) (hB : Bd t P) (h : RepR jr P R) : ∃ R', fX11_askOf n (nI jr) (nI v) R = some (nI (hr P (asP a b)).1, R') ∧ RepR jr (hr P (asP a b)).2 R' ∧ ag (fAsk jr) R R' := by
  have hpl := pairR hn hj hv ha hb hB.1 h
  have hs := (small_T hv ha hb).2
  have has := asPair_l hv
  have hx := asP_le ha hb
  obtain ⟨g1, g2, g3⟩ := fnd_sp P (asP a b)
  obtain ⟨e1, e2⟩ := h
  have hp := hB.1
  have l_360 : (360 : Int32) = nI 360 := by decide
  unfold fX11_askOf fX11_askOf_b33 fX11_askOf_b81 hr
  generalize fnd P (asP a b) = f at *
  have h1 : (nI 0 ≤ -nI 1) = False := eq_false (by decide)
  by_cases z1 : 60 ≤ f
  · rw [if_pos z1]
    rw [if_neg (by omega)] at hpl
    have h60 : P.1 = 60 := by omega
    refine ⟨R, ?_, ⟨e1, e2⟩, ag_rf⟩
    rw [h60] at e1
    simp (disch := omega) only [hs, hpl, h1, e1, ↓lt_d, eq_self, lN_add, i_l, wTn, wFa, wFb, wCT, wCF, mNe, mNe2, mLt, mLe, bp_s, bn_s, n_clampS, nI_1, nI_add, pk_sub, nI_mul, wrI_at, wrI_2, wrL_at, wrL_1, true_and, false_and, and_true, and_false, and_self, ↓reduceIte, Nat.reduceEqDiff, Nat.reduceAdd, Nat.reduceMul, Nat.add_zero, Nat.zero_add, reduceCtorEq, l_0, l_1, l_2, l_3, l_4, l_5, l_6, l_7, l_8, l_9, l_10, l_15, l_24, l_32, l_39, l_40, l_47, l_48, l_50, l_57, l_60, l_63, l_80, l_95, l_99, l_100, l_120, l_126, l_128, l_1000, l_9999, l_10000, L_0, L_1, L_2, L_3, L_4, L_5, L_7, L_9, L_15, L_40, L_50, L_99, L_127, L_9999, c_ltT, c_ltF, c_leT, c_leF, c_eqT, c_eqF, n_leF, n_ltF, c_gltT, c_gltF, c_ggtT, c_ggtF, false_or, or_false, or_self, true_or, or_true]
  · rw [if_neg z1]
    by_cases z2 : f = P.1
    · rw [if_pos z2]
      rw [if_neg (by omega)] at hpl
      refine ⟨wrI (wrI (wrI (wrI R 82 (60 * jr + f) (nI (asP a b))) 83 (60 * jr + f) (nI 0)) 81 jr (nI (f + 1))) 83 (60 * jr + f) (nI 1), ?_, ⟨?_, fun i hi => ?_⟩, ?_⟩
      · rw [← z2] at e1
        simp (disch := omega) only [hs, hpl, h1, e1, has, ↓lt_d, eq_self, lN_add, i_l, wTn, wFa, wFb, wCT, wCF, mNe, mNe2, mLt, mLe, bp_s, bn_s, n_clampS, nI_1, nI_add, pk_sub, nI_mul, wrI_at, wrI_2, wrL_at, wrL_1, true_and, false_and, and_true, and_false, and_self, ↓reduceIte, Nat.reduceEqDiff, Nat.reduceAdd, Nat.reduceMul, Nat.add_zero, Nat.zero_add, reduceCtorEq, l_0, l_1, l_2, l_3, l_4, l_5, l_6, l_7, l_8, l_9, l_10, l_15, l_24, l_32, l_39, l_40, l_47, l_48, l_50, l_57, l_60, l_63, l_80, l_95, l_99, l_100, l_120, l_126, l_128, l_1000, l_9999, l_10000, L_0, L_1, L_2, L_3, L_4, L_5, L_7, L_9, L_15, L_40, L_50, L_99, L_127, L_9999, c_ltT, c_ltF, c_leT, c_leF, c_eqT, c_eqF, n_leF, n_ltF, c_gltT, c_gltF, c_ggtT, c_ggtF, false_or, or_false, or_self, true_or, or_true]
      · show _ = nI (P.1 + 1)
        rw [← z2]
        simp (disch := omega) only [↓lt_d, eq_self, lN_add, i_l, wTn, wFa, wFb, wCT, wCF, mNe, mNe2, mLt, mLe, bp_s, bn_s, n_clampS, nI_1, nI_add, pk_sub, nI_mul, wrI_at, wrI_2, wrL_at, wrL_1, true_and, false_and, and_true, and_false, and_self, ↓reduceIte, Nat.reduceEqDiff, Nat.reduceAdd, Nat.reduceMul, Nat.add_zero, Nat.zero_add, reduceCtorEq, l_0, l_1, l_2, l_3, l_4, l_5, l_6, l_7, l_8, l_9, l_10, l_15, l_24, l_32, l_39, l_40, l_47, l_48, l_50, l_57, l_60, l_63, l_80, l_95, l_99, l_100, l_120, l_126, l_128, l_1000, l_9999, l_10000, L_0, L_1, L_2, L_3, L_4, L_5, L_7, L_9, L_15, L_40, L_50, L_99, L_127, L_9999, c_ltT, c_ltF, c_leT, c_leF, c_eqT, c_eqF, n_leF, n_ltF, c_gltT, c_gltF, c_ggtT, c_ggtF, false_or, or_false, or_self, true_or, or_true]
      · have hi : i < P.1 + 1 := hi
        show udn P.2.1 f (asP a b) i ≤ 9999 ∧ _ = nI (udn P.2.1 f (asP a b) i) ∧ _ = nI (udn P.2.2 f 1 i)
        by_cases hir : i = f
        · subst hir
          rw [udn_s, udn_s]
          refine ⟨hx, ?_, ?_⟩
          · simp (disch := omega) only [↓lt_d, eq_self, lN_add, i_l, wTn, wFa, wFb, wCT, wCF, mNe, mNe2, mLt, mLe, bp_s, bn_s, n_clampS, nI_1, nI_add, pk_sub, nI_mul, wrI_at, wrI_2, wrL_at, wrL_1, true_and, false_and, and_true, and_false, and_self, ↓reduceIte, Nat.reduceEqDiff, Nat.reduceAdd, Nat.reduceMul, Nat.add_zero, Nat.zero_add, reduceCtorEq, l_0, l_1, l_2, l_3, l_4, l_5, l_6, l_7, l_8, l_9, l_10, l_15, l_24, l_32, l_39, l_40, l_47, l_48, l_50, l_57, l_60, l_63, l_80, l_95, l_99, l_100, l_120, l_126, l_128, l_1000, l_9999, l_10000, L_0, L_1, L_2, L_3, L_4, L_5, L_7, L_9, L_15, L_40, L_50, L_99, L_127, L_9999, c_ltT, c_ltF, c_leT, c_leF, c_eqT, c_eqF, n_leF, n_ltF, c_gltT, c_gltF, c_ggtT, c_ggtF, false_or, or_false, or_self, true_or, or_true]
          · simp (disch := omega) only [↓lt_d, eq_self, lN_add, i_l, wTn, wFa, wFb, wCT, wCF, mNe, mNe2, mLt, mLe, bp_s, bn_s, n_clampS, nI_1, nI_add, pk_sub, nI_mul, wrI_at, wrI_2, wrL_at, wrL_1, true_and, false_and, and_true, and_false, and_self, ↓reduceIte, Nat.reduceEqDiff, Nat.reduceAdd, Nat.reduceMul, Nat.add_zero, Nat.zero_add, reduceCtorEq, l_0, l_1, l_2, l_3, l_4, l_5, l_6, l_7, l_8, l_9, l_10, l_15, l_24, l_32, l_39, l_40, l_47, l_48, l_50, l_57, l_60, l_63, l_80, l_95, l_99, l_100, l_120, l_126, l_128, l_1000, l_9999, l_10000, L_0, L_1, L_2, L_3, L_4, L_5, L_7, L_9, L_15, L_40, L_50, L_99, L_127, L_9999, c_ltT, c_ltF, c_leT, c_leF, c_eqT, c_eqF, n_leF, n_ltF, c_gltT, c_gltF, c_ggtT, c_ggtF, false_or, or_false, or_self, true_or, or_true]
        · obtain ⟨w1, w2, w3⟩ := e2 i (by omega)
          rw [udn_n _ _ hir, udn_n _ _ hir]
          refine ⟨w1, ?_, ?_⟩
          · rw [wrI_at, if_neg (by omega), wrI_at, if_neg (by omega), wrI_at, if_neg (by omega), wrI_at, if_neg (by omega)]; exact w2
          · rw [wrI_at, if_neg (by omega), wrI_at, if_neg (by omega), wrI_at, if_neg (by omega), wrI_at, if_neg (by omega)]; exact w3
      · exact ag_tr (ag_tr (ag_tr (ag_wrI (by unfold fAsk; omega)) (ag_wrI (by unfold fAsk; omega))) (ag_wrI (by unfold fAsk; omega))) (ag_wrI (by unfold fAsk; omega))
    · rw [if_neg z2]
      have hfp : f < P.1 := by omega
      rw [if_pos hfp] at hpl
      obtain ⟨q1, q2, q3⟩ := e2 f hfp
      have hct := hB.2 f hfp
      refine ⟨wrI R 83 (60 * jr + f) (nI (P.2.2 f + 1)), ?_, ⟨?_, fun i hi => ?_⟩, ag_wrI (by unfold fAsk; omega)⟩
      · simp (disch := omega) only [hs, hpl, q3, ↓lt_d, eq_self, lN_add, i_l, wTn, wFa, wFb, wCT, wCF, mNe, mNe2, mLt, mLe, bp_s, bn_s, n_clampS, nI_1, nI_add, pk_sub, nI_mul, wrI_at, wrI_2, wrL_at, wrL_1, true_and, false_and, and_true, and_false, and_self, ↓reduceIte, Nat.reduceEqDiff, Nat.reduceAdd, Nat.reduceMul, Nat.add_zero, Nat.zero_add, reduceCtorEq, l_0, l_1, l_2, l_3, l_4, l_5, l_6, l_7, l_8, l_9, l_10, l_15, l_24, l_32, l_39, l_40, l_47, l_48, l_50, l_57, l_60, l_63, l_80, l_95, l_99, l_100, l_120, l_126, l_128, l_1000, l_9999, l_10000, L_0, L_1, L_2, L_3, L_4, L_5, L_7, L_9, L_15, L_40, L_50, L_99, L_127, L_9999, c_ltT, c_ltF, c_leT, c_leF, c_eqT, c_eqF, n_leF, n_ltF, c_gltT, c_gltF, c_ggtT, c_ggtF, false_or, or_false, or_self, true_or, or_true]
      · rw [wrI_at, if_neg (by omega)]
        exact e1
      · have hi : i < P.1 := hi
        show P.2.1 i ≤ 9999 ∧ _ = nI (P.2.1 i) ∧ _ = nI (udn P.2.2 f (P.2.2 f + 1) i)
        obtain ⟨w1, w2, w3⟩ := e2 i hi
        by_cases hir : i = f
        · subst hir
          rw [udn_s]
          refine ⟨w1, ?_, ?_⟩
          · rw [wrI_at, if_neg (by omega)]; exact w2
          · simp (disch := omega) only [↓lt_d, eq_self, lN_add, i_l, wTn, wFa, wFb, wCT, wCF, mNe, mNe2, mLt, mLe, bp_s, bn_s, n_clampS, nI_1, nI_add, pk_sub, nI_mul, wrI_at, wrI_2, wrL_at, wrL_1, true_and, false_and, and_true, and_false, and_self, ↓reduceIte, Nat.reduceEqDiff, Nat.reduceAdd, Nat.reduceMul, Nat.add_zero, Nat.zero_add, reduceCtorEq, l_0, l_1, l_2, l_3, l_4, l_5, l_6, l_7, l_8, l_9, l_10, l_15, l_24, l_32, l_39, l_40, l_47, l_48, l_50, l_57, l_60, l_63, l_80, l_95, l_99, l_100, l_120, l_126, l_128, l_1000, l_9999, l_10000, L_0, L_1, L_2, L_3, L_4, L_5, L_7, L_9, L_15, L_40, L_50, L_99, L_127, L_9999, c_ltT, c_ltF, c_leT, c_leF, c_eqT, c_eqF, n_leF, n_ltF, c_gltT, c_gltF, c_ggtT, c_ggtF, false_or, or_false, or_self, true_or, or_true]
        · rw [udn_n _ _ hir]
          refine ⟨w1, ?_, ?_⟩
          · rw [wrI_at, if_neg (by omega)]; exact w2
          · rw [wrI_at, if_neg (by omega)]; exact w3
/-! what was asked, kept and put back -/
def fKee (q i : Nat) : Prop := q = 95 ∨ (q = 72 ∧ i = 40)
theorem keeps_h {n j : Nat} (hj : j < 6) : ∀ d i fu (R : Mm), 60 - i = d → i ≤ 60 → d < fu → ∃ R', fX11_keeps_h12 n fu (nI j) (nI i) R = some R' ∧ (∀ k, k < 60 → R'.1 95 k = if i ≤ k then R.1 83 (60 * j + k) else R.1 95 k) ∧ ag (fun q _ => q = 95) R R' := by
  have l_360 : (360 : Int32) = nI 360 := by decide
  intro d
  induction d with
  | zero =>
    intro i fu R hd hi hf
    obtain ⟨fu, rfl⟩ : ∃ f, fu = f + 1 := ⟨fu - 1, by omega⟩
    refine ⟨R, ?_, fun k hk => by rw [if_neg (by omega)], ag_rf⟩
    rw [fX11_keeps_h12.eq_2]
    simp (disch := omega) only [↓lt_d, eq_self, lN_add, i_l, wTn, wFa, wFb, wCT, wCF, mNe, mNe2, mLt, mLe, bp_s, bn_s, n_clampS, nI_1, nI_add, pk_sub, nI_mul, wrI_at, wrI_2, wrL_at, wrL_1, true_and, false_and, and_true, and_false, and_self, ↓reduceIte, Nat.reduceEqDiff, Nat.reduceAdd, Nat.reduceMul, Nat.add_zero, Nat.zero_add, reduceCtorEq, l_0, l_1, l_2, l_3, l_4, l_5, l_6, l_7, l_8, l_9, l_10, l_15, l_24, l_32, l_39, l_40, l_47, l_48, l_50, l_57, l_60, l_63, l_80, l_95, l_99, l_100, l_120, l_126, l_128, l_1000, l_9999, l_10000, L_0, L_1, L_2, L_3, L_4, L_5, L_7, L_9, L_15, L_40, L_50, L_99, L_127, L_9999, c_ltT, c_ltF, c_leT, c_leF, c_eqT, c_eqF, n_leF, n_ltF, c_gltT, c_gltF, c_ggtT, c_ggtF, false_or, or_false, or_self, true_or, or_true]
  | succ d ih =>
    intro i fu R hd hi hf
    obtain ⟨fu, rfl⟩ : ∃ f, fu = f + 1 := ⟨fu - 1, by omega⟩
    obtain ⟨R', e1, e2, e3⟩ := ih (i + 1) fu (wrI R 95 i (R.1 83 (60 * j + i))) (by omega) (by omega) (by omega)
    refine ⟨R', ?_, fun k hk => ?_, ag_tr (ag_wrI rfl) e3⟩
    · rw [fX11_keeps_h12.eq_2]
      simp (disch := omega) only [↓lt_d, eq_self, lN_add, i_l, wTn, wFa, wFb, wCT, wCF, mNe, mNe2, mLt, mLe, bp_s, bn_s, n_clampS, nI_1, nI_add, pk_sub, nI_mul, wrI_at, wrI_2, wrL_at, wrL_1, true_and, false_and, and_true, and_false, and_self, ↓reduceIte, Nat.reduceEqDiff, Nat.reduceAdd, Nat.reduceMul, Nat.add_zero, Nat.zero_add, reduceCtorEq, l_0, l_1, l_2, l_3, l_4, l_5, l_6, l_7, l_8, l_9, l_10, l_15, l_24, l_32, l_39, l_40, l_47, l_48, l_50, l_57, l_60, l_63, l_80, l_95, l_99, l_100, l_120, l_126, l_128, l_1000, l_9999, l_10000, L_0, L_1, L_2, L_3, L_4, L_5, L_7, L_9, L_15, L_40, L_50, L_99, L_127, L_9999, c_ltT, c_ltF, c_leT, c_leF, c_eqT, c_eqF, n_leF, n_ltF, c_gltT, c_gltF, c_ggtT, c_ggtF, false_or, or_false, or_self, true_or, or_true]
      exact e1
    · rw [e2 k hk]
      by_cases hki : k = i
      · subst hki
        rw [if_neg (by omega), if_pos (Nat.le_refl _), wrI_at, if_pos ⟨rfl, rfl⟩]
      · by_cases h1 : i ≤ k
        · rw [if_pos (by omega), if_pos h1, wrI_at, if_neg (by omega)]
        · rw [if_neg (by omega), if_neg h1, wrI_at, if_neg (by omega)]
theorem keeps_l {n j : Nat} (hn : 1000 ≤ n) (hj : j < 6) (R : Mm) : ∃ R', fX11_keeps n (nI j) R = some R' ∧ R'.1 72 40 = R.1 81 j ∧ (∀ k, k < 60 → R'.1 95 k = R.1 83 (60 * j + k)) ∧ ag fKee R R' := by
  obtain ⟨R', e1, e2, e3⟩ := keeps_h (n := n) hj 60 0 n (wrI R 72 40 (R.1 81 j)) (by omega) (by omega) (by omega)
  refine ⟨R', ?_, ?_, fun k hk => ?_, ag_tr (ag_wrI (by unfold fKee; omega)) (ag_mono (fun q i z => by unfold fKee; omega) e3)⟩
  · unfold fX11_keeps
    simp (disch := omega) only [↓lt_d, eq_self, lN_add, i_l, wTn, wFa, wFb, wCT, wCF, mNe, mNe2, mLt, mLe, bp_s, bn_s, n_clampS, nI_1, nI_add, pk_sub, nI_mul, wrI_at, wrI_2, wrL_at, wrL_1, true_and, false_and, and_true, and_false, and_self, ↓reduceIte, Nat.reduceEqDiff, Nat.reduceAdd, Nat.reduceMul, Nat.add_zero, Nat.zero_add, reduceCtorEq, l_0, l_1, l_2, l_3, l_4, l_5, l_6, l_7, l_8, l_9, l_10, l_15, l_24, l_32, l_39, l_40, l_47, l_48, l_50, l_57, l_60, l_63, l_80, l_95, l_99, l_100, l_120, l_126, l_128, l_1000, l_9999, l_10000, L_0, L_1, L_2, L_3, L_4, L_5, L_7, L_9, L_15, L_40, L_50, L_99, L_127, L_9999, c_ltT, c_ltF, c_leT, c_leF, c_eqT, c_eqF, n_leF, n_ltF, c_gltT, c_gltF, c_ggtT, c_ggtF, false_or, or_false, or_self, true_or, or_true]
    exact e1
  · rw [e3.1 _ _ (by omega), wrI_at, if_pos ⟨rfl, rfl⟩]
  · rw [e2 k hk, if_pos (Nat.zero_le _), wrI_at, if_neg (by omega)]
theorem puts_h {n j : Nat} (hj : j < 6) : ∀ d i fu (R : Mm), 60 - i = d → i ≤ 60 → d < fu → ∃ R', fX11_putsBack_h12 n fu (nI j) (nI i) R = some R' ∧ (∀ k, k < 60 → R'.1 83 (60 * j + k) = if i ≤ k then R.1 95 k else R.1 83 (60 * j + k)) ∧ ag (fun q k => q = 83 ∧ 60 * j ≤ k ∧ k < 60 * j + 60) R R' := by
  have l_360 : (360 : Int32) = nI 360 := by decide
  intro d
  induction d with
  | zero =>
    intro i fu R hd hi hf
    obtain ⟨fu, rfl⟩ : ∃ f, fu = f + 1 := ⟨fu - 1, by omega⟩
    refine ⟨R, ?_, fun k hk => by rw [if_neg (by omega)], ag_rf⟩
    rw [fX11_putsBack_h12.eq_2]
    simp (disch := omega) only [↓lt_d, eq_self, lN_add, i_l, wTn, wFa, wFb, wCT, wCF, mNe, mNe2, mLt, mLe, bp_s, bn_s, n_clampS, nI_1, nI_add, pk_sub, nI_mul, wrI_at, wrI_2, wrL_at, wrL_1, true_and, false_and, and_true, and_false, and_self, ↓reduceIte, Nat.reduceEqDiff, Nat.reduceAdd, Nat.reduceMul, Nat.add_zero, Nat.zero_add, reduceCtorEq, l_0, l_1, l_2, l_3, l_4, l_5, l_6, l_7, l_8, l_9, l_10, l_15, l_24, l_32, l_39, l_40, l_47, l_48, l_50, l_57, l_60, l_63, l_80, l_95, l_99, l_100, l_120, l_126, l_128, l_1000, l_9999, l_10000, L_0, L_1, L_2, L_3, L_4, L_5, L_7, L_9, L_15, L_40, L_50, L_99, L_127, L_9999, c_ltT, c_ltF, c_leT, c_leF, c_eqT, c_eqF, n_leF, n_ltF, c_gltT, c_gltF, c_ggtT, c_ggtF, false_or, or_false, or_self, true_or, or_true]
  | succ d ih =>
    intro i fu R hd hi hf
    obtain ⟨fu, rfl⟩ : ∃ f, fu = f + 1 := ⟨fu - 1, by omega⟩
    obtain ⟨R', e1, e2, e3⟩ := ih (i + 1) fu (wrI R 83 (60 * j + i) (R.1 95 i)) (by omega) (by omega) (by omega)
    refine ⟨R', ?_, fun k hk => ?_, ag_tr (ag_wrI (by omega)) e3⟩
    · rw [fX11_putsBack_h12.eq_2]
      simp (disch := omega) only [↓lt_d, eq_self, lN_add, i_l, wTn, wFa, wFb, wCT, wCF, mNe, mNe2, mLt, mLe, bp_s, bn_s, n_clampS, nI_1, nI_add, pk_sub, nI_mul, wrI_at, wrI_2, wrL_at, wrL_1, true_and, false_and, and_true, and_false, and_self, ↓reduceIte, Nat.reduceEqDiff, Nat.reduceAdd, Nat.reduceMul, Nat.add_zero, Nat.zero_add, reduceCtorEq, l_0, l_1, l_2, l_3, l_4, l_5, l_6, l_7, l_8, l_9, l_10, l_15, l_24, l_32, l_39, l_40, l_47, l_48, l_50, l_57, l_60, l_63, l_80, l_95, l_99, l_100, l_120, l_126, l_128, l_1000, l_9999, l_10000, L_0, L_1, L_2, L_3, L_4, L_5, L_7, L_9, L_15, L_40, L_50, L_99, L_127, L_9999, c_ltT, c_ltF, c_leT, c_leF, c_eqT, c_eqF, n_leF, n_ltF, c_gltT, c_gltF, c_ggtT, c_ggtF, false_or, or_false, or_self, true_or, or_true]
      exact e1
    · rw [e2 k hk]
      by_cases hki : k = i
      · subst hki
        rw [if_neg (by omega), if_pos (Nat.le_refl _), wrI_at, if_pos ⟨rfl, rfl⟩]
      · by_cases h1 : i ≤ k
        · rw [if_pos (by omega), if_pos h1, wrI_at, if_neg (by omega)]
        · rw [if_neg (by omega), if_neg h1, wrI_at, if_neg (by omega)]
def fPut (jr q i : Nat) : Prop := (q = 81 ∧ i = jr) ∨ (q = 83 ∧ 60 * jr ≤ i ∧ i < 60 * jr + 60)
theorem puts_l {n j : Nat} (hn : 1000 ≤ n) (hj : j < 6) (R : Mm) : ∃ R', fX11_putsBack n (nI j) R = some R' ∧ R'.1 81 j = R.1 72 40 ∧ (∀ k, k < 60 → R'.1 83 (60 * j + k) = R.1 95 k) ∧ ag (fPut j) R R' := by
  obtain ⟨R', e1, e2, e3⟩ := puts_h (n := n) hj 60 0 n (wrI R 81 j (R.1 72 40)) (by omega) (by omega) (by omega)
  refine ⟨R', ?_, ?_, fun k hk => ?_, ag_tr (ag_wrI (by unfold fPut; omega)) (ag_mono (fun q i z => by unfold fPut; omega) e3)⟩
  · unfold fX11_putsBack
    simp (disch := omega) only [↓lt_d, eq_self, lN_add, i_l, wTn, wFa, wFb, wCT, wCF, mNe, mNe2, mLt, mLe, bp_s, bn_s, n_clampS, nI_1, nI_add, pk_sub, nI_mul, wrI_at, wrI_2, wrL_at, wrL_1, true_and, false_and, and_true, and_false, and_self, ↓reduceIte, Nat.reduceEqDiff, Nat.reduceAdd, Nat.reduceMul, Nat.add_zero, Nat.zero_add, reduceCtorEq, l_0, l_1, l_2, l_3, l_4, l_5, l_6, l_7, l_8, l_9, l_10, l_15, l_24, l_32, l_39, l_40, l_47, l_48, l_50, l_57, l_60, l_63, l_80, l_95, l_99, l_100, l_120, l_126, l_128, l_1000, l_9999, l_10000, L_0, L_1, L_2, L_3, L_4, L_5, L_7, L_9, L_15, L_40, L_50, L_99, L_127, L_9999, c_ltT, c_ltF, c_leT, c_leF, c_eqT, c_eqF, n_leF, n_ltF, c_gltT, c_gltF, c_ggtT, c_ggtF, false_or, or_false, or_self, true_or, or_true]
    exact e1
  · rw [e3.1 _ _ (by omega), wrI_at, if_pos ⟨rfl, rfl⟩]
  · rw [e2 k hk, if_pos (Nat.zero_le _), wrI_at, if_neg (by omega)]
