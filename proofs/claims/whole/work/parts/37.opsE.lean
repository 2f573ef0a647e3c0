theorem head_eq {n k b : Nat} {R : Mm} (hk : k < 6) (h1 : R.1 72 16 = nI k) (h2 : R.1 72 7 = nI b) : fX11_head n R = hR n 5 0 (wrI (wrI (wrI (wrI R 72 10 (-nI 1)) 72 11 (nI 0)) 72 12 (nI b)) 72 13 (-nI 1)) := by
  have e0 : nI (lt5 0) = 108 := by decide
  have e1 : nI (lt5 1) = 97 := by decide
  have e2 : nI (lt5 2) = 104 := by decide
  have e3 : nI (lt5 3) = 116 := by decide
  have e4 : nI (lt5 4) = nI 99 := by decide
  unfold fX11_head
  simp only [hR, htail]
  simp (disch := omega) only [h1, h2, e0, e1, e2, e3, e4, ↓lt_d, eq_self, lN_add, i_l, wTn, wFa, wFb, wCT, wCF, mNe, mNe2, mLt, mLe, bp_s, bn_s, n_clampS, nI_1, nI_add, pk_sub, nI_mul, wrI_at, wrI_2, wrL_at, wrL_1, true_and, false_and, and_true, and_false, and_self, ↓reduceIte, Nat.reduceEqDiff, Nat.reduceAdd, Nat.reduceMul, Nat.add_zero, Nat.zero_add, reduceCtorEq, l_0, l_1, l_2, l_3, l_4, l_5, l_6, l_7, l_8, l_9, l_10, l_15, l_24, l_32, l_39, l_40, l_47, l_48, l_50, l_57, l_60, l_63, l_80, l_95, l_99, l_100, l_120, l_126, l_128, l_1000, l_9999, l_10000, L_0, L_1, L_2, L_3, L_4, L_5, L_7, L_9, L_15, L_40, L_50, L_99, L_127, L_9999, c_ltT, c_ltF, c_leT, c_leF, c_eqT, c_eqF, n_leF, n_ltF, c_gltT, c_gltF, c_ggtT, c_ggtF, false_or, or_false, or_self, true_or, or_true]
theorem inv_head {t k nb : Nat} {C R C' R' : Mm} (h : In k nb t C R) (t0 : C'.1 1 1 = nI 0) (t1 : R'.1 72 7 = nI 0) (hc : ∀ q i, ¬ (q = 28 ∨ q = 29 ∨ q = 1) → C'.1 q i = C.1 q i) (hl : C'.2 = C.2) (hr : ∀ q i, ¬ (q = 80 ∨ (q = 72 ∧ (i = 7 ∨ (10 ≤ i ∧ i ≤ 13)))) → R'.1 q i = R.1 q i) (hrl : R'.2 = R.2) : In k nb t C' R' := by
  obtain ⟨e1, e2, e3, e4, e5, e6, e7, e8, e9, e10⟩ := h
  exact ⟨⟨0, by omega, t0, t1, fun i hi => by omega⟩, I_head_fr e2 (fun q i hq => hc q i (by omega)) (fun q i hq => hr q i (by omega)), I_pair_fr e2.1 e3 (fun q i hq => hc q i (by omega)) (fun q i hq => hr q i (by omega)), I_chg_fr e4 (fun q i hq => hc q i (by omega)) (fun q i hq => hr q i (by omega)), I_seen_fr e5 (fun q i hq => hc q i (by omega)) (fun q i hq => hr q i (by omega)), I_told_fr e6 (fun q i hq => hc q i (by omega)) (fun q i hq => hr q i (by omega)), I_body_fr e7 (fun q i hq => hc q i (by omega)) (fun q i hq => hr q i (by omega)), I_ran_fr e8 (fun q i hq => hc q i (by omega)) (fun q i hq => hr q i (by omega)), I_shelf_fr e9 (fun q i hq => hc q i (by omega)) hl (fun q i hq => hr q i (by omega)) (fun _ => by rw [hrl]), I_cho_fr e10 (fun q i hq => hc q i (by omega)) (fun q i hq => hr q i (by omega))⟩
theorem op_head {t n : Nat} (hn : 1000 ≤ n) {C R : Mm} (h : Inv t C R) : ∃ r C' R', fX10_head n C = some (r, C') ∧ fX11_head n R = some (r, R') ∧ Inv (t + 1) C' R' := by
  have h0 := h
  obtain ⟨k, nb, h⟩ := h
  have hh : In k nb t C R := h
  obtain ⟨h1, h2, h3, h4, h5, h6, h7, h8, h9, h10⟩ := h
  obtain ⟨b, hb, t1, t2, t3⟩ := h1
  obtain ⟨hk6, k1, k2, k3⟩ := h2
  by_cases hk : k = 6
  · subst hk
    refine ⟨-3, C, R, ?_, ?_, Inv_up (Nat.le_succ t) h0⟩
    · unfold fX10_head
      simp (disch := omega) only [k1, ↓lt_d, eq_self, lN_add, i_l, wTn, wFa, wFb, wCT, wCF, mNe, mNe2, mLt, mLe, bp_s, bn_s, n_clampS, nI_1, nI_add, pk_sub, nI_mul, wrI_at, wrI_2, wrL_at, wrL_1, true_and, false_and, and_true, and_false, and_self, ↓reduceIte, Nat.reduceEqDiff, Nat.reduceAdd, Nat.reduceMul, Nat.add_zero, Nat.zero_add, reduceCtorEq, l_0, l_1, l_2, l_3, l_4, l_5, l_6, l_7, l_8, l_9, l_10, l_15, l_24, l_32, l_39, l_40, l_47, l_48, l_50, l_57, l_60, l_63, l_80, l_95, l_99, l_100, l_120, l_126, l_128, l_1000, l_9999, l_10000, L_0, L_1, L_2, L_3, L_4, L_5, L_7, L_9, L_15, L_40, L_50, L_99, L_127, L_9999, c_ltT, c_ltF, c_leT, c_leF, c_eqT, c_eqF, n_leF, n_ltF, c_gltT, c_gltF, c_ggtT, c_ggtF, false_or, or_false, or_self, true_or, or_true]
    · unfold fX11_head
      simp (disch := omega) only [k2, ↓lt_d, eq_self, lN_add, i_l, wTn, wFa, wFb, wCT, wCF, mNe, mNe2, mLt, mLe, bp_s, bn_s, n_clampS, nI_1, nI_add, pk_sub, nI_mul, wrI_at, wrI_2, wrL_at, wrL_1, true_and, false_and, and_true, and_false, and_self, ↓reduceIte, Nat.reduceEqDiff, Nat.reduceAdd, Nat.reduceMul, Nat.add_zero, Nat.zero_add, reduceCtorEq, l_0, l_1, l_2, l_3, l_4, l_5, l_6, l_7, l_8, l_9, l_10, l_15, l_24, l_32, l_39, l_40, l_47, l_48, l_50, l_57, l_60, l_63, l_80, l_95, l_99, l_100, l_120, l_126, l_128, l_1000, l_9999, l_10000, L_0, L_1, L_2, L_3, L_4, L_5, L_7, L_9, L_15, L_40, L_50, L_99, L_127, L_9999, c_ltT, c_ltF, c_leT, c_leF, c_eqT, c_eqF, n_leF, n_ltF, c_gltT, c_gltF, c_ggtT, c_ggtF, false_or, or_false, or_self, true_or, or_true]
  · have hk5 : k < 6 := by omega
    have hC : BT (fun i => (C.1 2 i).toNatClampNeg) b (wrI C (hdc 6) 3 (nI 0)) := by
      refine ⟨hb, by rw [wrI_at, if_neg (by unfold hdc; omega)]; exact t1, fun i hi => ?_⟩
      obtain ⟨v, v1, v2, -⟩ := t3 i hi
      rw [wrI_at, if_neg (by unfold hdc; omega)]
      simp only [v2]
      rw [n_clampS (by omega)]
      exact ⟨v1, rfl⟩
    have hR0 : BR (fun i => (C.1 2 i).toNatClampNeg) b (wrI (wrI (wrI (wrI R 72 10 (-nI 1)) 72 11 (nI 0)) 72 12 (nI b)) 72 13 (-nI 1)) := by
      refine ⟨hb, by simp (disch := omega) only [↓lt_d, eq_self, lN_add, i_l, wTn, wFa, wFb, wCT, wCF, mNe, mNe2, mLt, mLe, bp_s, bn_s, n_clampS, nI_1, nI_add, pk_sub, nI_mul, wrI_at, wrI_2, wrL_at, wrL_1, true_and, false_and, and_true, and_false, and_self, ↓reduceIte, Nat.reduceEqDiff, Nat.reduceAdd, Nat.reduceMul, Nat.add_zero, Nat.zero_add, reduceCtorEq, l_0, l_1, l_2, l_3, l_4, l_5, l_6, l_7, l_8, l_9, l_10, l_15, l_24, l_32, l_39, l_40, l_47, l_48, l_50, l_57, l_60, l_63, l_80, l_95, l_99, l_100, l_120, l_126, l_128, l_1000, l_9999, l_10000, L_0, L_1, L_2, L_3, L_4, L_5, L_7, L_9, L_15, L_40, L_50, L_99, L_127, L_9999, c_ltT, c_ltF, c_leT, c_leF, c_eqT, c_eqF, n_leF, n_ltF, c_gltT, c_gltF, c_ggtT, c_ggtF, false_or, or_false, or_self, true_or, or_true], by simp (disch := omega) only [↓lt_d, eq_self, lN_add, i_l, wTn, wFa, wFb, wCT, wCF, mNe, mNe2, mLt, mLe, bp_s, bn_s, n_clampS, nI_1, nI_add, pk_sub, nI_mul, wrI_at, wrI_2, wrL_at, wrL_1, true_and, false_and, and_true, and_false, and_self, ↓reduceIte, Nat.reduceEqDiff, Nat.reduceAdd, Nat.reduceMul, Nat.add_zero, Nat.zero_add, reduceCtorEq, l_0, l_1, l_2, l_3, l_4, l_5, l_6, l_7, l_8, l_9, l_10, l_15, l_24, l_32, l_39, l_40, l_47, l_48, l_50, l_57, l_60, l_63, l_80, l_95, l_99, l_100, l_120, l_126, l_128, l_1000, l_9999, l_10000, L_0, L_1, L_2, L_3, L_4, L_5, L_7, L_9, L_15, L_40, L_50, L_99, L_127, L_9999, c_ltT, c_ltF, c_leT, c_leF, c_eqT, c_eqF, n_leF, n_ltF, c_gltT, c_gltF, c_ggtT, c_ggtF, false_or, or_false, or_self, true_or, or_true], fun i hi => ?_⟩
      obtain ⟨v, v1, v2, v3⟩ := t3 i hi
      rw [wrI_at, if_neg (by omega), wrI_at, if_neg (by omega), wrI_at, if_neg (by omega), wrI_at, if_neg (by omega)]
      simp only [v2]
      rw [n_clampS (by omega)]
      exact ⟨v1, v3⟩
    have hfr : ∀ q i, ¬ (q = 72 ∧ (10 ≤ i ∧ i ≤ 13)) → (wrI (wrI (wrI (wrI R 72 10 (-nI 1)) 72 11 (nI 0)) 72 12 (nI b)) 72 13 (-nI 1)).1 q i = R.1 q i := by
      intro q i hq
      rw [wrI_at, if_neg (by omega), wrI_at, if_neg (by omega), wrI_at, if_neg (by omega), wrI_at, if_neg (by omega)]
    rw [head_eq hk5 k2 t2]
    unfold fX10_head fX5_read
    rcases head_run hn 5 0 0 n _ _ (by omega) (by omega) hC hR0 (by simp (disch := omega) only [↓lt_d, eq_self, lN_add, i_l, wTn, wFa, wFb, wCT, wCF, mNe, mNe2, mLt, mLe, bp_s, bn_s, n_clampS, nI_1, nI_add, pk_sub, nI_mul, wrI_at, wrI_2, wrL_at, wrL_1, true_and, false_and, and_true, and_false, and_self, ↓reduceIte, Nat.reduceEqDiff, Nat.reduceAdd, Nat.reduceMul, Nat.add_zero, Nat.zero_add, reduceCtorEq, l_0, l_1, l_2, l_3, l_4, l_5, l_6, l_7, l_8, l_9, l_10, l_15, l_24, l_32, l_39, l_40, l_47, l_48, l_50, l_57, l_60, l_63, l_80, l_95, l_99, l_100, l_120, l_126, l_128, l_1000, l_9999, l_10000, L_0, L_1, L_2, L_3, L_4, L_5, L_7, L_9, L_15, L_40, L_50, L_99, L_127, L_9999, c_ltT, c_ltF, c_leT, c_leF, c_eqT, c_eqF, n_leF, n_ltF, c_gltT, c_gltF, c_ggtT, c_ggtF, false_or, or_false, or_self, true_or, or_true]) (by simp (disch := omega) only [↓lt_d, eq_self, lN_add, i_l, wTn, wFa, wFb, wCT, wCF, mNe, mNe2, mLt, mLe, bp_s, bn_s, n_clampS, nI_1, nI_add, pk_sub, nI_mul, wrI_at, wrI_2, wrL_at, wrL_1, true_and, false_and, and_true, and_false, and_self, ↓reduceIte, Nat.reduceEqDiff, Nat.reduceAdd, Nat.reduceMul, Nat.add_zero, Nat.zero_add, reduceCtorEq, l_0, l_1, l_2, l_3, l_4, l_5, l_6, l_7, l_8, l_9, l_10, l_15, l_24, l_32, l_39, l_40, l_47, l_48, l_50, l_57, l_60, l_63, l_80, l_95, l_99, l_100, l_120, l_126, l_128, l_1000, l_9999, l_10000, L_0, L_1, L_2, L_3, L_4, L_5, L_7, L_9, L_15, L_40, L_50, L_99, L_127, L_9999, c_ltT, c_ltF, c_leT, c_leF, c_eqT, c_eqF, n_leF, n_ltF, c_gltT, c_gltF, c_ggtT, c_ggtF, false_or, or_false, or_self, true_or, or_true]) (by omega) with ⟨p', C', R', f1, f2, f3, f4, f5, f6, f7, f8, f9, f10, f11⟩ | ⟨e, C', R', f1, f2, f3, f4, f5, f6, f7, f8⟩
    · have cc : ∀ q i, ¬ (q = 28 ∨ q = 29) → C'.1 q i = C.1 q i := by
        intro q i hq
        rw [f10 q i (by unfold hdn; omega), wrI_at, if_neg (by unfold hdc; omega)]
      have rr : ∀ q i, ¬ (q = 80 ∨ (q = 72 ∧ (10 ≤ i ∧ i ≤ 13))) → R'.1 q i = R.1 q i := by
        intro q i hq
        rw [f11 q i (by omega), hfr q i (by omega)]
      have ck : C'.1 0 2 = nI k := by rw [cc 0 2 (by omega)]; exact k1
      rw [f3]
      unfold fX9_clear htail fX11_head_b123
      by_cases hpb : p' = b
      · subst hpb
        rw [if_pos rfl] at f2
        have c6 : (wrI C' 1 1 (nI 0)).1 (hdc 6) 3 = nI 0 := by
          rw [wrI_at, if_neg (by unfold hdc; omega), f10 _ _ (by unfold hdc hdn; omega), wrI_at, if_pos ⟨rfl, rfl⟩]
        obtain ⟨C2, g1, g2, g3, g4, g5, g6, g7⟩ := become_l (j0 := k) (j1 := 6) (by omega) (by omega) (by omega) c6 (show 0 ≤ 60 by omega)
        obtain ⟨R2, y1, y2, y3, y4, y5⟩ := lay_head (n := n) hk5 (R0 := R') 5 0 n (wrI R' 72 7 (nI 0)) (by omega) (by omega) (by omega) (by rw [wrI_at, if_neg (by omega), rr _ _ (by omega)]; exact k2) (fun i => by rw [wrI_at, if_neg (by omega)])
        have c2k : C2.1 0 2 = nI k := by
          rw [g7 _ _ (by unfold hdn hdp hdk hdc; omega), wrI_at, if_neg (by omega)]
          exact ck
        refine ⟨nI k, wrI C2 0 2 (nI (k + 1)), R2, ?_, ?_, ?_⟩
        · simp (disch := omega) only [k1, f2, ck, g1, c2k, Nat.add_sub_cancel, ↓lt_d, eq_self, lN_add, i_l, wTn, wFa, wFb, wCT, wCF, mNe, mNe2, mLt, mLe, bp_s, bn_s, n_clampS, nI_1, nI_add, pk_sub, nI_mul, wrI_at, wrI_2, wrL_at, wrL_1, true_and, false_and, and_true, and_false, and_self, ↓reduceIte, Nat.reduceEqDiff, Nat.reduceAdd, Nat.reduceMul, Nat.add_zero, Nat.zero_add, reduceCtorEq, l_0, l_1, l_2, l_3, l_4, l_5, l_6, l_7, l_8, l_9, l_10, l_15, l_24, l_32, l_39, l_40, l_47, l_48, l_50, l_57, l_60, l_63, l_80, l_95, l_99, l_100, l_120, l_126, l_128, l_1000, l_9999, l_10000, L_0, L_1, L_2, L_3, L_4, L_5, L_7, L_9, L_15, L_40, L_50, L_99, L_127, L_9999, c_ltT, c_ltF, c_leT, c_leF, c_eqT, c_eqF, n_leF, n_ltF, c_gltT, c_gltF, c_ggtT, c_ggtF, false_or, or_false, or_self, true_or, or_true]
        · simp (disch := omega) only [f6, f4, f5, y1, ↓lt_d, eq_self, lN_add, i_l, wTn, wFa, wFb, wCT, wCF, mNe, mNe2, mLt, mLe, bp_s, bn_s, n_clampS, nI_1, nI_add, pk_sub, nI_mul, wrI_at, wrI_2, wrL_at, wrL_1, true_and, false_and, and_true, and_false, and_self, ↓reduceIte, Nat.reduceEqDiff, Nat.reduceAdd, Nat.reduceMul, Nat.add_zero, Nat.zero_add, reduceCtorEq, l_0, l_1, l_2, l_3, l_4, l_5, l_6, l_7, l_8, l_9, l_10, l_15, l_24, l_32, l_39, l_40, l_47, l_48, l_50, l_57, l_60, l_63, l_80, l_95, l_99, l_100, l_120, l_126, l_128, l_1000, l_9999, l_10000, L_0, L_1, L_2, L_3, L_4, L_5, L_7, L_9, L_15, L_40, L_50, L_99, L_127, L_9999, c_ltT, c_ltF, c_leT, c_leF, c_eqT, c_eqF, n_leF, n_ltF, c_gltT, c_gltF, c_ggtT, c_ggtF, false_or, or_false, or_self, true_or, or_true]
        · have zc : ∀ q i, ¬ (q = 28 ∨ q = 29 ∨ q = 1 ∨ q = hdn k ∨ q = hdp k ∨ q = hdk k ∨ (q = hdc k ∧ i = 3) ∨ (q = 0 ∧ i = 2)) → (wrI C2 0 2 (nI (k + 1))).1 q i = C.1 q i := by
            intro q i hq
            rw [wrI_at, if_neg (by omega), g7 q i (by omega), wrI_at, if_neg (by omega), cc q i (by omega)]
          have zr : ∀ q i, ¬ (q = 80 ∨ (q = 72 ∧ (i = 7 ∨ i = 16 ∨ (10 ≤ i ∧ i ≤ 13))) ∨ (q = 73 ∧ 5 * k ≤ i ∧ i < 5 * k + 5)) → R2.1 q i = R.1 q i := by
            intro q i hq
            rw [y5 q i (by omega), wrI_at, if_neg (by omega), rr q i (by omega)]
          have zc2 : ∀ q i, ¬ (q = 28 ∨ q = 29 ∨ q = 1 ∨ (4 ≤ q ∧ q < 28) ∨ (q = 0 ∧ i = 2)) → (wrI C2 0 2 (nI (k + 1))).1 q i = C.1 q i := fun q i hq => zc q i (by unfold hdn hdp hdk hdc; omega)
          refine ⟨k + 1, nb, ⟨0, by omega, ?_, ?_, fun i hi => by omega⟩, ?_, ?_, I_chg_up (Nat.le_succ k) (I_chg_fr h4 (fun q i hq => zc2 q i (by omega)) (fun q i hq => zr q i (by omega))), I_seen_fr h5 (fun q i hq => zc2 q i (by omega)) (fun q i hq => zr q i (by omega)), I_told_fr h6 (fun q i hq => zc2 q i (by omega)) (fun q i hq => zr q i (by omega)), I_body_fr h7 (fun q i hq => zc2 q i (by omega)) (fun q i hq => zr q i (by omega)), I_ran_fr h8 (fun q i hq => zc2 q i (by omega)) (fun q i hq => zr q i (by omega)), I_shelf_fr h9 (fun q i hq => zc2 q i (by omega)) ?_ (fun q i hq => zr q i (by omega)) (fun i => ?_), I_cho_fr h10 (fun q i hq => zc2 q i (by omega)) (fun q i hq => zr q i (by omega))⟩
          · rw [wrI_at, if_neg (by omega), g7 _ _ (by unfold hdn hdp hdk hdc; omega), wrI_at, if_pos ⟨rfl, rfl⟩]
          · rw [y5 _ _ (by omega), wrI_at, if_pos ⟨rfl, rfl⟩]
          · refine ⟨by omega, by rw [wrI_at, if_pos ⟨rfl, rfl⟩], y3, fun j hj i hi => ?_⟩
            by_cases hjk : j = k
            · subst hjk
              obtain ⟨u, u1, u2, u3, u4⟩ := f7 i (by omega) hi
              refine ⟨u, ?_, ?_, u3, u4⟩
              · rw [wrI_at, if_neg (by unfold hdn; omega), g3 i hi, wrI_at, if_neg (by unfold hdn; omega)]
                exact u1
              · rw [y4 i (by omega) hi]
                exact u2
            · rw [zc _ _ (by unfold hdn hdp hdk hdc; omega), zr _ _ (by omega)]
              exact k3 j (by omega) i hi
          · refine ⟨fun j hj => ?_, fun j hj hj6 => ?_⟩
            · by_cases hjk : j = k
              · subst hjk
                refine ⟨0, by omega, ?_, ?_, fun i hi => by omega⟩
                · rw [wrI_at, if_neg (by unfold hdc; omega)]
                  exact g6
                · rw [zr _ _ (by omega)]
                  exact h3.2 j (by omega) hk5
              · obtain ⟨pc, hp, d1, d2, d3⟩ := h3.1 j (by omega)
                refine ⟨pc, hp, by rw [zc _ _ (by unfold hdn hdp hdk hdc; omega)]; exact d1, by rw [zr _ _ (by omega)]; exact d2, fun i hi => ?_⟩
                obtain ⟨a2, b2, c2, w1, w2, w3, w4, w5, w6, w7, w8, w9⟩ := d3 i hi
                refine ⟨a2, b2, c2, w1, w2, w3, w4, by omega, ?_, ?_, ?_, ?_⟩
                · rw [zc _ _ (by unfold hdn hdp hdk hdc; omega)]; exact w6
                · rw [zc _ _ (by unfold hdn hdp hdk hdc; omega)]; exact w7
                · rw [zr _ _ (by omega)]; exact w8
                · rw [zr _ _ (by omega)]; exact w9
            · rw [zr _ _ (by omega)]
              exact h3.2 j (by omega) hj6
          · rw [wrI_2, g2, wrI_2, f8, wrI_2]
          · rw [y2, wrI_2, f9]
            rfl
      · rw [if_neg hpb] at f2
        have hw := wrongF_l f6 f4
        refine ⟨-nI 100 - nI p', wrI C' 1 1 (nI 0), wrI (wrI R' 72 13 (nI p')) 72 7 (nI 0), ?_, ?_, ⟨k, nb, In_up (Nat.le_succ t) (inv_head hh (by simp (disch := omega) only [↓lt_d, eq_self, lN_add, i_l, wTn, wFa, wFb, wCT, wCF, mNe, mNe2, mLt, mLe, bp_s, bn_s, n_clampS, nI_1, nI_add, pk_sub, nI_mul, wrI_at, wrI_2, wrL_at, wrL_1, true_and, false_and, and_true, and_false, and_self, ↓reduceIte, Nat.reduceEqDiff, Nat.reduceAdd, Nat.reduceMul, Nat.add_zero, Nat.zero_add, reduceCtorEq, l_0, l_1, l_2, l_3, l_4, l_5, l_6, l_7, l_8, l_9, l_10, l_15, l_24, l_32, l_39, l_40, l_47, l_48, l_50, l_57, l_60, l_63, l_80, l_95, l_99, l_100, l_120, l_126, l_128, l_1000, l_9999, l_10000, L_0, L_1, L_2, L_3, L_4, L_5, L_7, L_9, L_15, L_40, L_50, L_99, L_127, L_9999, c_ltT, c_ltF, c_leT, c_leF, c_eqT, c_eqF, n_leF, n_ltF, c_gltT, c_gltF, c_ggtT, c_ggtF, false_or, or_false, or_self, true_or, or_true]) (by simp (disch := omega) only [↓lt_d, eq_self, lN_add, i_l, wTn, wFa, wFb, wCT, wCF, mNe, mNe2, mLt, mLe, bp_s, bn_s, n_clampS, nI_1, nI_add, pk_sub, nI_mul, wrI_at, wrI_2, wrL_at, wrL_1, true_and, false_and, and_true, and_false, and_self, ↓reduceIte, Nat.reduceEqDiff, Nat.reduceAdd, Nat.reduceMul, Nat.add_zero, Nat.zero_add, reduceCtorEq, l_0, l_1, l_2, l_3, l_4, l_5, l_6, l_7, l_8, l_9, l_10, l_15, l_24, l_32, l_39, l_40, l_47, l_48, l_50, l_57, l_60, l_63, l_80, l_95, l_99, l_100, l_120, l_126, l_128, l_1000, l_9999, l_10000, L_0, L_1, L_2, L_3, L_4, L_5, L_7, L_9, L_15, L_40, L_50, L_99, L_127, L_9999, c_ltT, c_ltF, c_leT, c_leF, c_eqT, c_eqF, n_leF, n_ltF, c_gltT, c_gltF, c_ggtT, c_ggtF, false_or, or_false, or_self, true_or, or_true]) (fun q i hq => ?_) ?_ (fun q i hq => ?_) ?_)⟩⟩
        · simp (disch := omega) only [k1, f2, ↓lt_d, eq_self, lN_add, i_l, wTn, wFa, wFb, wCT, wCF, mNe, mNe2, mLt, mLe, bp_s, bn_s, n_clampS, nI_1, nI_add, pk_sub, nI_mul, wrI_at, wrI_2, wrL_at, wrL_1, true_and, false_and, and_true, and_false, and_self, ↓reduceIte, Nat.reduceEqDiff, Nat.reduceAdd, Nat.reduceMul, Nat.add_zero, Nat.zero_add, reduceCtorEq, l_0, l_1, l_2, l_3, l_4, l_5, l_6, l_7, l_8, l_9, l_10, l_15, l_24, l_32, l_39, l_40, l_47, l_48, l_50, l_57, l_60, l_63, l_80, l_95, l_99, l_100, l_120, l_126, l_128, l_1000, l_9999, l_10000, L_0, L_1, L_2, L_3, L_4, L_5, L_7, L_9, L_15, L_40, L_50, L_99, L_127, L_9999, c_ltT, c_ltF, c_leT, c_leF, c_eqT, c_eqF, n_leF, n_ltF, c_gltT, c_gltF, c_ggtT, c_ggtF, false_or, or_false, or_self, true_or, or_true]
        · simp (disch := omega) only [f6, f4, f5, hw, ↓lt_d, eq_self, lN_add, i_l, wTn, wFa, wFb, wCT, wCF, mNe, mNe2, mLt, mLe, bp_s, bn_s, n_clampS, nI_1, nI_add, pk_sub, nI_mul, wrI_at, wrI_2, wrL_at, wrL_1, true_and, false_and, and_true, and_false, and_self, ↓reduceIte, Nat.reduceEqDiff, Nat.reduceAdd, Nat.reduceMul, Nat.add_zero, Nat.zero_add, reduceCtorEq, l_0, l_1, l_2, l_3, l_4, l_5, l_6, l_7, l_8, l_9, l_10, l_15, l_24, l_32, l_39, l_40, l_47, l_48, l_50, l_57, l_60, l_63, l_80, l_95, l_99, l_100, l_120, l_126, l_128, l_1000, l_9999, l_10000, L_0, L_1, L_2, L_3, L_4, L_5, L_7, L_9, L_15, L_40, L_50, L_99, L_127, L_9999, c_ltT, c_ltF, c_leT, c_leF, c_eqT, c_eqF, n_leF, n_ltF, c_gltT, c_gltF, c_ggtT, c_ggtF, false_or, or_false, or_self, true_or, or_true]
        · rw [wrI_at, if_neg (by omega), cc q i (by omega)]
        · rw [wrI_2, f8, wrI_2]
        · rw [wrI_at, if_neg (by omega), wrI_at, if_neg (by omega), rr q i (by omega)]
        · rw [wrI_2, wrI_2, f9]
          rfl
    · have cc : ∀ q i, ¬ (q = 28 ∨ q = 29) → C'.1 q i = C.1 q i := by
        intro q i hq
        rw [f7 q i (by unfold hdn; omega), wrI_at, if_neg (by unfold hdc; omega)]
      have rr : ∀ q i, ¬ (q = 80 ∨ (q = 72 ∧ (10 ≤ i ∧ i ≤ 13))) → R'.1 q i = R.1 q i := by
        intro q i hq
        rw [f8 q i (by omega), hfr q i (by omega)]
      have ck : C'.1 0 2 = nI k := by rw [cc 0 2 (by omega)]; exact k1
      rw [f3]
      unfold fX9_clear htail fX11_head_b123
      refine ⟨-nI 100 - nI e, wrI C' 1 1 (nI 0), wrI R' 72 7 (nI 0), ?_, ?_, ⟨k, nb, In_up (Nat.le_succ t) (inv_head hh (by simp (disch := omega) only [↓lt_d, eq_self, lN_add, i_l, wTn, wFa, wFb, wCT, wCF, mNe, mNe2, mLt, mLe, bp_s, bn_s, n_clampS, nI_1, nI_add, pk_sub, nI_mul, wrI_at, wrI_2, wrL_at, wrL_1, true_and, false_and, and_true, and_false, and_self, ↓reduceIte, Nat.reduceEqDiff, Nat.reduceAdd, Nat.reduceMul, Nat.add_zero, Nat.zero_add, reduceCtorEq, l_0, l_1, l_2, l_3, l_4, l_5, l_6, l_7, l_8, l_9, l_10, l_15, l_24, l_32, l_39, l_40, l_47, l_48, l_50, l_57, l_60, l_63, l_80, l_95, l_99, l_100, l_120, l_126, l_128, l_1000, l_9999, l_10000, L_0, L_1, L_2, L_3, L_4, L_5, L_7, L_9, L_15, L_40, L_50, L_99, L_127, L_9999, c_ltT, c_ltF, c_leT, c_leF, c_eqT, c_eqF, n_leF, n_ltF, c_gltT, c_gltF, c_ggtT, c_ggtF, false_or, or_false, or_self, true_or, or_true]) (by simp (disch := omega) only [↓lt_d, eq_self, lN_add, i_l, wTn, wFa, wFb, wCT, wCF, mNe, mNe2, mLt, mLe, bp_s, bn_s, n_clampS, nI_1, nI_add, pk_sub, nI_mul, wrI_at, wrI_2, wrL_at, wrL_1, true_and, false_and, and_true, and_false, and_self, ↓reduceIte, Nat.reduceEqDiff, Nat.reduceAdd, Nat.reduceMul, Nat.add_zero, Nat.zero_add, reduceCtorEq, l_0, l_1, l_2, l_3, l_4, l_5, l_6, l_7, l_8, l_9, l_10, l_15, l_24, l_32, l_39, l_40, l_47, l_48, l_50, l_57, l_60, l_63, l_80, l_95, l_99, l_100, l_120, l_126, l_128, l_1000, l_9999, l_10000, L_0, L_1, L_2, L_3, L_4, L_5, L_7, L_9, L_15, L_40, L_50, L_99, L_127, L_9999, c_ltT, c_ltF, c_leT, c_leF, c_eqT, c_eqF, n_leF, n_ltF, c_gltT, c_gltF, c_ggtT, c_ggtF, false_or, or_false, or_self, true_or, or_true]) (fun q i hq => ?_) ?_ (fun q i hq => ?_) ?_)⟩⟩
      · simp (disch := omega) only [k1, f2, ↓lt_d, eq_self, lN_add, i_l, wTn, wFa, wFb, wCT, wCF, mNe, mNe2, mLt, mLe, bp_s, bn_s, n_clampS, nI_1, nI_add, pk_sub, nI_mul, wrI_at, wrI_2, wrL_at, wrL_1, true_and, false_and, and_true, and_false, and_self, ↓reduceIte, Nat.reduceEqDiff, Nat.reduceAdd, Nat.reduceMul, Nat.add_zero, Nat.zero_add, reduceCtorEq, l_0, l_1, l_2, l_3, l_4, l_5, l_6, l_7, l_8, l_9, l_10, l_15, l_24, l_32, l_39, l_40, l_47, l_48, l_50, l_57, l_60, l_63, l_80, l_95, l_99, l_100, l_120, l_126, l_128, l_1000, l_9999, l_10000, L_0, L_1, L_2, L_3, L_4, L_5, L_7, L_9, L_15, L_40, L_50, L_99, L_127, L_9999, c_ltT, c_ltF, c_leT, c_leF, c_eqT, c_eqF, n_leF, n_ltF, c_gltT, c_gltF, c_ggtT, c_ggtF, false_or, or_false, or_self, true_or, or_true]
      · simp (disch := omega) only [f4, ↓lt_d, eq_self, lN_add, i_l, wTn, wFa, wFb, wCT, wCF, mNe, mNe2, mLt, mLe, bp_s, bn_s, n_clampS, nI_1, nI_add, pk_sub, nI_mul, wrI_at, wrI_2, wrL_at, wrL_1, true_and, false_and, and_true, and_false, and_self, ↓reduceIte, Nat.reduceEqDiff, Nat.reduceAdd, Nat.reduceMul, Nat.add_zero, Nat.zero_add, reduceCtorEq, l_0, l_1, l_2, l_3, l_4, l_5, l_6, l_7, l_8, l_9, l_10, l_15, l_24, l_32, l_39, l_40, l_47, l_48, l_50, l_57, l_60, l_63, l_80, l_95, l_99, l_100, l_120, l_126, l_128, l_1000, l_9999, l_10000, L_0, L_1, L_2, L_3, L_4, L_5, L_7, L_9, L_15, L_40, L_50, L_99, L_127, L_9999, c_ltT, c_ltF, c_leT, c_leF, c_eqT, c_eqF, n_leF, n_ltF, c_gltT, c_gltF, c_ggtT, c_ggtF, false_or, or_false, or_self, true_or, or_true]
      · rw [wrI_at, if_neg (by omega), cc q i (by omega)]
      · rw [wrI_2, f5, wrI_2]
      · rw [wrI_at, if_neg (by omega), rr q i (by omega)]
      · rw [wrI_2, f6]
        rfl
