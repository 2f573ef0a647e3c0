/-! head, all of it -/
def lt5 (w : Nat) : Nat := [108, 97, 104, 116, 99].getD w 0
def htail (n : Nat) (R : Mm) : Option (Int32 × Mm) := if 0 ≤ R.1 72 13 then fX11_head_b123 n R else (if R.1 72 12 ≤ R.1 72 11 then fX11_head_b123 n R else (bp' (fX11_wrong R) fun _ R' => fX11_head_b123 n R'))
def hR (n : Nat) : Nat → Nat → Mm → Option (Int32 × Mm)
  | 0, _, R => htail n R
  | d + 1, w, R => bp' (fX11_readOne n (nI (lt5 w)) (nI w) R) fun r R' => hR n d (w + 1) (wrI R' 80 w r)
theorem st0_l {w : Nat} (h : w < 5) : stv0 w = nI (lt5 w) ∧ 1 ≤ lt5 w ∧ lt5 w < 256 := by
  rcases (show w = 0 ∨ w = 1 ∨ w = 2 ∨ w = 3 ∨ w = 4 by omega) with rfl | rfl | rfl | rfl | rfl <;> decide
theorem dead_run {n e : Nat} (he : e < 2 ^ 31) : ∀ d w (R : Mm), w + d = 5 → R.1 72 13 = nI e → ∃ R', hR n d w R = htail n R' ∧ R'.1 72 13 = nI e ∧ R'.2 = R.2 ∧ ∀ q i, q ≠ 80 → R'.1 q i = R.1 q i := by
  intro d
  induction d with
  | zero => exact fun w R _ h => ⟨R, rfl, h, rfl, fun _ _ _ => rfl⟩
  | succ d ih =>
    intro w R hw h
    obtain ⟨R', e1, e2, e3, e4⟩ := ih (w + 1) (wrI R 80 w (nI 0)) (by omega) (by rw [wrI_at, if_neg (by omega)]; exact h)
    refine ⟨R', ?_, e2, e3, fun q i hq => ?_⟩
    · unfold hR
      rw [dead_l he h, bp_s]
      exact e1
    · rw [e4 q i hq, wrI_at, if_neg (by omega)]
theorem head_run {n : Nat} (hn : 1000 ≤ n) {T : Nat → Nat} {b : Nat} : ∀ d w p fu (C R : Mm), w + d = 5 → d < fu → BT T b C → BR T b R → R.1 72 11 = nI p → R.1 72 13 = -nI 1 → p ≤ b → (∃ p' C' R', p' ≤ b ∧ fX5_read_h9 n 6 fu (nI p) (nI w) C = (if p' = b then some (-nI 1, C') else some (nI p', C')) ∧ hR n d w R = htail n R' ∧ R'.1 72 11 = nI p' ∧ R'.1 72 12 = nI b ∧ R'.1 72 13 = -nI 1 ∧ (∀ i, w ≤ i → i < 5 → ∃ u, C'.1 (hdn 6) i = nI u ∧ R'.1 80 i = nI u ∧ hlo i ≤ u ∧ u ≤ hhi i) ∧ C'.2 = C.2 ∧ R'.2 = R.2 ∧ (∀ q i, ¬ (q = hdn 6 ∧ w ≤ i) → C'.1 q i = C.1 q i) ∧ (∀ q i, ¬ ((q = 80 ∧ w ≤ i) ∨ (q = 72 ∧ (i = 11 ∨ i = 13))) → R'.1 q i = R.1 q i)) ∨ (∃ e C' R', e ≤ 200 ∧ fX5_read_h9 n 6 fu (nI p) (nI w) C = some (nI e, C') ∧ hR n d w R = htail n R' ∧ R'.1 72 13 = nI e ∧ C'.2 = C.2 ∧ R'.2 = R.2 ∧ (∀ q i, q ≠ hdn 6 → C'.1 q i = C.1 q i) ∧ (∀ q i, ¬ (q = 80 ∨ (q = 72 ∧ (i = 11 ∨ i = 13))) → R'.1 q i = R.1 q i)) := by
  intro d
  induction d with
  | zero =>
    intro w p fu C R hw hf hC hR1 hp h13 hpb
    obtain ⟨fu, rfl⟩ : ∃ f, fu = f + 1 := ⟨fu - 1, by omega⟩
    have hb := hC.1
    have hw5 : w = 5 := by omega
    subst hw5
    refine Or.inl ⟨p, C, R, hpb, ?_, rfl, hp, hR1.2.2.1, h13, fun i hi hi5 => by omega, rfl, rfl, fun _ _ _ => rfl, fun _ _ _ => rfl⟩
    rw [fX5_read_h9.eq_2]
    unfold fX9_length
    by_cases hpb2 : p = b
    · simp (disch := omega) only [hC.2.1, hpb2, ↓lt_d, eq_self, lN_add, i_l, wTn, wFa, wFb, wCT, wCF, mNe, mNe2, mLt, mLe, bp_s, bn_s, n_clampS, nI_1, nI_add, pk_sub, nI_mul, wrI_at, wrI_2, wrL_at, wrL_1, true_and, false_and, and_true, and_false, and_self, ↓reduceIte, Nat.reduceEqDiff, Nat.reduceAdd, Nat.reduceMul, Nat.add_zero, Nat.zero_add, reduceCtorEq, l_0, l_1, l_2, l_3, l_4, l_5, l_6, l_7, l_8, l_9, l_10, l_15, l_24, l_32, l_39, l_40, l_47, l_48, l_50, l_57, l_60, l_63, l_80, l_95, l_99, l_100, l_120, l_126, l_128, l_1000, l_9999, l_10000, L_0, L_1, L_2, L_3, L_4, L_5, L_7, L_9, L_15, L_40, L_50, L_99, L_127, L_9999, c_ltT, c_ltF, c_leT, c_leF, c_eqT, c_eqF, n_leF, n_ltF, c_gltT, c_gltF, c_ggtT, c_ggtF, false_or, or_false, or_self, true_or, or_true]
    · simp (disch := omega) only [hC.2.1, hpb2, ↓lt_d, eq_self, lN_add, i_l, wTn, wFa, wFb, wCT, wCF, mNe, mNe2, mLt, mLe, bp_s, bn_s, n_clampS, nI_1, nI_add, pk_sub, nI_mul, wrI_at, wrI_2, wrL_at, wrL_1, true_and, false_and, and_true, and_false, and_self, ↓reduceIte, Nat.reduceEqDiff, Nat.reduceAdd, Nat.reduceMul, Nat.add_zero, Nat.zero_add, reduceCtorEq, l_0, l_1, l_2, l_3, l_4, l_5, l_6, l_7, l_8, l_9, l_10, l_15, l_24, l_32, l_39, l_40, l_47, l_48, l_50, l_57, l_60, l_63, l_80, l_95, l_99, l_100, l_120, l_126, l_128, l_1000, l_9999, l_10000, L_0, L_1, L_2, L_3, L_4, L_5, L_7, L_9, L_15, L_40, L_50, L_99, L_127, L_9999, c_ltT, c_ltF, c_leT, c_leF, c_eqT, c_eqF, n_leF, n_ltF, c_gltT, c_gltF, c_ggtT, c_ggtF, false_or, or_false, or_self, true_or, or_true]
  | succ d ih =>
    intro w p fu C R hw hf hC hR1 hp h13 hpb
    obtain ⟨fu, rfl⟩ : ∃ f, fu = f + 1 := ⟨fu - 1, by omega⟩
    have hb := hC.1
    obtain ⟨s1, s2, s3⟩ := st0_l (show w < 5 by omega)
    rcases slot_step hn (show w < 5 by omega) s2 s3 s1 hC hR1 hp h13 hpb with ⟨p', u, f1, f2, f3, f4, f5⟩ | ⟨e, R1, f1, f2, f3, f4, f5, f6⟩
    · have hC2 : BT T b (wrI C (hdn 6) w (nI u)) := by
        refine ⟨hb, by rw [wrI_at, if_neg (by unfold hdn; omega)]; exact hC.2.1, fun i hi => ⟨(hC.2.2 i hi).1, ?_⟩⟩
        rw [wrI_at, if_neg (by unfold hdn; omega)]
        exact (hC.2.2 i hi).2
      have hR2 : BR T b (wrI (wrI R 72 11 (nI p')) 80 w (nI u)) := by
        obtain ⟨h1, h2, h3, h4⟩ := BR_11 hR1 (nI p')
        refine ⟨h1, by rw [wrI_at, if_neg (by omega)]; exact h2, by rw [wrI_at, if_neg (by omega)]; exact h3, fun i hi => ⟨(h4 i hi).1, ?_⟩⟩
        rw [wrI_at, if_neg (by omega)]
        exact (h4 i hi).2
      have g1 : hR n (d + 1) w R = hR n d (w + 1) (wrI (wrI R 72 11 (nI p')) 80 w (nI u)) := by
        show bp' (fX11_readOne n (nI (lt5 w)) (nI w) R) _ = _
        rw [f5, bp_s]
      rw [f4, g1]
      rcases ih (w + 1) p' fu _ _ (by omega) (by omega) hC2 hR2 (by simp (disch := omega) only [↓lt_d, eq_self, lN_add, i_l, wTn, wFa, wFb, wCT, wCF, mNe, mNe2, mLt, mLe, bp_s, bn_s, n_clampS, nI_1, nI_add, pk_sub, nI_mul, wrI_at, wrI_2, wrL_at, wrL_1, true_and, false_and, and_true, and_false, and_self, ↓reduceIte, Nat.reduceEqDiff, Nat.reduceAdd, Nat.reduceMul, Nat.add_zero, Nat.zero_add, reduceCtorEq, l_0, l_1, l_2, l_3, l_4, l_5, l_6, l_7, l_8, l_9, l_10, l_15, l_24, l_32, l_39, l_40, l_47, l_48, l_50, l_57, l_60, l_63, l_80, l_95, l_99, l_100, l_120, l_126, l_128, l_1000, l_9999, l_10000, L_0, L_1, L_2, L_3, L_4, L_5, L_7, L_9, L_15, L_40, L_50, L_99, L_127, L_9999, c_ltT, c_ltF, c_leT, c_leF, c_eqT, c_eqF, n_leF, n_ltF, c_gltT, c_gltF, c_ggtT, c_ggtF, false_or, or_false, or_self, true_or, or_true]) (by simp (disch := omega) only [h13, ↓lt_d, eq_self, lN_add, i_l, wTn, wFa, wFb, wCT, wCF, mNe, mNe2, mLt, mLe, bp_s, bn_s, n_clampS, nI_1, nI_add, pk_sub, nI_mul, wrI_at, wrI_2, wrL_at, wrL_1, true_and, false_and, and_true, and_false, and_self, ↓reduceIte, Nat.reduceEqDiff, Nat.reduceAdd, Nat.reduceMul, Nat.add_zero, Nat.zero_add, reduceCtorEq, l_0, l_1, l_2, l_3, l_4, l_5, l_6, l_7, l_8, l_9, l_10, l_15, l_24, l_32, l_39, l_40, l_47, l_48, l_50, l_57, l_60, l_63, l_80, l_95, l_99, l_100, l_120, l_126, l_128, l_1000, l_9999, l_10000, L_0, L_1, L_2, L_3, L_4, L_5, L_7, L_9, L_15, L_40, L_50, L_99, L_127, L_9999, c_ltT, c_ltF, c_leT, c_leF, c_eqT, c_eqF, n_leF, n_ltF, c_gltT, c_gltF, c_ggtT, c_ggtF, false_or, or_false, or_self, true_or, or_true]) f1 with ⟨p2, C', R', k1, k2, k3, k4, k5, k6, k7, k8, k9, k10, k11⟩ | ⟨e, C', R', k1, k2, k3, k4, k5, k6, k7, k8⟩
      · refine Or.inl ⟨p2, C', R', k1, k2, k3, k4, k5, k6, fun i hi hi5 => ?_, k8, k9, fun q i hq => ?_, fun q i hq => ?_⟩
        · by_cases hiw : i = w
          · subst hiw
            refine ⟨u, ?_, ?_, f2, f3⟩
            · rw [k10 _ _ (by omega), wrI_at, if_pos ⟨rfl, rfl⟩]
            · rw [k11 _ _ (by omega), wrI_at, if_pos ⟨rfl, rfl⟩]
          · exact k7 i (by omega) hi5
        · rw [k10 _ _ (by omega), wrI_at, if_neg (by omega)]
        · rw [k11 _ _ (by omega), wrI_at, if_neg (by omega), wrI_at, if_neg (by omega)]
      · refine Or.inr ⟨e, C', R', k1, k2, k3, k4, k5, k6, fun q i hq => ?_, fun q i hq => ?_⟩
        · rw [k7 _ _ hq, wrI_at, if_neg (by omega)]
        · rw [k8 _ _ hq, wrI_at, if_neg (by omega), wrI_at, if_neg (by omega)]
    · have g1 : hR n (d + 1) w R = hR n d (w + 1) (wrI R1 80 w (nI 0)) := by
        show bp' (fX11_readOne n (nI (lt5 w)) (nI w) R) _ = _
        rw [f3, bp_s]
      obtain ⟨R', e1, e2, e3, e4⟩ := dead_run (n := n) (show e < 2 ^ 31 by omega) d (w + 1) (wrI R1 80 w (nI 0)) (by omega) (by rw [wrI_at, if_neg (by omega)]; exact f4)
      refine Or.inr ⟨e, C, R', f1, f2 fu, by rw [g1, e1], e2, rfl, by rw [e3]; exact f5, fun _ _ _ => rfl, fun q i hq => ?_⟩
      rw [e4 q i (by omega), wrI_at, if_neg (by omega), f6 q i (by omega)]
theorem lay_head {n k : Nat} (hk : k < 6) {R0 : Mm} : ∀ d y fu (R : Mm), 5 - y = d → y ≤ 5 → d < fu → R.1 72 16 = nI k → (∀ i, R.1 80 i = R0.1 80 i) → ∃ R', fX11_head_h145 n fu (nI y) R = some (nI k, R') ∧ R'.2 = R.2 ∧ R'.1 72 16 = nI (k + 1) ∧ (∀ i, y ≤ i → i < 5 → R'.1 73 (5 * k + i) = R0.1 80 i) ∧ ∀ q i, ¬ ((q = 73 ∧ 5 * k + y ≤ i ∧ i < 5 * k + 5) ∨ (q = 72 ∧ i = 16)) → R'.1 q i = R.1 q i := by
  intro d
  induction d with
  | zero =>
    intro y fu R hd hy hf h h2
    obtain ⟨fu, rfl⟩ : ∃ f, fu = f + 1 := ⟨fu - 1, by omega⟩
    rw [fX11_head_h145.eq_2]
    refine ⟨wrI R 72 16 (nI (k + 1)), ?_, rfl, ?_, fun i hi hi5 => by omega, fun q i hq => ?_⟩
    · simp (disch := omega) only [h, Nat.add_sub_cancel, ↓lt_d, eq_self, lN_add, i_l, wTn, wFa, wFb, wCT, wCF, mNe, mNe2, mLt, mLe, bp_s, bn_s, n_clampS, nI_1, nI_add, pk_sub, nI_mul, wrI_at, wrI_2, wrL_at, wrL_1, true_and, false_and, and_true, and_false, and_self, ↓reduceIte, Nat.reduceEqDiff, Nat.reduceAdd, Nat.reduceMul, Nat.add_zero, Nat.zero_add, reduceCtorEq, l_0, l_1, l_2, l_3, l_4, l_5, l_6, l_7, l_8, l_9, l_10, l_15, l_24, l_32, l_39, l_40, l_47, l_48, l_50, l_57, l_60, l_63, l_80, l_95, l_99, l_100, l_120, l_126, l_128, l_1000, l_9999, l_10000, L_0, L_1, L_2, L_3, L_4, L_5, L_7, L_9, L_15, L_40, L_50, L_99, L_127, L_9999, c_ltT, c_ltF, c_leT, c_leF, c_eqT, c_eqF, n_leF, n_ltF, c_gltT, c_gltF, c_ggtT, c_ggtF, false_or, or_false, or_self, true_or, or_true]
    · simp (disch := omega) only [↓lt_d, eq_self, lN_add, i_l, wTn, wFa, wFb, wCT, wCF, mNe, mNe2, mLt, mLe, bp_s, bn_s, n_clampS, nI_1, nI_add, pk_sub, nI_mul, wrI_at, wrI_2, wrL_at, wrL_1, true_and, false_and, and_true, and_false, and_self, ↓reduceIte, Nat.reduceEqDiff, Nat.reduceAdd, Nat.reduceMul, Nat.add_zero, Nat.zero_add, reduceCtorEq, l_0, l_1, l_2, l_3, l_4, l_5, l_6, l_7, l_8, l_9, l_10, l_15, l_24, l_32, l_39, l_40, l_47, l_48, l_50, l_57, l_60, l_63, l_80, l_95, l_99, l_100, l_120, l_126, l_128, l_1000, l_9999, l_10000, L_0, L_1, L_2, L_3, L_4, L_5, L_7, L_9, L_15, L_40, L_50, L_99, L_127, L_9999, c_ltT, c_ltF, c_leT, c_leF, c_eqT, c_eqF, n_leF, n_ltF, c_gltT, c_gltF, c_ggtT, c_ggtF, false_or, or_false, or_self, true_or, or_true]
    · rw [wrI_at, if_neg (by omega)]
  | succ d ih =>
    intro y fu R hd hy hf h h2
    obtain ⟨fu, rfl⟩ : ∃ f, fu = f + 1 := ⟨fu - 1, by omega⟩
    rw [fX11_head_h145.eq_2]
    obtain ⟨R', e1, e2, e3, e4, e5⟩ := ih (y + 1) fu (wrI R 73 (5 * k + y) (R.1 80 y)) (by omega) (by omega) (by omega) (by rw [wrI_at, if_neg (by omega)]; exact h) (fun i => by rw [wrI_at, if_neg (by omega)]; exact h2 i)
    refine ⟨R', ?_, e2, e3, fun i hi hi5 => ?_, fun q i hq => ?_⟩
    · simp (disch := omega) only [h, ↓lt_d, eq_self, lN_add, i_l, wTn, wFa, wFb, wCT, wCF, mNe, mNe2, mLt, mLe, bp_s, bn_s, n_clampS, nI_1, nI_add, pk_sub, nI_mul, wrI_at, wrI_2, wrL_at, wrL_1, true_and, false_and, and_true, and_false, and_self, ↓reduceIte, Nat.reduceEqDiff, Nat.reduceAdd, Nat.reduceMul, Nat.add_zero, Nat.zero_add, reduceCtorEq, l_0, l_1, l_2, l_3, l_4, l_5, l_6, l_7, l_8, l_9, l_10, l_15, l_24, l_32, l_39, l_40, l_47, l_48, l_50, l_57, l_60, l_63, l_80, l_95, l_99, l_100, l_120, l_126, l_128, l_1000, l_9999, l_10000, L_0, L_1, L_2, L_3, L_4, L_5, L_7, L_9, L_15, L_40, L_50, L_99, L_127, L_9999, c_ltT, c_ltF, c_leT, c_leF, c_eqT, c_eqF, n_leF, n_ltF, c_gltT, c_gltF, c_ggtT, c_ggtF, false_or, or_false, or_self, true_or, or_true]
      exact e1
    · by_cases hiy : i = y
      · subst hiy
        rw [e5 _ _ (by omega), wrI_at, if_pos ⟨rfl, rfl⟩]
        exact h2 i
      · exact e4 i (by omega) hi5
    · rw [e5 _ _ (by omega), wrI_at, if_neg (by omega)]
