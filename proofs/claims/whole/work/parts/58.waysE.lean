/-! CROSSED, on both sides -/
theorem dgs_div {v : Nat} (h1 : 1 ≤ v) (h2 : v < 2 ^ 31) : dgs v = dgs (v / 10) + 1 := by
  obtain ⟨s, hs, -⟩ := dgs_pos h1 h2
  have e1 := dgs_le (v := v) (by omega) (dgs (v / 10) + 1)
  have e2 := dgs_le (v := v / 10) (by omega) (dgs (v / 10))
  have e3 := dgs_le (v := v) (by omega) (s + 1)
  have e4 := dgs_le (v := v / 10) (by omega) s
  rw [Nat.pow_succ] at e1 e3
  omega
theorem dgs_1 {m : Nat} (h1 : 1 ≤ m) (h2 : m ≤ 9) : dgs m = 1 := by
  rw [dgs_div h1 (by omega), show m / 10 = 0 by omega]
  rfl
/-- the last figure of what runs is held, the rest goes on -/
theorem Lf_last {n j f a v hd : Nat} (hn : 1000 ≤ n) {T : Nat → Nat} {C R : Mm} (h : Lf j T f C R a v hd) (hj : j < 6) (ha : a < 80) (hv : v < 2 ^ 31) : ∃ C' R', fX0_holdLastFigure C = some C' ∧ fX11_acts n (nI 2) (nI (v % 10)) (nI 0) (nI 0) (wrI (wrI R 72 28 (nI (hd + 1))) 72 29 (nI (v / 10))) = some R' ∧ Lf j T f C' R' (a + 1) (v / 10) (hd + 1) := by
  obtain ⟨w, h13, h14, hf⟩ := h
  have w4 := w.2.2.2.1
  have e14 : imax (nI 0) (nI (dgs v) - nI 1) = nI (dgs (v / 10)) := by
    by_cases h0 : v = 0
    · subst h0
      decide
    · have e := dgs_div (v := v) (by omega) hv
      have e5 := (dgs_le (v := v / 10) (by omega) 10).mpr (by omega)
      rw [e, pk_sub (by omega), Nat.add_sub_cancel]
      unfold imax
      by_cases h5 : nI 0 < nI (dgs (v / 10))
      · rw [if_pos h5]
      · rw [if_neg h5]
        rw [nI_ltI (by omega) (by omega)] at h5
        rw [show dgs (v / 10) = 0 by omega]
  have g : lenOf 2 (v % 10) (T 2) = T 2 := by
    unfold lenOf
    by_cases h0 : v % 10 = 0
    · rw [if_neg (by omega), if_pos (by omega)]
    · rw [if_neg (by omega), if_neg (by omega), dgs_1 (by omega) (by omega), Nat.mul_one]
  have w2 := Wy_set (C' := wrI (wrI (wrI C 36 12 (nI (hd + 1))) 36 13 (nI (v / 10))) 36 14 (nI (dgs (v / 10)))) (R' := wrI (wrI R 72 28 (nI (hd + 1))) 72 29 (nI (v / 10))) (v' := v / 10) (hd' := hd + 1) w (fun q i hq => by rw [wrI_at, if_neg (by omega), wrI_at, if_neg (by omega), wrI_at, if_neg (by omega)]) (fun q i hq => by rw [wrI_at, if_neg (by omega), wrI_at, if_neg (by omega)]) (by simp (disch := omega) only [↓lt_d, eq_self, lN_add, i_l, wTn, wFa, wFb, wCT, wCF, mNe, mNe2, mLt, mLe, bp_s, bn_s, n_clampS, nI_1, nI_add, pk_sub, nI_mul, wrI_at, wrI_2, wrL_at, wrL_1, true_and, false_and, and_true, and_false, and_self, ↓reduceIte, Nat.reduceEqDiff, Nat.reduceAdd, Nat.reduceMul, Nat.add_zero, Nat.zero_add, reduceCtorEq, l_0, l_1, l_2, l_3, l_4, l_5, l_6, l_7, l_8, l_9, l_10, l_15, l_24, l_32, l_39, l_40, l_47, l_48, l_50, l_57, l_60, l_63, l_80, l_95, l_99, l_100, l_120, l_126, l_128, l_1000, l_9999, l_10000, L_0, L_1, L_2, L_3, L_4, L_5, L_7, L_9, L_15, L_40, L_50, L_99, L_127, L_9999, c_ltT, c_ltF, c_leT, c_leF, c_eqT, c_eqF, n_leF, n_ltF, c_gltT, c_gltF, c_ggtT, c_ggtF, false_or, or_false, or_self, true_or, or_true]) (by simp (disch := omega) only [↓lt_d, eq_self, lN_add, i_l, wTn, wFa, wFb, wCT, wCF, mNe, mNe2, mLt, mLe, bp_s, bn_s, n_clampS, nI_1, nI_add, pk_sub, nI_mul, wrI_at, wrI_2, wrL_at, wrL_1, true_and, false_and, and_true, and_false, and_self, ↓reduceIte, Nat.reduceEqDiff, Nat.reduceAdd, Nat.reduceMul, Nat.add_zero, Nat.zero_add, reduceCtorEq, l_0, l_1, l_2, l_3, l_4, l_5, l_6, l_7, l_8, l_9, l_10, l_15, l_24, l_32, l_39, l_40, l_47, l_48, l_50, l_57, l_60, l_63, l_80, l_95, l_99, l_100, l_120, l_126, l_128, l_1000, l_9999, l_10000, L_0, L_1, L_2, L_3, L_4, L_5, L_7, L_9, L_15, L_40, L_50, L_99, L_127, L_9999, c_ltT, c_ltF, c_leT, c_leF, c_eqT, c_eqF, n_leF, n_ltF, c_gltT, c_gltF, c_ggtT, c_ggtF, false_or, or_false, or_self, true_or, or_true]) (by simp (disch := omega) only [↓lt_d, eq_self, lN_add, i_l, wTn, wFa, wFb, wCT, wCF, mNe, mNe2, mLt, mLe, bp_s, bn_s, n_clampS, nI_1, nI_add, pk_sub, nI_mul, wrI_at, wrI_2, wrL_at, wrL_1, true_and, false_and, and_true, and_false, and_self, ↓reduceIte, Nat.reduceEqDiff, Nat.reduceAdd, Nat.reduceMul, Nat.add_zero, Nat.zero_add, reduceCtorEq, l_0, l_1, l_2, l_3, l_4, l_5, l_6, l_7, l_8, l_9, l_10, l_15, l_24, l_32, l_39, l_40, l_47, l_48, l_50, l_57, l_60, l_63, l_80, l_95, l_99, l_100, l_120, l_126, l_128, l_1000, l_9999, l_10000, L_0, L_1, L_2, L_3, L_4, L_5, L_7, L_9, L_15, L_40, L_50, L_99, L_127, L_9999, c_ltT, c_ltF, c_leT, c_leF, c_eqT, c_eqF, n_leF, n_ltF, c_gltT, c_gltF, c_ggtT, c_ggtF, false_or, or_false, or_self, true_or, or_true])
  obtain ⟨C', R', e1, e2, e3, e4, e5, e6, e7⟩ := Wy_act hn w2 hj ha (by omega) (s := 2) (m := v % 10) (by omega) (by omega) (by simp (disch := omega) only [↓lt_d, eq_self, lN_add, i_l, wTn, wFa, wFb, wCT, wCF, mNe, mNe2, mLt, mLe, bp_s, bn_s, n_clampS, nI_1, nI_add, pk_sub, nI_mul, wrI_at, wrI_2, wrL_at, wrL_1, true_and, false_and, and_true, and_false, and_self, ↓reduceIte, Nat.reduceEqDiff, Nat.reduceAdd, Nat.reduceMul, Nat.add_zero, Nat.zero_add, reduceCtorEq, l_0, l_1, l_2, l_3, l_4, l_5, l_6, l_7, l_8, l_9, l_10, l_15, l_24, l_32, l_39, l_40, l_47, l_48, l_50, l_57, l_60, l_63, l_80, l_95, l_99, l_100, l_120, l_126, l_128, l_1000, l_9999, l_10000, L_0, L_1, L_2, L_3, L_4, L_5, L_7, L_9, L_15, L_40, L_50, L_99, L_127, L_9999, c_ltT, c_ltF, c_leT, c_leF, c_eqT, c_eqF, n_leF, n_ltF, c_gltT, c_gltF, c_ggtT, c_ggtF, false_or, or_false, or_self, true_or, or_true]) (Slp_0 (by omega) (by omega) (nI 0))
  have e11 : C.1 36 11 = nI (T 2) := (w.2.2.2.2.2.2.2.1 2 (by omega)).2
  rw [g] at e1
  refine ⟨C', R', ?_, e2, e3, ?_, ?_, ?_⟩
  · unfold fX0_holdLastFigure
    simp (disch := omega) only [h13, rm, dv, w4, h14, ↓e14, e11, e1, ↓lt_d, eq_self, lN_add, i_l, wTn, wFa, wFb, wCT, wCF, mNe, mNe2, mLt, mLe, bp_s, bn_s, n_clampS, nI_1, nI_add, pk_sub, nI_mul, wrI_at, wrI_2, wrL_at, wrL_1, true_and, false_and, and_true, and_false, and_self, ↓reduceIte, Nat.reduceEqDiff, Nat.reduceAdd, Nat.reduceMul, Nat.add_zero, Nat.zero_add, reduceCtorEq, l_0, l_1, l_2, l_3, l_4, l_5, l_6, l_7, l_8, l_9, l_10, l_15, l_24, l_32, l_39, l_40, l_47, l_48, l_50, l_57, l_60, l_63, l_80, l_95, l_99, l_100, l_120, l_126, l_128, l_1000, l_9999, l_10000, L_0, L_1, L_2, L_3, L_4, L_5, L_7, L_9, L_15, L_40, L_50, L_99, L_127, L_9999, c_ltT, c_ltF, c_leT, c_leF, c_eqT, c_eqF, n_leF, n_ltF, c_gltT, c_gltF, c_ggtT, c_ggtF, false_or, or_false, or_self, true_or, or_true]
  · rw [e6 _ _ (by omega)]
    simp (disch := omega) only [↓lt_d, eq_self, lN_add, i_l, wTn, wFa, wFb, wCT, wCF, mNe, mNe2, mLt, mLe, bp_s, bn_s, n_clampS, nI_1, nI_add, pk_sub, nI_mul, wrI_at, wrI_2, wrL_at, wrL_1, true_and, false_and, and_true, and_false, and_self, ↓reduceIte, Nat.reduceEqDiff, Nat.reduceAdd, Nat.reduceMul, Nat.add_zero, Nat.zero_add, reduceCtorEq, l_0, l_1, l_2, l_3, l_4, l_5, l_6, l_7, l_8, l_9, l_10, l_15, l_24, l_32, l_39, l_40, l_47, l_48, l_50, l_57, l_60, l_63, l_80, l_95, l_99, l_100, l_120, l_126, l_128, l_1000, l_9999, l_10000, L_0, L_1, L_2, L_3, L_4, L_5, L_7, L_9, L_15, L_40, L_50, L_99, L_127, L_9999, c_ltT, c_ltF, c_leT, c_leF, c_eqT, c_eqF, n_leF, n_ltF, c_gltT, c_gltF, c_ggtT, c_ggtF, false_or, or_false, or_self, true_or, or_true]
  · rw [e6 _ _ (by omega)]
    simp (disch := omega) only [↓lt_d, eq_self, lN_add, i_l, wTn, wFa, wFb, wCT, wCF, mNe, mNe2, mLt, mLe, bp_s, bn_s, n_clampS, nI_1, nI_add, pk_sub, nI_mul, wrI_at, wrI_2, wrL_at, wrL_1, true_and, false_and, and_true, and_false, and_self, ↓reduceIte, Nat.reduceEqDiff, Nat.reduceAdd, Nat.reduceMul, Nat.add_zero, Nat.zero_add, reduceCtorEq, l_0, l_1, l_2, l_3, l_4, l_5, l_6, l_7, l_8, l_9, l_10, l_15, l_24, l_32, l_39, l_40, l_47, l_48, l_50, l_57, l_60, l_63, l_80, l_95, l_99, l_100, l_120, l_126, l_128, l_1000, l_9999, l_10000, L_0, L_1, L_2, L_3, L_4, L_5, L_7, L_9, L_15, L_40, L_50, L_99, L_127, L_9999, c_ltT, c_ltF, c_leT, c_leF, c_eqT, c_eqF, n_leF, n_ltF, c_gltT, c_gltF, c_ggtT, c_ggtF, false_or, or_false, or_self, true_or, or_true]
  · rw [e6 36 15 (by omega)]
    rcases hf with ⟨h1, h2, h3⟩ | ⟨h1, h3⟩
    · subst h2
      exact Or.inl ⟨h1, rfl, by simp (disch := omega) only [h3, ↓lt_d, eq_self, lN_add, i_l, wTn, wFa, wFb, wCT, wCF, mNe, mNe2, mLt, mLe, bp_s, bn_s, n_clampS, nI_1, nI_add, pk_sub, nI_mul, wrI_at, wrI_2, wrL_at, wrL_1, true_and, false_and, and_true, and_false, and_self, ↓reduceIte, Nat.reduceEqDiff, Nat.reduceAdd, Nat.reduceMul, Nat.add_zero, Nat.zero_add, reduceCtorEq, l_0, l_1, l_2, l_3, l_4, l_5, l_6, l_7, l_8, l_9, l_10, l_15, l_24, l_32, l_39, l_40, l_47, l_48, l_50, l_57, l_60, l_63, l_80, l_95, l_99, l_100, l_120, l_126, l_128, l_1000, l_9999, l_10000, L_0, L_1, L_2, L_3, L_4, L_5, L_7, L_9, L_15, L_40, L_50, L_99, L_127, L_9999, c_ltT, c_ltF, c_leT, c_leF, c_eqT, c_eqF, n_leF, n_ltF, c_gltT, c_gltF, c_ggtT, c_ggtF, false_or, or_false, or_self, true_or, or_true]⟩
    · exact Or.inr ⟨h1, by simp (disch := omega) only [h3, ↓lt_d, eq_self, lN_add, i_l, wTn, wFa, wFb, wCT, wCF, mNe, mNe2, mLt, mLe, bp_s, bn_s, n_clampS, nI_1, nI_add, pk_sub, nI_mul, wrI_at, wrI_2, wrL_at, wrL_1, true_and, false_and, and_true, and_false, and_self, ↓reduceIte, Nat.reduceEqDiff, Nat.reduceAdd, Nat.reduceMul, Nat.add_zero, Nat.zero_add, reduceCtorEq, l_0, l_1, l_2, l_3, l_4, l_5, l_6, l_7, l_8, l_9, l_10, l_15, l_24, l_32, l_39, l_40, l_47, l_48, l_50, l_57, l_60, l_63, l_80, l_95, l_99, l_100, l_120, l_126, l_128, l_1000, l_9999, l_10000, L_0, L_1, L_2, L_3, L_4, L_5, L_7, L_9, L_15, L_40, L_50, L_99, L_127, L_9999, c_ltT, c_ltF, c_leT, c_leF, c_eqT, c_eqF, n_leF, n_ltF, c_gltT, c_gltF, c_ggtT, c_ggtF, false_or, or_false, or_self, true_or, or_true]⟩
/-- what lookAndAdd of the reference is made of, without noughts -/
theorem look_x {n x y f o : Nat} (hn : 1000 ≤ n) (hx : x ≤ 9) (hy : y ≤ 9) (ho : o ≤ 9) (hf : f = 0 ∨ f = 1) {R R' : Mm} {r : Int32} (h : fX11_lookAndAdd n (nI x) (nI y) (nI 0) (nI f) (nI o) R = some (r, R')) : ∃ R1, fX11_acts n (nI 0) (nI (x * y)) (nI ((if y < x then y else x) * 10 ^ o)) (nI 0) (if f = 0 then R else wrI R 72 29 (nI (x * y))) = some R1 ∧ (f = 0 ∧ fX11_acts n (nI 1) (R1.1 72 29 + nI (x * y)) (nI 0) (nI o) (wrI R1 72 29 (R1.1 72 29 + nI (x * y))) = some R' ∨ f = 1 ∧ R' = R1) := by
  have t0 : fX11_tens n (nI 0) = some (nI 1) := by
    have := tens_l (n := n) (k := 0) hn (by omega)
    rw [Nat.pow_zero] at this
    exact this
  unfold fX11_lookAndAdd fX11_lookAndAdd_b21 at h
  rcases hf with rfl | rfl
  · by_cases hxy : y < x
    · rw [if_pos hxy]
      rw [if_pos rfl]
      unfold fX11_lookAndAdd_b35 at h
      simp (disch := omega) only [t0, tens_l hn ho, ↓lt_d, bn_s, l_0, l_1, nI_mul, Nat.mul_one, c_leT, c_leF, c_eqT, c_eqF, ↓reduceIte] at h
      obtain ⟨R1, q1, h⟩ := bn_x h
      obtain ⟨R2, q2, h⟩ := bn_x h
      exact ⟨R1, q1, Or.inl ⟨rfl, by rw [← pr_2 h]; simpa only [wrI_at, and_self, ↓reduceIte] using q2⟩⟩
    · rw [if_neg hxy]
      rw [if_pos rfl]
      unfold fX11_lookAndAdd_b35 at h
      by_cases hxy2 : y = x
      · subst hxy2
        simp (disch := omega) only [t0, tens_l hn ho, ↓lt_d, bn_s, l_0, l_1, nI_mul, Nat.mul_one, c_leT, c_leF, c_eqT, c_eqF, ↓reduceIte] at h
        obtain ⟨R1, q1, h⟩ := bn_x h
        obtain ⟨R2, q2, h⟩ := bn_x h
        exact ⟨R1, q1, Or.inl ⟨rfl, by rw [← pr_2 h]; simpa only [wrI_at, and_self, ↓reduceIte] using q2⟩⟩
      · simp (disch := omega) only [t0, tens_l hn ho, ↓lt_d, bn_s, l_0, l_1, nI_mul, Nat.mul_one, c_leT, c_leF, c_eqT, c_eqF, ↓reduceIte] at h
        obtain ⟨R1, q1, h⟩ := bn_x h
        obtain ⟨R2, q2, h⟩ := bn_x h
        exact ⟨R1, q1, Or.inl ⟨rfl, by rw [← pr_2 h]; simpa only [wrI_at, and_self, ↓reduceIte] using q2⟩⟩
  · rw [if_neg (show ¬ (1 : Nat) = 0 by decide)]
    unfold fX11_lookAndAdd_b35 at h
    by_cases hxy : y < x
    · rw [if_pos hxy]
      simp (disch := omega) only [t0, tens_l hn ho, ↓lt_d, bn_s, l_0, l_1, nI_mul, Nat.mul_one, c_leT, c_leF, c_eqT, c_eqF, ↓reduceIte] at h
      obtain ⟨R1, q1, h⟩ := bn_x h
      exact ⟨R1, q1, Or.inr ⟨rfl, (pr_2 h).symm⟩⟩
    · rw [if_neg hxy]
      by_cases hxy2 : y = x
      · subst hxy2
        simp (disch := omega) only [t0, tens_l hn ho, ↓lt_d, bn_s, l_0, l_1, nI_mul, Nat.mul_one, c_leT, c_leF, c_eqT, c_eqF, ↓reduceIte] at h
        obtain ⟨R1, q1, h⟩ := bn_x h
        exact ⟨R1, q1, Or.inr ⟨rfl, (pr_2 h).symm⟩⟩
      · simp (disch := omega) only [t0, tens_l hn ho, ↓lt_d, bn_s, l_0, l_1, nI_mul, Nat.mul_one, c_leT, c_leF, c_eqT, c_eqF, ↓reduceIte] at h
        obtain ⟨R1, q1, h⟩ := bn_x h
        exact ⟨R1, q1, Or.inr ⟨rfl, (pr_2 h).symm⟩⟩
theorem Lf_f {j f a v hd : Nat} {T : Nat → Nat} {C R : Mm} (h : Lf j T f C R a v hd) : f = 0 ∨ f = 1 := by
  obtain ⟨-, -, -, ⟨h, -⟩ | ⟨h, -⟩⟩ := h
  · exact Or.inr h
  · exact Or.inl h
theorem crossI {n j p q k L : Nat} (hn : 1000 ≤ n) (hj : j < 6) {T : Nat → Nat} (hp : p < 2 ^ 31) (hq : q < 2 ^ 31) (hk : k ≤ 6) {k17 : Int32 → Int32 → Int32 → Int32 → Mm → Option (Int32 × Mm)} {k5 : Int32 → Int32 → Int32 → Int32 → Mm → Option Mm} : ∀ d i fu fv f a v hd C R, k + 1 - i = d → i ≤ k + 1 → d < fu → d < fv → Lf j T f C R a v hd → a + 2 * d < 80 → v + 81 * d < 2 ^ 31 → ∃ C' R' f' a' v', fX0_goCrossed_h26 n k17 fu (nI p) (nI q) (nI L) (nI k) (nI i) C = k17 (nI p) (nI q) (nI L) (nI (k + 1)) C' ∧ fX11_goCrossed_h24 n k5 fv (nI p) (nI q) (nI f) (nI k) (nI i) R = k5 (nI p) (nI q) (nI f') (nI (k + 1)) R' ∧ Lf j T f' C' R' a' v' (hd + 1) ∧ a' ≤ a + 2 * d + 1 ∧ v' ≤ v + 81 * d := by
  intro d
  induction d with
  | zero =>
    intro i fu fv f a v hd C R hd0 hi hf hg h ha hv
    obtain ⟨fu, rfl⟩ : ∃ f, fu = f + 1 := ⟨fu - 1, by omega⟩
    obtain ⟨fv, rfl⟩ : ∃ f, fv = f + 1 := ⟨fv - 1, by omega⟩
    obtain ⟨C1, R1, e1, e2, e3⟩ := Lf_last hn h hj (by omega) (by omega)
    have w5 := h.1.2.2.2.2.1
    have w6 := h.1.2.2.2.2.2.1
    have hv2 : v < 2 ^ 31 := by omega
    refine ⟨C1, R1, f, a + 1, v / 10, ?_, ?_, e3, by omega, by omega⟩
    · rw [fX0_goCrossed_h26.eq_2]
      simp (disch := omega) only [e1, ↓lt_d, eq_self, lN_add, i_l, wTn, wFa, wFb, wCT, wCF, mNe, mNe2, mLt, mLe, bp_s, bn_s, n_clampS, nI_1, nI_add, pk_sub, nI_mul, wrI_at, wrI_2, wrL_at, wrL_1, true_and, false_and, and_true, and_false, and_self, ↓reduceIte, Nat.reduceEqDiff, Nat.reduceAdd, Nat.reduceMul, Nat.add_zero, Nat.zero_add, reduceCtorEq, l_0, l_1, l_2, l_3, l_4, l_5, l_6, l_7, l_8, l_9, l_10, l_15, l_24, l_32, l_39, l_40, l_47, l_48, l_50, l_57, l_60, l_63, l_80, l_95, l_99, l_100, l_120, l_126, l_128, l_1000, l_9999, l_10000, L_0, L_1, L_2, L_3, L_4, L_5, L_7, L_9, L_15, L_40, L_50, L_99, L_127, L_9999, c_ltT, c_ltF, c_leT, c_leF, c_eqT, c_eqF, n_leF, n_ltF, c_gltT, c_gltF, c_ggtT, c_ggtF, false_or, or_false, or_self, true_or, or_true]
    · rw [fX11_goCrossed_h24.eq_2]
      simp (disch := omega) only [w5, w6, rm, dv, e2, ↓lt_d, eq_self, lN_add, i_l, wTn, wFa, wFb, wCT, wCF, mNe, mNe2, mLt, mLe, bp_s, bn_s, n_clampS, nI_1, nI_add, pk_sub, nI_mul, wrI_at, wrI_2, wrL_at, wrL_1, true_and, false_and, and_true, and_false, and_self, ↓reduceIte, Nat.reduceEqDiff, Nat.reduceAdd, Nat.reduceMul, Nat.add_zero, Nat.zero_add, reduceCtorEq, l_0, l_1, l_2, l_3, l_4, l_5, l_6, l_7, l_8, l_9, l_10, l_15, l_24, l_32, l_39, l_40, l_47, l_48, l_50, l_57, l_60, l_63, l_80, l_95, l_99, l_100, l_120, l_126, l_128, l_1000, l_9999, l_10000, L_0, L_1, L_2, L_3, L_4, L_5, L_7, L_9, L_15, L_40, L_50, L_99, L_127, L_9999, c_ltT, c_ltF, c_leT, c_leF, c_eqT, c_eqF, n_leF, n_ltF, c_gltT, c_gltF, c_ggtT, c_ggtF, false_or, or_false, or_self, true_or, or_true]
  | succ d ih =>
    intro i fu fv f a v hd C R hd0 hi hf hg h ha hv
    obtain ⟨fu, rfl⟩ : ∃ f, fu = f + 1 := ⟨fu - 1, by omega⟩
    obtain ⟨fv, rfl⟩ : ∃ f, fv = f + 1 := ⟨fv - 1, by omega⟩
    have e1 := figureAt_l (k := i) (v := p) (by omega) hp
    have e2 := figure_l (n := n) (k := i) (v := p) hn (by omega) hp
    have e3 := figureAt_l (k := k - i) (v := q) (by omega) hq
    have e4 := figure_l (n := n) (k := k - i) (v := q) hn (by omega) hq
    have hx : p / 10 ^ i % 10 ≤ 9 := by omega
    have hy : q / 10 ^ (k - i) % 10 ≤ 9 := by omega
    generalize p / 10 ^ i % 10 = x at *
    generalize q / 10 ^ (k - i) % 10 = y at *
    have hxy : x * y ≤ 9 * 9 := Nat.mul_le_mul hx hy
    have hnb : nzb x * nzb y ≤ 1 * 1 := Nat.mul_le_mul (nzb_le x) (nzb_le y)
    have hf0 := Lf_f h
    obtain ⟨C1, R1, f1, a1, s1, s2, s3, s4⟩ := Lf_stp (k := 0) (o := k) hn h hj (x := x) (y := y) (by omega) hx hy (by omega) (by omega) (by rw [Nat.pow_zero, Nat.mul_one]; omega)
    rw [Nat.pow_zero] at s1
    rw [Nat.pow_zero, Nat.mul_one] at s3
    obtain ⟨C2, R2, f2, a2, v2, t1, t2, t3, t4, t5⟩ := ih (i + 1) fu fv f1 a1 _ hd C1 R1 (by omega) (by omega) (by omega) (by omega) s3 (by omega) (by omega)
    refine ⟨C2, R2, f2, a2, v2, ?_, ?_, t3, by omega, by omega⟩
    · rw [fX0_goCrossed_h26.eq_2]
      simp (disch := omega) only [e1, e3, tenTo_l, s1, ↓lt_d, eq_self, lN_add, i_l, wTn, wFa, wFb, wCT, wCF, mNe, mNe2, mLt, mLe, bp_s, bn_s, n_clampS, nI_1, nI_add, pk_sub, nI_mul, wrI_at, wrI_2, wrL_at, wrL_1, true_and, false_and, and_true, and_false, and_self, ↓reduceIte, Nat.reduceEqDiff, Nat.reduceAdd, Nat.reduceMul, Nat.add_zero, Nat.zero_add, reduceCtorEq, l_0, l_1, l_2, l_3, l_4, l_5, l_6, l_7, l_8, l_9, l_10, l_15, l_24, l_32, l_39, l_40, l_47, l_48, l_50, l_57, l_60, l_63, l_80, l_95, l_99, l_100, l_120, l_126, l_128, l_1000, l_9999, l_10000, L_0, L_1, L_2, L_3, L_4, L_5, L_7, L_9, L_15, L_40, L_50, L_99, L_127, L_9999, c_ltT, c_ltF, c_leT, c_leF, c_eqT, c_eqF, n_leF, n_ltF, c_gltT, c_gltF, c_ggtT, c_ggtF, false_or, or_false, or_self, true_or, or_true]
      exact t1
    · rw [fX11_goCrossed_h24.eq_2]
      unfold fX11_goCrossed_b166
      rcases s2 with ⟨z, rfl, rfl⟩ | ⟨z, z2, rfl⟩
      · by_cases hx0 : x = 0
        · subst hx0
          simp (disch := omega) only [e2, ↓lt_d, eq_self, lN_add, i_l, wTn, wFa, wFb, wCT, wCF, mNe, mNe2, mLt, mLe, bp_s, bn_s, n_clampS, nI_1, nI_add, pk_sub, nI_mul, wrI_at, wrI_2, wrL_at, wrL_1, true_and, false_and, and_true, and_false, and_self, ↓reduceIte, Nat.reduceEqDiff, Nat.reduceAdd, Nat.reduceMul, Nat.add_zero, Nat.zero_add, reduceCtorEq, l_0, l_1, l_2, l_3, l_4, l_5, l_6, l_7, l_8, l_9, l_10, l_15, l_24, l_32, l_39, l_40, l_47, l_48, l_50, l_57, l_60, l_63, l_80, l_95, l_99, l_100, l_120, l_126, l_128, l_1000, l_9999, l_10000, L_0, L_1, L_2, L_3, L_4, L_5, L_7, L_9, L_15, L_40, L_50, L_99, L_127, L_9999, c_ltT, c_ltF, c_leT, c_leF, c_eqT, c_eqF, n_leF, n_ltF, c_gltT, c_gltF, c_ggtT, c_ggtF, false_or, or_false, or_self, true_or, or_true]
          exact t2
        · have hy0 : y = 0 := by omega
          subst hy0
          simp (disch := omega) only [e2, e4, ↓lt_d, eq_self, lN_add, i_l, wTn, wFa, wFb, wCT, wCF, mNe, mNe2, mLt, mLe, bp_s, bn_s, n_clampS, nI_1, nI_add, pk_sub, nI_mul, wrI_at, wrI_2, wrL_at, wrL_1, true_and, false_and, and_true, and_false, and_self, ↓reduceIte, Nat.reduceEqDiff, Nat.reduceAdd, Nat.reduceMul, Nat.add_zero, Nat.zero_add, reduceCtorEq, l_0, l_1, l_2, l_3, l_4, l_5, l_6, l_7, l_8, l_9, l_10, l_15, l_24, l_32, l_39, l_40, l_47, l_48, l_50, l_57, l_60, l_63, l_80, l_95, l_99, l_100, l_120, l_126, l_128, l_1000, l_9999, l_10000, L_0, L_1, L_2, L_3, L_4, L_5, L_7, L_9, L_15, L_40, L_50, L_99, L_127, L_9999, c_ltT, c_ltF, c_leT, c_leF, c_eqT, c_eqF, n_leF, n_ltF, c_gltT, c_gltF, c_ggtT, c_ggtF, false_or, or_false, or_self, true_or, or_true]
          exact t2
      · obtain ⟨R3, q1, q2⟩ := look_x hn hx hy (by omega) hf0 z2
        unfold fX11_goCrossed_b109 fX11_goCrossed_b121 fX11_goCrossed_b164
        unfold fX11_goCrossed_b166
        rcases q2 with ⟨rfl, q2⟩ | ⟨rfl, rfl⟩
        · rw [if_pos rfl] at q1
          by_cases hxy2 : y < x
          · rw [if_pos hxy2] at q1
            simp (disch := omega) only [e2, e4, tens_l hn, q1, q2, ↓lt_d, eq_self, lN_add, i_l, wTn, wFa, wFb, wCT, wCF, mNe, mNe2, mLt, mLe, bp_s, bn_s, n_clampS, nI_1, nI_add, pk_sub, nI_mul, wrI_at, wrI_2, wrL_at, wrL_1, true_and, false_and, and_true, and_false, and_self, ↓reduceIte, Nat.reduceEqDiff, Nat.reduceAdd, Nat.reduceMul, Nat.add_zero, Nat.zero_add, reduceCtorEq, l_0, l_1, l_2, l_3, l_4, l_5, l_6, l_7, l_8, l_9, l_10, l_15, l_24, l_32, l_39, l_40, l_47, l_48, l_50, l_57, l_60, l_63, l_80, l_95, l_99, l_100, l_120, l_126, l_128, l_1000, l_9999, l_10000, L_0, L_1, L_2, L_3, L_4, L_5, L_7, L_9, L_15, L_40, L_50, L_99, L_127, L_9999, c_ltT, c_ltF, c_leT, c_leF, c_eqT, c_eqF, n_leF, n_ltF, c_gltT, c_gltF, c_ggtT, c_ggtF, false_or, or_false, or_self, true_or, or_true]
            exact t2
          · rw [if_neg hxy2] at q1
            by_cases hxy3 : y = x
            · subst hxy3
              simp (disch := omega) only [e2, e4, tens_l hn, q1, q2, ↓lt_d, eq_self, lN_add, i_l, wTn, wFa, wFb, wCT, wCF, mNe, mNe2, mLt, mLe, bp_s, bn_s, n_clampS, nI_1, nI_add, pk_sub, nI_mul, wrI_at, wrI_2, wrL_at, wrL_1, true_and, false_and, and_true, and_false, and_self, ↓reduceIte, Nat.reduceEqDiff, Nat.reduceAdd, Nat.reduceMul, Nat.add_zero, Nat.zero_add, reduceCtorEq, l_0, l_1, l_2, l_3, l_4, l_5, l_6, l_7, l_8, l_9, l_10, l_15, l_24, l_32, l_39, l_40, l_47, l_48, l_50, l_57, l_60, l_63, l_80, l_95, l_99, l_100, l_120, l_126, l_128, l_1000, l_9999, l_10000, L_0, L_1, L_2, L_3, L_4, L_5, L_7, L_9, L_15, L_40, L_50, L_99, L_127, L_9999, c_ltT, c_ltF, c_leT, c_leF, c_eqT, c_eqF, n_leF, n_ltF, c_gltT, c_gltF, c_ggtT, c_ggtF, false_or, or_false, or_self, true_or, or_true]
              exact t2
            · simp (disch := omega) only [e2, e4, tens_l hn, q1, q2, ↓lt_d, eq_self, lN_add, i_l, wTn, wFa, wFb, wCT, wCF, mNe, mNe2, mLt, mLe, bp_s, bn_s, n_clampS, nI_1, nI_add, pk_sub, nI_mul, wrI_at, wrI_2, wrL_at, wrL_1, true_and, false_and, and_true, and_false, and_self, ↓reduceIte, Nat.reduceEqDiff, Nat.reduceAdd, Nat.reduceMul, Nat.add_zero, Nat.zero_add, reduceCtorEq, l_0, l_1, l_2, l_3, l_4, l_5, l_6, l_7, l_8, l_9, l_10, l_15, l_24, l_32, l_39, l_40, l_47, l_48, l_50, l_57, l_60, l_63, l_80, l_95, l_99, l_100, l_120, l_126, l_128, l_1000, l_9999, l_10000, L_0, L_1, L_2, L_3, L_4, L_5, L_7, L_9, L_15, L_40, L_50, L_99, L_127, L_9999, c_ltT, c_ltF, c_leT, c_leF, c_eqT, c_eqF, n_leF, n_ltF, c_gltT, c_gltF, c_ggtT, c_ggtF, false_or, or_false, or_self, true_or, or_true]
              exact t2
        · rw [if_neg (show ¬ (1 : Nat) = 0 by decide)] at q1
          by_cases hxy2 : y < x
          · rw [if_pos hxy2] at q1
            simp (disch := omega) only [e2, e4, tens_l hn, q1, ↓lt_d, eq_self, lN_add, i_l, wTn, wFa, wFb, wCT, wCF, mNe, mNe2, mLt, mLe, bp_s, bn_s, n_clampS, nI_1, nI_add, pk_sub, nI_mul, wrI_at, wrI_2, wrL_at, wrL_1, true_and, false_and, and_true, and_false, and_self, ↓reduceIte, Nat.reduceEqDiff, Nat.reduceAdd, Nat.reduceMul, Nat.add_zero, Nat.zero_add, reduceCtorEq, l_0, l_1, l_2, l_3, l_4, l_5, l_6, l_7, l_8, l_9, l_10, l_15, l_24, l_32, l_39, l_40, l_47, l_48, l_50, l_57, l_60, l_63, l_80, l_95, l_99, l_100, l_120, l_126, l_128, l_1000, l_9999, l_10000, L_0, L_1, L_2, L_3, L_4, L_5, L_7, L_9, L_15, L_40, L_50, L_99, L_127, L_9999, c_ltT, c_ltF, c_leT, c_leF, c_eqT, c_eqF, n_leF, n_ltF, c_gltT, c_gltF, c_ggtT, c_ggtF, false_or, or_false, or_self, true_or, or_true]
            exact t2
          · rw [if_neg hxy2] at q1
            by_cases hxy3 : y = x
            · subst hxy3
              simp (disch := omega) only [e2, e4, tens_l hn, q1, ↓lt_d, eq_self, lN_add, i_l, wTn, wFa, wFb, wCT, wCF, mNe, mNe2, mLt, mLe, bp_s, bn_s, n_clampS, nI_1, nI_add, pk_sub, nI_mul, wrI_at, wrI_2, wrL_at, wrL_1, true_and, false_and, and_true, and_false, and_self, ↓reduceIte, Nat.reduceEqDiff, Nat.reduceAdd, Nat.reduceMul, Nat.add_zero, Nat.zero_add, reduceCtorEq, l_0, l_1, l_2, l_3, l_4, l_5, l_6, l_7, l_8, l_9, l_10, l_15, l_24, l_32, l_39, l_40, l_47, l_48, l_50, l_57, l_60, l_63, l_80, l_95, l_99, l_100, l_120, l_126, l_128, l_1000, l_9999, l_10000, L_0, L_1, L_2, L_3, L_4, L_5, L_7, L_9, L_15, L_40, L_50, L_99, L_127, L_9999, c_ltT, c_ltF, c_leT, c_leF, c_eqT, c_eqF, n_leF, n_ltF, c_gltT, c_gltF, c_ggtT, c_ggtF, false_or, or_false, or_self, true_or, or_true]
              exact t2
            · simp (disch := omega) only [e2, e4, tens_l hn, q1, ↓lt_d, eq_self, lN_add, i_l, wTn, wFa, wFb, wCT, wCF, mNe, mNe2, mLt, mLe, bp_s, bn_s, n_clampS, nI_1, nI_add, pk_sub, nI_mul, wrI_at, wrI_2, wrL_at, wrL_1, true_and, false_and, and_true, and_false, and_self, ↓reduceIte, Nat.reduceEqDiff, Nat.reduceAdd, Nat.reduceMul, Nat.add_zero, Nat.zero_add, reduceCtorEq, l_0, l_1, l_2, l_3, l_4, l_5, l_6, l_7, l_8, l_9, l_10, l_15, l_24, l_32, l_39, l_40, l_47, l_48, l_50, l_57, l_60, l_63, l_80, l_95, l_99, l_100, l_120, l_126, l_128, l_1000, l_9999, l_10000, L_0, L_1, L_2, L_3, L_4, L_5, L_7, L_9, L_15, L_40, L_50, L_99, L_127, L_9999, c_ltT, c_ltF, c_leT, c_leF, c_eqT, c_eqF, n_leF, n_ltF, c_gltT, c_gltF, c_ggtT, c_ggtF, false_or, or_false, or_self, true_or, or_true]
              exact t2
theorem crossO {n j p q L : Nat} (hn : 1000 ≤ n) (hj : j < 6) {T : Nat → Nat} (hp : 1 ≤ p) (hp2 : p ≤ 9999) (hq : 1 ≤ q) (hq2 : q ≤ 9999) (hL : L + 2 = dgs p + dgs q) : ∀ d k fu fv f a v hd C R, L + 1 - k = d → k ≤ L + 1 → d < fu → d < fv → Lf j T f C R a v hd → a ≤ k * (k + 2) → v ≤ 1000 * k → ∃ C' R' f' a' v' hd', fX0_goCrossed_h17 n fu (nI p) (nI q) (nI L) (nI k) C = some (nI 1, C') ∧ fX11_goCrossed_h5 n fv (nI p) (nI q) (nI f) (nI k) R = some R' ∧ Lf j T f' C' R' a' v' hd' := by
  have hp3 := dgs4 hp2
  have hq3 := dgs4 hq2
  have hdp := digits_l (n := n) (v := p) hn (by omega)
  have hdq := digits_l (n := n) (v := q) hn (by omega)
  have e0 : nI (dgs p + dgs q) - nI 2 = nI L := by rw [pk_sub (by omega), show dgs p + dgs q - 2 = L by omega]
  intro d
  induction d with
  | zero =>
    intro k fu fv f a v hd C R hd0 hi hf hg h ha hv
    obtain ⟨fu, rfl⟩ : ∃ f, fu = f + 1 := ⟨fu - 1, by omega⟩
    obtain ⟨fv, rfl⟩ : ∃ f, fv = f + 1 := ⟨fv - 1, by omega⟩
    refine ⟨C, R, f, a, v, hd, ?_, ?_, h⟩
    · rw [fX0_goCrossed_h17.eq_2]
      simp (disch := omega) only [↓lt_d, eq_self, lN_add, i_l, wTn, wFa, wFb, wCT, wCF, mNe, mNe2, mLt, mLe, bp_s, bn_s, n_clampS, nI_1, nI_add, pk_sub, nI_mul, wrI_at, wrI_2, wrL_at, wrL_1, true_and, false_and, and_true, and_false, and_self, ↓reduceIte, Nat.reduceEqDiff, Nat.reduceAdd, Nat.reduceMul, Nat.add_zero, Nat.zero_add, reduceCtorEq, l_0, l_1, l_2, l_3, l_4, l_5, l_6, l_7, l_8, l_9, l_10, l_15, l_24, l_32, l_39, l_40, l_47, l_48, l_50, l_57, l_60, l_63, l_80, l_95, l_99, l_100, l_120, l_126, l_128, l_1000, l_9999, l_10000, L_0, L_1, L_2, L_3, L_4, L_5, L_7, L_9, L_15, L_40, L_50, L_99, L_127, L_9999, c_ltT, c_ltF, c_leT, c_leF, c_eqT, c_eqF, n_leF, n_ltF, c_gltT, c_gltF, c_ggtT, c_ggtF, false_or, or_false, or_self, true_or, or_true]
    · rw [fX11_goCrossed_h5.eq_2]
      simp (disch := omega) only [hdp, hdq, ↓e0, ↓lt_d, eq_self, lN_add, i_l, wTn, wFa, wFb, wCT, wCF, mNe, mNe2, mLt, mLe, bp_s, bn_s, n_clampS, nI_1, nI_add, pk_sub, nI_mul, wrI_at, wrI_2, wrL_at, wrL_1, true_and, false_and, and_true, and_false, and_self, ↓reduceIte, Nat.reduceEqDiff, Nat.reduceAdd, Nat.reduceMul, Nat.add_zero, Nat.zero_add, reduceCtorEq, l_0, l_1, l_2, l_3, l_4, l_5, l_6, l_7, l_8, l_9, l_10, l_15, l_24, l_32, l_39, l_40, l_47, l_48, l_50, l_57, l_60, l_63, l_80, l_95, l_99, l_100, l_120, l_126, l_128, l_1000, l_9999, l_10000, L_0, L_1, L_2, L_3, L_4, L_5, L_7, L_9, L_15, L_40, L_50, L_99, L_127, L_9999, c_ltT, c_ltF, c_leT, c_leF, c_eqT, c_eqF, n_leF, n_ltF, c_gltT, c_gltF, c_ggtT, c_ggtF, false_or, or_false, or_self, true_or, or_true]
  | succ d ih =>
    intro k fu fv f a v hd C R hd0 hi hf hg h ha hv
    obtain ⟨fu, rfl⟩ : ∃ f, fu = f + 1 := ⟨fu - 1, by omega⟩
    obtain ⟨fv, rfl⟩ : ∃ f, fv = f + 1 := ⟨fv - 1, by omega⟩
    have hk2 : (k + 1) * (k + 1 + 2) = k * (k + 2) + 2 * (k + 1) + 1 := by
      simp only [Nat.add_mul, Nat.mul_add]
      omega
    have hk3 : k * (k + 2) ≤ 6 * 8 := Nat.mul_le_mul (by omega) (by omega)
    obtain ⟨C1, R1, f1, a1, v1, s1, s2, s3, s4, s5⟩ := crossI (k17 := fX0_goCrossed_h17 n fu) (k5 := fX11_goCrossed_h5 n fv) hn hj (show p < 2 ^ 31 by omega) (show q < 2 ^ 31 by omega) (show k ≤ 6 by omega) (L := L) (k + 1) 0 n n f a v hd C R (by omega) (by omega) (by omega) (by omega) h (by omega) (by omega)
    obtain ⟨C2, R2, f2, a2, v2, hd2, t1, t2, t3⟩ := ih (k + 1) fu fv f1 a1 v1 (hd + 1) C1 R1 (by omega) (by omega) (by omega) (by omega) s3 (by omega) (by omega)
    refine ⟨C2, R2, f2, a2, v2, hd2, ?_, ?_, t3⟩
    · rw [fX0_goCrossed_h17.eq_2]
      simp (disch := omega) only [s1, ↓lt_d, eq_self, lN_add, i_l, wTn, wFa, wFb, wCT, wCF, mNe, mNe2, mLt, mLe, bp_s, bn_s, n_clampS, nI_1, nI_add, pk_sub, nI_mul, wrI_at, wrI_2, wrL_at, wrL_1, true_and, false_and, and_true, and_false, and_self, ↓reduceIte, Nat.reduceEqDiff, Nat.reduceAdd, Nat.reduceMul, Nat.add_zero, Nat.zero_add, reduceCtorEq, l_0, l_1, l_2, l_3, l_4, l_5, l_6, l_7, l_8, l_9, l_10, l_15, l_24, l_32, l_39, l_40, l_47, l_48, l_50, l_57, l_60, l_63, l_80, l_95, l_99, l_100, l_120, l_126, l_128, l_1000, l_9999, l_10000, L_0, L_1, L_2, L_3, L_4, L_5, L_7, L_9, L_15, L_40, L_50, L_99, L_127, L_9999, c_ltT, c_ltF, c_leT, c_leF, c_eqT, c_eqF, n_leF, n_ltF, c_gltT, c_gltF, c_ggtT, c_ggtF, false_or, or_false, or_self, true_or, or_true]
      exact t1
    · rw [fX11_goCrossed_h5.eq_2]
      simp (disch := omega) only [hdp, hdq, ↓e0, s2, ↓lt_d, eq_self, lN_add, i_l, wTn, wFa, wFb, wCT, wCF, mNe, mNe2, mLt, mLe, bp_s, bn_s, n_clampS, nI_1, nI_add, pk_sub, nI_mul, wrI_at, wrI_2, wrL_at, wrL_1, true_and, false_and, and_true, and_false, and_self, ↓reduceIte, Nat.reduceEqDiff, Nat.reduceAdd, Nat.reduceMul, Nat.add_zero, Nat.zero_add, reduceCtorEq, l_0, l_1, l_2, l_3, l_4, l_5, l_6, l_7, l_8, l_9, l_10, l_15, l_24, l_32, l_39, l_40, l_47, l_48, l_50, l_57, l_60, l_63, l_80, l_95, l_99, l_100, l_120, l_126, l_128, l_1000, l_9999, l_10000, L_0, L_1, L_2, L_3, L_4, L_5, L_7, L_9, L_15, L_40, L_50, L_99, L_127, L_9999, c_ltT, c_ltF, c_leT, c_leF, c_eqT, c_eqF, n_leF, n_ltF, c_gltT, c_gltF, c_ggtT, c_ggtF, false_or, or_false, or_self, true_or, or_true]
      exact t2
theorem crossed_l {n j p q : Nat} (hn : 1000 ≤ n) (hj : j < 6) {T : Nat → Nat} (hp : 1 ≤ p) (hp2 : p ≤ 9999) (hq : 1 ≤ q) (hq2 : q ≤ 9999) {C R : Mm} (h : Lf j T 1 C R 0 0 0) : ∃ C' R' a', fX0_goCrossed n (nI p) (nI q) C = some (nI 1, C') ∧ fX11_goCrossed n (nI p) (nI q) R = some R' ∧ ∃ v hd, Wy j T C' R' a' v hd := by
  obtain ⟨s, hs, -⟩ := dgs_pos hp (by omega)
  obtain ⟨u, hu, -⟩ := dgs_pos hq (by omega)
  have hp3 := dgs4 hp2
  have hq3 := dgs4 hq2
  obtain ⟨C1, R1, f1, a1, v1, hd1, s1, s2, s3⟩ := crossO hn hj hp hp2 hq hq2 (L := s + u) (by omega) (s + u + 1) 0 n n 1 0 0 0 C R (by omega) (by omega) (by omega) (by omega) h (by omega) (by omega)
  have e0 : nI (s + 1 + (u + 1)) - nI 2 = nI (s + u) := by rw [pk_sub (by omega), show s + 1 + (u + 1) - 2 = s + u by omega]
  refine ⟨C1, R1, a1, ?_, s2, v1, hd1, s3.1⟩
  unfold fX0_goCrossed
  simp (disch := omega) only [sizeOf_l hn (show p < 2 ^ 63 by omega), sizeOf_l hn (show q < 2 ^ 63 by omega), sz1_l hp (show p < 2 ^ 31 by omega), sz1_l hq (show q < 2 ^ 31 by omega), hs, hu, ↓lt_d, eq_self, lN_add, i_l, wTn, wFa, wFb, wCT, wCF, mNe, mNe2, mLt, mLe, bp_s, bn_s, n_clampS, nI_1, nI_add, pk_sub, nI_mul, wrI_at, wrI_2, wrL_at, wrL_1, true_and, false_and, and_true, and_false, and_self, ↓reduceIte, Nat.reduceEqDiff, Nat.reduceAdd, Nat.reduceMul, Nat.add_zero, Nat.zero_add, reduceCtorEq, l_0, l_1, l_2, l_3, l_4, l_5, l_6, l_7, l_8, l_9, l_10, l_15, l_24, l_32, l_39, l_40, l_47, l_48, l_50, l_57, l_60, l_63, l_80, l_95, l_99, l_100, l_120, l_126, l_128, l_1000, l_9999, l_10000, L_0, L_1, L_2, L_3, L_4, L_5, L_7, L_9, L_15, L_40, L_50, L_99, L_127, L_9999, c_ltT, c_ltF, c_leT, c_leF, c_eqT, c_eqF, n_leF, n_ltF, c_gltT, c_gltF, c_ggtT, c_ggtF, false_or, or_false, or_self, true_or, or_true]
  rw [show s + 1 + (u + 1) - 2 = s + u by omega]
  exact s1
