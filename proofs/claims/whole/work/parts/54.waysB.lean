/-! LEFT, on both sides -/
theorem nI_mz : nI 0 + -nI 1 = -nI 1 := by decide
theorem nI_ms (m : Nat) : nI (m + 1) + -nI 1 = nI m := by
  rw [← Int32.sub_eq_add_neg]
  exact nI_pred m
def nzb (x : Nat) : Nat := if x = 0 then 0 else 1
def nzc (q : Nat) : Nat → Nat
  | 0 => 0
  | j + 1 => nzc q j + nzb (q / 10 ^ j % 10)
theorem nzb_le (x : Nat) : nzb x ≤ 1 := by
  unfold nzb
  split <;> omega
theorem nzc_le (q : Nat) : ∀ m, nzc q m ≤ m := by
  intro m
  induction m with
  | zero => exact Nat.le_refl _
  | succ m ih =>
    have := nzb_le (q / 10 ^ m % 10)
    unfold nzc
    omega
theorem nzc_sh (w : Nat) : ∀ m, nzc (w * 10) (m + 1) = nzc w m := by
  intro m
  induction m with
  | zero =>
    unfold nzc nzc nzb
    rw [if_pos (by simp)]
  | succ m ih =>
    have e : w * 10 / 10 ^ (m + 1) = w / 10 ^ m := by
      rw [Nat.pow_succ]
      exact Nat.mul_div_mul_right _ _ (by decide)
    show nzc (w * 10) (m + 1) + nzb (w * 10 / 10 ^ (m + 1) % 10) = nzc w m + nzb (w / 10 ^ m % 10)
    rw [ih, e]
theorem nzc_d {y : Nat} (hy : y ≤ 9) : ∀ m, nzc y m ≤ 1 := by
  have h : ∀ m, nzc y (m + 1) ≤ 1 := by
    intro m
    induction m with
    | zero =>
      show 0 + nzb _ ≤ 1
      rw [Nat.zero_add]
      exact nzb_le _
    | succ m ih =>
      have e : y / 10 ^ (m + 1) = 0 := Nat.div_eq_of_lt (Nat.lt_of_lt_of_le (show y < 10 ^ 1 by omega) (Nat.pow_le_pow_right (by decide) (by omega)))
      show nzc y (m + 1) + nzb (y / 10 ^ (m + 1) % 10) ≤ 1
      rw [e]
      exact ih
  intro m
  cases m with
  | zero => exact Nat.zero_le _
  | succ m => exact h m
theorem nzc_p {y : Nat} (hy : y ≤ 9) : ∀ k m, nzc (y * 10 ^ k) m ≤ 1 := by
  intro k
  induction k with
  | zero =>
    intro m
    rw [Nat.pow_zero, Nat.mul_one]
    exact nzc_d hy m
  | succ k ih =>
    intro m
    cases m with
    | zero => exact Nat.zero_le _
    | succ m =>
      rw [Nat.pow_succ, ← Nat.mul_assoc, nzc_sh]
      exact ih m
/-- as Lf_step, with acts counted well -/
theorem Lf_stp {n j a v hd f x y k o : Nat} (hn : 1000 ≤ n) {T : Nat → Nat} {C R : Mm} (h : Lf j T f C R a v hd) (hj : j < 6) (ha : a + 2 * (nzb x * nzb y) ≤ 80) (hx : x ≤ 9) (hy : y ≤ 9) (hk : k ≤ 9) (ho : o ≤ 9) (hw : v + x * y * 10 ^ k < 2 ^ 31) : ∃ C' R' f' a', fX0_lookAndAdd n (nI x) (nI y) (nI (10 ^ k)) (nI (10 ^ o)) C = some C' ∧ ((x = 0 ∨ y = 0) ∧ R' = R ∧ f' = f ∨ (1 ≤ x ∧ 1 ≤ y) ∧ fX11_lookAndAdd n (nI x) (nI y) (nI k) (nI f) (nI o) R = some (nI 0, R') ∧ f' = 0) ∧ Lf j T f' C' R' a' (v + x * y * 10 ^ k) hd ∧ a' ≤ a + 2 * (nzb x * nzb y) := by
  by_cases h0 : x = 0 ∨ y = 0
  · have e : v + x * y * 10 ^ k = v := by rcases h0 with rfl | rfl <;> simp
    rw [e]
    refine ⟨C, R, f, a, ?_, Or.inl ⟨h0, rfl, rfl⟩, h, by omega⟩
    unfold fX0_lookAndAdd
    rcases h0 with rfl | rfl
    · simp (disch := omega) only [↓lt_d, eq_self, lN_add, i_l, wTn, wFa, wFb, wCT, wCF, mNe, mNe2, mLt, mLe, bp_s, bn_s, n_clampS, nI_1, nI_add, pk_sub, nI_mul, wrI_at, wrI_2, wrL_at, wrL_1, true_and, false_and, and_true, and_false, and_self, ↓reduceIte, Nat.reduceEqDiff, Nat.reduceAdd, Nat.reduceMul, Nat.add_zero, Nat.zero_add, reduceCtorEq, l_0, l_1, l_2, l_3, l_4, l_5, l_6, l_7, l_8, l_9, l_10, l_15, l_24, l_32, l_39, l_40, l_47, l_48, l_50, l_57, l_60, l_63, l_80, l_95, l_99, l_100, l_120, l_126, l_128, l_1000, l_9999, l_10000, L_0, L_1, L_2, L_3, L_4, L_5, L_7, L_9, L_15, L_40, L_50, L_99, L_127, L_9999, c_ltT, c_ltF, c_leT, c_leF, c_eqT, c_eqF, n_leF, n_ltF, c_gltT, c_gltF, c_ggtT, c_ggtF, false_or, or_false, or_self, true_or, or_true]
    · by_cases hx0 : x = 0
      · subst hx0
        simp (disch := omega) only [↓lt_d, eq_self, lN_add, i_l, wTn, wFa, wFb, wCT, wCF, mNe, mNe2, mLt, mLe, bp_s, bn_s, n_clampS, nI_1, nI_add, pk_sub, nI_mul, wrI_at, wrI_2, wrL_at, wrL_1, true_and, false_and, and_true, and_false, and_self, ↓reduceIte, Nat.reduceEqDiff, Nat.reduceAdd, Nat.reduceMul, Nat.add_zero, Nat.zero_add, reduceCtorEq, l_0, l_1, l_2, l_3, l_4, l_5, l_6, l_7, l_8, l_9, l_10, l_15, l_24, l_32, l_39, l_40, l_47, l_48, l_50, l_57, l_60, l_63, l_80, l_95, l_99, l_100, l_120, l_126, l_128, l_1000, l_9999, l_10000, L_0, L_1, L_2, L_3, L_4, L_5, L_7, L_9, L_15, L_40, L_50, L_99, L_127, L_9999, c_ltT, c_ltF, c_leT, c_leF, c_eqT, c_eqF, n_leF, n_ltF, c_gltT, c_gltF, c_ggtT, c_ggtF, false_or, or_false, or_self, true_or, or_true]
      · simp (disch := omega) only [↓lt_d, eq_self, lN_add, i_l, wTn, wFa, wFb, wCT, wCF, mNe, mNe2, mLt, mLe, bp_s, bn_s, n_clampS, nI_1, nI_add, pk_sub, nI_mul, wrI_at, wrI_2, wrL_at, wrL_1, true_and, false_and, and_true, and_false, and_self, ↓reduceIte, Nat.reduceEqDiff, Nat.reduceAdd, Nat.reduceMul, Nat.add_zero, Nat.zero_add, reduceCtorEq, l_0, l_1, l_2, l_3, l_4, l_5, l_6, l_7, l_8, l_9, l_10, l_15, l_24, l_32, l_39, l_40, l_47, l_48, l_50, l_57, l_60, l_63, l_80, l_95, l_99, l_100, l_120, l_126, l_128, l_1000, l_9999, l_10000, L_0, L_1, L_2, L_3, L_4, L_5, L_7, L_9, L_15, L_40, L_50, L_99, L_127, L_9999, c_ltT, c_ltF, c_leT, c_leF, c_eqT, c_eqF, n_leF, n_ltF, c_gltT, c_gltF, c_ggtT, c_ggtF, false_or, or_false, or_self, true_or, or_true]
  · have e2 : nzb x * nzb y = 1 := by
      unfold nzb
      rw [if_neg (by omega), if_neg (by omega)]
    rw [e2] at ha ⊢
    obtain ⟨w, h13, h14, ⟨rfl, rfl, h15⟩ | ⟨rfl, h15⟩⟩ := h
    · rw [Nat.zero_add] at hw ⊢
      obtain ⟨C', R', c1, c2, c3, c4, c5, c6⟩ := Wy_look hn w hj ha (by omega) (by omega) (by omega) hk ho hw h14 h15
      exact ⟨C', R', 0, a + 1, c1, Or.inr ⟨by omega, c2, rfl⟩, ⟨c3, c4, c5, Or.inr ⟨rfl, c6⟩⟩, by omega⟩
    · obtain ⟨C', R', c1, c2, c3, c4, c5, c6⟩ := Wy_add hn w hj ha (by omega) (by omega) hk ho hw h13 h14 h15
      exact ⟨C', R', 0, a + 2, c1, Or.inr ⟨by omega, c2, rfl⟩, ⟨c3, c4, c5, Or.inr ⟨rfl, c6⟩⟩, by omega⟩
/-- one figure of the first by the figures of the second, from place m - 1 down -/
theorem leftI {n j p q i x : Nat} (hn : 1000 ≤ n) (hj : j < 6) {T : Nat → Nat} (hx1 : fX4_figureAt (nI p) (nI i) = some (nI x)) (hx2 : fX11_figure n (nI p) (nI i) = some (nI x)) (hx : x ≤ 9) (hq : q < 2 ^ 31) {k8 : Int32 → Int32 → Int32 → Mm → Option (Int32 × Mm)} {k10 : Int32 → Int32 → Int32 → Int32 → Mm → Option Mm} : ∀ m fu fv f a v hd C R, m < fu → m < fv → i + m ≤ 10 → Lf j T f C R a v hd → a + 2 * (nzb x * nzc q m) ≤ 80 → v + x * 10 ^ i * (q % 10 ^ m) < 2 ^ 31 → ∃ C' R' f' a', fX0_goLeft_h21 n k8 fu (nI p) (nI q) (nI i) (nI m + -nI 1) C = k8 (nI p) (nI q) (nI i + -nI 1) C' ∧ fX11_goLeft_h23 n k10 fv (nI p) (nI q) (nI f) (nI i) (nI m + -nI 1) R = k10 (nI p) (nI q) (nI f') (nI i + -nI 1) R' ∧ Lf j T f' C' R' a' (v + x * 10 ^ i * (q % 10 ^ m)) hd ∧ a' ≤ a + 2 * (nzb x * nzc q m) := by
  intro m
  induction m with
  | zero =>
    intro fu fv f a v hd C R h1 h2 him h ha hv
    obtain ⟨fu, rfl⟩ : ∃ f, fu = f + 1 := ⟨fu - 1, by omega⟩
    obtain ⟨fv, rfl⟩ : ∃ f, fv = f + 1 := ⟨fv - 1, by omega⟩
    have e : v + x * 10 ^ i * (q % 10 ^ 0) = v := by
      rw [Nat.pow_zero, Nat.mod_one, Nat.mul_zero, Nat.add_zero]
    rw [e]
    refine ⟨C, R, f, a, ?_, ?_, h, by omega⟩
    · rw [fX0_goLeft_h21.eq_2]
      simp (disch := omega) only [nI_mz, ↓lt_d, eq_self, lN_add, i_l, wTn, wFa, wFb, wCT, wCF, mNe, mNe2, mLt, mLe, bp_s, bn_s, n_clampS, nI_1, nI_add, pk_sub, nI_mul, wrI_at, wrI_2, wrL_at, wrL_1, true_and, false_and, and_true, and_false, and_self, ↓reduceIte, Nat.reduceEqDiff, Nat.reduceAdd, Nat.reduceMul, Nat.add_zero, Nat.zero_add, reduceCtorEq, l_0, l_1, l_2, l_3, l_4, l_5, l_6, l_7, l_8, l_9, l_10, l_15, l_24, l_32, l_39, l_40, l_47, l_48, l_50, l_57, l_60, l_63, l_80, l_95, l_99, l_100, l_120, l_126, l_128, l_1000, l_9999, l_10000, L_0, L_1, L_2, L_3, L_4, L_5, L_7, L_9, L_15, L_40, L_50, L_99, L_127, L_9999, c_ltT, c_ltF, c_leT, c_leF, c_eqT, c_eqF, n_leF, n_ltF, c_gltT, c_gltF, c_ggtT, c_ggtF, false_or, or_false, or_self, true_or, or_true]
    · rw [fX11_goLeft_h23.eq_2]
      simp (disch := omega) only [nI_mz, ↓lt_d, eq_self, lN_add, i_l, wTn, wFa, wFb, wCT, wCF, mNe, mNe2, mLt, mLe, bp_s, bn_s, n_clampS, nI_1, nI_add, pk_sub, nI_mul, wrI_at, wrI_2, wrL_at, wrL_1, true_and, false_and, and_true, and_false, and_self, ↓reduceIte, Nat.reduceEqDiff, Nat.reduceAdd, Nat.reduceMul, Nat.add_zero, Nat.zero_add, reduceCtorEq, l_0, l_1, l_2, l_3, l_4, l_5, l_6, l_7, l_8, l_9, l_10, l_15, l_24, l_32, l_39, l_40, l_47, l_48, l_50, l_57, l_60, l_63, l_80, l_95, l_99, l_100, l_120, l_126, l_128, l_1000, l_9999, l_10000, L_0, L_1, L_2, L_3, L_4, L_5, L_7, L_9, L_15, L_40, L_50, L_99, L_127, L_9999, c_ltT, c_ltF, c_leT, c_leF, c_eqT, c_eqF, n_leF, n_ltF, c_gltT, c_gltF, c_ggtT, c_ggtF, false_or, or_false, or_self, true_or, or_true]
  | succ m ih =>
    intro fu fv f a v hd C R h1 h2 him h ha hv
    obtain ⟨fu, rfl⟩ : ∃ f, fu = f + 1 := ⟨fu - 1, by omega⟩
    obtain ⟨fv, rfl⟩ : ∃ f, fv = f + 1 := ⟨fv - 1, by omega⟩
    have e1 := figureAt_l (k := m) (v := q) (by omega) hq
    have e2 := figure_l (n := n) (k := m) (v := q) hn (by omega) hq
    have hy : q / 10 ^ m % 10 ≤ 9 := by omega
    have hc : nzc q (m + 1) = nzc q m + nzb (q / 10 ^ m % 10) := rfl
    have hm := Nat.mod_pow_succ (x := q) (b := 10) (k := m)
    have hs : v + x * 10 ^ i * (q % 10 ^ (m + 1)) = v + x * (q / 10 ^ m % 10) * 10 ^ (i + m) + x * 10 ^ i * (q % 10 ^ m) := by
      rw [hm, Nat.mul_add, Nat.pow_add]
      have : x * 10 ^ i * (10 ^ m * (q / 10 ^ m % 10)) = x * (q / 10 ^ m % 10) * (10 ^ i * 10 ^ m) := by
        simp only [Nat.mul_assoc, Nat.mul_comm, Nat.mul_left_comm]
      omega
    rw [hs] at hv ⊢
    rw [hc, Nat.mul_add] at ha ⊢
    generalize q / 10 ^ m % 10 = y at *
    obtain ⟨C1, R1, f1, a1, s1, s2, s3, s4⟩ := Lf_stp (k := i + m) (o := 0) hn h hj (x := x) (y := y) (by omega) hx hy (by omega) (by omega) (by omega)
    rw [Nat.pow_zero] at s1
    obtain ⟨C2, R2, f2, a2, t1, t2, t3, t4⟩ := ih fu fv f1 a1 _ hd C1 R1 (by omega) (by omega) (by omega) s3 (by omega) hv
    refine ⟨C2, R2, f2, a2, ?_, ?_, t3, by omega⟩
    · rw [fX0_goLeft_h21.eq_2]
      simp (disch := omega) only [nI_ms, tenTo_l, hx1, e1, s1, ↓lt_d, eq_self, lN_add, i_l, wTn, wFa, wFb, wCT, wCF, mNe, mNe2, mLt, mLe, bp_s, bn_s, n_clampS, nI_1, nI_add, pk_sub, nI_mul, wrI_at, wrI_2, wrL_at, wrL_1, true_and, false_and, and_true, and_false, and_self, ↓reduceIte, Nat.reduceEqDiff, Nat.reduceAdd, Nat.reduceMul, Nat.add_zero, Nat.zero_add, reduceCtorEq, l_0, l_1, l_2, l_3, l_4, l_5, l_6, l_7, l_8, l_9, l_10, l_15, l_24, l_32, l_39, l_40, l_47, l_48, l_50, l_57, l_60, l_63, l_80, l_95, l_99, l_100, l_120, l_126, l_128, l_1000, l_9999, l_10000, L_0, L_1, L_2, L_3, L_4, L_5, L_7, L_9, L_15, L_40, L_50, L_99, L_127, L_9999, c_ltT, c_ltF, c_leT, c_leF, c_eqT, c_eqF, n_leF, n_ltF, c_gltT, c_gltF, c_ggtT, c_ggtF, false_or, or_false, or_self, true_or, or_true]
      exact t1
    · rw [fX11_goLeft_h23.eq_2]
      rcases s2 with ⟨z, rfl, rfl⟩ | ⟨z, z2, rfl⟩
      · unfold fX11_goLeft_b70
        by_cases hx0 : x = 0
        · subst hx0
          simp (disch := omega) only [nI_ms, hx2, ↓lt_d, eq_self, lN_add, i_l, wTn, wFa, wFb, wCT, wCF, mNe, mNe2, mLt, mLe, bp_s, bn_s, n_clampS, nI_1, nI_add, pk_sub, nI_mul, wrI_at, wrI_2, wrL_at, wrL_1, true_and, false_and, and_true, and_false, and_self, ↓reduceIte, Nat.reduceEqDiff, Nat.reduceAdd, Nat.reduceMul, Nat.add_zero, Nat.zero_add, reduceCtorEq, l_0, l_1, l_2, l_3, l_4, l_5, l_6, l_7, l_8, l_9, l_10, l_15, l_24, l_32, l_39, l_40, l_47, l_48, l_50, l_57, l_60, l_63, l_80, l_95, l_99, l_100, l_120, l_126, l_128, l_1000, l_9999, l_10000, L_0, L_1, L_2, L_3, L_4, L_5, L_7, L_9, L_15, L_40, L_50, L_99, L_127, L_9999, c_ltT, c_ltF, c_leT, c_leF, c_eqT, c_eqF, n_leF, n_ltF, c_gltT, c_gltF, c_ggtT, c_ggtF, false_or, or_false, or_self, true_or, or_true]
          exact t2
        · have hy0 : y = 0 := by omega
          subst hy0
          simp (disch := omega) only [nI_ms, hx2, e2, ↓lt_d, eq_self, lN_add, i_l, wTn, wFa, wFb, wCT, wCF, mNe, mNe2, mLt, mLe, bp_s, bn_s, n_clampS, nI_1, nI_add, pk_sub, nI_mul, wrI_at, wrI_2, wrL_at, wrL_1, true_and, false_and, and_true, and_false, and_self, ↓reduceIte, Nat.reduceEqDiff, Nat.reduceAdd, Nat.reduceMul, Nat.add_zero, Nat.zero_add, reduceCtorEq, l_0, l_1, l_2, l_3, l_4, l_5, l_6, l_7, l_8, l_9, l_10, l_15, l_24, l_32, l_39, l_40, l_47, l_48, l_50, l_57, l_60, l_63, l_80, l_95, l_99, l_100, l_120, l_126, l_128, l_1000, l_9999, l_10000, L_0, L_1, L_2, L_3, L_4, L_5, L_7, L_9, L_15, L_40, L_50, L_99, L_127, L_9999, c_ltT, c_ltF, c_leT, c_leF, c_eqT, c_eqF, n_leF, n_ltF, c_gltT, c_gltF, c_ggtT, c_ggtF, false_or, or_false, or_self, true_or, or_true]
          exact t2
      · unfold fX11_goLeft_b70
        simp (disch := omega) only [nI_ms, hx2, e2, z2, ↓lt_d, eq_self, lN_add, i_l, wTn, wFa, wFb, wCT, wCF, mNe, mNe2, mLt, mLe, bp_s, bn_s, n_clampS, nI_1, nI_add, pk_sub, nI_mul, wrI_at, wrI_2, wrL_at, wrL_1, true_and, false_and, and_true, and_false, and_self, ↓reduceIte, Nat.reduceEqDiff, Nat.reduceAdd, Nat.reduceMul, Nat.add_zero, Nat.zero_add, reduceCtorEq, l_0, l_1, l_2, l_3, l_4, l_5, l_6, l_7, l_8, l_9, l_10, l_15, l_24, l_32, l_39, l_40, l_47, l_48, l_50, l_57, l_60, l_63, l_80, l_95, l_99, l_100, l_120, l_126, l_128, l_1000, l_9999, l_10000, L_0, L_1, L_2, L_3, L_4, L_5, L_7, L_9, L_15, L_40, L_50, L_99, L_127, L_9999, c_ltT, c_ltF, c_leT, c_leF, c_eqT, c_eqF, n_leF, n_ltF, c_gltT, c_gltF, c_ggtT, c_ggtF, false_or, or_false, or_self, true_or, or_true]
        exact t2
/-- all figures of the first, from place m - 1 down -/
theorem leftO {n j p q s : Nat} (hn : 1000 ≤ n) (hj : j < 6) {T : Nat → Nat} (hp : p < 2 ^ 31) (hq : q < 2 ^ 31) (hs : dgs q = s + 1) : ∀ m fu fv f a v hd C R, m < fu → m < fv → m + s ≤ 10 → Lf j T f C R a v hd → a + 2 * (nzc p m * nzc q (s + 1)) ≤ 80 → v + p % 10 ^ m * q < 2 ^ 31 → ∃ C' R' f' a', fX0_goLeft_h8 n fu (nI p) (nI q) (nI m + -nI 1) C = some (nI 1, C') ∧ fX11_goLeft_h10 n fv (nI p) (nI q) (nI f) (nI m + -nI 1) R = some R' ∧ Lf j T f' C' R' a' (v + p % 10 ^ m * q) hd ∧ a' ≤ a + 2 * (nzc p m * nzc q (s + 1)) := by
  intro m
  induction m with
  | zero =>
    intro fu fv f a v hd C R h1 h2 him h ha hv
    obtain ⟨fu, rfl⟩ : ∃ f, fu = f + 1 := ⟨fu - 1, by omega⟩
    obtain ⟨fv, rfl⟩ : ∃ f, fv = f + 1 := ⟨fv - 1, by omega⟩
    have e : v + p % 10 ^ 0 * q = v := by
      rw [Nat.pow_zero, Nat.mod_one, Nat.zero_mul, Nat.add_zero]
    rw [e]
    refine ⟨C, R, f, a, ?_, ?_, h, by omega⟩
    · rw [fX0_goLeft_h8.eq_2]
      simp (disch := omega) only [nI_mz, ↓lt_d, eq_self, lN_add, i_l, wTn, wFa, wFb, wCT, wCF, mNe, mNe2, mLt, mLe, bp_s, bn_s, n_clampS, nI_1, nI_add, pk_sub, nI_mul, wrI_at, wrI_2, wrL_at, wrL_1, true_and, false_and, and_true, and_false, and_self, ↓reduceIte, Nat.reduceEqDiff, Nat.reduceAdd, Nat.reduceMul, Nat.add_zero, Nat.zero_add, reduceCtorEq, l_0, l_1, l_2, l_3, l_4, l_5, l_6, l_7, l_8, l_9, l_10, l_15, l_24, l_32, l_39, l_40, l_47, l_48, l_50, l_57, l_60, l_63, l_80, l_95, l_99, l_100, l_120, l_126, l_128, l_1000, l_9999, l_10000, L_0, L_1, L_2, L_3, L_4, L_5, L_7, L_9, L_15, L_40, L_50, L_99, L_127, L_9999, c_ltT, c_ltF, c_leT, c_leF, c_eqT, c_eqF, n_leF, n_ltF, c_gltT, c_gltF, c_ggtT, c_ggtF, false_or, or_false, or_self, true_or, or_true]
    · rw [fX11_goLeft_h10.eq_2]
      simp (disch := omega) only [nI_mz, ↓lt_d, eq_self, lN_add, i_l, wTn, wFa, wFb, wCT, wCF, mNe, mNe2, mLt, mLe, bp_s, bn_s, n_clampS, nI_1, nI_add, pk_sub, nI_mul, wrI_at, wrI_2, wrL_at, wrL_1, true_and, false_and, and_true, and_false, and_self, ↓reduceIte, Nat.reduceEqDiff, Nat.reduceAdd, Nat.reduceMul, Nat.add_zero, Nat.zero_add, reduceCtorEq, l_0, l_1, l_2, l_3, l_4, l_5, l_6, l_7, l_8, l_9, l_10, l_15, l_24, l_32, l_39, l_40, l_47, l_48, l_50, l_57, l_60, l_63, l_80, l_95, l_99, l_100, l_120, l_126, l_128, l_1000, l_9999, l_10000, L_0, L_1, L_2, L_3, L_4, L_5, L_7, L_9, L_15, L_40, L_50, L_99, L_127, L_9999, c_ltT, c_ltF, c_leT, c_leF, c_eqT, c_eqF, n_leF, n_ltF, c_gltT, c_gltF, c_ggtT, c_ggtF, false_or, or_false, or_self, true_or, or_true]
  | succ m ih =>
    intro fu fv f a v hd C R h1 h2 him h ha hv
    obtain ⟨fu, rfl⟩ : ∃ f, fu = f + 1 := ⟨fu - 1, by omega⟩
    obtain ⟨fv, rfl⟩ : ∃ f, fv = f + 1 := ⟨fv - 1, by omega⟩
    have e1 := figureAt_l (k := m) (v := p) (by omega) hp
    have e2 := figure_l (n := n) (k := m) (v := p) hn (by omega) hp
    have hx : p / 10 ^ m % 10 ≤ 9 := by omega
    have hc : nzc p (m + 1) = nzc p m + nzb (p / 10 ^ m % 10) := rfl
    have hm := Nat.mod_pow_succ (x := p) (b := 10) (k := m)
    have hqs : q % 10 ^ (s + 1) = q := Nat.mod_eq_of_lt ((dgs_le (by omega) (s + 1)).mp (by omega))
    have hst : v + p % 10 ^ (m + 1) * q = v + p / 10 ^ m % 10 * 10 ^ m * q + p % 10 ^ m * q := by
      rw [hm, Nat.add_mul, Nat.mul_comm (10 ^ m)]
      omega
    rw [hst] at hv ⊢
    rw [hc, Nat.add_mul, Nat.mul_add] at ha ⊢
    generalize p / 10 ^ m % 10 = x at *
    obtain ⟨C1, R1, f1, a1, s1, s2, s3, s4⟩ := leftI (k8 := fX0_goLeft_h8 n fu) (k10 := fX11_goLeft_h10 n fv) hn hj e1 e2 hx hq (s + 1) n n f a v hd C R (by omega) (by omega) (by omega) h (by omega) (by rw [hqs]; omega)
    rw [hqs] at s3
    rw [nI_ms] at s1 s2
    obtain ⟨C2, R2, f2, a2, t1, t2, t3, t4⟩ := ih fu fv f1 a1 _ hd C1 R1 (by omega) (by omega) (by omega) s3 (by omega) hv
    have hz : sz1 q = s + 1 := by
      unfold sz1
      rw [if_neg (by omega), hs]
    have hpr : nI (s + 1) - nI 1 = nI s := nI_pred s
    refine ⟨C2, R2, f2, a2, ?_, ?_, t3, by omega⟩
    · rw [fX0_goLeft_h8.eq_2]
      simp (disch := omega) only [nI_ms, sizeOf_l hn (show q < 2 ^ 63 by omega), hz, hpr, s1, ↓lt_d, eq_self, lN_add, i_l, wTn, wFa, wFb, wCT, wCF, mNe, mNe2, mLt, mLe, bp_s, bn_s, n_clampS, nI_1, nI_add, pk_sub, nI_mul, wrI_at, wrI_2, wrL_at, wrL_1, true_and, false_and, and_true, and_false, and_self, ↓reduceIte, Nat.reduceEqDiff, Nat.reduceAdd, Nat.reduceMul, Nat.add_zero, Nat.zero_add, reduceCtorEq, l_0, l_1, l_2, l_3, l_4, l_5, l_6, l_7, l_8, l_9, l_10, l_15, l_24, l_32, l_39, l_40, l_47, l_48, l_50, l_57, l_60, l_63, l_80, l_95, l_99, l_100, l_120, l_126, l_128, l_1000, l_9999, l_10000, L_0, L_1, L_2, L_3, L_4, L_5, L_7, L_9, L_15, L_40, L_50, L_99, L_127, L_9999, c_ltT, c_ltF, c_leT, c_leF, c_eqT, c_eqF, n_leF, n_ltF, c_gltT, c_gltF, c_ggtT, c_ggtF, false_or, or_false, or_self, true_or, or_true]
      exact t1
    · rw [fX11_goLeft_h10.eq_2]
      simp (disch := omega) only [nI_ms, digits_l hn hq, hs, hpr, s2, ↓lt_d, eq_self, lN_add, i_l, wTn, wFa, wFb, wCT, wCF, mNe, mNe2, mLt, mLe, bp_s, bn_s, n_clampS, nI_1, nI_add, pk_sub, nI_mul, wrI_at, wrI_2, wrL_at, wrL_1, true_and, false_and, and_true, and_false, and_self, ↓reduceIte, Nat.reduceEqDiff, Nat.reduceAdd, Nat.reduceMul, Nat.add_zero, Nat.zero_add, reduceCtorEq, l_0, l_1, l_2, l_3, l_4, l_5, l_6, l_7, l_8, l_9, l_10, l_15, l_24, l_32, l_39, l_40, l_47, l_48, l_50, l_57, l_60, l_63, l_80, l_95, l_99, l_100, l_120, l_126, l_128, l_1000, l_9999, l_10000, L_0, L_1, L_2, L_3, L_4, L_5, L_7, L_9, L_15, L_40, L_50, L_99, L_127, L_9999, c_ltT, c_ltF, c_leT, c_leF, c_eqT, c_eqF, n_leF, n_ltF, c_gltT, c_gltF, c_ggtT, c_ggtF, false_or, or_false, or_self, true_or, or_true]
      exact t2
def nz (p : Nat) : Nat := nzc p (dgs p)
theorem dgs_pos {p : Nat} (h : 1 ≤ p) (hp : p < 2 ^ 31) : ∃ s, dgs p = s + 1 ∧ 10 ^ s ≤ p := by
  have e0 := dgs_le (v := p) (by omega) 0
  obtain ⟨s, hs⟩ : ∃ s, dgs p = s + 1 := ⟨dgs p - 1, by omega⟩
  have e1 := dgs_le (v := p) (by omega) s
  exact ⟨s, hs, by omega⟩
theorem left_l {n j p q a hd : Nat} (hn : 1000 ≤ n) (hj : j < 6) {T : Nat → Nat} {C R : Mm} (hp : 1 ≤ p) (hq : 1 ≤ q) (hpq : p * q < 2 ^ 31) (h : Lf j T 1 C R a 0 hd) (ha : a + 2 * (nz p * nz q) ≤ 80) : ∃ C' R' f' a', fX0_goLeft n (nI p) (nI q) C = some (nI 1, C') ∧ fX11_goLeft n (nI p) (nI q) R = some R' ∧ Lf j T f' C' R' a' (p * q) hd ∧ a' ≤ a + 2 * (nz p * nz q) := by
  have hp2 : p < 2 ^ 31 := Nat.lt_of_le_of_lt (Nat.le_mul_of_pos_right p hq) hpq
  have hq2 : q < 2 ^ 31 := Nat.lt_of_le_of_lt (Nat.le_mul_of_pos_left q hp) hpq
  obtain ⟨u, hu, hu2⟩ := dgs_pos hp hp2
  obtain ⟨s, hs, hs2⟩ := dgs_pos hq hq2
  have hps : p % 10 ^ (u + 1) = p := Nat.mod_eq_of_lt ((dgs_le (by omega) (u + 1)).mp (by omega))
  have hus : u + s < 10 := by
    apply (Nat.pow_lt_pow_iff_right (a := 10) (by decide)).mp
    rw [Nat.pow_add]
    have := Nat.mul_le_mul hu2 hs2
    omega
  unfold nz at *
  rw [hu, hs] at ha ⊢
  obtain ⟨C1, R1, f1, a1, s1, s2, s3, s4⟩ := leftO hn hj (T := T) hp2 hq2 hs (u + 1) n n 1 a 0 hd C R (by omega) (by omega) (by omega) h ha (by rw [hps]; omega)
  rw [hps, Nat.zero_add] at s3
  rw [nI_ms] at s1 s2
  have hz : sz1 p = u + 1 := by
    unfold sz1
    rw [if_neg (by omega), hu]
  have hpr : nI (u + 1) - nI 1 = nI u := nI_pred u
  refine ⟨C1, R1, f1, a1, ?_, ?_, s3, s4⟩
  · unfold fX0_goLeft
    simp (disch := omega) only [sizeOf_l hn (show p < 2 ^ 63 by omega), hz, hpr, ↓lt_d, eq_self, lN_add, i_l, wTn, wFa, wFb, wCT, wCF, mNe, mNe2, mLt, mLe, bp_s, bn_s, n_clampS, nI_1, nI_add, pk_sub, nI_mul, wrI_at, wrI_2, wrL_at, wrL_1, true_and, false_and, and_true, and_false, and_self, ↓reduceIte, Nat.reduceEqDiff, Nat.reduceAdd, Nat.reduceMul, Nat.add_zero, Nat.zero_add, reduceCtorEq, l_0, l_1, l_2, l_3, l_4, l_5, l_6, l_7, l_8, l_9, l_10, l_15, l_24, l_32, l_39, l_40, l_47, l_48, l_50, l_57, l_60, l_63, l_80, l_95, l_99, l_100, l_120, l_126, l_128, l_1000, l_9999, l_10000, L_0, L_1, L_2, L_3, L_4, L_5, L_7, L_9, L_15, L_40, L_50, L_99, L_127, L_9999, c_ltT, c_ltF, c_leT, c_leF, c_eqT, c_eqF, n_leF, n_ltF, c_gltT, c_gltF, c_ggtT, c_ggtF, false_or, or_false, or_self, true_or, or_true]
    exact s1
  · unfold fX11_goLeft
    simp (disch := omega) only [digits_l hn hp2, hu, hpr, ↓lt_d, eq_self, lN_add, i_l, wTn, wFa, wFb, wCT, wCF, mNe, mNe2, mLt, mLe, bp_s, bn_s, n_clampS, nI_1, nI_add, pk_sub, nI_mul, wrI_at, wrI_2, wrL_at, wrL_1, true_and, false_and, and_true, and_false, and_self, ↓reduceIte, Nat.reduceEqDiff, Nat.reduceAdd, Nat.reduceMul, Nat.add_zero, Nat.zero_add, reduceCtorEq, l_0, l_1, l_2, l_3, l_4, l_5, l_6, l_7, l_8, l_9, l_10, l_15, l_24, l_32, l_39, l_40, l_47, l_48, l_50, l_57, l_60, l_63, l_80, l_95, l_99, l_100, l_120, l_126, l_128, l_1000, l_9999, l_10000, L_0, L_1, L_2, L_3, L_4, L_5, L_7, L_9, L_15, L_40, L_50, L_99, L_127, L_9999, c_ltT, c_ltF, c_leT, c_leF, c_eqT, c_eqF, n_leF, n_ltF, c_gltT, c_gltF, c_ggtT, c_ggtF, false_or, or_false, or_self, true_or, or_true]
    exact s2
