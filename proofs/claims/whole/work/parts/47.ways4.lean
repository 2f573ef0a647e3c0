/-! how long all acts are, and the most held -/
def sumI (f : Nat → Int32) : Nat → Int32
  | 0 => nI 0
  | a + 1 => sumI f a + f a
def maxI (f : Nat → Int32) : Nat → Int32
  | 0 => nI 0
  | a + 1 => imax (maxI f a) (f a)
theorem sumI_c {f g : Nat → Int32} : ∀ a, (∀ i, i < a → f i = g i) → sumI f a = sumI g a := by
  intro a
  induction a with
  | zero => exact fun _ => rfl
  | succ a ih =>
    intro h
    unfold sumI
    rw [ih (fun i hi => h i (by omega)), h a (by omega)]
theorem maxI_c {f g : Nat → Int32} : ∀ a, (∀ i, i < a → f i = g i) → maxI f a = maxI g a := by
  intro a
  induction a with
  | zero => exact fun _ => rfl
  | succ a ih =>
    intro h
    unfold maxI
    rw [ih (fun i hi => h i (by omega)), h a (by omega)]
theorem seconds_h {n a : Nat} {R : Mm} (ha : a ≤ 80) (h : R.1 72 21 = nI a) : ∀ d i fu, a - i = d → i ≤ a → d < fu → fX11_seconds_h4 n fu (sumI (fun i => R.1 86 i) i) (nI i) R = some (sumI (fun i => R.1 86 i) a) := by
  intro d
  induction d with
  | zero =>
    intro i fu hd hi hf
    obtain ⟨fu, rfl⟩ : ∃ f, fu = f + 1 := ⟨fu - 1, by omega⟩
    have : i = a := by omega
    subst this
    rw [fX11_seconds_h4.eq_2]
    simp (disch := omega) only [h, ↓lt_d, eq_self, lN_add, i_l, wTn, wFa, wFb, wCT, wCF, mNe, mNe2, mLt, mLe, bp_s, bn_s, n_clampS, nI_1, nI_add, pk_sub, nI_mul, wrI_at, wrI_2, wrL_at, wrL_1, true_and, false_and, and_true, and_false, and_self, ↓reduceIte, Nat.reduceEqDiff, Nat.reduceAdd, Nat.reduceMul, Nat.add_zero, Nat.zero_add, reduceCtorEq, l_0, l_1, l_2, l_3, l_4, l_5, l_6, l_7, l_8, l_9, l_10, l_15, l_24, l_32, l_39, l_40, l_47, l_48, l_50, l_57, l_60, l_63, l_80, l_95, l_99, l_100, l_120, l_126, l_128, l_1000, l_9999, l_10000, L_0, L_1, L_2, L_3, L_4, L_5, L_7, L_9, L_15, L_40, L_50, L_99, L_127, L_9999, c_ltT, c_ltF, c_leT, c_leF, c_eqT, c_eqF, n_leF, n_ltF, c_gltT, c_gltF, c_ggtT, c_ggtF, false_or, or_false, or_self, true_or, or_true]
  | succ d ih =>
    intro i fu hd hi hf
    obtain ⟨fu, rfl⟩ : ∃ f, fu = f + 1 := ⟨fu - 1, by omega⟩
    rw [fX11_seconds_h4.eq_2]
    have e := ih (i + 1) fu (by omega) (by omega) (by omega)
    have l_200 : (200 : Int32) = nI 200 := by decide
    simp (disch := omega) only [h, ↓lt_d, eq_self, lN_add, i_l, wTn, wFa, wFb, wCT, wCF, mNe, mNe2, mLt, mLe, bp_s, bn_s, n_clampS, nI_1, nI_add, pk_sub, nI_mul, wrI_at, wrI_2, wrL_at, wrL_1, true_and, false_and, and_true, and_false, and_self, ↓reduceIte, Nat.reduceEqDiff, Nat.reduceAdd, Nat.reduceMul, Nat.add_zero, Nat.zero_add, reduceCtorEq, l_0, l_1, l_2, l_3, l_4, l_5, l_6, l_7, l_8, l_9, l_10, l_15, l_24, l_32, l_39, l_40, l_47, l_48, l_50, l_57, l_60, l_63, l_80, l_95, l_99, l_100, l_120, l_126, l_128, l_1000, l_9999, l_10000, L_0, L_1, L_2, L_3, L_4, L_5, L_7, L_9, L_15, L_40, L_50, L_99, L_127, L_9999, c_ltT, c_ltF, c_leT, c_leF, c_eqT, c_eqF, n_leF, n_ltF, c_gltT, c_gltF, c_ggtT, c_ggtF, false_or, or_false, or_self, true_or, or_true]
    exact e
theorem seconds_l {n a : Nat} (hn : 1000 ≤ n) {R : Mm} (ha : a ≤ 80) (h : R.1 72 21 = nI a) : fX11_seconds n R = some (sumI (fun i => R.1 86 i) a) := seconds_h ha h a 0 n (by omega) (by omega) (by omega)
theorem imax_l (x y : Int32) : imax x y = if y ≤ x then x else y := by
  unfold imax
  by_cases h : y ≤ x
  · have : ¬ x < y := fun z => by
      have := Int32.lt_iff_toInt_lt.mp z
      have := Int32.le_iff_toInt_le.mp h
      omega
    rw [if_pos h, if_neg this]
  · have : x < y := Int32.lt_iff_toInt_lt.mpr (by
      have := mt Int32.le_iff_toInt_le.mpr h
      omega)
    rw [if_neg h, if_pos this]
theorem mostHeld_h {n a : Nat} {R : Mm} (ha : a ≤ 80) (h : R.1 72 21 = nI a) : ∀ d i fu, a - i = d → i ≤ a → d < fu → fX11_mostHeld_h4 n fu (maxI (fun i => R.1 87 i) i) (nI i) R = some (maxI (fun i => R.1 87 i) a) := by
  intro d
  induction d with
  | zero =>
    intro i fu hd hi hf
    obtain ⟨fu, rfl⟩ : ∃ f, fu = f + 1 := ⟨fu - 1, by omega⟩
    have : i = a := by omega
    subst this
    rw [fX11_mostHeld_h4.eq_2]
    simp (disch := omega) only [h, ↓lt_d, eq_self, lN_add, i_l, wTn, wFa, wFb, wCT, wCF, mNe, mNe2, mLt, mLe, bp_s, bn_s, n_clampS, nI_1, nI_add, pk_sub, nI_mul, wrI_at, wrI_2, wrL_at, wrL_1, true_and, false_and, and_true, and_false, and_self, ↓reduceIte, Nat.reduceEqDiff, Nat.reduceAdd, Nat.reduceMul, Nat.add_zero, Nat.zero_add, reduceCtorEq, l_0, l_1, l_2, l_3, l_4, l_5, l_6, l_7, l_8, l_9, l_10, l_15, l_24, l_32, l_39, l_40, l_47, l_48, l_50, l_57, l_60, l_63, l_80, l_95, l_99, l_100, l_120, l_126, l_128, l_1000, l_9999, l_10000, L_0, L_1, L_2, L_3, L_4, L_5, L_7, L_9, L_15, L_40, L_50, L_99, L_127, L_9999, c_ltT, c_ltF, c_leT, c_leF, c_eqT, c_eqF, n_leF, n_ltF, c_gltT, c_gltF, c_ggtT, c_ggtF, false_or, or_false, or_self, true_or, or_true]
  | succ d ih =>
    intro i fu hd hi hf
    obtain ⟨fu, rfl⟩ : ∃ f, fu = f + 1 := ⟨fu - 1, by omega⟩
    rw [fX11_mostHeld_h4.eq_2]
    unfold fX11_mostHeld_b32
    have e := ih (i + 1) fu (by omega) (by omega) (by omega)
    have e2 : maxI (fun i => R.1 87 i) (i + 1) = if R.1 87 i ≤ maxI (fun i => R.1 87 i) i then maxI (fun i => R.1 87 i) i else R.1 87 i := imax_l _ _
    by_cases g : R.1 87 i ≤ maxI (fun i => R.1 87 i) i
    · rw [if_pos g] at e2
      rw [e2] at e
      simp (disch := omega) only [h, g, ↓lt_d, eq_self, lN_add, i_l, wTn, wFa, wFb, wCT, wCF, mNe, mNe2, mLt, mLe, bp_s, bn_s, n_clampS, nI_1, nI_add, pk_sub, nI_mul, wrI_at, wrI_2, wrL_at, wrL_1, true_and, false_and, and_true, and_false, and_self, ↓reduceIte, Nat.reduceEqDiff, Nat.reduceAdd, Nat.reduceMul, Nat.add_zero, Nat.zero_add, reduceCtorEq, l_0, l_1, l_2, l_3, l_4, l_5, l_6, l_7, l_8, l_9, l_10, l_15, l_24, l_32, l_39, l_40, l_47, l_48, l_50, l_57, l_60, l_63, l_80, l_95, l_99, l_100, l_120, l_126, l_128, l_1000, l_9999, l_10000, L_0, L_1, L_2, L_3, L_4, L_5, L_7, L_9, L_15, L_40, L_50, L_99, L_127, L_9999, c_ltT, c_ltF, c_leT, c_leF, c_eqT, c_eqF, n_leF, n_ltF, c_gltT, c_gltF, c_ggtT, c_ggtF, false_or, or_false, or_self, true_or, or_true]
      exact e
    · rw [if_neg g] at e2
      rw [e2] at e
      simp (disch := omega) only [h, g, ↓lt_d, eq_self, lN_add, i_l, wTn, wFa, wFb, wCT, wCF, mNe, mNe2, mLt, mLe, bp_s, bn_s, n_clampS, nI_1, nI_add, pk_sub, nI_mul, wrI_at, wrI_2, wrL_at, wrL_1, true_and, false_and, and_true, and_false, and_self, ↓reduceIte, Nat.reduceEqDiff, Nat.reduceAdd, Nat.reduceMul, Nat.add_zero, Nat.zero_add, reduceCtorEq, l_0, l_1, l_2, l_3, l_4, l_5, l_6, l_7, l_8, l_9, l_10, l_15, l_24, l_32, l_39, l_40, l_47, l_48, l_50, l_57, l_60, l_63, l_80, l_95, l_99, l_100, l_120, l_126, l_128, l_1000, l_9999, l_10000, L_0, L_1, L_2, L_3, L_4, L_5, L_7, L_9, L_15, L_40, L_50, L_99, L_127, L_9999, c_ltT, c_ltF, c_leT, c_leF, c_eqT, c_eqF, n_leF, n_ltF, c_gltT, c_gltF, c_ggtT, c_ggtF, false_or, or_false, or_self, true_or, or_true]
      exact e
theorem mostHeld_l {n a : Nat} (hn : 1000 ≤ n) {R : Mm} (ha : a ≤ 80) (h : R.1 72 21 = nI a) : fX11_mostHeld n R = some (maxI (fun i => R.1 87 i) a) := mostHeld_h ha h a 0 n (by omega) (by omega) (by omega)
