/-! how many figures a long has -/
theorem c_geT {x y : Nat} (h : y ≤ x) (hx : x < 2 ^ 63) : (nI 0 ≤ lg_cmp (lN x) (lN y)) = True := eq_true (by
  have h1 : ¬ lg_cmp (lN x) (lN y) < 0 := fun z => by
    have := (pk_lLT (by omega) (by omega)).mp ((lgc_lt _ _).mp z)
    omega
  apply Int32.le_iff_toInt_le.mpr
  have h2 := mt Int32.lt_iff_toInt_lt.mpr h1
  have h3 : (nI 0).toInt = 0 := rfl
  have h4 : (0 : Int32).toInt = 0 := rfl
  omega)
theorem c_geF {x y : Nat} (h : x < y) (hy : y < 2 ^ 63) : (nI 0 ≤ lg_cmp (lN x) (lN y)) = False := eq_false (fun z => by
  have h1 := (lgc_lt _ _).mpr ((pk_lLT (a := x) (b := y) (by omega) (by omega)).mpr h)
  have h2 := Int32.lt_iff_toInt_lt.mp h1
  have h5 := Int32.le_iff_toInt_le.mp z
  have h3 : (nI 0).toInt = 0 := rfl
  have h4 : (0 : Int32).toInt = 0 := rfl
  omega)
def sz1 (v : Nat) : Nat := if dgs v = 0 then 1 else dgs v
theorem pow_lt63 {i : Nat} (h : i ≤ 18) : 10 ^ i < 2 ^ 63 := Nat.lt_of_le_of_lt (Nat.pow_le_pow_right (by decide) h) (by decide)
theorem sizeOf_h {n v : Nat} (hv : v < 2 ^ 63) : ∀ d i fu, 19 - i = d → 1 ≤ i → i ≤ 19 → d < fu → (i = 1 ∨ 10 ^ (i - 1) ≤ v) → fX4_sizeOf_h2 n fu (lN v) (nI i) = some (nI (sz1 v)) := by
  intro d
  induction d with
  | zero =>
    intro i fu hd h1 hi hf hp
    obtain ⟨fu, rfl⟩ : ∃ f, fu = f + 1 := ⟨fu - 1, by omega⟩
    have hi19 : i = 19 := by omega
    subst hi19
    rw [fX4_sizeOf_h2.eq_2]
    have e1 := dgs_le (v := v) (by omega) 18
    have e2 := dgs_le (v := v) (by omega) 19
    have e3 : sz1 v = 19 := by unfold sz1; split <;> omega
    rw [e3]
    have l_19 : (19 : Int32) = nI 19 := by decide
    simp (disch := omega) only [l_19, ↓lt_d, eq_self, lN_add, i_l, wTn, wFa, wFb, wCT, wCF, mNe, mNe2, mLt, mLe, bp_s, bn_s, n_clampS, nI_1, nI_add, pk_sub, nI_mul, wrI_at, wrI_2, wrL_at, wrL_1, true_and, false_and, and_true, and_false, and_self, ↓reduceIte, Nat.reduceEqDiff, Nat.reduceAdd, Nat.reduceMul, Nat.add_zero, Nat.zero_add, reduceCtorEq, l_0, l_1, l_2, l_3, l_4, l_5, l_6, l_7, l_8, l_9, l_10, l_15, l_24, l_32, l_39, l_40, l_47, l_48, l_50, l_57, l_60, l_63, l_80, l_95, l_99, l_100, l_120, l_126, l_128, l_1000, l_9999, l_10000, L_0, L_1, L_2, L_3, L_4, L_5, L_7, L_9, L_15, L_40, L_50, L_99, L_127, L_9999, c_ltT, c_ltF, c_leT, c_leF, c_eqT, c_eqF, n_leF, n_ltF, c_gltT, c_gltF, c_ggtT, c_ggtF, false_or, or_false, or_self, true_or, or_true]
  | succ d ih =>
    intro i fu hd h1 hi hf hp
    obtain ⟨fu, rfl⟩ : ∃ f, fu = f + 1 := ⟨fu - 1, by omega⟩
    rw [fX4_sizeOf_h2.eq_2]
    have l_19 : (19 : Int32) = nI 19 := by decide
    have hp63 := pow_lt63 (show i ≤ 18 by omega)
    by_cases hv2 : 10 ^ i ≤ v
    · have e := ih (i + 1) fu (by omega) (by omega) (by omega) (by omega) (Or.inr (by rw [Nat.add_sub_cancel]; exact hv2))
      simp (disch := omega) only [l_19, stv3_l, c_geT, ↓lt_d, eq_self, lN_add, i_l, wTn, wFa, wFb, wCT, wCF, mNe, mNe2, mLt, mLe, bp_s, bn_s, n_clampS, nI_1, nI_add, pk_sub, nI_mul, wrI_at, wrI_2, wrL_at, wrL_1, true_and, false_and, and_true, and_false, and_self, ↓reduceIte, Nat.reduceEqDiff, Nat.reduceAdd, Nat.reduceMul, Nat.add_zero, Nat.zero_add, reduceCtorEq, l_0, l_1, l_2, l_3, l_4, l_5, l_6, l_7, l_8, l_9, l_10, l_15, l_24, l_32, l_39, l_40, l_47, l_48, l_50, l_57, l_60, l_63, l_80, l_95, l_99, l_100, l_120, l_126, l_128, l_1000, l_9999, l_10000, L_0, L_1, L_2, L_3, L_4, L_5, L_7, L_9, L_15, L_40, L_50, L_99, L_127, L_9999, c_ltT, c_ltF, c_leT, c_leF, c_eqT, c_eqF, n_leF, n_ltF, c_gltT, c_gltF, c_ggtT, c_ggtF, false_or, or_false, or_self, true_or, or_true]
      exact e
    · have e1 := dgs_le (v := v) (by omega) i
      have e2 := dgs_le (v := v) (by omega) (i - 1)
      have e3 : sz1 v = i := by
        unfold sz1
        rcases hp with hp | hp
        · subst hp
          split <;> omega
        · split <;> omega
      rw [e3]
      simp (disch := omega) only [l_19, stv3_l, c_geF, ↓lt_d, eq_self, lN_add, i_l, wTn, wFa, wFb, wCT, wCF, mNe, mNe2, mLt, mLe, bp_s, bn_s, n_clampS, nI_1, nI_add, pk_sub, nI_mul, wrI_at, wrI_2, wrL_at, wrL_1, true_and, false_and, and_true, and_false, and_self, ↓reduceIte, Nat.reduceEqDiff, Nat.reduceAdd, Nat.reduceMul, Nat.add_zero, Nat.zero_add, reduceCtorEq, l_0, l_1, l_2, l_3, l_4, l_5, l_6, l_7, l_8, l_9, l_10, l_15, l_24, l_32, l_39, l_40, l_47, l_48, l_50, l_57, l_60, l_63, l_80, l_95, l_99, l_100, l_120, l_126, l_128, l_1000, l_9999, l_10000, L_0, L_1, L_2, L_3, L_4, L_5, L_7, L_9, L_15, L_40, L_50, L_99, L_127, L_9999, c_ltT, c_ltF, c_leT, c_leF, c_eqT, c_eqF, n_leF, n_ltF, c_gltT, c_gltF, c_ggtT, c_ggtF, false_or, or_false, or_self, true_or, or_true]
theorem sizeOf_l {n v : Nat} (hn : 1000 ≤ n) (hv : v < 2 ^ 63) : fX4_sizeOf n (lN v) = some (nI (sz1 v)) := sizeOf_h hv 18 1 n (by omega) (by omega) (by omega) (by omega) (Or.inl rfl)
