/-! roots: the greatest root below, the least above -/
theorem c_lleT {x y : Nat} (h : x ≤ y) (hy : y < 2 ^ 62) : (lg_cmp (lN x) (lN y) ≤ nI 0) = True := eq_true (by
  apply Int32.le_iff_toInt_le.mpr
  have h1 : ¬ 0 < lg_cmp (lN x) (lN y) := fun z => by
    have := (pk_lLT (by omega) (by omega)).mp ((lgc_gt _ _).mp z)
    omega
  have h2 := mt Int32.lt_iff_toInt_lt.mpr h1
  have h3 : (0 : Int32).toInt = 0 := rfl
  have h4 : (nI 0).toInt = 0 := rfl
  omega)
theorem c_lleF {x y : Nat} (h : y < x) (hx : x < 2 ^ 62) : (lg_cmp (lN x) (lN y) ≤ nI 0) = False := eq_false (fun z => by
  have h1 : 0 < lg_cmp (lN x) (lN y) := (lgc_gt _ _).mpr ((pk_lLT (by omega) (by omega)).mpr h)
  have h2 := Int32.lt_iff_toInt_lt.mp h1
  have h5 := Int32.le_iff_toInt_le.mp z
  have h3 : (0 : Int32).toInt = 0 := rfl
  have h4 : (nI 0).toInt = 0 := rfl
  omega)
theorem c_leqT {x y : Nat} (h : x = y) : (lg_cmp (lN x) (lN y) = nI 0) = True := eq_true ((lgc_eq _ _).mpr (by rw [h]))
theorem c_leqF {x y : Nat} (h : x ≠ y) (hx : x < 2 ^ 62) (hy : y < 2 ^ 62) : (lg_cmp (lN x) (lN y) = nI 0) = False := eq_false (fun z => h ((pk_lEQ (by omega) (by omega)).mp ((lgc_eq _ _).mp z)))
theorem L_10 : (10 : Int64) = lN 10 := by decide
theorem L_G : (999999999999999999 : Int64) = lN 999999999999999999 := by decide
theorem L_e18 : (1000000000000000000 : Int64) = lN 1000000000000000000 := by decide
theorem L_e9 : (1000000000 : Int64) = lN 1000000000 := by decide
theorem L_e9p : (1000000001 : Int64) = lN 1000000001 := by decide
theorem L_e6 : (1000000 : Int64) = lN 1000000 := by decide
theorem L_3982 : (3982 : Int64) = lN 3982 := by decide
def isPw (p : Nat) : Prop := p = 2 ∨ p = 3 ∨ p = 5
def mxR (p : Nat) : Nat := if p = 2 then 1000000000 else if p = 3 then 1000000 else 3982
theorem mxR_l {p : Nat} (h : isPw p) : mxR p ≤ 1000000000 ∧ mxR p ^ p < 2 ^ 61 ∧ 999999999999999999 < mxR p ^ p := by
  rcases h with rfl | rfl | rfl <;> decide
theorem pw_mono {a b p : Nat} (h : a ≤ b) : a ^ p ≤ b ^ p := Nat.pow_le_pow_left h p
theorem raised_h {n r p : Nat} (hp : p < 1000) : ∀ d i fu, p - i = d → i ≤ p → d < fu → fX6_raised_h5 n fu (lN r) (nI p) (lN (r ^ i)) (nI i) = some (lN (r ^ p)) := by
  intro d
  induction d with
  | zero =>
    intro i fu hd hi hf
    obtain ⟨fu, rfl⟩ : ∃ f, fu = f + 1 := ⟨fu - 1, by omega⟩
    rw [fX6_raised_h5.eq_2]
    have : i = p := by omega
    subst this
    simp (disch := omega) only [↓lt_d, eq_self, lN_add, i_l, wTn, wFa, wFb, wCT, wCF, mNe, mNe2, mLt, mLe, bp_s, bn_s, n_clampS, nI_1, nI_add, pk_sub, nI_mul, wrI_at, wrI_2, wrL_at, wrL_1, true_and, false_and, and_true, and_false, and_self, ↓reduceIte, Nat.reduceEqDiff, Nat.reduceAdd, Nat.reduceMul, Nat.add_zero, Nat.zero_add, reduceCtorEq, l_0, l_1, l_2, l_3, l_4, l_5, l_6, l_7, l_8, l_9, l_10, l_15, l_24, l_32, l_39, l_40, l_47, l_48, l_50, l_57, l_60, l_63, l_80, l_95, l_99, l_100, l_120, l_126, l_128, l_1000, l_9999, l_10000, L_0, L_1, L_2, L_3, L_4, L_5, L_7, L_9, L_15, L_40, L_50, L_99, L_127, L_9999, c_ltT, c_ltF, c_leT, c_leF, c_eqT, c_eqF, n_leF, n_ltF, c_gltT, c_gltF, c_ggtT, c_ggtF, false_or, or_false, or_self, true_or, or_true]
  | succ d ih =>
    intro i fu hd hi hf
    obtain ⟨fu, rfl⟩ : ∃ f, fu = f + 1 := ⟨fu - 1, by omega⟩
    rw [fX6_raised_h5.eq_2]
    have e := ih (i + 1) fu (by omega) (by omega) (by omega)
    rw [Nat.pow_succ] at e
    simp (disch := omega) only [lN_mul, ↓lt_d, eq_self, lN_add, i_l, wTn, wFa, wFb, wCT, wCF, mNe, mNe2, mLt, mLe, bp_s, bn_s, n_clampS, nI_1, nI_add, pk_sub, nI_mul, wrI_at, wrI_2, wrL_at, wrL_1, true_and, false_and, and_true, and_false, and_self, ↓reduceIte, Nat.reduceEqDiff, Nat.reduceAdd, Nat.reduceMul, Nat.add_zero, Nat.zero_add, reduceCtorEq, l_0, l_1, l_2, l_3, l_4, l_5, l_6, l_7, l_8, l_9, l_10, l_15, l_24, l_32, l_39, l_40, l_47, l_48, l_50, l_57, l_60, l_63, l_80, l_95, l_99, l_100, l_120, l_126, l_128, l_1000, l_9999, l_10000, L_0, L_1, L_2, L_3, L_4, L_5, L_7, L_9, L_15, L_40, L_50, L_99, L_127, L_9999, c_ltT, c_ltF, c_leT, c_leF, c_eqT, c_eqF, n_leF, n_ltF, c_gltT, c_gltF, c_ggtT, c_ggtF, false_or, or_false, or_self, true_or, or_true]
    exact e
theorem raised_l {n r p : Nat} (hn : 1000 ≤ n) (hp : p < 1000) : fX6_raised n (lN r) (nI p) = some (lN (r ^ p)) := by
  have e := raised_h (n := n) (r := r) hp p 0 n (by omega) (by omega) (by omega)
  rw [Nat.pow_zero] at e
  unfold fX6_raised
  rw [show (1 : Int64) = lN 1 from by decide, l_0]
  exact e
def pwG (r p : Nat) : Nat := if r ^ p ≤ 999999999999999999 then r ^ p else 1000000000000000000
theorem powerOf_h {n r p : Nat} (hp : p < 1000) (hr : 1 ≤ r) (hr2 : r < 2 ^ 31) : ∀ d i fu, p - i = d → i ≤ p → d < fu → r ^ i ≤ 999999999999999999 → fX11_powerOf_h5 n fu (lN r) (nI p) (lN (r ^ i)) (nI i) = some (lN (pwG r p)) := by
  intro d
  induction d with
  | zero =>
    intro i fu hd hi hf hG
    obtain ⟨fu, rfl⟩ : ∃ f, fu = f + 1 := ⟨fu - 1, by omega⟩
    rw [fX11_powerOf_h5.eq_2]
    have : i = p := by omega
    subst this
    unfold pwG
    rw [if_pos hG]
    simp (disch := omega) only [↓lt_d, eq_self, lN_add, i_l, wTn, wFa, wFb, wCT, wCF, mNe, mNe2, mLt, mLe, bp_s, bn_s, n_clampS, nI_1, nI_add, pk_sub, nI_mul, wrI_at, wrI_2, wrL_at, wrL_1, true_and, false_and, and_true, and_false, and_self, ↓reduceIte, Nat.reduceEqDiff, Nat.reduceAdd, Nat.reduceMul, Nat.add_zero, Nat.zero_add, reduceCtorEq, l_0, l_1, l_2, l_3, l_4, l_5, l_6, l_7, l_8, l_9, l_10, l_15, l_24, l_32, l_39, l_40, l_47, l_48, l_50, l_57, l_60, l_63, l_80, l_95, l_99, l_100, l_120, l_126, l_128, l_1000, l_9999, l_10000, L_0, L_1, L_2, L_3, L_4, L_5, L_7, L_9, L_15, L_40, L_50, L_99, L_127, L_9999, c_ltT, c_ltF, c_leT, c_leF, c_eqT, c_eqF, n_leF, n_ltF, c_gltT, c_gltF, c_ggtT, c_ggtF, false_or, or_false, or_self, true_or, or_true]
  | succ d ih =>
    intro i fu hd hi hf hG
    obtain ⟨fu, rfl⟩ : ∃ f, fu = f + 1 := ⟨fu - 1, by omega⟩
    rw [fX11_powerOf_h5.eq_2]
    have hr0 : (lN r = lN 0) = False := eq_false (fun z => by
      have := (pk_lEQ (a := r) (b := 0) (by omega) (by omega)).mp z
      omega)
    have hdv : lN 999999999999999999 / lN r = lN (999999999999999999 / r) := pk_lDiv (by omega) (by omega) (by omega)
    have hdl : 999999999999999999 / r ≤ 999999999999999999 := Nat.div_le_self _ _
    have hiff : r ^ i ≤ 999999999999999999 / r ↔ r ^ (i + 1) ≤ 999999999999999999 := by
      rw [Nat.le_div_iff_mul_le (by omega), Nat.pow_succ]
    by_cases hle : r ^ i ≤ 999999999999999999 / r
    · have e := ih (i + 1) fu (by omega) (by omega) (by omega) (hiff.mp hle)
      rw [Nat.pow_succ] at e
      simp (disch := omega) only [L_G, hr0, ↓hdv, c_lleT, lN_mul, ↓lt_d, eq_self, lN_add, i_l, wTn, wFa, wFb, wCT, wCF, mNe, mNe2, mLt, mLe, bp_s, bn_s, n_clampS, nI_1, nI_add, pk_sub, nI_mul, wrI_at, wrI_2, wrL_at, wrL_1, true_and, false_and, and_true, and_false, and_self, ↓reduceIte, Nat.reduceEqDiff, Nat.reduceAdd, Nat.reduceMul, Nat.add_zero, Nat.zero_add, reduceCtorEq, l_0, l_1, l_2, l_3, l_4, l_5, l_6, l_7, l_8, l_9, l_10, l_15, l_24, l_32, l_39, l_40, l_47, l_48, l_50, l_57, l_60, l_63, l_80, l_95, l_99, l_100, l_120, l_126, l_128, l_1000, l_9999, l_10000, L_0, L_1, L_2, L_3, L_4, L_5, L_7, L_9, L_15, L_40, L_50, L_99, L_127, L_9999, c_ltT, c_ltF, c_leT, c_leF, c_eqT, c_eqF, n_leF, n_ltF, c_gltT, c_gltF, c_ggtT, c_ggtF, false_or, or_false, or_self, true_or, or_true]
      exact e
    · have hgt : ¬ r ^ (i + 1) ≤ 999999999999999999 := fun z => hle (hiff.mpr z)
      have hpp : r ^ (i + 1) ≤ r ^ p := Nat.pow_le_pow_right hr (by omega)
      have e : pwG r p = 1000000000000000000 := if_neg (by omega)
      rw [e]
      simp (disch := omega) only [L_G, L_e18, hr0, ↓hdv, c_lleF, ↓lt_d, eq_self, lN_add, i_l, wTn, wFa, wFb, wCT, wCF, mNe, mNe2, mLt, mLe, bp_s, bn_s, n_clampS, nI_1, nI_add, pk_sub, nI_mul, wrI_at, wrI_2, wrL_at, wrL_1, true_and, false_and, and_true, and_false, and_self, ↓reduceIte, Nat.reduceEqDiff, Nat.reduceAdd, Nat.reduceMul, Nat.add_zero, Nat.zero_add, reduceCtorEq, l_0, l_1, l_2, l_3, l_4, l_5, l_6, l_7, l_8, l_9, l_10, l_15, l_24, l_32, l_39, l_40, l_47, l_48, l_50, l_57, l_60, l_63, l_80, l_95, l_99, l_100, l_120, l_126, l_128, l_1000, l_9999, l_10000, L_0, L_1, L_2, L_3, L_4, L_5, L_7, L_9, L_15, L_40, L_50, L_99, L_127, L_9999, c_ltT, c_ltF, c_leT, c_leF, c_eqT, c_eqF, n_leF, n_ltF, c_gltT, c_gltF, c_ggtT, c_ggtF, false_or, or_false, or_self, true_or, or_true]
theorem powerOf_l {n r p : Nat} (hn : 1000 ≤ n) (hp : p < 1000) (hr : 1 ≤ r) (hr2 : r < 2 ^ 31) : fX11_powerOf n (lN r) (nI p) = some (lN (pwG r p)) := by
  have e := powerOf_h (n := n) hp hr hr2 p 0 n (by omega) (by omega) (by omega) (by rw [Nat.pow_zero]; omega)
  rw [Nat.pow_zero] at e
  unfold fX11_powerOf
  rw [show (1 : Int64) = lN 1 from by decide, l_0]
  exact e
theorem pwG_lt {r p x : Nat} (hx : x ≤ 999999999999999999) : pwG r p < x ↔ r ^ p < x := by
  unfold pwG
  split <;> omega
theorem pwG_le (r p : Nat) : pwG r p ≤ 1000000000000000000 := by
  unfold pwG
  split <;> omega
def Cut (p M r : Nat) : Prop := r ^ p ≤ M ∧ M < (r + 1) ^ p
theorem Cut_u {p M r s : Nat} (h : Cut p M r) (h' : Cut p M s) : r = s := by
  obtain ⟨h1, h2⟩ := h
  obtain ⟨g1, g2⟩ := h'
  by_cases z1 : r < s
  · have := pw_mono (p := p) (show r + 1 ≤ s from z1)
    omega
  · by_cases z2 : s < r
    · have := pw_mono (p := p) (show s + 1 ≤ r from z2)
      omega
    · omega
theorem cut_h {n p M : Nat} (hn : 1000 ≤ n) (hp : isPw p) (hM : M ≤ 999999999999999999) : ∀ k i fu low high, 40 - i = k → i ≤ 40 → k < fu → high - low < 2 ^ k → low ≤ high → high ≤ mxR p → low ^ p ≤ M → M < (high + 1) ^ p → ∃ r, fX6_cutRoot_h11 n fu (lN M) (nI p) (lN low) (lN high) (nI i) = some (lN r) ∧ Cut p M r ∧ r ≤ mxR p := by
  obtain ⟨m1, m2, m3⟩ := mxR_l hp
  have hp1 : p < 1000 := by unfold isPw at hp; omega
  intro k
  induction k with
  | zero =>
    intro i fu low high hd hi hf h1 h2 h3 h4 h5
    obtain ⟨fu, rfl⟩ : ∃ f, fu = f + 1 := ⟨fu - 1, by omega⟩
    have hlh : high = low := by
      have : (2 : Nat) ^ 0 = 1 := rfl
      omega
    subst hlh
    refine ⟨high, ?_, ⟨h4, h5⟩, h3⟩
    rw [fX6_cutRoot_h11.eq_2]
    simp (disch := omega) only [↓lt_d, eq_self, lN_add, i_l, wTn, wFa, wFb, wCT, wCF, mNe, mNe2, mLt, mLe, bp_s, bn_s, n_clampS, nI_1, nI_add, pk_sub, nI_mul, wrI_at, wrI_2, wrL_at, wrL_1, true_and, false_and, and_true, and_false, and_self, ↓reduceIte, Nat.reduceEqDiff, Nat.reduceAdd, Nat.reduceMul, Nat.add_zero, Nat.zero_add, reduceCtorEq, l_0, l_1, l_2, l_3, l_4, l_5, l_6, l_7, l_8, l_9, l_10, l_15, l_24, l_32, l_39, l_40, l_47, l_48, l_50, l_57, l_60, l_63, l_80, l_95, l_99, l_100, l_120, l_126, l_128, l_1000, l_9999, l_10000, L_0, L_1, L_2, L_3, L_4, L_5, L_7, L_9, L_15, L_40, L_50, L_99, L_127, L_9999, c_ltT, c_ltF, c_leT, c_leF, c_eqT, c_eqF, n_leF, n_ltF, c_gltT, c_gltF, c_ggtT, c_ggtF, false_or, or_false, or_self, true_or, or_true]
  | succ k ih =>
    intro i fu low high hd hi hf h1 h2 h3 h4 h5
    obtain ⟨fu, rfl⟩ : ∃ f, fu = f + 1 := ⟨fu - 1, by omega⟩
    rw [fX6_cutRoot_h11.eq_2]
    unfold fX6_cutRoot_b60
    by_cases hlh : low = high
    · subst hlh
      refine ⟨low, ?_, ⟨h4, h5⟩, h3⟩
      simp (disch := omega) only [c_geT, ↓lt_d, eq_self, lN_add, i_l, wTn, wFa, wFb, wCT, wCF, mNe, mNe2, mLt, mLe, bp_s, bn_s, n_clampS, nI_1, nI_add, pk_sub, nI_mul, wrI_at, wrI_2, wrL_at, wrL_1, true_and, false_and, and_true, and_false, and_self, ↓reduceIte, Nat.reduceEqDiff, Nat.reduceAdd, Nat.reduceMul, Nat.add_zero, Nat.zero_add, reduceCtorEq, l_0, l_1, l_2, l_3, l_4, l_5, l_6, l_7, l_8, l_9, l_10, l_15, l_24, l_32, l_39, l_40, l_47, l_48, l_50, l_57, l_60, l_63, l_80, l_95, l_99, l_100, l_120, l_126, l_128, l_1000, l_9999, l_10000, L_0, L_1, L_2, L_3, L_4, L_5, L_7, L_9, L_15, L_40, L_50, L_99, L_127, L_9999, c_ltT, c_ltF, c_leT, c_leF, c_eqT, c_eqF, n_leF, n_ltF, c_gltT, c_gltF, c_ggtT, c_ggtF, false_or, or_false, or_self, true_or, or_true]
    · rw [Nat.pow_succ] at h1
      have hmd : lN (low + high + 1) / lN 2 = lN ((low + high + 1) / 2) := pk_lDiv (by omega) (by omega) (by omega)
      have hra := raised_l (n := n) (r := (low + high + 1) / 2) hn hp1
      have hmp : ((low + high + 1) / 2) ^ p ≤ mxR p ^ p := pw_mono (by omega)
      generalize hmid : (low + high + 1) / 2 = mid at *
      by_cases hle : mid ^ p ≤ M
      · obtain ⟨r, r1, r2⟩ := ih (i + 1) fu mid high (by omega) (by omega) (by omega) (by omega) (by omega) h3 hle h5
        refine ⟨r, ?_, r2⟩
        simp (disch := omega) only [c_geF, ↓hmd, hra, ↓lt_d, eq_self, lN_add, i_l, wTn, wFa, wFb, wCT, wCF, mNe, mNe2, mLt, mLe, bp_s, bn_s, n_clampS, nI_1, nI_add, pk_sub, nI_mul, wrI_at, wrI_2, wrL_at, wrL_1, true_and, false_and, and_true, and_false, and_self, ↓reduceIte, Nat.reduceEqDiff, Nat.reduceAdd, Nat.reduceMul, Nat.add_zero, Nat.zero_add, reduceCtorEq, l_0, l_1, l_2, l_3, l_4, l_5, l_6, l_7, l_8, l_9, l_10, l_15, l_24, l_32, l_39, l_40, l_47, l_48, l_50, l_57, l_60, l_63, l_80, l_95, l_99, l_100, l_120, l_126, l_128, l_1000, l_9999, l_10000, L_0, L_1, L_2, L_3, L_4, L_5, L_7, L_9, L_15, L_40, L_50, L_99, L_127, L_9999, c_ltT, c_ltF, c_leT, c_leF, c_eqT, c_eqF, n_leF, n_ltF, c_gltT, c_gltF, c_ggtT, c_ggtF, false_or, or_false, or_self, true_or, or_true]
        exact r1
      · have e1 : mid - 1 + 1 = mid := by omega
        obtain ⟨r, r1, r2⟩ := ih (i + 1) fu low (mid - 1) (by omega) (by omega) (by omega) (by omega) (by omega) (by omega) h4 (by rw [e1]; omega)
        refine ⟨r, ?_, r2⟩
        simp (disch := omega) only [c_geF, ↓hmd, hra, lN_sub, ↓lt_d, eq_self, lN_add, i_l, wTn, wFa, wFb, wCT, wCF, mNe, mNe2, mLt, mLe, bp_s, bn_s, n_clampS, nI_1, nI_add, pk_sub, nI_mul, wrI_at, wrI_2, wrL_at, wrL_1, true_and, false_and, and_true, and_false, and_self, ↓reduceIte, Nat.reduceEqDiff, Nat.reduceAdd, Nat.reduceMul, Nat.add_zero, Nat.zero_add, reduceCtorEq, l_0, l_1, l_2, l_3, l_4, l_5, l_6, l_7, l_8, l_9, l_10, l_15, l_24, l_32, l_39, l_40, l_47, l_48, l_50, l_57, l_60, l_63, l_80, l_95, l_99, l_100, l_120, l_126, l_128, l_1000, l_9999, l_10000, L_0, L_1, L_2, L_3, L_4, L_5, L_7, L_9, L_15, L_40, L_50, L_99, L_127, L_9999, c_ltT, c_ltF, c_leT, c_leF, c_eqT, c_eqF, n_leF, n_ltF, c_gltT, c_gltF, c_ggtT, c_ggtF, false_or, or_false, or_self, true_or, or_true]
        exact r1
theorem cutRoot_l {n p M : Nat} (hn : 1000 ≤ n) (hp : isPw p) (hM : M ≤ 999999999999999999) : ∃ r, fX6_cutRoot n (lN M) (nI p) = some (lN r) ∧ Cut p M r ∧ r ≤ mxR p := by
  obtain ⟨m1, m2, m3⟩ := mxR_l hp
  have hz : 0 ^ p ≤ M := by
    rcases hp with rfl | rfl | rfl <;> exact Nat.zero_le _
  have hm : M < (mxR p + 1) ^ p := by
    have := pw_mono (p := p) (show mxR p ≤ mxR p + 1 by omega)
    omega
  obtain ⟨r, r1, r2⟩ := cut_h (n := n) hn hp hM 40 0 n 0 (mxR p) (by omega) (by omega) (by omega) (by
    have : (2 : Nat) ^ 40 = 1099511627776 := by decide
    omega) (Nat.zero_le _) (Nat.le_refl _) hz hm
  refine ⟨r, ?_, r2⟩
  unfold fX6_cutRoot fX6_mostRoot
  rcases hp with rfl | rfl | rfl
  · have e : mxR 2 = 1000000000 := rfl
    rw [e] at r1
    simp (disch := omega) only [L_e9, ↓lt_d, eq_self, lN_add, i_l, wTn, wFa, wFb, wCT, wCF, mNe, mNe2, mLt, mLe, bp_s, bn_s, n_clampS, nI_1, nI_add, pk_sub, nI_mul, wrI_at, wrI_2, wrL_at, wrL_1, true_and, false_and, and_true, and_false, and_self, ↓reduceIte, Nat.reduceEqDiff, Nat.reduceAdd, Nat.reduceMul, Nat.add_zero, Nat.zero_add, reduceCtorEq, l_0, l_1, l_2, l_3, l_4, l_5, l_6, l_7, l_8, l_9, l_10, l_15, l_24, l_32, l_39, l_40, l_47, l_48, l_50, l_57, l_60, l_63, l_80, l_95, l_99, l_100, l_120, l_126, l_128, l_1000, l_9999, l_10000, L_0, L_1, L_2, L_3, L_4, L_5, L_7, L_9, L_15, L_40, L_50, L_99, L_127, L_9999, c_ltT, c_ltF, c_leT, c_leF, c_eqT, c_eqF, n_leF, n_ltF, c_gltT, c_gltF, c_ggtT, c_ggtF, false_or, or_false, or_self, true_or, or_true]
    exact r1
  · have e : mxR 3 = 1000000 := rfl
    rw [e] at r1
    simp (disch := omega) only [L_e6, ↓lt_d, eq_self, lN_add, i_l, wTn, wFa, wFb, wCT, wCF, mNe, mNe2, mLt, mLe, bp_s, bn_s, n_clampS, nI_1, nI_add, pk_sub, nI_mul, wrI_at, wrI_2, wrL_at, wrL_1, true_and, false_and, and_true, and_false, and_self, ↓reduceIte, Nat.reduceEqDiff, Nat.reduceAdd, Nat.reduceMul, Nat.add_zero, Nat.zero_add, reduceCtorEq, l_0, l_1, l_2, l_3, l_4, l_5, l_6, l_7, l_8, l_9, l_10, l_15, l_24, l_32, l_39, l_40, l_47, l_48, l_50, l_57, l_60, l_63, l_80, l_95, l_99, l_100, l_120, l_126, l_128, l_1000, l_9999, l_10000, L_0, L_1, L_2, L_3, L_4, L_5, L_7, L_9, L_15, L_40, L_50, L_99, L_127, L_9999, c_ltT, c_ltF, c_leT, c_leF, c_eqT, c_eqF, n_leF, n_ltF, c_gltT, c_gltF, c_ggtT, c_ggtF, false_or, or_false, or_self, true_or, or_true]
    exact r1
  · have e : mxR 5 = 3982 := rfl
    rw [e] at r1
    simp (disch := omega) only [L_3982, ↓lt_d, eq_self, lN_add, i_l, wTn, wFa, wFb, wCT, wCF, mNe, mNe2, mLt, mLe, bp_s, bn_s, n_clampS, nI_1, nI_add, pk_sub, nI_mul, wrI_at, wrI_2, wrL_at, wrL_1, true_and, false_and, and_true, and_false, and_self, ↓reduceIte, Nat.reduceEqDiff, Nat.reduceAdd, Nat.reduceMul, Nat.add_zero, Nat.zero_add, reduceCtorEq, l_0, l_1, l_2, l_3, l_4, l_5, l_6, l_7, l_8, l_9, l_10, l_15, l_24, l_32, l_39, l_40, l_47, l_48, l_50, l_57, l_60, l_63, l_80, l_95, l_99, l_100, l_120, l_126, l_128, l_1000, l_9999, l_10000, L_0, L_1, L_2, L_3, L_4, L_5, L_7, L_9, L_15, L_40, L_50, L_99, L_127, L_9999, c_ltT, c_ltF, c_leT, c_leF, c_eqT, c_eqF, n_leF, n_ltF, c_gltT, c_gltF, c_ggtT, c_ggtF, false_or, or_false, or_self, true_or, or_true]
    exact r1
theorem least_h {n p x : Nat} (hn : 1000 ≤ n) (hp : isPw p) (hx : x ≤ 999999999999999999) : ∀ k fu low high, k < fu → high - low ≤ 2 ^ k → low < high → high ≤ 1000000001 → low ^ p < x → x ≤ high ^ p → ∃ r, fX11_leastOf_h7 n fu (lN x) (nI p) (lN low) (lN high) = some (lN r) ∧ 1 ≤ r ∧ r ≤ 1000000001 ∧ (r - 1) ^ p < x ∧ x ≤ r ^ p := by
  have hp1 : p < 1000 := by unfold isPw at hp; omega
  intro k
  induction k with
  | zero =>
    intro fu low high hf h1 h2 h3 h4 h5
    obtain ⟨fu, rfl⟩ : ∃ f, fu = f + 1 := ⟨fu - 1, by omega⟩
    have : (2 : Nat) ^ 0 = 1 := rfl
    have hlh : high = low + 1 := by omega
    subst hlh
    refine ⟨low + 1, ?_, by omega, h3, h4, h5⟩
    rw [fX11_leastOf_h7.eq_2]
    simp (disch := omega) only [lN_sub, c_lleT, ↓lt_d, eq_self, lN_add, i_l, wTn, wFa, wFb, wCT, wCF, mNe, mNe2, mLt, mLe, bp_s, bn_s, n_clampS, nI_1, nI_add, pk_sub, nI_mul, wrI_at, wrI_2, wrL_at, wrL_1, true_and, false_and, and_true, and_false, and_self, ↓reduceIte, Nat.reduceEqDiff, Nat.reduceAdd, Nat.reduceMul, Nat.add_zero, Nat.zero_add, reduceCtorEq, l_0, l_1, l_2, l_3, l_4, l_5, l_6, l_7, l_8, l_9, l_10, l_15, l_24, l_32, l_39, l_40, l_47, l_48, l_50, l_57, l_60, l_63, l_80, l_95, l_99, l_100, l_120, l_126, l_128, l_1000, l_9999, l_10000, L_0, L_1, L_2, L_3, L_4, L_5, L_7, L_9, L_15, L_40, L_50, L_99, L_127, L_9999, c_ltT, c_ltF, c_leT, c_leF, c_eqT, c_eqF, n_leF, n_ltF, c_gltT, c_gltF, c_ggtT, c_ggtF, false_or, or_false, or_self, true_or, or_true]
  | succ k ih =>
    intro fu low high hf h1 h2 h3 h4 h5
    obtain ⟨fu, rfl⟩ : ∃ f, fu = f + 1 := ⟨fu - 1, by omega⟩
    rw [fX11_leastOf_h7.eq_2]
    unfold fX11_leastOf_b47
    by_cases hlh : high = low + 1
    · subst hlh
      refine ⟨low + 1, ?_, by omega, h3, h4, h5⟩
      simp (disch := omega) only [lN_sub, c_lleT, ↓lt_d, eq_self, lN_add, i_l, wTn, wFa, wFb, wCT, wCF, mNe, mNe2, mLt, mLe, bp_s, bn_s, n_clampS, nI_1, nI_add, pk_sub, nI_mul, wrI_at, wrI_2, wrL_at, wrL_1, true_and, false_and, and_true, and_false, and_self, ↓reduceIte, Nat.reduceEqDiff, Nat.reduceAdd, Nat.reduceMul, Nat.add_zero, Nat.zero_add, reduceCtorEq, l_0, l_1, l_2, l_3, l_4, l_5, l_6, l_7, l_8, l_9, l_10, l_15, l_24, l_32, l_39, l_40, l_47, l_48, l_50, l_57, l_60, l_63, l_80, l_95, l_99, l_100, l_120, l_126, l_128, l_1000, l_9999, l_10000, L_0, L_1, L_2, L_3, L_4, L_5, L_7, L_9, L_15, L_40, L_50, L_99, L_127, L_9999, c_ltT, c_ltF, c_leT, c_leF, c_eqT, c_eqF, n_leF, n_ltF, c_gltT, c_gltF, c_ggtT, c_ggtF, false_or, or_false, or_self, true_or, or_true]
    · rw [Nat.pow_succ] at h1
      have hmd : lN (low + high) / lN 2 = lN ((low + high) / 2) := pk_lDiv (by omega) (by omega) (by omega)
      have hpo := powerOf_l (n := n) (r := (low + high) / 2) hn hp1 (by omega) (by omega)
      have hlt := pwG_lt (r := (low + high) / 2) (p := p) hx
      have hle := pwG_le ((low + high) / 2) p
      generalize hmid : (low + high) / 2 = mid at *
      by_cases hz : mid ^ p < x
      · have hz2 := hlt.mpr hz
        obtain ⟨r, r1, r2⟩ := ih fu mid high (by omega) (by omega) (by omega) h3 hz h5
        refine ⟨r, ?_, r2⟩
        simp (disch := omega) only [lN_sub, c_lleF, ↓hmd, hpo, ↓lt_d, eq_self, lN_add, i_l, wTn, wFa, wFb, wCT, wCF, mNe, mNe2, mLt, mLe, bp_s, bn_s, n_clampS, nI_1, nI_add, pk_sub, nI_mul, wrI_at, wrI_2, wrL_at, wrL_1, true_and, false_and, and_true, and_false, and_self, ↓reduceIte, Nat.reduceEqDiff, Nat.reduceAdd, Nat.reduceMul, Nat.add_zero, Nat.zero_add, reduceCtorEq, l_0, l_1, l_2, l_3, l_4, l_5, l_6, l_7, l_8, l_9, l_10, l_15, l_24, l_32, l_39, l_40, l_47, l_48, l_50, l_57, l_60, l_63, l_80, l_95, l_99, l_100, l_120, l_126, l_128, l_1000, l_9999, l_10000, L_0, L_1, L_2, L_3, L_4, L_5, L_7, L_9, L_15, L_40, L_50, L_99, L_127, L_9999, c_ltT, c_ltF, c_leT, c_leF, c_eqT, c_eqF, n_leF, n_ltF, c_gltT, c_gltF, c_ggtT, c_ggtF, false_or, or_false, or_self, true_or, or_true]
        exact r1
      · have hz2 : ¬ pwG mid p < x := fun w => hz (hlt.mp w)
        obtain ⟨r, r1, r2⟩ := ih fu low mid (by omega) (by omega) (by omega) (by omega) h4 (by omega)
        refine ⟨r, ?_, r2⟩
        simp (disch := omega) only [lN_sub, c_lleF, ↓hmd, hpo, ↓lt_d, eq_self, lN_add, i_l, wTn, wFa, wFb, wCT, wCF, mNe, mNe2, mLt, mLe, bp_s, bn_s, n_clampS, nI_1, nI_add, pk_sub, nI_mul, wrI_at, wrI_2, wrL_at, wrL_1, true_and, false_and, and_true, and_false, and_self, ↓reduceIte, Nat.reduceEqDiff, Nat.reduceAdd, Nat.reduceMul, Nat.add_zero, Nat.zero_add, reduceCtorEq, l_0, l_1, l_2, l_3, l_4, l_5, l_6, l_7, l_8, l_9, l_10, l_15, l_24, l_32, l_39, l_40, l_47, l_48, l_50, l_57, l_60, l_63, l_80, l_95, l_99, l_100, l_120, l_126, l_128, l_1000, l_9999, l_10000, L_0, L_1, L_2, L_3, L_4, L_5, L_7, L_9, L_15, L_40, L_50, L_99, L_127, L_9999, c_ltT, c_ltF, c_leT, c_leF, c_eqT, c_eqF, n_leF, n_ltF, c_gltT, c_gltF, c_ggtT, c_ggtF, false_or, or_false, or_self, true_or, or_true]
        exact r1
theorem leastOf_l {n p x : Nat} (hn : 1000 ≤ n) (hp : isPw p) (hx1 : 1 ≤ x) (hx : x ≤ 999999999999999999) : ∃ r, fX11_leastOf n (lN x) (nI p) = some (lN r) ∧ 1 ≤ r ∧ r ≤ 1000000001 ∧ (r - 1) ^ p < x ∧ x ≤ r ^ p := by
  have h0 : 0 ^ p < x := by
    have : 0 ^ p = 0 := by rcases hp with rfl | rfl | rfl <;> rfl
    omega
  have h1 : x ≤ 1000000001 ^ p := by
    have h2 : 1000000001 ^ 2 ≤ 1000000001 ^ p := Nat.pow_le_pow_right (by decide) (by unfold isPw at hp; omega)
    have h3 : (1000000001 : Nat) ^ 2 = 1000000002000000001 := by decide
    omega
  obtain ⟨r, r1, r2⟩ := least_h (n := n) hn hp hx 40 n 0 1000000001 (by omega) (by
    have : (2 : Nat) ^ 40 = 1099511627776 := by decide
    omega) (by omega) (by omega) h0 h1
  refine ⟨r, ?_, r2⟩
  unfold fX11_leastOf
  rw [show (0 : Int64) = lN 0 from by decide, L_e9p]
  exact r1
theorem dgsO_h {n : Nat} : ∀ f v x fu, v < 10 ^ f → v < 2 ^ 62 → f < fu → fX11_digitsOf_h4 n fu (nI x) (lN v) = some (nI (x + dgF f v)) := by
  intro f
  induction f with
  | zero =>
    intro v x fu hv hv2 hf
    obtain ⟨fu, rfl⟩ : ∃ f, fu = f + 1 := ⟨fu - 1, by omega⟩
    have : v = 0 := by simpa using hv
    subst this
    rw [fX11_digitsOf_h4.eq_2]
    unfold dgF
    simp (disch := omega) only [c_lleT, ↓lt_d, eq_self, lN_add, i_l, wTn, wFa, wFb, wCT, wCF, mNe, mNe2, mLt, mLe, bp_s, bn_s, n_clampS, nI_1, nI_add, pk_sub, nI_mul, wrI_at, wrI_2, wrL_at, wrL_1, true_and, false_and, and_true, and_false, and_self, ↓reduceIte, Nat.reduceEqDiff, Nat.reduceAdd, Nat.reduceMul, Nat.add_zero, Nat.zero_add, reduceCtorEq, l_0, l_1, l_2, l_3, l_4, l_5, l_6, l_7, l_8, l_9, l_10, l_15, l_24, l_32, l_39, l_40, l_47, l_48, l_50, l_57, l_60, l_63, l_80, l_95, l_99, l_100, l_120, l_126, l_128, l_1000, l_9999, l_10000, L_0, L_1, L_2, L_3, L_4, L_5, L_7, L_9, L_15, L_40, L_50, L_99, L_127, L_9999, c_ltT, c_ltF, c_leT, c_leF, c_eqT, c_eqF, n_leF, n_ltF, c_gltT, c_gltF, c_ggtT, c_ggtF, false_or, or_false, or_self, true_or, or_true]
  | succ f ih =>
    intro v x fu hv hv2 hf
    obtain ⟨fu, rfl⟩ : ∃ f, fu = f + 1 := ⟨fu - 1, by omega⟩
    rw [fX11_digitsOf_h4.eq_2]
    unfold dgF
    by_cases h0 : v = 0
    · subst h0
      simp (disch := omega) only [c_lleT, ↓lt_d, eq_self, lN_add, i_l, wTn, wFa, wFb, wCT, wCF, mNe, mNe2, mLt, mLe, bp_s, bn_s, n_clampS, nI_1, nI_add, pk_sub, nI_mul, wrI_at, wrI_2, wrL_at, wrL_1, true_and, false_and, and_true, and_false, and_self, ↓reduceIte, Nat.reduceEqDiff, Nat.reduceAdd, Nat.reduceMul, Nat.add_zero, Nat.zero_add, reduceCtorEq, l_0, l_1, l_2, l_3, l_4, l_5, l_6, l_7, l_8, l_9, l_10, l_15, l_24, l_32, l_39, l_40, l_47, l_48, l_50, l_57, l_60, l_63, l_80, l_95, l_99, l_100, l_120, l_126, l_128, l_1000, l_9999, l_10000, L_0, L_1, L_2, L_3, L_4, L_5, L_7, L_9, L_15, L_40, L_50, L_99, L_127, L_9999, c_ltT, c_ltF, c_leT, c_leF, c_eqT, c_eqF, n_leF, n_ltF, c_gltT, c_gltF, c_ggtT, c_ggtF, false_or, or_false, or_self, true_or, or_true]
    · have hv3 : v / 10 < 10 ^ f := by
        rw [Nat.pow_succ] at hv
        omega
      have hdv : lN v / lN 10 = lN (v / 10) := pk_lDiv (by omega) (by omega) (by omega)
      have e := ih (v / 10) (x + 1) fu hv3 (by omega) (by omega)
      rw [if_neg h0, show x + (dgF f (v / 10) + 1) = x + 1 + dgF f (v / 10) by omega]
      simp (disch := omega) only [c_lleF, L_10, ↓hdv, ↓lt_d, eq_self, lN_add, i_l, wTn, wFa, wFb, wCT, wCF, mNe, mNe2, mLt, mLe, bp_s, bn_s, n_clampS, nI_1, nI_add, pk_sub, nI_mul, wrI_at, wrI_2, wrL_at, wrL_1, true_and, false_and, and_true, and_false, and_self, ↓reduceIte, Nat.reduceEqDiff, Nat.reduceAdd, Nat.reduceMul, Nat.add_zero, Nat.zero_add, reduceCtorEq, l_0, l_1, l_2, l_3, l_4, l_5, l_6, l_7, l_8, l_9, l_10, l_15, l_24, l_32, l_39, l_40, l_47, l_48, l_50, l_57, l_60, l_63, l_80, l_95, l_99, l_100, l_120, l_126, l_128, l_1000, l_9999, l_10000, L_0, L_1, L_2, L_3, L_4, L_5, L_7, L_9, L_15, L_40, L_50, L_99, L_127, L_9999, c_ltT, c_ltF, c_leT, c_leF, c_eqT, c_eqF, n_leF, n_ltF, c_gltT, c_gltF, c_ggtT, c_ggtF, false_or, or_false, or_self, true_or, or_true]
      exact e
theorem digitsOf_l {n N : Nat} (hn : 1000 ≤ n) (hN : N < 2 ^ 62) : fX11_digitsOf n (lN N) = some (nI (dgs N)) := by
  have e := dgsO_h (n := n) 20 N 0 n (by omega) hN (by omega)
  rw [Nat.zero_add] at e
  exact e
theorem dgs_pw {N : Nat} (h1 : 1 ≤ N) (h2 : N ≤ 999999999999999999) : ∃ s, dgs N = s + 1 ∧ s < 18 ∧ 10 ^ s ≤ N ∧ N < 10 ^ (s + 1) := by
  have e0 := dgs_le (v := N) (by omega) 0
  obtain ⟨s, hs⟩ : ∃ s, dgs N = s + 1 := ⟨dgs N - 1, by omega⟩
  have e1 := dgs_le (v := N) (by omega) s
  have e2 := dgs_le (v := N) (by omega) (s + 1)
  have e3 := dgs_le (v := N) (by omega) 18
  exact ⟨s, hs, by omega, by omega, by omega⟩
theorem sizeL {n N : Nat} (hn : 1000 ≤ n) (h1 : 1 ≤ N) (h2 : N ≤ 999999999999999999) : fX4_sizeOf n (lN N) = some (nI (dgs N)) := by
  obtain ⟨s, hs, -⟩ := dgs_pw h1 h2
  have e := sizeOf_l (n := n) (v := N) hn (by omega)
  have e2 : sz1 N = dgs N := by
    unfold sz1
    rw [if_neg (by omega)]
  rw [e2] at e
  exact e
/-- a long: a number as roots want it, or not -/
theorem long_cases (x : Int64) : (∃ N, 1 ≤ N ∧ N ≤ 999999999999999999 ∧ x = lN N ∧ fX6_isNumber x = nI 1 ∧ fX11_within x (lN 1) (lN 999999999999999999) = nI 1) ∨ (fX6_isNumber x = nI 0 ∧ fX11_within x (lN 1) (lN 999999999999999999) = nI 0) := by
  have e : fX6_isNumber x = fX11_within x (lN 1) (lN 999999999999999999) := by
    unfold fX6_isNumber fX11_within
    rw [show (1 : Int64) = lN 1 from by decide, L_G]
  rw [e]
  by_cases hx : x < 0
  · right
    have : fX11_within x (lN 1) (lN 999999999999999999) = nI 0 := by
      rw [wi, if_neg]
      · rfl
      · intro z
        have h1 := Int64.le_iff_toInt_le.mp z.1
        have h2 := Int64.lt_iff_toInt_lt.mp hx
        rw [lN_toInt (by omega)] at h1
        have h3 : (0 : Int64).toInt = 0 := rfl
        omega
    exact ⟨this, this⟩
  · obtain ⟨N, hN, rfl⟩ := pk_lOf hx
    rw [wi]
    by_cases h : 1 ≤ N ∧ N ≤ 999999999999999999
    · left
      refine ⟨N, h.1, h.2, rfl, ?_⟩
      rw [if_pos ⟨(pk_lLE (by omega) (by omega)).mpr h.1, (pk_lLE (by omega) (by omega)).mpr h.2⟩]
      exact ⟨rfl, rfl⟩
    · right
      rw [if_neg (fun z => h ⟨(pk_lLE (by omega) (by omega)).mp z.1, (pk_lLE (by omega) (by omega)).mp z.2⟩)]
      exact ⟨rfl, rfl⟩
theorem pow_cases (y : Int32) : (∃ p, isPw p ∧ y = nI p ∧ fX6_isPower y = nI 1 ∧ fX11_isPower y = nI 1) ∨ (fX6_isPower y = nI 0 ∧ fX11_isPower y = nI 0) := by
  unfold fX6_isPower fX11_isPower
  by_cases h2 : y = nI 2
  · subst h2
    exact Or.inl ⟨2, Or.inl rfl, rfl, rfl, rfl⟩
  · by_cases h3 : y = nI 3
    · subst h3
      exact Or.inl ⟨3, Or.inr (Or.inl rfl), rfl, rfl, rfl⟩
    · by_cases h5 : y = nI 5
      · subst h5
        exact Or.inl ⟨5, Or.inr (Or.inr rfl), rfl, rfl, rfl⟩
      · right
        have e2 : (y = nI 2) = False := eq_false h2
        have e3 : (y = nI 3) = False := eq_false h3
        have e5 : (y = nI 5) = False := eq_false h5
        refine ⟨?_, ?_⟩
        · simp (disch := omega) only [e2, e3, e5, ↓lt_d, eq_self, lN_add, i_l, wTn, wFa, wFb, wCT, wCF, mNe, mNe2, mLt, mLe, bp_s, bn_s, n_clampS, nI_1, nI_add, pk_sub, nI_mul, wrI_at, wrI_2, wrL_at, wrL_1, true_and, false_and, and_true, and_false, and_self, ↓reduceIte, Nat.reduceEqDiff, Nat.reduceAdd, Nat.reduceMul, Nat.add_zero, Nat.zero_add, reduceCtorEq, l_0, l_1, l_2, l_3, l_4, l_5, l_6, l_7, l_8, l_9, l_10, l_15, l_24, l_32, l_39, l_40, l_47, l_48, l_50, l_57, l_60, l_63, l_80, l_95, l_99, l_100, l_120, l_126, l_128, l_1000, l_9999, l_10000, L_0, L_1, L_2, L_3, L_4, L_5, L_7, L_9, L_15, L_40, L_50, L_99, L_127, L_9999, c_ltT, c_ltF, c_leT, c_leF, c_eqT, c_eqF, n_leF, n_ltF, c_gltT, c_gltF, c_ggtT, c_ggtF, false_or, or_false, or_self, true_or, or_true]
        · simp (disch := omega) only [e2, e3, e5, ↓lt_d, eq_self, lN_add, i_l, wTn, wFa, wFb, wCT, wCF, mNe, mNe2, mLt, mLe, bp_s, bn_s, n_clampS, nI_1, nI_add, pk_sub, nI_mul, wrI_at, wrI_2, wrL_at, wrL_1, true_and, false_and, and_true, and_false, and_self, ↓reduceIte, Nat.reduceEqDiff, Nat.reduceAdd, Nat.reduceMul, Nat.add_zero, Nat.zero_add, reduceCtorEq, l_0, l_1, l_2, l_3, l_4, l_5, l_6, l_7, l_8, l_9, l_10, l_15, l_24, l_32, l_39, l_40, l_47, l_48, l_50, l_57, l_60, l_63, l_80, l_95, l_99, l_100, l_120, l_126, l_128, l_1000, l_9999, l_10000, L_0, L_1, L_2, L_3, L_4, L_5, L_7, L_9, L_15, L_40, L_50, L_99, L_127, L_9999, c_ltT, c_ltF, c_leT, c_leF, c_eqT, c_eqF, n_leF, n_ltF, c_gltT, c_gltF, c_ggtT, c_ggtF, false_or, or_false, or_self, true_or, or_true]
/-- the whole root, the same on both sides: 0 if there is none -/
theorem whole_l {n p N : Nat} (hn : 1000 ≤ n) (hp : isPw p) (h1 : 1 ≤ N) (h2 : N ≤ 999999999999999999) : ∃ r, r ≤ 1000000001 ∧ fX6_whole n (lN N) (nI p) = some (lN r) ∧ fX11_rootOf n (lN N) (nI p) = some (nI r) ∧ (r = 0 ∨ (1 ≤ r ∧ r ^ p = N)) := by
  have hp1 : p < 1000 := by unfold isPw at hp; omega
  have hp0 : p ≠ 0 := by unfold isPw at hp; omega
  obtain ⟨m1, m2, m3⟩ := mxR_l hp
  obtain ⟨c, c1, c2, c3⟩ := cutRoot_l hn hp h2
  obtain ⟨l, l1, l2, l3, l4, l5⟩ := leastOf_l hn hp h1 h2
  have hra := raised_l (n := n) (r := c) hn hp1
  have hpo := powerOf_l (n := n) (r := l) hn hp1 l2 (by omega)
  have hcp : c ^ p ≤ mxR p ^ p := pw_mono c3
  have hple := pwG_le l p
  unfold fX6_whole fX11_rootOf
  by_cases he : c ^ p = N
  · have hlc : l = c := by
      have z1 : ¬ c < l := fun z => by
        have := pw_mono (p := p) (show c ≤ l - 1 by omega)
        omega
      have z2 : ¬ l < c := fun z => by
        have := Nat.pow_lt_pow_left z hp0
        omega
      omega
    subst hlc
    have hpg : pwG l p = N := by
      unfold pwG
      rw [if_pos (by omega)]
      exact he
    rw [hpg] at hpo
    refine ⟨l, l3, ?_, ?_, Or.inr ⟨l2, he⟩⟩
    · simp (disch := omega) only [c1, hra, c_leqT, ↓lt_d, eq_self, lN_add, i_l, wTn, wFa, wFb, wCT, wCF, mNe, mNe2, mLt, mLe, bp_s, bn_s, n_clampS, nI_1, nI_add, pk_sub, nI_mul, wrI_at, wrI_2, wrL_at, wrL_1, true_and, false_and, and_true, and_false, and_self, ↓reduceIte, Nat.reduceEqDiff, Nat.reduceAdd, Nat.reduceMul, Nat.add_zero, Nat.zero_add, reduceCtorEq, l_0, l_1, l_2, l_3, l_4, l_5, l_6, l_7, l_8, l_9, l_10, l_15, l_24, l_32, l_39, l_40, l_47, l_48, l_50, l_57, l_60, l_63, l_80, l_95, l_99, l_100, l_120, l_126, l_128, l_1000, l_9999, l_10000, L_0, L_1, L_2, L_3, L_4, L_5, L_7, L_9, L_15, L_40, L_50, L_99, L_127, L_9999, c_ltT, c_ltF, c_leT, c_leF, c_eqT, c_eqF, n_leF, n_ltF, c_gltT, c_gltF, c_ggtT, c_ggtF, false_or, or_false, or_self, true_or, or_true]
    · simp (disch := omega) only [l1, hpo, c_leqT, lN_i, ↓lt_d, eq_self, lN_add, i_l, wTn, wFa, wFb, wCT, wCF, mNe, mNe2, mLt, mLe, bp_s, bn_s, n_clampS, nI_1, nI_add, pk_sub, nI_mul, wrI_at, wrI_2, wrL_at, wrL_1, true_and, false_and, and_true, and_false, and_self, ↓reduceIte, Nat.reduceEqDiff, Nat.reduceAdd, Nat.reduceMul, Nat.add_zero, Nat.zero_add, reduceCtorEq, l_0, l_1, l_2, l_3, l_4, l_5, l_6, l_7, l_8, l_9, l_10, l_15, l_24, l_32, l_39, l_40, l_47, l_48, l_50, l_57, l_60, l_63, l_80, l_95, l_99, l_100, l_120, l_126, l_128, l_1000, l_9999, l_10000, L_0, L_1, L_2, L_3, L_4, L_5, L_7, L_9, L_15, L_40, L_50, L_99, L_127, L_9999, c_ltT, c_ltF, c_leT, c_leF, c_eqT, c_eqF, n_leF, n_ltF, c_gltT, c_gltF, c_ggtT, c_ggtF, false_or, or_false, or_self, true_or, or_true]
  · have hpg : pwG l p ≠ N := by
      intro z
      have hl : l ^ p = N := by
        unfold pwG at z
        split at z <;> omega
      have : c = l := Cut_u c2 ⟨by omega, by
        have := Nat.pow_lt_pow_left (show l < l + 1 by omega) hp0
        omega⟩
      subst this
      exact he hl
    refine ⟨0, by omega, ?_, ?_, Or.inl rfl⟩
    · simp (disch := omega) only [c1, hra, c_leqF, ↓lt_d, eq_self, lN_add, i_l, wTn, wFa, wFb, wCT, wCF, mNe, mNe2, mLt, mLe, bp_s, bn_s, n_clampS, nI_1, nI_add, pk_sub, nI_mul, wrI_at, wrI_2, wrL_at, wrL_1, true_and, false_and, and_true, and_false, and_self, ↓reduceIte, Nat.reduceEqDiff, Nat.reduceAdd, Nat.reduceMul, Nat.add_zero, Nat.zero_add, reduceCtorEq, l_0, l_1, l_2, l_3, l_4, l_5, l_6, l_7, l_8, l_9, l_10, l_15, l_24, l_32, l_39, l_40, l_47, l_48, l_50, l_57, l_60, l_63, l_80, l_95, l_99, l_100, l_120, l_126, l_128, l_1000, l_9999, l_10000, L_0, L_1, L_2, L_3, L_4, L_5, L_7, L_9, L_15, L_40, L_50, L_99, L_127, L_9999, c_ltT, c_ltF, c_leT, c_leF, c_eqT, c_eqF, n_leF, n_ltF, c_gltT, c_gltF, c_ggtT, c_ggtF, false_or, or_false, or_self, true_or, or_true]
    · simp (disch := omega) only [l1, hpo, c_leqF, ↓lt_d, eq_self, lN_add, i_l, wTn, wFa, wFb, wCT, wCF, mNe, mNe2, mLt, mLe, bp_s, bn_s, n_clampS, nI_1, nI_add, pk_sub, nI_mul, wrI_at, wrI_2, wrL_at, wrL_1, true_and, false_and, and_true, and_false, and_self, ↓reduceIte, Nat.reduceEqDiff, Nat.reduceAdd, Nat.reduceMul, Nat.add_zero, Nat.zero_add, reduceCtorEq, l_0, l_1, l_2, l_3, l_4, l_5, l_6, l_7, l_8, l_9, l_10, l_15, l_24, l_32, l_39, l_40, l_47, l_48, l_50, l_57, l_60, l_63, l_80, l_95, l_99, l_100, l_120, l_126, l_128, l_1000, l_9999, l_10000, L_0, L_1, L_2, L_3, L_4, L_5, L_7, L_9, L_15, L_40, L_50, L_99, L_127, L_9999, c_ltT, c_ltF, c_leT, c_leF, c_eqT, c_eqF, n_leF, n_ltF, c_gltT, c_gltF, c_ggtT, c_ggtF, false_or, or_false, or_self, true_or, or_true]
theorem op_root {n : Nat} (hn : 1000 ≤ n) (x : Int64) (y : Int32) : ∃ r, fX10_root n x y = some r ∧ fX11_root n x y = some r := by
  unfold fX10_root fX11_root fX11_isNumber
  rcases long_cases x with ⟨N, h1, h2, rfl, g1, g2⟩ | ⟨g1, g2⟩
  · rcases pow_cases y with ⟨p, hp, rfl, k1, k2⟩ | ⟨k1, k2⟩
    · obtain ⟨r, -, w1, w2, -⟩ := whole_l hn hp h1 h2
      refine ⟨nI r, ?_, ?_⟩
      · simp (disch := omega) only [g1, k1, w1, lN_i, ↓lt_d, eq_self, lN_add, i_l, wTn, wFa, wFb, wCT, wCF, mNe, mNe2, mLt, mLe, bp_s, bn_s, n_clampS, nI_1, nI_add, pk_sub, nI_mul, wrI_at, wrI_2, wrL_at, wrL_1, true_and, false_and, and_true, and_false, and_self, ↓reduceIte, Nat.reduceEqDiff, Nat.reduceAdd, Nat.reduceMul, Nat.add_zero, Nat.zero_add, reduceCtorEq, l_0, l_1, l_2, l_3, l_4, l_5, l_6, l_7, l_8, l_9, l_10, l_15, l_24, l_32, l_39, l_40, l_47, l_48, l_50, l_57, l_60, l_63, l_80, l_95, l_99, l_100, l_120, l_126, l_128, l_1000, l_9999, l_10000, L_0, L_1, L_2, L_3, L_4, L_5, L_7, L_9, L_15, L_40, L_50, L_99, L_127, L_9999, c_ltT, c_ltF, c_leT, c_leF, c_eqT, c_eqF, n_leF, n_ltF, c_gltT, c_gltF, c_ggtT, c_ggtF, false_or, or_false, or_self, true_or, or_true]
      · simp (disch := omega) only [L_G, ↓g2, k2, w2, ↓lt_d, eq_self, lN_add, i_l, wTn, wFa, wFb, wCT, wCF, mNe, mNe2, mLt, mLe, bp_s, bn_s, n_clampS, nI_1, nI_add, pk_sub, nI_mul, wrI_at, wrI_2, wrL_at, wrL_1, true_and, false_and, and_true, and_false, and_self, ↓reduceIte, Nat.reduceEqDiff, Nat.reduceAdd, Nat.reduceMul, Nat.add_zero, Nat.zero_add, reduceCtorEq, l_0, l_1, l_2, l_3, l_4, l_5, l_6, l_7, l_8, l_9, l_10, l_15, l_24, l_32, l_39, l_40, l_47, l_48, l_50, l_57, l_60, l_63, l_80, l_95, l_99, l_100, l_120, l_126, l_128, l_1000, l_9999, l_10000, L_0, L_1, L_2, L_3, L_4, L_5, L_7, L_9, L_15, L_40, L_50, L_99, L_127, L_9999, c_ltT, c_ltF, c_leT, c_leF, c_eqT, c_eqF, n_leF, n_ltF, c_gltT, c_gltF, c_ggtT, c_ggtF, false_or, or_false, or_self, true_or, or_true]
    · refine ⟨-1, ?_, ?_⟩
      · simp (disch := omega) only [g1, k1, ↓lt_d, eq_self, lN_add, i_l, wTn, wFa, wFb, wCT, wCF, mNe, mNe2, mLt, mLe, bp_s, bn_s, n_clampS, nI_1, nI_add, pk_sub, nI_mul, wrI_at, wrI_2, wrL_at, wrL_1, true_and, false_and, and_true, and_false, and_self, ↓reduceIte, Nat.reduceEqDiff, Nat.reduceAdd, Nat.reduceMul, Nat.add_zero, Nat.zero_add, reduceCtorEq, l_0, l_1, l_2, l_3, l_4, l_5, l_6, l_7, l_8, l_9, l_10, l_15, l_24, l_32, l_39, l_40, l_47, l_48, l_50, l_57, l_60, l_63, l_80, l_95, l_99, l_100, l_120, l_126, l_128, l_1000, l_9999, l_10000, L_0, L_1, L_2, L_3, L_4, L_5, L_7, L_9, L_15, L_40, L_50, L_99, L_127, L_9999, c_ltT, c_ltF, c_leT, c_leF, c_eqT, c_eqF, n_leF, n_ltF, c_gltT, c_gltF, c_ggtT, c_ggtF, false_or, or_false, or_self, true_or, or_true]
      · simp (disch := omega) only [L_G, ↓g2, k2, ↓lt_d, eq_self, lN_add, i_l, wTn, wFa, wFb, wCT, wCF, mNe, mNe2, mLt, mLe, bp_s, bn_s, n_clampS, nI_1, nI_add, pk_sub, nI_mul, wrI_at, wrI_2, wrL_at, wrL_1, true_and, false_and, and_true, and_false, and_self, ↓reduceIte, Nat.reduceEqDiff, Nat.reduceAdd, Nat.reduceMul, Nat.add_zero, Nat.zero_add, reduceCtorEq, l_0, l_1, l_2, l_3, l_4, l_5, l_6, l_7, l_8, l_9, l_10, l_15, l_24, l_32, l_39, l_40, l_47, l_48, l_50, l_57, l_60, l_63, l_80, l_95, l_99, l_100, l_120, l_126, l_128, l_1000, l_9999, l_10000, L_0, L_1, L_2, L_3, L_4, L_5, L_7, L_9, L_15, L_40, L_50, L_99, L_127, L_9999, c_ltT, c_ltF, c_leT, c_leF, c_eqT, c_eqF, n_leF, n_ltF, c_gltT, c_gltF, c_ggtT, c_ggtF, false_or, or_false, or_self, true_or, or_true]
  · refine ⟨-1, ?_, ?_⟩
    · simp (disch := omega) only [g1, ↓lt_d, eq_self, lN_add, i_l, wTn, wFa, wFb, wCT, wCF, mNe, mNe2, mLt, mLe, bp_s, bn_s, n_clampS, nI_1, nI_add, pk_sub, nI_mul, wrI_at, wrI_2, wrL_at, wrL_1, true_and, false_and, and_true, and_false, and_self, ↓reduceIte, Nat.reduceEqDiff, Nat.reduceAdd, Nat.reduceMul, Nat.add_zero, Nat.zero_add, reduceCtorEq, l_0, l_1, l_2, l_3, l_4, l_5, l_6, l_7, l_8, l_9, l_10, l_15, l_24, l_32, l_39, l_40, l_47, l_48, l_50, l_57, l_60, l_63, l_80, l_95, l_99, l_100, l_120, l_126, l_128, l_1000, l_9999, l_10000, L_0, L_1, L_2, L_3, L_4, L_5, L_7, L_9, L_15, L_40, L_50, L_99, L_127, L_9999, c_ltT, c_ltF, c_leT, c_leF, c_eqT, c_eqF, n_leF, n_ltF, c_gltT, c_gltF, c_ggtT, c_ggtF, false_or, or_false, or_self, true_or, or_true]
    · simp (disch := omega) only [L_G, ↓g2, ↓lt_d, eq_self, lN_add, i_l, wTn, wFa, wFb, wCT, wCF, mNe, mNe2, mLt, mLe, bp_s, bn_s, n_clampS, nI_1, nI_add, pk_sub, nI_mul, wrI_at, wrI_2, wrL_at, wrL_1, true_and, false_and, and_true, and_false, and_self, ↓reduceIte, Nat.reduceEqDiff, Nat.reduceAdd, Nat.reduceMul, Nat.add_zero, Nat.zero_add, reduceCtorEq, l_0, l_1, l_2, l_3, l_4, l_5, l_6, l_7, l_8, l_9, l_10, l_15, l_24, l_32, l_39, l_40, l_47, l_48, l_50, l_57, l_60, l_63, l_80, l_95, l_99, l_100, l_120, l_126, l_128, l_1000, l_9999, l_10000, L_0, L_1, L_2, L_3, L_4, L_5, L_7, L_9, L_15, L_40, L_50, L_99, L_127, L_9999, c_ltT, c_ltF, c_leT, c_leF, c_eqT, c_eqF, n_leF, n_ltF, c_gltT, c_gltF, c_ggtT, c_ggtF, false_or, or_false, or_self, true_or, or_true]
