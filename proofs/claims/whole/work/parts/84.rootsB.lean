/-! roots by firsts: how many, the least -/
theorem lN_neg {a b : Nat} (h : a < b) : lN a - lN b = -lN (b - a) := by
  have e : lN b = lN a + lN (b - a) := by rw [lN_add, show a + (b - a) = b by omega]
  rw [e, Int64.sub_eq_add_neg, Int64.neg_add, Int64.sub_eq_add_neg, ← Int64.add_assoc, Int64.add_right_neg, Int64.zero_add]
theorem lN_ngT {m : Nat} (h : m < 2 ^ 62) : (-lN m).toInt = -(m : Int) := Int64.toInt_neg_ofNat_of_le (by omega)
theorem ngd_l {m : Nat} (h : m < 2 ^ 62) : -lN m / lN 10 = -lN (m / 10) := by
  apply Int64.toInt_inj.mp
  rw [Int64.toInt_div_of_ne_right _ _ (by decide), lN_ngT h, lN_ngT (by omega), lN_toInt (by omega), Int.neg_tdiv]
  rfl
theorem lrm_n {m : Nat} (h : m < 2 ^ 62) : lrm (-lN m) (lN 10) = -lN (m % 10) := by
  unfold lrm
  rw [ngd_l h, Int64.neg_mul, lN_mul, Int64.sub_eq_add_neg, Int64.neg_neg]
  have e : lN m = lN (m / 10 * 10) + lN (m % 10) := by rw [lN_add, show m / 10 * 10 + m % 10 = m by omega]
  rw [e, Int64.neg_add, Int64.sub_eq_add_neg, Int64.add_comm (-lN (m / 10 * 10)), Int64.add_assoc, Int64.add_left_neg, Int64.add_zero]
theorem lrm_p {m : Nat} (h : m < 2 ^ 62) : lrm (lN m) (lN 10) = lN (m % 10) := pk_lRem (by omega) (by omega) (by omega)
/-- the first from A on that ends in d -/
def rst (A d : Nat) : Nat := A + (d + 10 - A % 10) % 10
theorem rst_l {A d : Nat} (hd : d < 10) (hA : A < 2 ^ 40) : lN A + lrm (lrm (lN d - lN A) (lN 10) + lN 10) (lN 10) = lN (rst A d) := by
  unfold rst
  by_cases h : A ≤ d
  · rw [lN_sub h, lrm_p (by omega), lN_add, lrm_p (by omega), lN_add]
    congr 1
    omega
  · rw [lN_neg (by omega), lrm_n (by omega), Int64.add_comm (-lN _), ← Int64.sub_eq_add_neg, lN_sub (by omega), lrm_p (by omega), lN_add]
    congr 1
    omega
theorem rst_sp {A d : Nat} (hd : d < 10) : A ≤ rst A d ∧ rst A d < A + 10 ∧ rst A d % 10 = d := by
  unfold rst
  omega
theorem rst_of {A r : Nat} (h1 : A ≤ r) (h2 : r < A + 10) : rst A (r % 10) = r := by
  unfold rst
  omega
theorem rst_le {A d r : Nat} (hd : d < 10) (h1 : A ≤ r) (h2 : r % 10 = d) : rst A d ≤ r := by
  unfold rst
  omega
/-- how many below x end in d -/
def eb (x d : Nat) : Nat := if x ≤ d then 0 else (x - 1 - d) / 10 + 1
theorem ending_l {x d : Nat} (hx : x < 2 ^ 40) (hd : d < 10) : fX11_endingBelow (lN x) (nI d) = lN (eb x d) := by
  unfold fX11_endingBelow eb
  have l1 : (1 : Int64) = lN 1 := by decide
  have l0 : (0 : Int64) = lN 0 := by decide
  rw [nI_l (show d < 2 ^ 31 by omega)]
  by_cases h : x ≤ d
  · rw [if_pos h, if_neg (show ¬ (0 : Int32) < lg_cmp (lN x) (lN d) from of_eq_false (c_ggtF (by omega) (by omega)))]
    rfl
  · rw [if_neg h, if_pos (show (0 : Int32) < lg_cmp (lN x) (lN d) from of_eq_true (c_ggtT (by omega) (by omega)))]
    rw [l1, L_10, lN_sub (by omega), lN_sub (by omega), pk_lDiv (by omega) (by omega) (by omega), lN_add]
theorem eb_l {A B o : Nat} (hA : 1 ≤ A) (hAB : A ≤ B + 1) (ho : o < 10) : eb (B + 1) ((A + o) % 10) - eb A ((A + o) % 10) = if A + o ≤ B then (B - (A + o)) / 10 + 1 else 0 := by
  unfold eb
  split <;> split <;> split <;> omega
theorem eb_m {A B d : Nat} (hAB : A ≤ B + 1) : eb A d ≤ eb (B + 1) d := by
  unfold eb
  split <;> split <;> omega
theorem rot_l (g : Nat → Nat) (A : Nat) : sumN (fun o => g ((A + o) % 10)) 10 = sumN g 10 := by
  show 0 + g ((A + 0) % 10) + g ((A + 1) % 10) + g ((A + 2) % 10) + g ((A + 3) % 10) + g ((A + 4) % 10) + g ((A + 5) % 10) + g ((A + 6) % 10) + g ((A + 7) % 10) + g ((A + 8) % 10) + g ((A + 9) % 10) = 0 + g 0 + g 1 + g 2 + g 3 + g 4 + g 5 + g 6 + g 7 + g 8 + g 9
  rcases (show A % 10 = 0 ∨ A % 10 = 1 ∨ A % 10 = 2 ∨ A % 10 = 3 ∨ A % 10 = 4 ∨ A % 10 = 5 ∨ A % 10 = 6 ∨ A % 10 = 7 ∨ A % 10 = 8 ∨ A % 10 = 9 by omega) with h | h | h | h | h | h | h | h | h | h
  · have e0 : (A + 0) % 10 = 0 := by omega
    have e1 : (A + 1) % 10 = 1 := by omega
    have e2 : (A + 2) % 10 = 2 := by omega
    have e3 : (A + 3) % 10 = 3 := by omega
    have e4 : (A + 4) % 10 = 4 := by omega
    have e5 : (A + 5) % 10 = 5 := by omega
    have e6 : (A + 6) % 10 = 6 := by omega
    have e7 : (A + 7) % 10 = 7 := by omega
    have e8 : (A + 8) % 10 = 8 := by omega
    have e9 : (A + 9) % 10 = 9 := by omega
    rw [e0, e1, e2, e3, e4, e5, e6, e7, e8, e9]
  · have e0 : (A + 0) % 10 = 1 := by omega
    have e1 : (A + 1) % 10 = 2 := by omega
    have e2 : (A + 2) % 10 = 3 := by omega
    have e3 : (A + 3) % 10 = 4 := by omega
    have e4 : (A + 4) % 10 = 5 := by omega
    have e5 : (A + 5) % 10 = 6 := by omega
    have e6 : (A + 6) % 10 = 7 := by omega
    have e7 : (A + 7) % 10 = 8 := by omega
    have e8 : (A + 8) % 10 = 9 := by omega
    have e9 : (A + 9) % 10 = 0 := by omega
    rw [e0, e1, e2, e3, e4, e5, e6, e7, e8, e9]
    omega
  · have e0 : (A + 0) % 10 = 2 := by omega
    have e1 : (A + 1) % 10 = 3 := by omega
    have e2 : (A + 2) % 10 = 4 := by omega
    have e3 : (A + 3) % 10 = 5 := by omega
    have e4 : (A + 4) % 10 = 6 := by omega
    have e5 : (A + 5) % 10 = 7 := by omega
    have e6 : (A + 6) % 10 = 8 := by omega
    have e7 : (A + 7) % 10 = 9 := by omega
    have e8 : (A + 8) % 10 = 0 := by omega
    have e9 : (A + 9) % 10 = 1 := by omega
    rw [e0, e1, e2, e3, e4, e5, e6, e7, e8, e9]
    omega
  · have e0 : (A + 0) % 10 = 3 := by omega
    have e1 : (A + 1) % 10 = 4 := by omega
    have e2 : (A + 2) % 10 = 5 := by omega
    have e3 : (A + 3) % 10 = 6 := by omega
    have e4 : (A + 4) % 10 = 7 := by omega
    have e5 : (A + 5) % 10 = 8 := by omega
    have e6 : (A + 6) % 10 = 9 := by omega
    have e7 : (A + 7) % 10 = 0 := by omega
    have e8 : (A + 8) % 10 = 1 := by omega
    have e9 : (A + 9) % 10 = 2 := by omega
    rw [e0, e1, e2, e3, e4, e5, e6, e7, e8, e9]
    omega
  · have e0 : (A + 0) % 10 = 4 := by omega
    have e1 : (A + 1) % 10 = 5 := by omega
    have e2 : (A + 2) % 10 = 6 := by omega
    have e3 : (A + 3) % 10 = 7 := by omega
    have e4 : (A + 4) % 10 = 8 := by omega
    have e5 : (A + 5) % 10 = 9 := by omega
    have e6 : (A + 6) % 10 = 0 := by omega
    have e7 : (A + 7) % 10 = 1 := by omega
    have e8 : (A + 8) % 10 = 2 := by omega
    have e9 : (A + 9) % 10 = 3 := by omega
    rw [e0, e1, e2, e3, e4, e5, e6, e7, e8, e9]
    omega
  · have e0 : (A + 0) % 10 = 5 := by omega
    have e1 : (A + 1) % 10 = 6 := by omega
    have e2 : (A + 2) % 10 = 7 := by omega
    have e3 : (A + 3) % 10 = 8 := by omega
    have e4 : (A + 4) % 10 = 9 := by omega
    have e5 : (A + 5) % 10 = 0 := by omega
    have e6 : (A + 6) % 10 = 1 := by omega
    have e7 : (A + 7) % 10 = 2 := by omega
    have e8 : (A + 8) % 10 = 3 := by omega
    have e9 : (A + 9) % 10 = 4 := by omega
    rw [e0, e1, e2, e3, e4, e5, e6, e7, e8, e9]
    omega
  · have e0 : (A + 0) % 10 = 6 := by omega
    have e1 : (A + 1) % 10 = 7 := by omega
    have e2 : (A + 2) % 10 = 8 := by omega
    have e3 : (A + 3) % 10 = 9 := by omega
    have e4 : (A + 4) % 10 = 0 := by omega
    have e5 : (A + 5) % 10 = 1 := by omega
    have e6 : (A + 6) % 10 = 2 := by omega
    have e7 : (A + 7) % 10 = 3 := by omega
    have e8 : (A + 8) % 10 = 4 := by omega
    have e9 : (A + 9) % 10 = 5 := by omega
    rw [e0, e1, e2, e3, e4, e5, e6, e7, e8, e9]
    omega
  · have e0 : (A + 0) % 10 = 7 := by omega
    have e1 : (A + 1) % 10 = 8 := by omega
    have e2 : (A + 2) % 10 = 9 := by omega
    have e3 : (A + 3) % 10 = 0 := by omega
    have e4 : (A + 4) % 10 = 1 := by omega
    have e5 : (A + 5) % 10 = 2 := by omega
    have e6 : (A + 6) % 10 = 3 := by omega
    have e7 : (A + 7) % 10 = 4 := by omega
    have e8 : (A + 8) % 10 = 5 := by omega
    have e9 : (A + 9) % 10 = 6 := by omega
    rw [e0, e1, e2, e3, e4, e5, e6, e7, e8, e9]
    omega
  · have e0 : (A + 0) % 10 = 8 := by omega
    have e1 : (A + 1) % 10 = 9 := by omega
    have e2 : (A + 2) % 10 = 0 := by omega
    have e3 : (A + 3) % 10 = 1 := by omega
    have e4 : (A + 4) % 10 = 2 := by omega
    have e5 : (A + 5) % 10 = 3 := by omega
    have e6 : (A + 6) % 10 = 4 := by omega
    have e7 : (A + 7) % 10 = 5 := by omega
    have e8 : (A + 8) % 10 = 6 := by omega
    have e9 : (A + 9) % 10 = 7 := by omega
    rw [e0, e1, e2, e3, e4, e5, e6, e7, e8, e9]
    omega
  · have e0 : (A + 0) % 10 = 9 := by omega
    have e1 : (A + 1) % 10 = 0 := by omega
    have e2 : (A + 2) % 10 = 1 := by omega
    have e3 : (A + 3) % 10 = 2 := by omega
    have e4 : (A + 4) % 10 = 3 := by omega
    have e5 : (A + 5) % 10 = 4 := by omega
    have e6 : (A + 6) % 10 = 5 := by omega
    have e7 : (A + 7) % 10 = 6 := by omega
    have e8 : (A + 8) % 10 = 7 := by omega
    have e9 : (A + 9) % 10 = 8 := by omega
    rw [e0, e1, e2, e3, e4, e5, e6, e7, e8, e9]
    omega
theorem sumN_z {w : Nat → Nat} {k : Nat} : ∀ d, (∀ i, k ≤ i → i < k + d → w i = 0) → sumN w (k + d) = sumN w k := by
  intro d
  induction d with
  | zero => exact fun _ => rfl
  | succ d ih =>
    intro h
    show sumN w (k + d) + w (k + d) = _
    rw [ih (fun i h1 h2 => h i h1 (by omega)), h (k + d) (by omega) (by omega)]
    rfl
/-! last figures -/
def al (p N d : Nat) : Prop := d ^ p % 10 = N % 10
theorem ends_l {n p N r : Nat} (hn : 1000 ≤ n) (hp : isPw p) (hN : N ≤ 999999999999999999) (hr : r < 2 ^ 40) : (al p N (r % 10) ∧ fX6_endsAlike n (lN r) (nI p) (lN N) = some (nI 1)) ∨ (¬ al p N (r % 10) ∧ fX6_endsAlike n (lN r) (nI p) (lN N) = some (nI 0)) := by
  have hp1 : p < 1000 := by unfold isPw at hp; omega
  have h1 := raised_l (n := n) (r := r % 10) hn hp1
  have h2 := lrm_p (m := r) (by omega)
  have h3 := lrm_p (m := N) (by omega)
  have hb : (r % 10) ^ p ≤ 9 ^ 5 := Nat.le_trans (pw_mono (show r % 10 ≤ 9 by omega)) (Nat.pow_le_pow_right (by decide) (by unfold isPw at hp; omega))
  have h4 := lrm_p (m := (r % 10) ^ p) (by
    have : (9 : Nat) ^ 5 = 59049 := by decide
    omega)
  unfold fX6_endsAlike
  by_cases ha : al p N (r % 10)
  · left
    refine ⟨ha, ?_⟩
    have ha2 : (r % 10) ^ p % 10 = N % 10 := ha
    simp (disch := omega) only [L_10, ↓h2, h1, ↓h4, ↓h3, c_leqT, ↓lt_d, eq_self, lN_add, i_l, wTn, wFa, wFb, wCT, wCF, mNe, mNe2, mLt, mLe, bp_s, bn_s, n_clampS, nI_1, nI_add, pk_sub, nI_mul, wrI_at, wrI_2, wrL_at, wrL_1, true_and, false_and, and_true, and_false, and_self, ↓reduceIte, Nat.reduceEqDiff, Nat.reduceAdd, Nat.reduceMul, Nat.add_zero, Nat.zero_add, reduceCtorEq, l_0, l_1, l_2, l_3, l_4, l_5, l_6, l_7, l_8, l_9, l_10, l_15, l_24, l_32, l_39, l_40, l_47, l_48, l_50, l_57, l_60, l_63, l_80, l_95, l_99, l_100, l_120, l_126, l_128, l_1000, l_9999, l_10000, L_0, L_1, L_2, L_3, L_4, L_5, L_7, L_9, L_15, L_40, L_50, L_99, L_127, L_9999, c_ltT, c_ltF, c_leT, c_leF, c_eqT, c_eqF, n_leF, n_ltF, c_gltT, c_gltF, c_ggtT, c_ggtF, false_or, or_false, or_self, true_or, or_true]
  · right
    refine ⟨ha, ?_⟩
    have ha2 : (r % 10) ^ p % 10 ≠ N % 10 := ha
    simp (disch := omega) only [L_10, ↓h2, h1, ↓h4, ↓h3, c_leqF, ↓lt_d, eq_self, lN_add, i_l, wTn, wFa, wFb, wCT, wCF, mNe, mNe2, mLt, mLe, bp_s, bn_s, n_clampS, nI_1, nI_add, pk_sub, nI_mul, wrI_at, wrI_2, wrL_at, wrL_1, true_and, false_and, and_true, and_false, and_self, ↓reduceIte, Nat.reduceEqDiff, Nat.reduceAdd, Nat.reduceMul, Nat.add_zero, Nat.zero_add, reduceCtorEq, l_0, l_1, l_2, l_3, l_4, l_5, l_6, l_7, l_8, l_9, l_10, l_15, l_24, l_32, l_39, l_40, l_47, l_48, l_50, l_57, l_60, l_63, l_80, l_95, l_99, l_100, l_120, l_126, l_128, l_1000, l_9999, l_10000, L_0, L_1, L_2, L_3, L_4, L_5, L_7, L_9, L_15, L_40, L_50, L_99, L_127, L_9999, c_ltT, c_ltF, c_leT, c_leF, c_eqT, c_eqF, n_leF, n_ltF, c_gltT, c_gltF, c_ggtT, c_ggtF, false_or, or_false, or_self, true_or, or_true]
theorem last_h {n p r : Nat} (hp : p < 1000) (hr : r < 10) : ∀ d i fu, p - i = d → i ≤ p → d < fu → fX11_lastOf_h4 n fu (nI r) (nI p) (nI (r ^ i % 10)) (nI i) = some (nI (r ^ p % 10)) := by
  intro d
  induction d with
  | zero =>
    intro i fu hd hi hf
    obtain ⟨fu, rfl⟩ : ∃ f, fu = f + 1 := ⟨fu - 1, by omega⟩
    rw [fX11_lastOf_h4.eq_2]
    have : i = p := by omega
    subst this
    simp (disch := omega) only [↓lt_d, eq_self, lN_add, i_l, wTn, wFa, wFb, wCT, wCF, mNe, mNe2, mLt, mLe, bp_s, bn_s, n_clampS, nI_1, nI_add, pk_sub, nI_mul, wrI_at, wrI_2, wrL_at, wrL_1, true_and, false_and, and_true, and_false, and_self, ↓reduceIte, Nat.reduceEqDiff, Nat.reduceAdd, Nat.reduceMul, Nat.add_zero, Nat.zero_add, reduceCtorEq, l_0, l_1, l_2, l_3, l_4, l_5, l_6, l_7, l_8, l_9, l_10, l_15, l_24, l_32, l_39, l_40, l_47, l_48, l_50, l_57, l_60, l_63, l_80, l_95, l_99, l_100, l_120, l_126, l_128, l_1000, l_9999, l_10000, L_0, L_1, L_2, L_3, L_4, L_5, L_7, L_9, L_15, L_40, L_50, L_99, L_127, L_9999, c_ltT, c_ltF, c_leT, c_leF, c_eqT, c_eqF, n_leF, n_ltF, c_gltT, c_gltF, c_ggtT, c_ggtF, false_or, or_false, or_self, true_or, or_true]
  | succ d ih =>
    intro i fu hd hi hf
    obtain ⟨fu, rfl⟩ : ∃ f, fu = f + 1 := ⟨fu - 1, by omega⟩
    rw [fX11_lastOf_h4.eq_2]
    have e := ih (i + 1) fu (by omega) (by omega) (by omega)
    have hm : r ^ (i + 1) % 10 = r ^ i % 10 * r % 10 := by
      rw [Nat.pow_succ, Nat.mul_mod (r ^ i) r, Nat.mul_mod (r ^ i % 10) r, Nat.mod_mod]
    have hb : r ^ i % 10 * r ≤ 9 * 9 := Nat.mul_le_mul (by omega) (by omega)
    have hrm : irm (nI (r ^ i % 10 * r)) (nI 10) = nI (r ^ i % 10 * r % 10) := rm (by omega) (by omega) (by omega)
    rw [hm] at e
    simp (disch := omega) only [↓nI_mul, hrm, ↓lt_d, eq_self, lN_add, i_l, wTn, wFa, wFb, wCT, wCF, mNe, mNe2, mLt, mLe, bp_s, bn_s, n_clampS, nI_1, nI_add, pk_sub, nI_mul, wrI_at, wrI_2, wrL_at, wrL_1, true_and, false_and, and_true, and_false, and_self, ↓reduceIte, Nat.reduceEqDiff, Nat.reduceAdd, Nat.reduceMul, Nat.add_zero, Nat.zero_add, reduceCtorEq, l_0, l_1, l_2, l_3, l_4, l_5, l_6, l_7, l_8, l_9, l_10, l_15, l_24, l_32, l_39, l_40, l_47, l_48, l_50, l_57, l_60, l_63, l_80, l_95, l_99, l_100, l_120, l_126, l_128, l_1000, l_9999, l_10000, L_0, L_1, L_2, L_3, L_4, L_5, L_7, L_9, L_15, L_40, L_50, L_99, L_127, L_9999, c_ltT, c_ltF, c_leT, c_leF, c_eqT, c_eqF, n_leF, n_ltF, c_gltT, c_gltF, c_ggtT, c_ggtF, false_or, or_false, or_self, true_or, or_true]
    exact e
theorem lastOf_l {n p r : Nat} (hn : 1000 ≤ n) (hp : isPw p) (hr : r < 10) : fX11_lastOf n (nI r) (nI p) = some (nI (r ^ p % 10)) := by
  have hp1 : p < 1000 := by unfold isPw at hp; omega
  have e := last_h (n := n) hp1 hr p 0 n (by omega) (by omega) (by omega)
  rw [Nat.pow_zero] at e
  unfold fX11_lastOf
  rw [l_1, l_0]
  exact e
/-- what each of ten roots tells -/
def tel (p N A B : Nat) : Nat → Nat := fun d => if d ^ p % 10 = N % 10 then eb (B + 1) d - eb A d else 0
theorem many_c {n p N A B : Nat} (hn : 1000 ≤ n) (hp : isPw p) (hN : N ≤ 999999999999999999) (hA : 1 ≤ A) (hAB : A ≤ B + 1) (hB : B < 2 ^ 31) : ∀ d o fu, 10 - o = d → o ≤ 10 → d < fu → fX6_howMany_h23 n fu (lN N) (nI p) (lN A) (lN B) (lN (sumN (fun o => tel p N A B ((A + o) % 10)) o)) (lN (A + o)) = some (lN (sumN (tel p N A B) 10)) := by
  rw [← rot_l (tel p N A B) A]
  have hl1 : (1 : Int64) = lN 1 := by decide
  intro d
  induction d with
  | zero =>
    intro o fu hd ho hf
    obtain ⟨fu, rfl⟩ : ∃ f, fu = f + 1 := ⟨fu - 1, by omega⟩
    have ho10 : o = 10 := by omega
    subst ho10
    rw [fX6_howMany_h23.eq_2]
    simp (disch := omega) only [L_10, c_geT, ↓lt_d, eq_self, lN_add, i_l, wTn, wFa, wFb, wCT, wCF, mNe, mNe2, mLt, mLe, bp_s, bn_s, n_clampS, nI_1, nI_add, pk_sub, nI_mul, wrI_at, wrI_2, wrL_at, wrL_1, true_and, false_and, and_true, and_false, and_self, ↓reduceIte, Nat.reduceEqDiff, Nat.reduceAdd, Nat.reduceMul, Nat.add_zero, Nat.zero_add, reduceCtorEq, l_0, l_1, l_2, l_3, l_4, l_5, l_6, l_7, l_8, l_9, l_10, l_15, l_24, l_32, l_39, l_40, l_47, l_48, l_50, l_57, l_60, l_63, l_80, l_95, l_99, l_100, l_120, l_126, l_128, l_1000, l_9999, l_10000, L_0, L_1, L_2, L_3, L_4, L_5, L_7, L_9, L_15, L_40, L_50, L_99, L_127, L_9999, c_ltT, c_ltF, c_leT, c_leF, c_eqT, c_eqF, n_leF, n_ltF, c_gltT, c_gltF, c_ggtT, c_ggtF, false_or, or_false, or_self, true_or, or_true]
  | succ d ih =>
    intro o fu hd ho hf
    obtain ⟨fu, rfl⟩ : ∃ f, fu = f + 1 := ⟨fu - 1, by omega⟩
    rw [fX6_howMany_h23.eq_2]
    unfold fX6_howMany_b69
    have he := eb_l (o := o) hA hAB (by omega)
    have hs : sumN (fun o => tel p N A B ((A + o) % 10)) (o + 1) = sumN (fun o => tel p N A B ((A + o) % 10)) o + tel p N A B ((A + o) % 10) := rfl
    by_cases hr : B < A + o
    · have hz : sumN (fun o => tel p N A B ((A + o) % 10)) 10 = sumN (fun o => tel p N A B ((A + o) % 10)) o := by
        have := sumN_z (w := fun o => tel p N A B ((A + o) % 10)) (k := o) (10 - o) (fun i h1 h2 => by
          have h3 := eb_l (o := i) hA hAB (by omega)
          rw [if_neg (by omega)] at h3
          show (if ((A + i) % 10) ^ p % 10 = N % 10 then eb (B + 1) ((A + i) % 10) - eb A ((A + i) % 10) else 0) = 0
          rw [h3]
          split <;> rfl)
        rw [show o + (10 - o) = 10 by omega] at this
        exact this
      rw [hz]
      simp (disch := omega) only [L_10, c_geF, ↓lt_d, eq_self, lN_add, i_l, wTn, wFa, wFb, wCT, wCF, mNe, mNe2, mLt, mLe, bp_s, bn_s, n_clampS, nI_1, nI_add, pk_sub, nI_mul, wrI_at, wrI_2, wrL_at, wrL_1, true_and, false_and, and_true, and_false, and_self, ↓reduceIte, Nat.reduceEqDiff, Nat.reduceAdd, Nat.reduceMul, Nat.add_zero, Nat.zero_add, reduceCtorEq, l_0, l_1, l_2, l_3, l_4, l_5, l_6, l_7, l_8, l_9, l_10, l_15, l_24, l_32, l_39, l_40, l_47, l_48, l_50, l_57, l_60, l_63, l_80, l_95, l_99, l_100, l_120, l_126, l_128, l_1000, l_9999, l_10000, L_0, L_1, L_2, L_3, L_4, L_5, L_7, L_9, L_15, L_40, L_50, L_99, L_127, L_9999, c_ltT, c_ltF, c_leT, c_leF, c_eqT, c_eqF, n_leF, n_ltF, c_gltT, c_gltF, c_ggtT, c_ggtF, false_or, or_false, or_self, true_or, or_true]
    · rw [if_pos (by omega)] at he
      have e := ih (o + 1) fu (by omega) (by omega) (by omega)
      rw [hs] at e
      have hdv : lN (B - (A + o)) / lN 10 = lN ((B - (A + o)) / 10) := pk_lDiv (by omega) (by omega) (by omega)
      rcases ends_l (n := n) hn hp hN (show A + o < 2 ^ 40 by omega) with ⟨h1, h2⟩ | ⟨h1, h2⟩
      · have ht : tel p N A B ((A + o) % 10) = (B - (A + o)) / 10 + 1 := by
          unfold tel
          rw [if_pos (show ((A + o) % 10) ^ p % 10 = N % 10 from h1), he]
        rw [ht] at e
        simp (disch := omega) only [L_10, c_geF, h2, lN_sub, ↓hdv, hl1, ↓lt_d, eq_self, lN_add, i_l, wTn, wFa, wFb, wCT, wCF, mNe, mNe2, mLt, mLe, bp_s, bn_s, n_clampS, nI_1, nI_add, pk_sub, nI_mul, wrI_at, wrI_2, wrL_at, wrL_1, true_and, false_and, and_true, and_false, and_self, ↓reduceIte, Nat.reduceEqDiff, Nat.reduceAdd, Nat.reduceMul, Nat.add_zero, Nat.zero_add, reduceCtorEq, l_0, l_1, l_2, l_3, l_4, l_5, l_6, l_7, l_8, l_9, l_10, l_15, l_24, l_32, l_39, l_40, l_47, l_48, l_50, l_57, l_60, l_63, l_80, l_95, l_99, l_100, l_120, l_126, l_128, l_1000, l_9999, l_10000, L_0, L_1, L_2, L_3, L_4, L_5, L_7, L_9, L_15, L_40, L_50, L_99, L_127, L_9999, c_ltT, c_ltF, c_leT, c_leF, c_eqT, c_eqF, n_leF, n_ltF, c_gltT, c_gltF, c_ggtT, c_ggtF, false_or, or_false, or_self, true_or, or_true]
        exact e
      · have ht : tel p N A B ((A + o) % 10) = 0 := if_neg h1
        rw [ht, Nat.add_zero] at e
        simp (disch := omega) only [L_10, c_geF, h2, hl1, ↓lt_d, eq_self, lN_add, i_l, wTn, wFa, wFb, wCT, wCF, mNe, mNe2, mLt, mLe, bp_s, bn_s, n_clampS, nI_1, nI_add, pk_sub, nI_mul, wrI_at, wrI_2, wrL_at, wrL_1, true_and, false_and, and_true, and_false, and_self, ↓reduceIte, Nat.reduceEqDiff, Nat.reduceAdd, Nat.reduceMul, Nat.add_zero, Nat.zero_add, reduceCtorEq, l_0, l_1, l_2, l_3, l_4, l_5, l_6, l_7, l_8, l_9, l_10, l_15, l_24, l_32, l_39, l_40, l_47, l_48, l_50, l_57, l_60, l_63, l_80, l_95, l_99, l_100, l_120, l_126, l_128, l_1000, l_9999, l_10000, L_0, L_1, L_2, L_3, L_4, L_5, L_7, L_9, L_15, L_40, L_50, L_99, L_127, L_9999, c_ltT, c_ltF, c_leT, c_leF, c_eqT, c_eqF, n_leF, n_ltF, c_gltT, c_gltF, c_ggtT, c_ggtF, false_or, or_false, or_self, true_or, or_true]
        exact e
theorem least_c {n p N A B : Nat} (hn : 1000 ≤ n) (hp : isPw p) (hN : N ≤ 999999999999999999) (hB : B < 2 ^ 31) (hAB : A ≤ B + 1) : ∀ d o fu, 10 - o = d → o ≤ 10 → d < fu → (∀ k, A ≤ k → k < A + o → ¬ al p N (k % 10)) → (fX6_least_h20 n fu (lN N) (nI p) (lN A) (lN B) (lN (A + o)) = some (lN 0) ∧ ∀ k, A ≤ k → k < A + 10 → k ≤ B → ¬ al p N (k % 10)) ∨ ∃ c, A ≤ c ∧ c < A + 10 ∧ c ≤ B ∧ al p N (c % 10) ∧ (∀ k, A ≤ k → k < c → ¬ al p N (k % 10)) ∧ fX6_least_h20 n fu (lN N) (nI p) (lN A) (lN B) (lN (A + o)) = some (lN c) := by
  have hl1 : (1 : Int64) = lN 1 := by decide
  have hl0 : (0 : Int64) = lN 0 := by decide
  intro d
  induction d with
  | zero =>
    intro o fu hd ho hf hk
    obtain ⟨fu, rfl⟩ : ∃ f, fu = f + 1 := ⟨fu - 1, by omega⟩
    have ho10 : o = 10 := by omega
    subst ho10
    refine Or.inl ⟨?_, fun k h1 h2 _ => hk k h1 h2⟩
    rw [fX6_least_h20.eq_2]
    simp (disch := omega) only [L_10, c_geT, hl0, ↓lt_d, eq_self, lN_add, i_l, wTn, wFa, wFb, wCT, wCF, mNe, mNe2, mLt, mLe, bp_s, bn_s, n_clampS, nI_1, nI_add, pk_sub, nI_mul, wrI_at, wrI_2, wrL_at, wrL_1, true_and, false_and, and_true, and_false, and_self, ↓reduceIte, Nat.reduceEqDiff, Nat.reduceAdd, Nat.reduceMul, Nat.add_zero, Nat.zero_add, reduceCtorEq, l_0, l_1, l_2, l_3, l_4, l_5, l_6, l_7, l_8, l_9, l_10, l_15, l_24, l_32, l_39, l_40, l_47, l_48, l_50, l_57, l_60, l_63, l_80, l_95, l_99, l_100, l_120, l_126, l_128, l_1000, l_9999, l_10000, L_0, L_1, L_2, L_3, L_4, L_5, L_7, L_9, L_15, L_40, L_50, L_99, L_127, L_9999, c_ltT, c_ltF, c_leT, c_leF, c_eqT, c_eqF, n_leF, n_ltF, c_gltT, c_gltF, c_ggtT, c_ggtF, false_or, or_false, or_self, true_or, or_true]
  | succ d ih =>
    intro o fu hd ho hf hk
    obtain ⟨fu, rfl⟩ : ∃ f, fu = f + 1 := ⟨fu - 1, by omega⟩
    rw [fX6_least_h20.eq_2]
    by_cases hr : B < A + o
    · refine Or.inl ⟨?_, fun k h1 h2 h3 => hk k h1 (by omega)⟩
      simp (disch := omega) only [L_10, c_geF, hl0, ↓lt_d, eq_self, lN_add, i_l, wTn, wFa, wFb, wCT, wCF, mNe, mNe2, mLt, mLe, bp_s, bn_s, n_clampS, nI_1, nI_add, pk_sub, nI_mul, wrI_at, wrI_2, wrL_at, wrL_1, true_and, false_and, and_true, and_false, and_self, ↓reduceIte, Nat.reduceEqDiff, Nat.reduceAdd, Nat.reduceMul, Nat.add_zero, Nat.zero_add, reduceCtorEq, l_0, l_1, l_2, l_3, l_4, l_5, l_6, l_7, l_8, l_9, l_10, l_15, l_24, l_32, l_39, l_40, l_47, l_48, l_50, l_57, l_60, l_63, l_80, l_95, l_99, l_100, l_120, l_126, l_128, l_1000, l_9999, l_10000, L_0, L_1, L_2, L_3, L_4, L_5, L_7, L_9, L_15, L_40, L_50, L_99, L_127, L_9999, c_ltT, c_ltF, c_leT, c_leF, c_eqT, c_eqF, n_leF, n_ltF, c_gltT, c_gltF, c_ggtT, c_ggtF, false_or, or_false, or_self, true_or, or_true]
    · rcases ends_l (n := n) hn hp hN (show A + o < 2 ^ 40 by omega) with ⟨h1, h2⟩ | ⟨h1, h2⟩
      · refine Or.inr ⟨A + o, by omega, by omega, by omega, h1, hk, ?_⟩
        simp (disch := omega) only [L_10, c_geF, h2, ↓lt_d, eq_self, lN_add, i_l, wTn, wFa, wFb, wCT, wCF, mNe, mNe2, mLt, mLe, bp_s, bn_s, n_clampS, nI_1, nI_add, pk_sub, nI_mul, wrI_at, wrI_2, wrL_at, wrL_1, true_and, false_and, and_true, and_false, and_self, ↓reduceIte, Nat.reduceEqDiff, Nat.reduceAdd, Nat.reduceMul, Nat.add_zero, Nat.zero_add, reduceCtorEq, l_0, l_1, l_2, l_3, l_4, l_5, l_6, l_7, l_8, l_9, l_10, l_15, l_24, l_32, l_39, l_40, l_47, l_48, l_50, l_57, l_60, l_63, l_80, l_95, l_99, l_100, l_120, l_126, l_128, l_1000, l_9999, l_10000, L_0, L_1, L_2, L_3, L_4, L_5, L_7, L_9, L_15, L_40, L_50, L_99, L_127, L_9999, c_ltT, c_ltF, c_leT, c_leF, c_eqT, c_eqF, n_leF, n_ltF, c_gltT, c_gltF, c_ggtT, c_ggtF, false_or, or_false, or_self, true_or, or_true]
      · rcases ih (o + 1) fu (by omega) (by omega) (by omega) (fun k h3 h4 => by
          by_cases hko : k = A + o
          · subst hko
            exact h1
          · exact hk k h3 (by omega)) with ⟨e1, e2⟩ | ⟨c, e1, e2, e3, e4, e5, e6⟩
        · refine Or.inl ⟨?_, e2⟩
          simp (disch := omega) only [L_10, c_geF, h2, hl1, ↓lt_d, eq_self, lN_add, i_l, wTn, wFa, wFb, wCT, wCF, mNe, mNe2, mLt, mLe, bp_s, bn_s, n_clampS, nI_1, nI_add, pk_sub, nI_mul, wrI_at, wrI_2, wrL_at, wrL_1, true_and, false_and, and_true, and_false, and_self, ↓reduceIte, Nat.reduceEqDiff, Nat.reduceAdd, Nat.reduceMul, Nat.add_zero, Nat.zero_add, reduceCtorEq, l_0, l_1, l_2, l_3, l_4, l_5, l_6, l_7, l_8, l_9, l_10, l_15, l_24, l_32, l_39, l_40, l_47, l_48, l_50, l_57, l_60, l_63, l_80, l_95, l_99, l_100, l_120, l_126, l_128, l_1000, l_9999, l_10000, L_0, L_1, L_2, L_3, L_4, L_5, L_7, L_9, L_15, L_40, L_50, L_99, L_127, L_9999, c_ltT, c_ltF, c_leT, c_leF, c_eqT, c_eqF, n_leF, n_ltF, c_gltT, c_gltF, c_ggtT, c_ggtF, false_or, or_false, or_self, true_or, or_true]
          exact e1
        · refine Or.inr ⟨c, e1, e2, e3, e4, e5, ?_⟩
          simp (disch := omega) only [L_10, c_geF, h2, hl1, ↓lt_d, eq_self, lN_add, i_l, wTn, wFa, wFb, wCT, wCF, mNe, mNe2, mLt, mLe, bp_s, bn_s, n_clampS, nI_1, nI_add, pk_sub, nI_mul, wrI_at, wrI_2, wrL_at, wrL_1, true_and, false_and, and_true, and_false, and_self, ↓reduceIte, Nat.reduceEqDiff, Nat.reduceAdd, Nat.reduceMul, Nat.add_zero, Nat.zero_add, reduceCtorEq, l_0, l_1, l_2, l_3, l_4, l_5, l_6, l_7, l_8, l_9, l_10, l_15, l_24, l_32, l_39, l_40, l_47, l_48, l_50, l_57, l_60, l_63, l_80, l_95, l_99, l_100, l_120, l_126, l_128, l_1000, l_9999, l_10000, L_0, L_1, L_2, L_3, L_4, L_5, L_7, L_9, L_15, L_40, L_50, L_99, L_127, L_9999, c_ltT, c_ltF, c_leT, c_leF, c_eqT, c_eqF, n_leF, n_ltF, c_gltT, c_gltF, c_ggtT, c_ggtF, false_or, or_false, or_self, true_or, or_true]
          exact e6
/-- the reference's least so far -/
def Lfi (p N A B L lf : Nat) : Prop := (lf = 0 ∧ ∀ d, d < L → al p N d → B < rst A d) ∨ (1 ≤ lf ∧ lf < 2 ^ 40 ∧ (∃ d, d < L ∧ al p N d ∧ lf = rst A d ∧ rst A d ≤ B) ∧ ∀ d, d < L → al p N d → rst A d ≤ B → lf ≤ rst A d)
theorem many_r {n p N A B : Nat} (hn : 1000 ≤ n) (hp : isPw p) (hA : 1 ≤ A) (hAB : A ≤ B + 1) (hB : B < 2 ^ 31) : ∀ d L fu lf (R : Mm), 10 - L = d → L ≤ 10 → d < fu → R.2 72 44 = lN lf → Lfi p N A B L lf → ∃ lf' R', fX11_manyFirsts_h131 n fu (nI p) (lN A) (lN (B + 1)) (nI (N % 10)) (lN (sumN (tel p N A B) L)) (nI L) R = some (lN (sumN (tel p N A B) 10), R') ∧ R'.2 72 44 = lN lf' ∧ Lfi p N A B 10 lf' ∧ R'.1 = R.1 ∧ ∀ q i, ¬ (q = 72 ∧ i = 44) → R'.2 q i = R.2 q i := by
  have hl0 : (0 : Int64) = lN 0 := by decide
  intro d
  induction d with
  | zero =>
    intro L fu lf R hd hL hf h44 hi
    obtain ⟨fu, rfl⟩ : ∃ f, fu = f + 1 := ⟨fu - 1, by omega⟩
    have hL10 : L = 10 := by omega
    subst hL10
    refine ⟨lf, R, ?_, h44, hi, rfl, fun _ _ _ => rfl⟩
    rw [fX11_manyFirsts_h131.eq_2]
    simp (disch := omega) only [↓lt_d, eq_self, lN_add, i_l, wTn, wFa, wFb, wCT, wCF, mNe, mNe2, mLt, mLe, bp_s, bn_s, n_clampS, nI_1, nI_add, pk_sub, nI_mul, wrI_at, wrI_2, wrL_at, wrL_1, true_and, false_and, and_true, and_false, and_self, ↓reduceIte, Nat.reduceEqDiff, Nat.reduceAdd, Nat.reduceMul, Nat.add_zero, Nat.zero_add, reduceCtorEq, l_0, l_1, l_2, l_3, l_4, l_5, l_6, l_7, l_8, l_9, l_10, l_15, l_24, l_32, l_39, l_40, l_47, l_48, l_50, l_57, l_60, l_63, l_80, l_95, l_99, l_100, l_120, l_126, l_128, l_1000, l_9999, l_10000, L_0, L_1, L_2, L_3, L_4, L_5, L_7, L_9, L_15, L_40, L_50, L_99, L_127, L_9999, c_ltT, c_ltF, c_leT, c_leF, c_eqT, c_eqF, n_leF, n_ltF, c_gltT, c_gltF, c_ggtT, c_ggtF, false_or, or_false, or_self, true_or, or_true]
  | succ d ih =>
    intro L fu lf R hd hL hf h44 hi
    obtain ⟨fu, rfl⟩ : ∃ f, fu = f + 1 := ⟨fu - 1, by omega⟩
    rw [fX11_manyFirsts_h131.eq_2]
    unfold fX11_manyFirsts_b222 fX11_manyFirsts_b228
    have hla := lastOf_l (n := n) hn hp (show L < 10 by omega)
    have he1 := ending_l (x := B + 1) (d := L) (by omega) (by omega)
    have he2 := ending_l (x := A) (d := L) (by omega) (by omega)
    have hem := eb_m (A := A) (B := B) (d := L) hAB
    have hrs := rst_l (A := A) (d := L) (by omega) (by omega)
    obtain ⟨r1, r2, r3⟩ := rst_sp (A := A) (d := L) (by omega)
    have hs : sumN (tel p N A B) (L + 1) = sumN (tel p N A B) L + tel p N A B L := rfl
    have hsub : lN (eb (B + 1) L) - lN (eb A L) = lN (eb (B + 1) L - eb A L) := lN_sub hem
    by_cases ha : L ^ p % 10 = N % 10
    · have ht : tel p N A B L = eb (B + 1) L - eb A L := if_pos ha
      rw [ht] at hs
      have hc : (nI (L ^ p % 10) = nI (N % 10)) = True := eq_true (by rw [ha])
      by_cases hB2 : B + 1 ≤ rst A L
      · obtain ⟨lf', R', u1, u2⟩ := ih (L + 1) fu lf R (by omega) (by omega) (by omega) h44 (by
          rcases hi with ⟨h1, h2⟩ | ⟨h1, h1b, ⟨d0, h2, h3, h4⟩, h5⟩
          · refine Or.inl ⟨h1, fun d hd ha' => ?_⟩
            by_cases hdL : d = L
            · subst hdL
              omega
            · exact h2 d (by omega) ha'
          · refine Or.inr ⟨h1, h1b, ⟨d0, by omega, h3, h4⟩, fun d hd ha' hle => ?_⟩
            by_cases hdL : d = L
            · subst hdL
              omega
            · exact h5 d (by omega) ha' hle)
        refine ⟨lf', R', ?_, u2⟩
        rw [hs] at u1
        simp (disch := omega) only [hla, hc, L_10, ↓he1, ↓he2, ↓hsub, ↓hrs, c_geT, ↓lt_d, eq_self, lN_add, i_l, wTn, wFa, wFb, wCT, wCF, mNe, mNe2, mLt, mLe, bp_s, bn_s, n_clampS, nI_1, nI_add, pk_sub, nI_mul, wrI_at, wrI_2, wrL_at, wrL_1, true_and, false_and, and_true, and_false, and_self, ↓reduceIte, Nat.reduceEqDiff, Nat.reduceAdd, Nat.reduceMul, Nat.add_zero, Nat.zero_add, reduceCtorEq, l_0, l_1, l_2, l_3, l_4, l_5, l_6, l_7, l_8, l_9, l_10, l_15, l_24, l_32, l_39, l_40, l_47, l_48, l_50, l_57, l_60, l_63, l_80, l_95, l_99, l_100, l_120, l_126, l_128, l_1000, l_9999, l_10000, L_0, L_1, L_2, L_3, L_4, L_5, L_7, L_9, L_15, L_40, L_50, L_99, L_127, L_9999, c_ltT, c_ltF, c_leT, c_leF, c_eqT, c_eqF, n_leF, n_ltF, c_gltT, c_gltF, c_ggtT, c_ggtF, false_or, or_false, or_self, true_or, or_true]
        exact u1
      · have hset : ∀ (g : lf = 0 ∨ rst A L < lf), ∃ lf' R', fX11_manyFirsts_h131 n fu (nI p) (lN A) (lN (B + 1)) (nI (N % 10)) (lN (sumN (tel p N A B) (L + 1))) (nI (L + 1)) (wrL R 72 44 (lN (rst A L))) = some (lN (sumN (tel p N A B) 10), R') ∧ R'.2 72 44 = lN lf' ∧ Lfi p N A B 10 lf' ∧ R'.1 = R.1 ∧ ∀ q i, ¬ (q = 72 ∧ i = 44) → R'.2 q i = R.2 q i := by
          intro g
          obtain ⟨lf', R', u1, u2, u3, u4, u5⟩ := ih (L + 1) fu (rst A L) (wrL R 72 44 (lN (rst A L))) (by omega) (by omega) (by omega) (by rw [wrL_at, if_pos ⟨rfl, rfl⟩]) (Or.inr ⟨by omega, by omega, ⟨L, by omega, ha, rfl, by omega⟩, fun d hd ha' hle => by
            by_cases hdL : d = L
            · subst hdL
              omega
            · rcases hi with ⟨h1, h2⟩ | ⟨h1, h1b, -, h5⟩
              · have := h2 d (by omega) ha'
                omega
              · have := h5 d (by omega) ha' hle
                omega⟩)
          refine ⟨lf', R', u1, u2, u3, u4, fun q i hq => ?_⟩
          rw [u5 q i hq, wrL_at, if_neg hq]
        rcases hi with ⟨h1, h2⟩ | ⟨h1, h1b, ⟨d0, h2, h3, h4⟩, h5⟩
        · obtain ⟨lf', R', u1, u2⟩ := hset (Or.inl h1)
          refine ⟨lf', R', ?_, u2⟩
          rw [hs] at u1
          subst h1
          simp (disch := omega) only [hla, hc, L_10, ↓he1, ↓he2, ↓hsub, ↓hrs, c_geF, h44, hl0, c_leqT, ↓lt_d, eq_self, lN_add, i_l, wTn, wFa, wFb, wCT, wCF, mNe, mNe2, mLt, mLe, bp_s, bn_s, n_clampS, nI_1, nI_add, pk_sub, nI_mul, wrI_at, wrI_2, wrL_at, wrL_1, true_and, false_and, and_true, and_false, and_self, ↓reduceIte, Nat.reduceEqDiff, Nat.reduceAdd, Nat.reduceMul, Nat.add_zero, Nat.zero_add, reduceCtorEq, l_0, l_1, l_2, l_3, l_4, l_5, l_6, l_7, l_8, l_9, l_10, l_15, l_24, l_32, l_39, l_40, l_47, l_48, l_50, l_57, l_60, l_63, l_80, l_95, l_99, l_100, l_120, l_126, l_128, l_1000, l_9999, l_10000, L_0, L_1, L_2, L_3, L_4, L_5, L_7, L_9, L_15, L_40, L_50, L_99, L_127, L_9999, c_ltT, c_ltF, c_leT, c_leF, c_eqT, c_eqF, n_leF, n_ltF, c_gltT, c_gltF, c_ggtT, c_ggtF, false_or, or_false, or_self, true_or, or_true]
          exact u1
        · by_cases hlt : lf ≤ rst A L
          · obtain ⟨lf', R', u1, u2⟩ := ih (L + 1) fu lf R (by omega) (by omega) (by omega) h44 (Or.inr ⟨h1, h1b, ⟨d0, by omega, h3, h4⟩, fun d hd ha' hle => by
              by_cases hdL : d = L
              · subst hdL
                exact hlt
              · exact h5 d (by omega) ha' hle⟩)
            refine ⟨lf', R', ?_, u2⟩
            rw [hs] at u1
            simp (disch := omega) only [hla, hc, L_10, ↓he1, ↓he2, ↓hsub, ↓hrs, c_geF, h44, hl0, c_leqF, c_geT, ↓lt_d, eq_self, lN_add, i_l, wTn, wFa, wFb, wCT, wCF, mNe, mNe2, mLt, mLe, bp_s, bn_s, n_clampS, nI_1, nI_add, pk_sub, nI_mul, wrI_at, wrI_2, wrL_at, wrL_1, true_and, false_and, and_true, and_false, and_self, ↓reduceIte, Nat.reduceEqDiff, Nat.reduceAdd, Nat.reduceMul, Nat.add_zero, Nat.zero_add, reduceCtorEq, l_0, l_1, l_2, l_3, l_4, l_5, l_6, l_7, l_8, l_9, l_10, l_15, l_24, l_32, l_39, l_40, l_47, l_48, l_50, l_57, l_60, l_63, l_80, l_95, l_99, l_100, l_120, l_126, l_128, l_1000, l_9999, l_10000, L_0, L_1, L_2, L_3, L_4, L_5, L_7, L_9, L_15, L_40, L_50, L_99, L_127, L_9999, c_ltT, c_ltF, c_leT, c_leF, c_eqT, c_eqF, n_leF, n_ltF, c_gltT, c_gltF, c_ggtT, c_ggtF, false_or, or_false, or_self, true_or, or_true]
            exact u1
          · obtain ⟨lf', R', u1, u2⟩ := hset (Or.inr (by omega))
            refine ⟨lf', R', ?_, u2⟩
            rw [hs] at u1
            simp (disch := omega) only [hla, hc, L_10, ↓he1, ↓he2, ↓hsub, ↓hrs, c_geF, h44, hl0, c_leqF, ↓lt_d, eq_self, lN_add, i_l, wTn, wFa, wFb, wCT, wCF, mNe, mNe2, mLt, mLe, bp_s, bn_s, n_clampS, nI_1, nI_add, pk_sub, nI_mul, wrI_at, wrI_2, wrL_at, wrL_1, true_and, false_and, and_true, and_false, and_self, ↓reduceIte, Nat.reduceEqDiff, Nat.reduceAdd, Nat.reduceMul, Nat.add_zero, Nat.zero_add, reduceCtorEq, l_0, l_1, l_2, l_3, l_4, l_5, l_6, l_7, l_8, l_9, l_10, l_15, l_24, l_32, l_39, l_40, l_47, l_48, l_50, l_57, l_60, l_63, l_80, l_95, l_99, l_100, l_120, l_126, l_128, l_1000, l_9999, l_10000, L_0, L_1, L_2, L_3, L_4, L_5, L_7, L_9, L_15, L_40, L_50, L_99, L_127, L_9999, c_ltT, c_ltF, c_leT, c_leF, c_eqT, c_eqF, n_leF, n_ltF, c_gltT, c_gltF, c_ggtT, c_ggtF, false_or, or_false, or_self, true_or, or_true]
            exact u1
    · have ht : tel p N A B L = 0 := if_neg ha
      rw [ht, Nat.add_zero] at hs
      have hc : (nI (L ^ p % 10) = nI (N % 10)) = False := c_eqF ha (by omega) (by omega)
      obtain ⟨lf', R', u1, u2⟩ := ih (L + 1) fu lf R (by omega) (by omega) (by omega) h44 (by
        rcases hi with ⟨h1, h2⟩ | ⟨h1, h1b, ⟨d0, h2, h3, h4⟩, h5⟩
        · refine Or.inl ⟨h1, fun d hd ha' => ?_⟩
          by_cases hdL : d = L
          · subst hdL
            exact absurd ha' ha
          · exact h2 d (by omega) ha'
        · refine Or.inr ⟨h1, h1b, ⟨d0, by omega, h3, h4⟩, fun d hd ha' hle => ?_⟩
          by_cases hdL : d = L
          · subst hdL
            exact absurd ha' ha
          · exact h5 d (by omega) ha' hle)
      refine ⟨lf', R', ?_, u2⟩
      rw [hs] at u1
      simp (disch := omega) only [hla, hc, ↓lt_d, eq_self, lN_add, i_l, wTn, wFa, wFb, wCT, wCF, mNe, mNe2, mLt, mLe, bp_s, bn_s, n_clampS, nI_1, nI_add, pk_sub, nI_mul, wrI_at, wrI_2, wrL_at, wrL_1, true_and, false_and, and_true, and_false, and_self, ↓reduceIte, Nat.reduceEqDiff, Nat.reduceAdd, Nat.reduceMul, Nat.add_zero, Nat.zero_add, reduceCtorEq, l_0, l_1, l_2, l_3, l_4, l_5, l_6, l_7, l_8, l_9, l_10, l_15, l_24, l_32, l_39, l_40, l_47, l_48, l_50, l_57, l_60, l_63, l_80, l_95, l_99, l_100, l_120, l_126, l_128, l_1000, l_9999, l_10000, L_0, L_1, L_2, L_3, L_4, L_5, L_7, L_9, L_15, L_40, L_50, L_99, L_127, L_9999, c_ltT, c_ltF, c_leT, c_leF, c_eqT, c_eqF, n_leF, n_ltF, c_gltT, c_gltF, c_ggtT, c_ggtF, false_or, or_false, or_self, true_or, or_true]
      exact u1
