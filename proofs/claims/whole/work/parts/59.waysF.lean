/-! SQUARED, SPLIT, on both sides -/
theorem nI_neg {a b : Nat} (h : a < b) : nI a - nI b = -nI (b - a) := by
  have e : nI b = nI a + nI (b - a) := by rw [nI_add, show a + (b - a) = b by omega]
  rw [e, Int32.sub_eq_add_neg, Int32.neg_add, Int32.sub_eq_add_neg, ← Int32.add_assoc, Int32.add_right_neg, Int32.zero_add]
theorem ng_lt0 {c : Nat} (h1 : 1 ≤ c) (h2 : c < 2 ^ 30) : ¬ (0 : Int32) ≤ -nI c := by
  intro z
  have h3 := Int32.le_iff_toInt_le.mp z
  have h4 : (-nI c).toInt = -(c : Int) := by
    have h6 := pk_sub_toInt (a := 0) (b := c) (by omega) h2
    rw [← Int32.zero_sub]
    have h7 : nI 0 - nI c = 0 - nI c := rfl
    rw [h7] at h6
    omega
  have h5 : (0 : Int32).toInt = 0 := rfl
  omega
def dif (a b : Nat) : Nat := if a < b then b - a else a - b
theorem size_l {a b : Nat} (ha : a < 2 ^ 30) (hb : b < 2 ^ 30) : fX11_size (nI a - nI b) = nI (dif a b) := by
  unfold fX11_size dif
  by_cases h : a < b
  · rw [if_pos h, nI_neg h, if_neg (ng_lt0 (by omega) (by omega)), Int32.neg_neg]
  · rw [if_neg h, pk_sub (by omega), if_pos]
    exact (nI_leI (a := 0) (by omega) (by omega)).mpr (Nat.zero_le _)
theorem iabs_l {a b : Nat} (ha : a < 2 ^ 30) (hb : b < 2 ^ 30) : iabs (nI a - nI b) = nI (dif a b) := by
  unfold iabs dif
  by_cases h : a < b
  · rw [if_pos h, nI_neg h, if_neg (ng_lt0 (by omega) (by omega)), Int32.sub_eq_add_neg, Int32.neg_neg, Int32.zero_add]
  · rw [if_neg h, pk_sub (by omega), if_pos]
    exact (nI_leI (a := 0) (by omega) (by omega)).mpr (Nat.zero_le _)
theorem sqs {a b : Nat} (h : (a + b) % 2 = 0) : (a + b) / 2 * ((a + b) / 2) = dif a b / 2 * (dif a b / 2) + a * b := by
  have key : ∀ s d : Nat, (s + d) * (s + d) = d * d + (s + d + d) * s := by
    intro s d
    simp only [Nat.add_mul, Nat.mul_add]
    have := Nat.mul_comm s d
    omega
  unfold dif
  by_cases g : a < b
  · rw [if_pos g]
    obtain ⟨d, hd⟩ : ∃ d, b = a + d + d := ⟨(b - a) / 2, by omega⟩
    subst hd
    rw [show (a + (a + d + d)) / 2 = a + d by omega, show (a + d + d - a) / 2 = d by omega, key, Nat.mul_comm a]
  · rw [if_neg g]
    obtain ⟨d, hd⟩ : ∃ d, a = b + d + d := ⟨(a - b) / 2, by omega⟩
    subst hd
    rw [show (b + d + d + b) / 2 = b + d by omega, show (b + d + d - b) / 2 = d by omega, key]
theorem nz4 {p : Nat} (h : p ≤ 9999) : nz p ≤ 4 := Nat.le_trans (nz_le p) (dgs4 h)
theorem squared_l {n j p q : Nat} (hn : 1000 ≤ n) (hj : j < 6) {T : Nat → Nat} (hp : 1 ≤ p) (hp2 : p ≤ 9999) (hq : 1 ≤ q) (hq2 : q ≤ 9999) (hev : (p + q) % 2 = 0) {C R : Mm} (h : Lf j T 1 C R 0 0 0) : ∃ C' R' a', fX0_goSquared n (nI p) (nI q) C = some (nI 1, C') ∧ fX11_goSquared n (nI p) (nI q) R = some (nI 1, R') ∧ ∃ v hd, Wy j T C' R' a' v hd := by
  have hsq := sqs hev
  have hdd : dif p q / 2 ≤ 4999 := by unfold dif; split <;> omega
  have hsz := size_l (a := p) (b := q) (by omega) (by omega)
  have hab := iabs_l (a := p) (b := q) (by omega) (by omega)
  have hdf : dif p q < 2 ^ 31 := by unfold dif; split <;> omega
  have hs9 : (p + q) / 2 ≤ 9999 := by omega
  have hs1 : 1 ≤ (p + q) / 2 := by omega
  have epq : nI p + nI q = nI (p + q) := nI_add p q
  have h2 : (p + q) % 2 ≠ 1 := by omega
  have edv : nI (p + q) / nI 2 = nI ((p + q) / 2) := dv (by omega) (by omega) (by omega)
  have edv2 : nI (dif p q) / nI 2 = nI (dif p q / 2) := dv (by omega) (by omega) (by omega)
  have erm : irm (nI (p + q)) (nI 2) = nI 0 := by rw [rm (by omega) (by omega) (by omega), hev]
  have hpq : p * q ≤ 9999 * 9999 := Nat.mul_le_mul hp2 hq2
  have hpq1 : 1 ≤ p * q := Nat.mul_pos hp hq
  generalize (p + q) / 2 = s at *
  generalize dif p q / 2 = d at *
  have hss : s * s ≤ 9999 * 9999 := Nat.mul_le_mul hs9 hs9
  have hss1 : 1 ≤ s * s := Nat.mul_pos hs1 hs1
  have n1 : nz s * nz s ≤ 4 * 4 := Nat.mul_le_mul (nz4 hs9) (nz4 hs9)
  have n2 : nz d * nz d ≤ 4 * 4 := Nat.mul_le_mul (nz4 (by omega)) (nz4 (by omega))
  have ess : s * s - d * d = p * q := by omega
  obtain ⟨C1, R1, f1, a1, s1, s2, s3, s4⟩ := left_l hn hj hs1 hs1 (by omega) h (by omega)
  obtain ⟨g1, g2, g3, -⟩ := s3
  obtain ⟨C2, R2, u1, u2, u3, u4, u5, u6⟩ := Wy_hold hn g1 hj (by omega) hss1 (by omega) g2 g3
  rw [Nat.zero_add] at u3
  have esub : dgs (s * s) - dgs (s * s) = 0 := Nat.sub_self _
  have fin : ∀ C3 R3 a3 v3, Wy j T C3 R3 a3 v3 (dgs (s * s)) → a3 < 80 → ∃ C4 R4, fX0_add n (nI (p * q)) (nI 1) (wrI C3 36 12 (nI 0)) = some C4 ∧ fX11_acts n (nI 1) (nI (p * q)) (nI 0) (nI 0) (wrI (wrI R3 72 28 (nI 0)) 72 29 (nI (p * q))) = some R4 ∧ Wy j T C4 R4 (a3 + 1) (p * q) 0 := by
    intro C3 R3 a3 v3 w ha3
    obtain ⟨C4, R4, t1, t2, t3, -, -⟩ := Wy_plus (w := p * q) (hd' := 0) (C1 := wrI C3 36 12 (nI 0)) (R1 := wrI (wrI R3 72 28 (nI 0)) 72 29 (nI (p * q))) hn w hj ha3 hpq1 (by omega) (fun q' k hq' => by rw [wrI_at, if_neg (by omega)]) (fun q' k hq' => by rw [wrI_at, if_neg (by omega), wrI_at, if_neg (by omega)]) (by simp (disch := omega) only [↓lt_d, eq_self, lN_add, i_l, wTn, wFa, wFb, wCT, wCF, mNe, mNe2, mLt, mLe, bp_s, bn_s, n_clampS, nI_1, nI_add, pk_sub, nI_mul, wrI_at, wrI_2, wrL_at, wrL_1, true_and, false_and, and_true, and_false, and_self, ↓reduceIte, Nat.reduceEqDiff, Nat.reduceAdd, Nat.reduceMul, Nat.add_zero, Nat.zero_add, reduceCtorEq, l_0, l_1, l_2, l_3, l_4, l_5, l_6, l_7, l_8, l_9, l_10, l_15, l_24, l_32, l_39, l_40, l_47, l_48, l_50, l_57, l_60, l_63, l_80, l_95, l_99, l_100, l_120, l_126, l_128, l_1000, l_9999, l_10000, L_0, L_1, L_2, L_3, L_4, L_5, L_7, L_9, L_15, L_40, L_50, L_99, L_127, L_9999, c_ltT, c_ltF, c_leT, c_leF, c_eqT, c_eqF, n_leF, n_ltF, c_gltT, c_gltF, c_ggtT, c_ggtF, false_or, or_false, or_self, true_or, or_true]) (by simp (disch := omega) only [↓lt_d, eq_self, lN_add, i_l, wTn, wFa, wFb, wCT, wCF, mNe, mNe2, mLt, mLe, bp_s, bn_s, n_clampS, nI_1, nI_add, pk_sub, nI_mul, wrI_at, wrI_2, wrL_at, wrL_1, true_and, false_and, and_true, and_false, and_self, ↓reduceIte, Nat.reduceEqDiff, Nat.reduceAdd, Nat.reduceMul, Nat.add_zero, Nat.zero_add, reduceCtorEq, l_0, l_1, l_2, l_3, l_4, l_5, l_6, l_7, l_8, l_9, l_10, l_15, l_24, l_32, l_39, l_40, l_47, l_48, l_50, l_57, l_60, l_63, l_80, l_95, l_99, l_100, l_120, l_126, l_128, l_1000, l_9999, l_10000, L_0, L_1, L_2, L_3, L_4, L_5, L_7, L_9, L_15, L_40, L_50, L_99, L_127, L_9999, c_ltT, c_ltF, c_leT, c_leF, c_eqT, c_eqF, n_leF, n_ltF, c_gltT, c_gltF, c_ggtT, c_ggtF, false_or, or_false, or_self, true_or, or_true]) (by simp (disch := omega) only [↓lt_d, eq_self, lN_add, i_l, wTn, wFa, wFb, wCT, wCF, mNe, mNe2, mLt, mLe, bp_s, bn_s, n_clampS, nI_1, nI_add, pk_sub, nI_mul, wrI_at, wrI_2, wrL_at, wrL_1, true_and, false_and, and_true, and_false, and_self, ↓reduceIte, Nat.reduceEqDiff, Nat.reduceAdd, Nat.reduceMul, Nat.add_zero, Nat.zero_add, reduceCtorEq, l_0, l_1, l_2, l_3, l_4, l_5, l_6, l_7, l_8, l_9, l_10, l_15, l_24, l_32, l_39, l_40, l_47, l_48, l_50, l_57, l_60, l_63, l_80, l_95, l_99, l_100, l_120, l_126, l_128, l_1000, l_9999, l_10000, L_0, L_1, L_2, L_3, L_4, L_5, L_7, L_9, L_15, L_40, L_50, L_99, L_127, L_9999, c_ltT, c_ltF, c_leT, c_leF, c_eqT, c_eqF, n_leF, n_ltF, c_gltT, c_gltF, c_ggtT, c_ggtF, false_or, or_false, or_self, true_or, or_true])
    exact ⟨C4, R4, t1, t2, t3⟩
  by_cases hd0 : d = 0
  · subst hd0
    obtain ⟨C4, R4, t1, t2, t3⟩ := fin C2 R2 (a1 + 1) 0 u3 (by omega)
    have w4 := u3.2.2.2.1
    have el := letGo_l (n := n) hn hss1 (by omega) w4 (Nat.le_refl _)
    rw [esub] at el
    have egl : fX11_goLeft n (nI 0) (nI 0) R2 = some R2 := by
      obtain ⟨m, rfl⟩ : ∃ m, n = m + 1 := ⟨n - 1, by omega⟩
      unfold fX11_goLeft
      have z : dgs 0 = 0 := rfl
      have z2 : nI 0 - nI 1 = -nI 1 := by decide
      simp (disch := omega) only [digits_l hn (show 0 < 2 ^ 31 by omega), z, ↓z2, ↓lt_d, eq_self, lN_add, i_l, wTn, wFa, wFb, wCT, wCF, mNe, mNe2, mLt, mLe, bp_s, bn_s, n_clampS, nI_1, nI_add, pk_sub, nI_mul, wrI_at, wrI_2, wrL_at, wrL_1, true_and, false_and, and_true, and_false, and_self, ↓reduceIte, Nat.reduceEqDiff, Nat.reduceAdd, Nat.reduceMul, Nat.add_zero, Nat.zero_add, reduceCtorEq, l_0, l_1, l_2, l_3, l_4, l_5, l_6, l_7, l_8, l_9, l_10, l_15, l_24, l_32, l_39, l_40, l_47, l_48, l_50, l_57, l_60, l_63, l_80, l_95, l_99, l_100, l_120, l_126, l_128, l_1000, l_9999, l_10000, L_0, L_1, L_2, L_3, L_4, L_5, L_7, L_9, L_15, L_40, L_50, L_99, L_127, L_9999, c_ltT, c_ltF, c_leT, c_leF, c_eqT, c_eqF, n_leF, n_ltF, c_gltT, c_gltF, c_ggtT, c_ggtF, false_or, or_false, or_self, true_or, or_true]
      rw [fX11_goLeft_h10.eq_2]
      simp (disch := omega) only [↓lt_d, eq_self, lN_add, i_l, wTn, wFa, wFb, wCT, wCF, mNe, mNe2, mLt, mLe, bp_s, bn_s, n_clampS, nI_1, nI_add, pk_sub, nI_mul, wrI_at, wrI_2, wrL_at, wrL_1, true_and, false_and, and_true, and_false, and_self, ↓reduceIte, Nat.reduceEqDiff, Nat.reduceAdd, Nat.reduceMul, Nat.add_zero, Nat.zero_add, reduceCtorEq, l_0, l_1, l_2, l_3, l_4, l_5, l_6, l_7, l_8, l_9, l_10, l_15, l_24, l_32, l_39, l_40, l_47, l_48, l_50, l_57, l_60, l_63, l_80, l_95, l_99, l_100, l_120, l_126, l_128, l_1000, l_9999, l_10000, L_0, L_1, L_2, L_3, L_4, L_5, L_7, L_9, L_15, L_40, L_50, L_99, L_127, L_9999, c_ltT, c_ltF, c_leT, c_leF, c_eqT, c_eqF, n_leF, n_ltF, c_gltT, c_gltF, c_ggtT, c_ggtF, false_or, or_false, or_self, true_or, or_true]
    rw [Nat.zero_mul] at ess
    refine ⟨C4, R4, _, ?_, ?_, _, _, t3⟩
    · unfold fX0_goSquared fX0_goSquared_b47
      simp (disch := omega) only [↓epq, ↓edv, ↓hab, ↓edv2, s1, g2, u1, el, u4, ess, t1, ↓lt_d, eq_self, lN_add, i_l, wTn, wFa, wFb, wCT, wCF, mNe, mNe2, mLt, mLe, bp_s, bn_s, n_clampS, nI_1, nI_add, pk_sub, nI_mul, wrI_at, wrI_2, wrL_at, wrL_1, true_and, false_and, and_true, and_false, and_self, ↓reduceIte, Nat.reduceEqDiff, Nat.reduceAdd, Nat.reduceMul, Nat.add_zero, Nat.zero_add, reduceCtorEq, l_0, l_1, l_2, l_3, l_4, l_5, l_6, l_7, l_8, l_9, l_10, l_15, l_24, l_32, l_39, l_40, l_47, l_48, l_50, l_57, l_60, l_63, l_80, l_95, l_99, l_100, l_120, l_126, l_128, l_1000, l_9999, l_10000, L_0, L_1, L_2, L_3, L_4, L_5, L_7, L_9, L_15, L_40, L_50, L_99, L_127, L_9999, c_ltT, c_ltF, c_leT, c_leF, c_eqT, c_eqF, n_leF, n_ltF, c_gltT, c_gltF, c_ggtT, c_ggtF, false_or, or_false, or_self, true_or, or_true]
    · unfold fX11_goSquared
      simp (disch := omega) only [↓epq, ↓erm, ↓edv, ↓hsz, ↓edv2, s2, u2, egl, ↓nI_mul, t2, ↓lt_d, eq_self, lN_add, i_l, wTn, wFa, wFb, wCT, wCF, mNe, mNe2, mLt, mLe, bp_s, bn_s, n_clampS, nI_1, nI_add, pk_sub, nI_mul, wrI_at, wrI_2, wrL_at, wrL_1, true_and, false_and, and_true, and_false, and_self, ↓reduceIte, Nat.reduceEqDiff, Nat.reduceAdd, Nat.reduceMul, Nat.add_zero, Nat.zero_add, reduceCtorEq, l_0, l_1, l_2, l_3, l_4, l_5, l_6, l_7, l_8, l_9, l_10, l_15, l_24, l_32, l_39, l_40, l_47, l_48, l_50, l_57, l_60, l_63, l_80, l_95, l_99, l_100, l_120, l_126, l_128, l_1000, l_9999, l_10000, L_0, L_1, L_2, L_3, L_4, L_5, L_7, L_9, L_15, L_40, L_50, L_99, L_127, L_9999, c_ltT, c_ltF, c_leT, c_leF, c_eqT, c_eqF, n_leF, n_ltF, c_gltT, c_gltF, c_ggtT, c_ggtF, false_or, or_false, or_self, true_or, or_true]
  · have hdd1 : d * d ≤ 4999 * 4999 := Nat.mul_le_mul hdd hdd
    obtain ⟨C3, R3, f3, a3, x1, x2, x3, x4⟩ := left_l hn hj (show 1 ≤ d by omega) (show 1 ≤ d by omega) (show d * d < 2 ^ 31 by omega) ⟨u3, u4, u5, Or.inl ⟨rfl, rfl, u6⟩⟩ (by omega)
    obtain ⟨y1, y2, y3, -⟩ := x3
    obtain ⟨C4, R4, t1, t2, t3⟩ := fin C3 R3 a3 _ y1 (by omega)
    have w4 := y1.2.2.2.1
    have el := letGo_l (n := n) hn hss1 (by omega) w4 (Nat.le_refl _)
    rw [esub] at el
    refine ⟨C4, R4, _, ?_, ?_, _, _, t3⟩
    · unfold fX0_goSquared fX0_goSquared_b47
      simp (disch := omega) only [↓epq, ↓edv, ↓hab, ↓edv2, s1, g2, u1, x1, el, y2, ess, t1, ↓lt_d, eq_self, lN_add, i_l, wTn, wFa, wFb, wCT, wCF, mNe, mNe2, mLt, mLe, bp_s, bn_s, n_clampS, nI_1, nI_add, pk_sub, nI_mul, wrI_at, wrI_2, wrL_at, wrL_1, true_and, false_and, and_true, and_false, and_self, ↓reduceIte, Nat.reduceEqDiff, Nat.reduceAdd, Nat.reduceMul, Nat.add_zero, Nat.zero_add, reduceCtorEq, l_0, l_1, l_2, l_3, l_4, l_5, l_6, l_7, l_8, l_9, l_10, l_15, l_24, l_32, l_39, l_40, l_47, l_48, l_50, l_57, l_60, l_63, l_80, l_95, l_99, l_100, l_120, l_126, l_128, l_1000, l_9999, l_10000, L_0, L_1, L_2, L_3, L_4, L_5, L_7, L_9, L_15, L_40, L_50, L_99, L_127, L_9999, c_ltT, c_ltF, c_leT, c_leF, c_eqT, c_eqF, n_leF, n_ltF, c_gltT, c_gltF, c_ggtT, c_ggtF, false_or, or_false, or_self, true_or, or_true]
    · unfold fX11_goSquared
      simp (disch := omega) only [↓epq, ↓erm, ↓edv, ↓hsz, ↓edv2, s2, u2, x2, ↓nI_mul, t2, ↓lt_d, eq_self, lN_add, i_l, wTn, wFa, wFb, wCT, wCF, mNe, mNe2, mLt, mLe, bp_s, bn_s, n_clampS, nI_1, nI_add, pk_sub, nI_mul, wrI_at, wrI_2, wrL_at, wrL_1, true_and, false_and, and_true, and_false, and_self, ↓reduceIte, Nat.reduceEqDiff, Nat.reduceAdd, Nat.reduceMul, Nat.add_zero, Nat.zero_add, reduceCtorEq, l_0, l_1, l_2, l_3, l_4, l_5, l_6, l_7, l_8, l_9, l_10, l_15, l_24, l_32, l_39, l_40, l_47, l_48, l_50, l_57, l_60, l_63, l_80, l_95, l_99, l_100, l_120, l_126, l_128, l_1000, l_9999, l_10000, L_0, L_1, L_2, L_3, L_4, L_5, L_7, L_9, L_15, L_40, L_50, L_99, L_127, L_9999, c_ltT, c_ltF, c_leT, c_leF, c_eqT, c_eqF, n_leF, n_ltF, c_gltT, c_gltF, c_ggtT, c_ggtF, false_or, or_false, or_self, true_or, or_true]
theorem split_h {n j p q : Nat} (hn : 1000 ≤ n) (hj : j < 6) {T : Nat → Nat} (hp : 1 ≤ p) (hp2 : p ≤ 9999) (hq : 1 ≤ q) (hq2 : q ≤ 9999) {C R : Mm} (h : Lf j T 1 C R 0 0 0) : ∀ m fu fv, m ≤ 99 → m < fu → m < fv → ∃ r C' R', fX0_goSplit_h3 n fu (nI p) (nI q) (nI m) C = some (nI r, C') ∧ fX11_goSplit_h5 n fv (nI p) (nI q) (nI m) R = some (nI r, R') ∧ (r = 0 ∨ r = 1) ∧ (r = 1 → ∃ a v hd, Wy j T C' R' a v hd) := by
  intro m
  induction m with
  | zero =>
    intro fu fv hm hf hg
    obtain ⟨fu, rfl⟩ : ∃ f, fu = f + 1 := ⟨fu - 1, by omega⟩
    obtain ⟨fv, rfl⟩ : ∃ f, fv = f + 1 := ⟨fv - 1, by omega⟩
    refine ⟨0, C, R, ?_, ?_, Or.inl rfl, fun z => by omega⟩
    · rw [fX0_goSplit_h3.eq_2]
      simp (disch := omega) only [↓lt_d, eq_self, lN_add, i_l, wTn, wFa, wFb, wCT, wCF, mNe, mNe2, mLt, mLe, bp_s, bn_s, n_clampS, nI_1, nI_add, pk_sub, nI_mul, wrI_at, wrI_2, wrL_at, wrL_1, true_and, false_and, and_true, and_false, and_self, ↓reduceIte, Nat.reduceEqDiff, Nat.reduceAdd, Nat.reduceMul, Nat.add_zero, Nat.zero_add, reduceCtorEq, l_0, l_1, l_2, l_3, l_4, l_5, l_6, l_7, l_8, l_9, l_10, l_15, l_24, l_32, l_39, l_40, l_47, l_48, l_50, l_57, l_60, l_63, l_80, l_95, l_99, l_100, l_120, l_126, l_128, l_1000, l_9999, l_10000, L_0, L_1, L_2, L_3, L_4, L_5, L_7, L_9, L_15, L_40, L_50, L_99, L_127, L_9999, c_ltT, c_ltF, c_leT, c_leF, c_eqT, c_eqF, n_leF, n_ltF, c_gltT, c_gltF, c_ggtT, c_ggtF, false_or, or_false, or_self, true_or, or_true]
    · rw [fX11_goSplit_h5.eq_2]
      simp (disch := omega) only [↓lt_d, eq_self, lN_add, i_l, wTn, wFa, wFb, wCT, wCF, mNe, mNe2, mLt, mLe, bp_s, bn_s, n_clampS, nI_1, nI_add, pk_sub, nI_mul, wrI_at, wrI_2, wrL_at, wrL_1, true_and, false_and, and_true, and_false, and_self, ↓reduceIte, Nat.reduceEqDiff, Nat.reduceAdd, Nat.reduceMul, Nat.add_zero, Nat.zero_add, reduceCtorEq, l_0, l_1, l_2, l_3, l_4, l_5, l_6, l_7, l_8, l_9, l_10, l_15, l_24, l_32, l_39, l_40, l_47, l_48, l_50, l_57, l_60, l_63, l_80, l_95, l_99, l_100, l_120, l_126, l_128, l_1000, l_9999, l_10000, L_0, L_1, L_2, L_3, L_4, L_5, L_7, L_9, L_15, L_40, L_50, L_99, L_127, L_9999, c_ltT, c_ltF, c_leT, c_leF, c_eqT, c_eqF, n_leF, n_ltF, c_gltT, c_gltF, c_ggtT, c_ggtF, false_or, or_false, or_self, true_or, or_true]
  | succ m ih =>
    intro fu fv hm hf hg
    obtain ⟨fu, rfl⟩ : ∃ f, fu = f + 1 := ⟨fu - 1, by omega⟩
    obtain ⟨fv, rfl⟩ : ∃ f, fv = f + 1 := ⟨fv - 1, by omega⟩
    by_cases hm2 : m + 1 < 2
    · refine ⟨0, C, R, ?_, ?_, Or.inl rfl, fun z => by omega⟩
      · rw [fX0_goSplit_h3.eq_2]
        simp (disch := omega) only [↓lt_d, eq_self, lN_add, i_l, wTn, wFa, wFb, wCT, wCF, mNe, mNe2, mLt, mLe, bp_s, bn_s, n_clampS, nI_1, nI_add, pk_sub, nI_mul, wrI_at, wrI_2, wrL_at, wrL_1, true_and, false_and, and_true, and_false, and_self, ↓reduceIte, Nat.reduceEqDiff, Nat.reduceAdd, Nat.reduceMul, Nat.add_zero, Nat.zero_add, reduceCtorEq, l_0, l_1, l_2, l_3, l_4, l_5, l_6, l_7, l_8, l_9, l_10, l_15, l_24, l_32, l_39, l_40, l_47, l_48, l_50, l_57, l_60, l_63, l_80, l_95, l_99, l_100, l_120, l_126, l_128, l_1000, l_9999, l_10000, L_0, L_1, L_2, L_3, L_4, L_5, L_7, L_9, L_15, L_40, L_50, L_99, L_127, L_9999, c_ltT, c_ltF, c_leT, c_leF, c_eqT, c_eqF, n_leF, n_ltF, c_gltT, c_gltF, c_ggtT, c_ggtF, false_or, or_false, or_self, true_or, or_true]
      · rw [fX11_goSplit_h5.eq_2]
        simp (disch := omega) only [↓lt_d, eq_self, lN_add, i_l, wTn, wFa, wFb, wCT, wCF, mNe, mNe2, mLt, mLe, bp_s, bn_s, n_clampS, nI_1, nI_add, pk_sub, nI_mul, wrI_at, wrI_2, wrL_at, wrL_1, true_and, false_and, and_true, and_false, and_self, ↓reduceIte, Nat.reduceEqDiff, Nat.reduceAdd, Nat.reduceMul, Nat.add_zero, Nat.zero_add, reduceCtorEq, l_0, l_1, l_2, l_3, l_4, l_5, l_6, l_7, l_8, l_9, l_10, l_15, l_24, l_32, l_39, l_40, l_47, l_48, l_50, l_57, l_60, l_63, l_80, l_95, l_99, l_100, l_120, l_126, l_128, l_1000, l_9999, l_10000, L_0, L_1, L_2, L_3, L_4, L_5, L_7, L_9, L_15, L_40, L_50, L_99, L_127, L_9999, c_ltT, c_ltF, c_leT, c_leF, c_eqT, c_eqF, n_leF, n_ltF, c_gltT, c_gltF, c_ggtT, c_ggtF, false_or, or_false, or_self, true_or, or_true]
    · have erm : irm (nI q) (nI (m + 1)) = nI (q % (m + 1)) := rm (by omega) (by omega) (by omega)
      have edv : nI q / nI (m + 1) = nI (q / (m + 1)) := dv (by omega) (by omega) (by omega)
      have hrm : q % (m + 1) < 2 ^ 31 := Nat.lt_of_le_of_lt (Nat.mod_le _ _) (by omega)
      have hdv : q / (m + 1) ≤ 9999 := Nat.le_trans (Nat.div_le_self _ _) hq2
      by_cases hd : q % (m + 1) = 0 ∧ 1 < q / (m + 1)
      · obtain ⟨hd1, hd2⟩ := hd
        have hqm : (m + 1) * (q / (m + 1)) = q := Nat.mul_div_cancel' (Nat.dvd_of_mod_eq_zero hd1)
        rw [hd1] at erm
        generalize q / (m + 1) = u at *
        have hpm : p * (m + 1) ≤ 9999 * 99 := Nat.mul_le_mul hp2 hm
        have hpm1 : 1 ≤ p * (m + 1) := Nat.mul_pos hp (by omega)
        have hpq : p * q ≤ 9999 * 9999 := Nat.mul_le_mul hp2 hq2
        have hpu : p * (m + 1) * u = p * q := by rw [Nat.mul_assoc, hqm]
        have d1 := (dgs_le (v := m + 1) (by omega) 2).mpr (by omega)
        have d2 := (dgs_le (v := p * (m + 1)) (by omega) 6).mpr (by omega)
        have n1 : nz p * nz (m + 1) ≤ 4 * 2 := Nat.mul_le_mul (nz4 hp2) (Nat.le_trans (nz_le _) d1)
        have n2 : nz (p * (m + 1)) * nz u ≤ 6 * 4 := Nat.mul_le_mul (Nat.le_trans (nz_le _) d2) (nz4 hdv)
        obtain ⟨C1, R1, f1, a1, s1, s2, s3, s4⟩ := left_l hn hj hp (show 1 ≤ m + 1 by omega) (by omega) h (by omega)
        obtain ⟨g1, g2, g3, -⟩ := s3
        obtain ⟨C2, R2, u1, u2, u3, u4, u5, u6⟩ := Wy_hold hn g1 hj (by omega) hpm1 (by omega) g2 g3
        obtain ⟨C3, R3, f3, a3, x1, x2, x3, x4⟩ := left_l hn hj hpm1 (show 1 ≤ u by omega) (by omega) ⟨u3, u4, u5, Or.inl ⟨rfl, rfl, u6⟩⟩ (by omega)
        refine ⟨1, C3, R3, ?_, ?_, Or.inr rfl, fun _ => ⟨a3, _, _, x3.1⟩⟩
        · rw [fX0_goSplit_h3.eq_2]
          simp (disch := omega) only [↓erm, ↓edv, s1, g2, u1, x1, ↓lt_d, eq_self, lN_add, i_l, wTn, wFa, wFb, wCT, wCF, mNe, mNe2, mLt, mLe, bp_s, bn_s, n_clampS, nI_1, nI_add, pk_sub, nI_mul, wrI_at, wrI_2, wrL_at, wrL_1, true_and, false_and, and_true, and_false, and_self, ↓reduceIte, Nat.reduceEqDiff, Nat.reduceAdd, Nat.reduceMul, Nat.add_zero, Nat.zero_add, reduceCtorEq, l_0, l_1, l_2, l_3, l_4, l_5, l_6, l_7, l_8, l_9, l_10, l_15, l_24, l_32, l_39, l_40, l_47, l_48, l_50, l_57, l_60, l_63, l_80, l_95, l_99, l_100, l_120, l_126, l_128, l_1000, l_9999, l_10000, L_0, L_1, L_2, L_3, L_4, L_5, L_7, L_9, L_15, L_40, L_50, L_99, L_127, L_9999, c_ltT, c_ltF, c_leT, c_leF, c_eqT, c_eqF, n_leF, n_ltF, c_gltT, c_gltF, c_ggtT, c_ggtF, false_or, or_false, or_self, true_or, or_true]
        · rw [fX11_goSplit_h5.eq_2]
          simp (disch := omega) only [↓erm, ↓edv, s2, u2, ↓nI_mul, x2, ↓lt_d, eq_self, lN_add, i_l, wTn, wFa, wFb, wCT, wCF, mNe, mNe2, mLt, mLe, bp_s, bn_s, n_clampS, nI_1, nI_add, pk_sub, nI_mul, wrI_at, wrI_2, wrL_at, wrL_1, true_and, false_and, and_true, and_false, and_self, ↓reduceIte, Nat.reduceEqDiff, Nat.reduceAdd, Nat.reduceMul, Nat.add_zero, Nat.zero_add, reduceCtorEq, l_0, l_1, l_2, l_3, l_4, l_5, l_6, l_7, l_8, l_9, l_10, l_15, l_24, l_32, l_39, l_40, l_47, l_48, l_50, l_57, l_60, l_63, l_80, l_95, l_99, l_100, l_120, l_126, l_128, l_1000, l_9999, l_10000, L_0, L_1, L_2, L_3, L_4, L_5, L_7, L_9, L_15, L_40, L_50, L_99, L_127, L_9999, c_ltT, c_ltF, c_leT, c_leF, c_eqT, c_eqF, n_leF, n_ltF, c_gltT, c_gltF, c_ggtT, c_ggtF, false_or, or_false, or_self, true_or, or_true]
      · obtain ⟨r, C', R', t1, t2, t3⟩ := ih fu fv (by omega) (by omega) (by omega)
        refine ⟨r, C', R', ?_, ?_, t3⟩
        · rw [fX0_goSplit_h3.eq_2]
          unfold fX0_goSplit_b53
          by_cases hd1 : q % (m + 1) = 0
          · rw [hd1] at erm
            simp (disch := omega) only [↓erm, ↓edv, nI_ms, ↓lt_d, eq_self, lN_add, i_l, wTn, wFa, wFb, wCT, wCF, mNe, mNe2, mLt, mLe, bp_s, bn_s, n_clampS, nI_1, nI_add, pk_sub, nI_mul, wrI_at, wrI_2, wrL_at, wrL_1, true_and, false_and, and_true, and_false, and_self, ↓reduceIte, Nat.reduceEqDiff, Nat.reduceAdd, Nat.reduceMul, Nat.add_zero, Nat.zero_add, reduceCtorEq, l_0, l_1, l_2, l_3, l_4, l_5, l_6, l_7, l_8, l_9, l_10, l_15, l_24, l_32, l_39, l_40, l_47, l_48, l_50, l_57, l_60, l_63, l_80, l_95, l_99, l_100, l_120, l_126, l_128, l_1000, l_9999, l_10000, L_0, L_1, L_2, L_3, L_4, L_5, L_7, L_9, L_15, L_40, L_50, L_99, L_127, L_9999, c_ltT, c_ltF, c_leT, c_leF, c_eqT, c_eqF, n_leF, n_ltF, c_gltT, c_gltF, c_ggtT, c_ggtF, false_or, or_false, or_self, true_or, or_true]
            exact t1
          · simp (disch := omega) only [↓erm, nI_ms, ↓lt_d, eq_self, lN_add, i_l, wTn, wFa, wFb, wCT, wCF, mNe, mNe2, mLt, mLe, bp_s, bn_s, n_clampS, nI_1, nI_add, pk_sub, nI_mul, wrI_at, wrI_2, wrL_at, wrL_1, true_and, false_and, and_true, and_false, and_self, ↓reduceIte, Nat.reduceEqDiff, Nat.reduceAdd, Nat.reduceMul, Nat.add_zero, Nat.zero_add, reduceCtorEq, l_0, l_1, l_2, l_3, l_4, l_5, l_6, l_7, l_8, l_9, l_10, l_15, l_24, l_32, l_39, l_40, l_47, l_48, l_50, l_57, l_60, l_63, l_80, l_95, l_99, l_100, l_120, l_126, l_128, l_1000, l_9999, l_10000, L_0, L_1, L_2, L_3, L_4, L_5, L_7, L_9, L_15, L_40, L_50, L_99, L_127, L_9999, c_ltT, c_ltF, c_leT, c_leF, c_eqT, c_eqF, n_leF, n_ltF, c_gltT, c_gltF, c_ggtT, c_ggtF, false_or, or_false, or_self, true_or, or_true]
            exact t1
        · rw [fX11_goSplit_h5.eq_2]
          unfold fX11_goSplit_b45
          by_cases hd1 : q % (m + 1) = 0
          · rw [hd1] at erm
            simp (disch := omega) only [↓erm, ↓edv, nI_ms, ↓lt_d, eq_self, lN_add, i_l, wTn, wFa, wFb, wCT, wCF, mNe, mNe2, mLt, mLe, bp_s, bn_s, n_clampS, nI_1, nI_add, pk_sub, nI_mul, wrI_at, wrI_2, wrL_at, wrL_1, true_and, false_and, and_true, and_false, and_self, ↓reduceIte, Nat.reduceEqDiff, Nat.reduceAdd, Nat.reduceMul, Nat.add_zero, Nat.zero_add, reduceCtorEq, l_0, l_1, l_2, l_3, l_4, l_5, l_6, l_7, l_8, l_9, l_10, l_15, l_24, l_32, l_39, l_40, l_47, l_48, l_50, l_57, l_60, l_63, l_80, l_95, l_99, l_100, l_120, l_126, l_128, l_1000, l_9999, l_10000, L_0, L_1, L_2, L_3, L_4, L_5, L_7, L_9, L_15, L_40, L_50, L_99, L_127, L_9999, c_ltT, c_ltF, c_leT, c_leF, c_eqT, c_eqF, n_leF, n_ltF, c_gltT, c_gltF, c_ggtT, c_ggtF, false_or, or_false, or_self, true_or, or_true]
            exact t2
          · simp (disch := omega) only [↓erm, nI_ms, ↓lt_d, eq_self, lN_add, i_l, wTn, wFa, wFb, wCT, wCF, mNe, mNe2, mLt, mLe, bp_s, bn_s, n_clampS, nI_1, nI_add, pk_sub, nI_mul, wrI_at, wrI_2, wrL_at, wrL_1, true_and, false_and, and_true, and_false, and_self, ↓reduceIte, Nat.reduceEqDiff, Nat.reduceAdd, Nat.reduceMul, Nat.add_zero, Nat.zero_add, reduceCtorEq, l_0, l_1, l_2, l_3, l_4, l_5, l_6, l_7, l_8, l_9, l_10, l_15, l_24, l_32, l_39, l_40, l_47, l_48, l_50, l_57, l_60, l_63, l_80, l_95, l_99, l_100, l_120, l_126, l_128, l_1000, l_9999, l_10000, L_0, L_1, L_2, L_3, L_4, L_5, L_7, L_9, L_15, L_40, L_50, L_99, L_127, L_9999, c_ltT, c_ltF, c_leT, c_leF, c_eqT, c_eqF, n_leF, n_ltF, c_gltT, c_gltF, c_ggtT, c_ggtF, false_or, or_false, or_self, true_or, or_true]
            exact t2
