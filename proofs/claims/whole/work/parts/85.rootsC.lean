/-! firsts, enough -/
/-- what f firsts of N say: the unit, the least with these firsts -/
theorem unit_l {n N f : Nat} (hn : 1000 ≤ n) (h1 : 1 ≤ N) (h2 : N ≤ 999999999999999999) (hf1 : 1 ≤ f) (hf : f ≤ dgs N) : ∃ u le, u = 10 ^ (dgs N - f) ∧ 1 ≤ u ∧ le = N / u * u ∧ 1 ≤ le ∧ le ≤ N ∧ le + u ≤ 1000000000000000000 ∧ N < le + u ∧ fX6_unitOf n (lN N) (nI f) = some (lN u) ∧ fX6_leastWithFirsts n (lN N) (nI f) = some (lN le) := by
  obtain ⟨s, hs, hs2, hs3, hs4⟩ := dgs_pw h1 h2
  have hsz := sizeL (n := n) hn h1 h2
  have hu1 : 1 ≤ 10 ^ (dgs N - f) := Nat.pow_pos (by decide)
  have hu2 : 10 ^ (dgs N - f) ≤ 10 ^ s := Nat.pow_le_pow_right (by decide) (by omega)
  have hst := stv3_l (k := dgs N - f) (by omega)
  have hq1 : 1 ≤ N / 10 ^ (dgs N - f) := (Nat.le_div_iff_mul_le (by omega)).mpr (by omega)
  have hle : N / 10 ^ (dgs N - f) * 10 ^ (dgs N - f) ≤ N := Nat.div_mul_le_self _ _
  have hdm := Nat.div_add_mod N (10 ^ (dgs N - f))
  have hml := Nat.mod_lt N (show 0 < 10 ^ (dgs N - f) by omega)
  have hqf : N / 10 ^ (dgs N - f) < 10 ^ f := by
    apply (Nat.div_lt_iff_lt_mul (by omega)).mpr
    rw [← Nat.pow_add, show f + (dgs N - f) = s + 1 by omega]
    exact hs4
  have htop : (N / 10 ^ (dgs N - f) + 1) * 10 ^ (dgs N - f) ≤ 10 ^ f * 10 ^ (dgs N - f) := Nat.mul_le_mul_right _ hqf
  have h18 : 10 ^ f * 10 ^ (dgs N - f) ≤ 10 ^ 18 := by
    rw [← Nat.pow_add]
    exact Nat.pow_le_pow_right (by decide) (by omega)
  rw [Nat.add_mul, Nat.one_mul] at htop
  have h18' : (10 : Nat) ^ 18 = 1000000000000000000 := by decide
  have l_19 : (19 : Int32) = nI 19 := by decide
  have hun : fX6_unitOf n (lN N) (nI f) = some (lN (10 ^ (dgs N - f))) := by
    unfold fX6_unitOf fX4_longTenTo
    simp (disch := omega) only [hsz, l_19, hst, ↓lt_d, eq_self, lN_add, i_l, wTn, wFa, wFb, wCT, wCF, mNe, mNe2, mLt, mLe, bp_s, bn_s, n_clampS, nI_1, nI_add, pk_sub, nI_mul, wrI_at, wrI_2, wrL_at, wrL_1, true_and, false_and, and_true, and_false, and_self, ↓reduceIte, Nat.reduceEqDiff, Nat.reduceAdd, Nat.reduceMul, Nat.add_zero, Nat.zero_add, reduceCtorEq, l_0, l_1, l_2, l_3, l_4, l_5, l_6, l_7, l_8, l_9, l_10, l_15, l_24, l_32, l_39, l_40, l_47, l_48, l_50, l_57, l_60, l_63, l_80, l_95, l_99, l_100, l_120, l_126, l_128, l_1000, l_9999, l_10000, L_0, L_1, L_2, L_3, L_4, L_5, L_7, L_9, L_15, L_40, L_50, L_99, L_127, L_9999, c_ltT, c_ltF, c_leT, c_leF, c_eqT, c_eqF, n_leF, n_ltF, c_gltT, c_gltF, c_ggtT, c_ggtF, false_or, or_false, or_self, true_or, or_true]
  have hcomm : 10 ^ (dgs N - f) * (N / 10 ^ (dgs N - f)) = N / 10 ^ (dgs N - f) * 10 ^ (dgs N - f) := Nat.mul_comm _ _
  generalize hu : 10 ^ (dgs N - f) = u at *
  have hle1 : 1 ≤ N / u * u := Nat.mul_pos (by omega) (by omega)
  refine ⟨u, N / u * u, rfl, hu1, rfl, hle1, hle, by omega, by omega, hun, ?_⟩
  have hu0 : (lN u = lN 0) = False := eq_false (fun z => by
    have := (pk_lEQ (a := u) (b := 0) (by omega) (by omega)).mp z
    omega)
  have hdv : lN N / lN u = lN (N / u) := pk_lDiv (by omega) (by omega) (by omega)
  unfold fX6_leastWithFirsts
  simp (disch := omega) only [hun, c_geT, hu0, ↓hdv, lN_mul, ↓lt_d, eq_self, lN_add, i_l, wTn, wFa, wFb, wCT, wCF, mNe, mNe2, mLt, mLe, bp_s, bn_s, n_clampS, nI_1, nI_add, pk_sub, nI_mul, wrI_at, wrI_2, wrL_at, wrL_1, true_and, false_and, and_true, and_false, and_self, ↓reduceIte, Nat.reduceEqDiff, Nat.reduceAdd, Nat.reduceMul, Nat.add_zero, Nat.zero_add, reduceCtorEq, l_0, l_1, l_2, l_3, l_4, l_5, l_6, l_7, l_8, l_9, l_10, l_15, l_24, l_32, l_39, l_40, l_47, l_48, l_50, l_57, l_60, l_63, l_80, l_95, l_99, l_100, l_120, l_126, l_128, l_1000, l_9999, l_10000, L_0, L_1, L_2, L_3, L_4, L_5, L_7, L_9, L_15, L_40, L_50, L_99, L_127, L_9999, c_ltT, c_ltF, c_leT, c_leF, c_eqT, c_eqF, n_leF, n_ltF, c_gltT, c_gltF, c_ggtT, c_ggtF, false_or, or_false, or_self, true_or, or_true]
/-- roots by firsts go from A to B -/
theorem span_l {n p N f : Nat} (hn : 1000 ≤ n) (hp : isPw p) (h1 : 1 ≤ N) (h2 : N ≤ 999999999999999999) (hf1 : 1 ≤ f) (hf : f ≤ dgs N) : ∃ u le A B, u = 10 ^ (dgs N - f) ∧ le = N / u * u ∧ 1 ≤ u ∧ 1 ≤ le ∧ le ≤ N ∧ le + u ≤ 1000000000000000000 ∧ N < le + u ∧ 1 ≤ A ∧ A ≤ B + 1 ∧ B ≤ 1000000000 ∧ Cut p (le - 1) (A - 1) ∧ Cut p (le + u - 1) B ∧ fX6_fromRoot n (lN N) (nI p) (nI f) = some (lN A) ∧ fX6_toRoot n (lN N) (nI p) (nI f) = some (lN B) := by
  obtain ⟨u, le, hu, hu1, hle, hle1, hleN, htop, hN, hun, hlf⟩ := unit_l (n := n) hn h1 h2 hf1 hf
  obtain ⟨m1, -⟩ := mxR_l hp
  obtain ⟨a, a1, a2, a3⟩ := cutRoot_l (n := n) (M := le - 1) hn hp (by omega)
  obtain ⟨b, b1, b2, b3⟩ := cutRoot_l (n := n) (M := le + u - 1) hn hp (by omega)
  have hl1 : (1 : Int64) = lN 1 := by decide
  have hab : a ≤ b := by
    apply Nat.le_of_not_lt
    intro z
    have := pw_mono (p := p) (show b + 1 ≤ a from z)
    have := a2.1
    have := b2.2
    omega
  refine ⟨u, le, a + 1, b, hu, hle, hu1, hle1, hleN, htop, hN, by omega, by omega, by omega, by rw [Nat.add_sub_cancel]; exact a2, b2, ?_, ?_⟩
  · unfold fX6_fromRoot
    simp (disch := omega) only [hlf, lN_sub, a1, hl1, ↓lt_d, eq_self, lN_add, i_l, wTn, wFa, wFb, wCT, wCF, mNe, mNe2, mLt, mLe, bp_s, bn_s, n_clampS, nI_1, nI_add, pk_sub, nI_mul, wrI_at, wrI_2, wrL_at, wrL_1, true_and, false_and, and_true, and_false, and_self, ↓reduceIte, Nat.reduceEqDiff, Nat.reduceAdd, Nat.reduceMul, Nat.add_zero, Nat.zero_add, reduceCtorEq, l_0, l_1, l_2, l_3, l_4, l_5, l_6, l_7, l_8, l_9, l_10, l_15, l_24, l_32, l_39, l_40, l_47, l_48, l_50, l_57, l_60, l_63, l_80, l_95, l_99, l_100, l_120, l_126, l_128, l_1000, l_9999, l_10000, L_0, L_1, L_2, L_3, L_4, L_5, L_7, L_9, L_15, L_40, L_50, L_99, L_127, L_9999, c_ltT, c_ltF, c_leT, c_leF, c_eqT, c_eqF, n_leF, n_ltF, c_gltT, c_gltF, c_ggtT, c_ggtF, false_or, or_false, or_self, true_or, or_true]
  · unfold fX6_toRoot
    simp (disch := omega) only [hlf, hun, lN_sub, b1, hl1, ↓lt_d, eq_self, lN_add, i_l, wTn, wFa, wFb, wCT, wCF, mNe, mNe2, mLt, mLe, bp_s, bn_s, n_clampS, nI_1, nI_add, pk_sub, nI_mul, wrI_at, wrI_2, wrL_at, wrL_1, true_and, false_and, and_true, and_false, and_self, ↓reduceIte, Nat.reduceEqDiff, Nat.reduceAdd, Nat.reduceMul, Nat.add_zero, Nat.zero_add, reduceCtorEq, l_0, l_1, l_2, l_3, l_4, l_5, l_6, l_7, l_8, l_9, l_10, l_15, l_24, l_32, l_39, l_40, l_47, l_48, l_50, l_57, l_60, l_63, l_80, l_95, l_99, l_100, l_120, l_126, l_128, l_1000, l_9999, l_10000, L_0, L_1, L_2, L_3, L_4, L_5, L_7, L_9, L_15, L_40, L_50, L_99, L_127, L_9999, c_ltT, c_ltF, c_leT, c_leF, c_eqT, c_eqF, n_leF, n_ltF, c_gltT, c_gltF, c_ggtT, c_ggtF, false_or, or_false, or_self, true_or, or_true]
theorem Lst_cut {p x r : Nat} (hr : 1 ≤ r) (h1 : (r - 1) ^ p < x) (h2 : x ≤ r ^ p) : Cut p (x - 1) (r - 1) := by
  refine ⟨by omega, ?_⟩
  rw [show r - 1 + 1 = r by omega]
  omega
/-- the reference's span is the class's -/
theorem manyF_l {n p N f : Nat} (hn : 1000 ≤ n) (hp : isPw p) (h1 : 1 ≤ N) (h2 : N ≤ 999999999999999999) (hf1 : 1 ≤ f) (hf : f ≤ dgs N) {A B u le : Nat} (hu : u = 10 ^ (dgs N - f)) (hle : le = N / u * u) (hu1 : 1 ≤ u) (hle1 : 1 ≤ le) (htop : le + u ≤ 1000000000000000000) (hA : 1 ≤ A) (hAB : A ≤ B + 1) (hB : B ≤ 1000000000) (hcA : Cut p (le - 1) (A - 1)) (hcB : Cut p (le + u - 1) B) (R : Mm) : ∃ lf R', fX11_manyFirsts n (lN N) (nI p) (nI f) R = some (lN (sumN (tel p N A B) 10), R') ∧ R'.2 72 44 = lN lf ∧ Lfi p N A B 10 lf ∧ R'.1 = R.1 ∧ ∀ q i, ¬ (q = 72 ∧ i = 44) → R'.2 q i = R.2 q i := by
  have hp1 : p < 1000 := by unfold isPw at hp; omega
  obtain ⟨s, hs, hs2, hs3, hs4⟩ := dgs_pw h1 h2
  have hdo := digitsOf_l (n := n) (N := N) hn (by omega)
  have hl1 : (1 : Int64) = lN 1 := by decide
  have hl0 : (0 : Int64) = lN 0 := by decide
  obtain ⟨lf, R', m1, m2, m3, m4, m5⟩ := many_r (n := n) (N := N) hn hp hA hAB (show B < 2 ^ 31 by omega) 10 0 n 0 (wrL R 72 44 (lN 0)) rfl (by omega) (by omega) (by rw [wrL_at, if_pos ⟨rfl, rfl⟩]) (Or.inl ⟨rfl, fun d hd => by omega⟩)
  have hfin : fX11_manyFirsts_b110 n (lN N) (nI p) (lN A) (lN (B + 1)) R = some (lN (sumN (tel p N A B) 10), R') := by
    have hlr := lrm_p (m := N) (by omega)
    unfold fX11_manyFirsts_b110
    simp (disch := omega) only [L_10, ↓hlr, lN_i, hl0, ↓lt_d, eq_self, lN_add, i_l, wTn, wFa, wFb, wCT, wCF, mNe, mNe2, mLt, mLe, bp_s, bn_s, n_clampS, nI_1, nI_add, pk_sub, nI_mul, wrI_at, wrI_2, wrL_at, wrL_1, true_and, false_and, and_true, and_false, and_self, ↓reduceIte, Nat.reduceEqDiff, Nat.reduceAdd, Nat.reduceMul, Nat.add_zero, Nat.zero_add, reduceCtorEq, l_0, l_1, l_2, l_3, l_4, l_5, l_6, l_7, l_8, l_9, l_10, l_15, l_24, l_32, l_39, l_40, l_47, l_48, l_50, l_57, l_60, l_63, l_80, l_95, l_99, l_100, l_120, l_126, l_128, l_1000, l_9999, l_10000, L_0, L_1, L_2, L_3, L_4, L_5, L_7, L_9, L_15, L_40, L_50, L_99, L_127, L_9999, c_ltT, c_ltF, c_leT, c_leF, c_eqT, c_eqF, n_leF, n_ltF, c_gltT, c_gltF, c_ggtT, c_ggtF, false_or, or_false, or_self, true_or, or_true]
    exact m1
  refine ⟨lf, R', ?_, m2, m3, m4, fun q i hq => by rw [m5 q i hq, wrL_at, if_neg hq]⟩
  have hu0 : (lN u = lN 0) = False := eq_false (fun z => by
    have := (pk_lEQ (a := u) (b := 0) (by omega) (by omega)).mp z
    omega)
  have hdv : lN N / lN u = lN (N / u) := pk_lDiv (by omega) (by omega) (by omega)
  obtain ⟨l, l1, l2, l3, l4, l5⟩ := leastOf_l (n := n) (x := le) hn hp hle1 (by omega)
  have hlA : l = A := by
    have := Cut_u hcA (Lst_cut l2 l4 l5)
    omega
  subst hlA
  have loop : ∀ d i fu, dgs N - f - i = d → i ≤ dgs N - f → d < fu → fX11_manyFirsts_h12 n fu (lN N) (nI p) (nI f) (nI (dgs N)) (lN (10 ^ i)) (nI i) R = some (lN (sumN (tel p N l B) 10), R') := by
    intro d
    induction d with
    | zero =>
      intro i fu hd hi hf'
      obtain ⟨fu, rfl⟩ : ∃ f, fu = f + 1 := ⟨fu - 1, by omega⟩
      have hiu : 10 ^ i = u := by rw [hu, show i = dgs N - f by omega]
      rw [fX11_manyFirsts_h12.eq_2, hiu]
      by_cases hG : le + u - 1 < 999999999999999999
      · obtain ⟨h, g1, g2, g3, g4, g5⟩ := leastOf_l (n := n) (x := le + u) hn hp (by omega) (by omega)
        have hhB : h = B + 1 := by
          have := Cut_u hcB (Lst_cut g2 g4 g5)
          omega
        subst hhB
        simp (disch := omega) only [hu0, ↓hdv, lN_mul, ← hle, l1, lN_sub, hl1, L_G, c_gltT, g1, ↓lt_d, eq_self, lN_add, i_l, wTn, wFa, wFb, wCT, wCF, mNe, mNe2, mLt, mLe, bp_s, bn_s, n_clampS, nI_1, nI_add, pk_sub, nI_mul, wrI_at, wrI_2, wrL_at, wrL_1, true_and, false_and, and_true, and_false, and_self, ↓reduceIte, Nat.reduceEqDiff, Nat.reduceAdd, Nat.reduceMul, Nat.add_zero, Nat.zero_add, reduceCtorEq, l_0, l_1, l_2, l_3, l_4, l_5, l_6, l_7, l_8, l_9, l_10, l_15, l_24, l_32, l_39, l_40, l_47, l_48, l_50, l_57, l_60, l_63, l_80, l_95, l_99, l_100, l_120, l_126, l_128, l_1000, l_9999, l_10000, L_0, L_1, L_2, L_3, L_4, L_5, L_7, L_9, L_15, L_40, L_50, L_99, L_127, L_9999, c_ltT, c_ltF, c_leT, c_leF, c_eqT, c_eqF, n_leF, n_ltF, c_gltT, c_gltF, c_ggtT, c_ggtF, false_or, or_false, or_self, true_or, or_true]
        exact hfin
      · have hGe : le + u - 1 = 999999999999999999 := by omega
        obtain ⟨h, g1, g2, g3, g4, g5⟩ := leastOf_l (n := n) (x := 999999999999999999) hn hp (by omega) (by omega)
        have hpo := powerOf_l (n := n) (r := h) hn hp1 g2 (by omega)
        have hpl := pwG_le h p
        rw [hGe] at hcB
        by_cases hh : h ^ p = 999999999999999999
        · have hhB : h = B := by
            refine Cut_u ⟨by omega, ?_⟩ hcB
            have := Nat.pow_lt_pow_left (show h < h + 1 by omega) (show p ≠ 0 by unfold isPw at hp; omega)
            omega
          subst hhB
          have hpg : pwG h p = 999999999999999999 := by
            unfold pwG
            rw [if_pos (by omega)]
            exact hh
          rw [hpg] at hpo
          unfold fX11_manyFirsts_b97
          simp (disch := omega) only [hu0, ↓hdv, lN_mul, ← hle, l1, lN_sub, hl1, L_G, c_gltF, g1, hpo, c_ggtF, ↓lt_d, eq_self, lN_add, i_l, wTn, wFa, wFb, wCT, wCF, mNe, mNe2, mLt, mLe, bp_s, bn_s, n_clampS, nI_1, nI_add, pk_sub, nI_mul, wrI_at, wrI_2, wrL_at, wrL_1, true_and, false_and, and_true, and_false, and_self, ↓reduceIte, Nat.reduceEqDiff, Nat.reduceAdd, Nat.reduceMul, Nat.add_zero, Nat.zero_add, reduceCtorEq, l_0, l_1, l_2, l_3, l_4, l_5, l_6, l_7, l_8, l_9, l_10, l_15, l_24, l_32, l_39, l_40, l_47, l_48, l_50, l_57, l_60, l_63, l_80, l_95, l_99, l_100, l_120, l_126, l_128, l_1000, l_9999, l_10000, L_0, L_1, L_2, L_3, L_4, L_5, L_7, L_9, L_15, L_40, L_50, L_99, L_127, L_9999, c_ltT, c_ltF, c_leT, c_leF, c_eqT, c_eqF, n_leF, n_ltF, c_gltT, c_gltF, c_ggtT, c_ggtF, false_or, or_false, or_self, true_or, or_true]
          exact hfin
        · have hhB : h = B + 1 := by
            have hcc : Cut p 999999999999999999 (h - 1) := by
              refine ⟨by omega, ?_⟩
              rw [show h - 1 + 1 = h by omega]
              omega
            have := Cut_u hcc hcB
            omega
          subst hhB
          have hpg : pwG (B + 1) p = 1000000000000000000 := by
            unfold pwG
            rw [if_neg (by omega)]
          rw [hpg] at hpo
          unfold fX11_manyFirsts_b97
          simp (disch := omega) only [hu0, ↓hdv, lN_mul, ← hle, l1, lN_sub, hl1, L_G, c_gltF, g1, hpo, c_ggtT, hl0, ↓lt_d, eq_self, lN_add, i_l, wTn, wFa, wFb, wCT, wCF, mNe, mNe2, mLt, mLe, bp_s, bn_s, n_clampS, nI_1, nI_add, pk_sub, nI_mul, wrI_at, wrI_2, wrL_at, wrL_1, true_and, false_and, and_true, and_false, and_self, ↓reduceIte, Nat.reduceEqDiff, Nat.reduceAdd, Nat.reduceMul, Nat.add_zero, Nat.zero_add, reduceCtorEq, l_0, l_1, l_2, l_3, l_4, l_5, l_6, l_7, l_8, l_9, l_10, l_15, l_24, l_32, l_39, l_40, l_47, l_48, l_50, l_57, l_60, l_63, l_80, l_95, l_99, l_100, l_120, l_126, l_128, l_1000, l_9999, l_10000, L_0, L_1, L_2, L_3, L_4, L_5, L_7, L_9, L_15, L_40, L_50, L_99, L_127, L_9999, c_ltT, c_ltF, c_leT, c_leF, c_eqT, c_eqF, n_leF, n_ltF, c_gltT, c_gltF, c_ggtT, c_ggtF, false_or, or_false, or_self, true_or, or_true]
          exact hfin
    | succ d ih =>
      intro i fu hd hi hf'
      obtain ⟨fu, rfl⟩ : ∃ f, fu = f + 1 := ⟨fu - 1, by omega⟩
      have e := ih (i + 1) fu (by omega) (by omega) (by omega)
      rw [Nat.pow_succ] at e
      rw [fX11_manyFirsts_h12.eq_2]
      simp (disch := omega) only [L_10, lN_mul, ↓lt_d, eq_self, lN_add, i_l, wTn, wFa, wFb, wCT, wCF, mNe, mNe2, mLt, mLe, bp_s, bn_s, n_clampS, nI_1, nI_add, pk_sub, nI_mul, wrI_at, wrI_2, wrL_at, wrL_1, true_and, false_and, and_true, and_false, and_self, ↓reduceIte, Nat.reduceEqDiff, Nat.reduceAdd, Nat.reduceMul, Nat.add_zero, Nat.zero_add, reduceCtorEq, l_0, l_1, l_2, l_3, l_4, l_5, l_6, l_7, l_8, l_9, l_10, l_15, l_24, l_32, l_39, l_40, l_47, l_48, l_50, l_57, l_60, l_63, l_80, l_95, l_99, l_100, l_120, l_126, l_128, l_1000, l_9999, l_10000, L_0, L_1, L_2, L_3, L_4, L_5, L_7, L_9, L_15, L_40, L_50, L_99, L_127, L_9999, c_ltT, c_ltF, c_leT, c_leF, c_eqT, c_eqF, n_leF, n_ltF, c_gltT, c_gltF, c_ggtT, c_ggtF, false_or, or_false, or_self, true_or, or_true]
      exact e
  have e := loop (dgs N - f) 0 n (by omega) (by omega) (by omega)
  rw [Nat.pow_zero] at e
  unfold fX11_manyFirsts
  simp (disch := omega) only [hdo, hl1, ↓lt_d, eq_self, lN_add, i_l, wTn, wFa, wFb, wCT, wCF, mNe, mNe2, mLt, mLe, bp_s, bn_s, n_clampS, nI_1, nI_add, pk_sub, nI_mul, wrI_at, wrI_2, wrL_at, wrL_1, true_and, false_and, and_true, and_false, and_self, ↓reduceIte, Nat.reduceEqDiff, Nat.reduceAdd, Nat.reduceMul, Nat.add_zero, Nat.zero_add, reduceCtorEq, l_0, l_1, l_2, l_3, l_4, l_5, l_6, l_7, l_8, l_9, l_10, l_15, l_24, l_32, l_39, l_40, l_47, l_48, l_50, l_57, l_60, l_63, l_80, l_95, l_99, l_100, l_120, l_126, l_128, l_1000, l_9999, l_10000, L_0, L_1, L_2, L_3, L_4, L_5, L_7, L_9, L_15, L_40, L_50, L_99, L_127, L_9999, c_ltT, c_ltF, c_leT, c_leF, c_eqT, c_eqF, n_leF, n_ltF, c_gltT, c_gltF, c_ggtT, c_ggtF, false_or, or_false, or_self, true_or, or_true]
  exact e
/-- both sides' firsts -/
theorem firsts_l {n p N f : Nat} (hn : 1000 ≤ n) (hp : isPw p) (h1 : 1 ≤ N) (h2 : N ≤ 999999999999999999) (hf1 : 1 ≤ f) (hf : f ≤ dgs N) (R : Mm) : ∃ m c R', fX6_howMany n (lN N) (nI p) (nI f) = some (lN m) ∧ fX6_least n (lN N) (nI p) (nI f) = some (lN c) ∧ fX11_manyFirsts n (lN N) (nI p) (nI f) R = some (lN m, R') ∧ R'.2 72 44 = lN c ∧ R'.1 = R.1 ∧ (∀ q i, ¬ (q = 72 ∧ i = 44) → R'.2 q i = R.2 q i) ∧ m < 2 ^ 40 ∧ ((∃ r, r ^ p = N) → 1 ≤ m) ∧ ((∃ r, r ^ p = N) → f = dgs N → m = 1) := by
  obtain ⟨u, le, A, B, hu, hle, hu1, hle1, hleN, htop, hNt, hA, hAB, hB, hcA, hcB, w1, w2⟩ := span_l (n := n) hn hp h1 h2 hf1 hf
  obtain ⟨lf, R', m1, m2, m3, m4, m5⟩ := manyF_l (n := n) hn hp h1 h2 hf1 hf hu hle hu1 hle1 htop hA hAB hB hcA hcB R
  have hc := many_c (n := n) hn hp h2 hA hAB (show B < 2 ^ 31 by omega) 10 0 n rfl (by omega) (by omega)
  have hl := least_c (n := n) (A := A) hn hp h2 (show B < 2 ^ 31 by omega) hAB 10 0 n rfl (by omega) (by omega) (fun k h3 h4 => by omega)
  have hl0 : (0 : Int64) = lN 0 := by decide
  have hp0 : p ≠ 0 := by unfold isPw at hp; omega
  have hs0 : sumN (fun o => tel p N A B ((A + o) % 10)) 0 = 0 := rfl
  rw [hs0, Nat.add_zero] at hc
  rw [Nat.add_zero] at hl
  have hhm : fX6_howMany n (lN N) (nI p) (nI f) = some (lN (sumN (tel p N A B) 10)) := by
    unfold fX6_howMany
    simp (disch := omega) only [w1, w2, hl0, ↓lt_d, eq_self, lN_add, i_l, wTn, wFa, wFb, wCT, wCF, mNe, mNe2, mLt, mLe, bp_s, bn_s, n_clampS, nI_1, nI_add, pk_sub, nI_mul, wrI_at, wrI_2, wrL_at, wrL_1, true_and, false_and, and_true, and_false, and_self, ↓reduceIte, Nat.reduceEqDiff, Nat.reduceAdd, Nat.reduceMul, Nat.add_zero, Nat.zero_add, reduceCtorEq, l_0, l_1, l_2, l_3, l_4, l_5, l_6, l_7, l_8, l_9, l_10, l_15, l_24, l_32, l_39, l_40, l_47, l_48, l_50, l_57, l_60, l_63, l_80, l_95, l_99, l_100, l_120, l_126, l_128, l_1000, l_9999, l_10000, L_0, L_1, L_2, L_3, L_4, L_5, L_7, L_9, L_15, L_40, L_50, L_99, L_127, L_9999, c_ltT, c_ltF, c_leT, c_leF, c_eqT, c_eqF, n_leF, n_ltF, c_gltT, c_gltF, c_ggtT, c_ggtF, false_or, or_false, or_self, true_or, or_true]
    exact hc
  have hbd : sumN (tel p N A B) 10 < 2 ^ 40 := by
    have ht : ∀ d, tel p N A B d ≤ 1000000001 := by
      intro d
      unfold tel eb
      split
      · split <;> split <;> omega
      · omega
    have t0 := ht 0
    have t1 := ht 1
    have t2 := ht 2
    have t3 := ht 3
    have t4 := ht 4
    have t5 := ht 5
    have t6 := ht 6
    have t7 := ht 7
    have t8 := ht 8
    have t9 := ht 9
    show 0 + tel p N A B 0 + tel p N A B 1 + tel p N A B 2 + tel p N A B 3 + tel p N A B 4 + tel p N A B 5 + tel p N A B 6 + tel p N A B 7 + tel p N A B 8 + tel p N A B 9 < 2 ^ 40
    omega
  -- the whole root lies within, and ends alike
  have hroot : ∀ r, r ^ p = N → A ≤ r ∧ r ≤ B ∧ al p N (r % 10) := by
    intro r hr
    refine ⟨?_, ?_, ?_⟩
    · apply Nat.le_of_not_lt
      intro z
      have := pw_mono (p := p) (show r ≤ A - 1 by omega)
      have := hcA.1
      omega
    · apply Nat.le_of_not_lt
      intro z
      have := pw_mono (p := p) (show B + 1 ≤ r from z)
      have := hcB.2
      omega
    · show (r % 10) ^ p % 10 = N % 10
      rw [← hr, ← Nat.pow_mod]
  have hone : ∀ r, r ^ p = N → 1 ≤ tel p N A B (r % 10) := by
    intro r hr
    obtain ⟨y1, y2, y3⟩ := hroot r hr
    unfold tel
    rw [if_pos (show (r % 10) ^ p % 10 = N % 10 from y3)]
    unfold eb
    split <;> split <;> omega
  have hge : ∀ d, d < 10 → tel p N A B d ≤ sumN (tel p N A B) 10 := by
    intro d hd
    have := sumN_s (w := tel p N A B) hd
    omega
  have hsame : ∃ c, fX6_least n (lN N) (nI p) (nI f) = some (lN c) ∧ lN lf = lN c := by
    rcases hl with ⟨e1, e2⟩ | ⟨c, e1, e2, e3, e4, e5, e6⟩
    · refine ⟨0, ?_, ?_⟩
      · unfold fX6_least
        simp (disch := omega) only [w1, w2, ↓lt_d, eq_self, lN_add, i_l, wTn, wFa, wFb, wCT, wCF, mNe, mNe2, mLt, mLe, bp_s, bn_s, n_clampS, nI_1, nI_add, pk_sub, nI_mul, wrI_at, wrI_2, wrL_at, wrL_1, true_and, false_and, and_true, and_false, and_self, ↓reduceIte, Nat.reduceEqDiff, Nat.reduceAdd, Nat.reduceMul, Nat.add_zero, Nat.zero_add, reduceCtorEq, l_0, l_1, l_2, l_3, l_4, l_5, l_6, l_7, l_8, l_9, l_10, l_15, l_24, l_32, l_39, l_40, l_47, l_48, l_50, l_57, l_60, l_63, l_80, l_95, l_99, l_100, l_120, l_126, l_128, l_1000, l_9999, l_10000, L_0, L_1, L_2, L_3, L_4, L_5, L_7, L_9, L_15, L_40, L_50, L_99, L_127, L_9999, c_ltT, c_ltF, c_leT, c_leF, c_eqT, c_eqF, n_leF, n_ltF, c_gltT, c_gltF, c_ggtT, c_ggtF, false_or, or_false, or_self, true_or, or_true]
        exact e1
      · rcases m3 with ⟨g1, -⟩ | ⟨g1, g1b, ⟨d, g2, g3, g4, g5⟩, -⟩
        · rw [g1]
        · obtain ⟨r1, r2, r3⟩ := rst_sp (A := A) g2
          exact absurd (by rw [r3]; exact g3) (e2 (rst A d) r1 r2 g5)
    · refine ⟨c, ?_, ?_⟩
      · unfold fX6_least
        simp (disch := omega) only [w1, w2, ↓lt_d, eq_self, lN_add, i_l, wTn, wFa, wFb, wCT, wCF, mNe, mNe2, mLt, mLe, bp_s, bn_s, n_clampS, nI_1, nI_add, pk_sub, nI_mul, wrI_at, wrI_2, wrL_at, wrL_1, true_and, false_and, and_true, and_false, and_self, ↓reduceIte, Nat.reduceEqDiff, Nat.reduceAdd, Nat.reduceMul, Nat.add_zero, Nat.zero_add, reduceCtorEq, l_0, l_1, l_2, l_3, l_4, l_5, l_6, l_7, l_8, l_9, l_10, l_15, l_24, l_32, l_39, l_40, l_47, l_48, l_50, l_57, l_60, l_63, l_80, l_95, l_99, l_100, l_120, l_126, l_128, l_1000, l_9999, l_10000, L_0, L_1, L_2, L_3, L_4, L_5, L_7, L_9, L_15, L_40, L_50, L_99, L_127, L_9999, c_ltT, c_ltF, c_leT, c_leF, c_eqT, c_eqF, n_leF, n_ltF, c_gltT, c_gltF, c_ggtT, c_ggtF, false_or, or_false, or_self, true_or, or_true]
        exact e6
      · have hrc := rst_of e1 e2
        rcases m3 with ⟨g1, g2⟩ | ⟨g1, g1b, ⟨d, g2, g3, g4, g5⟩, g6⟩
        · have := g2 (c % 10) (by omega) e4
          omega
        · have h7 := g6 (c % 10) (by omega) e4 (by omega)
          obtain ⟨r1, r2, r3⟩ := rst_sp (A := A) g2
          have h8 : ¬ lf < c := fun z => e5 lf (by omega) z (by rw [g4, r3]; exact g3)
          rw [show lf = c by omega]
  obtain ⟨c, c1, c2⟩ := hsame
  refine ⟨sumN (tel p N A B) 10, c, R', hhm, c1, m1, by rw [m2]; exact c2, m4, m5, hbd, fun ⟨r, hr⟩ => ?_, fun ⟨r, hr⟩ hfs => ?_⟩
  · have := hone r hr
    have := hge (r % 10) (by omega)
    omega
  · have hu1' : u = 1 := by rw [hu, hfs, Nat.sub_self]
    have hle' : le = N := by rw [hle, hu1', Nat.div_one, Nat.mul_one]
    obtain ⟨y1, y2, y3⟩ := hroot r hr
    have hA' : A = r := by
      apply Nat.le_antisymm y1
      apply Nat.le_of_not_lt
      intro z
      have := hcA.2
      rw [show A - 1 + 1 = A by omega] at this
      have := Nat.pow_lt_pow_left z hp0
      omega
    have hB' : B = r := by
      apply Nat.le_antisymm ?_ y2
      apply Nat.le_of_not_lt
      intro z
      have := hcB.1
      have := Nat.pow_lt_pow_left z hp0
      omega
    have hz : ∀ d, d < 10 → d ≠ r % 10 → tel p N A B d = 0 := by
      intro d hd hdr
      unfold tel
      split
      · unfold eb
        split <;> split <;> omega
      · rfl
    have hr1 : tel p N A B (r % 10) = 1 := by
      have := hone r hr
      unfold tel at this ⊢
      rw [if_pos (show (r % 10) ^ p % 10 = N % 10 from y3)] at this ⊢
      unfold eb at this ⊢
      split at this <;> split at this <;> (try split) <;> (try split) <;> omega
    show 0 + tel p N A B 0 + tel p N A B 1 + tel p N A B 2 + tel p N A B 3 + tel p N A B 4 + tel p N A B 5 + tel p N A B 6 + tel p N A B 7 + tel p N A B 8 + tel p N A B 9 = 1
    have hrr : r % 10 < 10 := by omega
    generalize r % 10 = q at *
    have z0 := hz 0 (by omega)
    have z1 := hz 1 (by omega)
    have z2 := hz 2 (by omega)
    have z3 := hz 3 (by omega)
    have z4 := hz 4 (by omega)
    have z5 := hz 5 (by omega)
    have z6 := hz 6 (by omega)
    have z7 := hz 7 (by omega)
    have z8 := hz 8 (by omega)
    have z9 := hz 9 (by omega)
    rcases (show q = 0 ∨ q = 1 ∨ q = 2 ∨ q = 3 ∨ q = 4 ∨ q = 5 ∨ q = 6 ∨ q = 7 ∨ q = 8 ∨ q = 9 by omega) with rfl | rfl | rfl | rfl | rfl | rfl | rfl | rfl | rfl | rfl <;> omega
