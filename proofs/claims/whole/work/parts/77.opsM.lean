/-! fits, suits -/
theorem size_iabs (x : Int32) : fX11_size x = iabs x := by
  unfold fX11_size iabs
  rw [Int32.zero_sub]
theorem seen_rf {C R C' R' : Mm} (hc : ag fRck C C') (hr : ag fChs R R') (h : I_seen C R) : I_seen C' R' := I_seen_fr h (fun q i hq => hc.1 q i (by unfold fRck; omega)) (fun q i hq => hr.1 q i (by unfold fChs; omega))
theorem fit_h {t n j tb cp w m : Nat} (hn : 1000 ≤ n) (ht : t < 2 ^ 30) (hm40 : m ≤ 40) {T : Nat → Nat} (hw : w ≤ 6) (x : Int32) : ∀ d i fu fv C R, m - i = d → i ≤ m → d < fu → d < fv → Ok t j tb cp T C R → C.1 43 3 = nI m → ∃ r C' R', (r = 0 ∨ r = 1) ∧ fX10_fitsAll_h3 n j fu (nI w) x (nI i) C = some (nI r, C') ∧ fX11_doesFit_h3 n fv (nI j) (nI w) x (nI i) R = some (nI r, R') ∧ ag fRck C C' ∧ ag fChs R R' := by
  intro d
  induction d with
  | zero =>
    intro i fu fv C R hd hi hf hg h hm
    obtain ⟨fu, rfl⟩ : ∃ f, fu = f + 1 := ⟨fu - 1, by omega⟩
    obtain ⟨fv, rfl⟩ : ∃ f, fv = f + 1 := ⟨fv - 1, by omega⟩
    obtain ⟨m', m1, m2, m3, m4⟩ := off_l h.2.2.2.2.2.1
    have hmm : m' = m := (nI_eq (by omega) (by omega)).mp (m2.symm.trans hm)
    subst hmm
    refine ⟨1, C, R, Or.inr rfl, ?_, ?_, ag_rf, ag_rf⟩
    · rw [fX10_fitsAll_h3.eq_2]
      unfold fX7_size
      simp (disch := omega) only [m2, ↓lt_d, eq_self, lN_add, i_l, wTn, wFa, wFb, wCT, wCF, mNe, mNe2, mLt, mLe, bp_s, bn_s, n_clampS, nI_1, nI_add, pk_sub, nI_mul, wrI_at, wrI_2, wrL_at, wrL_1, true_and, false_and, and_true, and_false, and_self, ↓reduceIte, Nat.reduceEqDiff, Nat.reduceAdd, Nat.reduceMul, Nat.add_zero, Nat.zero_add, reduceCtorEq, l_0, l_1, l_2, l_3, l_4, l_5, l_6, l_7, l_8, l_9, l_10, l_15, l_24, l_32, l_39, l_40, l_47, l_48, l_50, l_57, l_60, l_63, l_80, l_95, l_99, l_100, l_120, l_126, l_128, l_1000, l_9999, l_10000, L_0, L_1, L_2, L_3, L_4, L_5, L_7, L_9, L_15, L_40, L_50, L_99, L_127, L_9999, c_ltT, c_ltF, c_leT, c_leF, c_eqT, c_eqF, n_leF, n_ltF, c_gltT, c_gltF, c_ggtT, c_ggtF, false_or, or_false, or_self, true_or, or_true]
    · rw [fX11_doesFit_h3.eq_2]
      simp (disch := omega) only [m3, ↓lt_d, eq_self, lN_add, i_l, wTn, wFa, wFb, wCT, wCF, mNe, mNe2, mLt, mLe, bp_s, bn_s, n_clampS, nI_1, nI_add, pk_sub, nI_mul, wrI_at, wrI_2, wrL_at, wrL_1, true_and, false_and, and_true, and_false, and_self, ↓reduceIte, Nat.reduceEqDiff, Nat.reduceAdd, Nat.reduceMul, Nat.add_zero, Nat.zero_add, reduceCtorEq, l_0, l_1, l_2, l_3, l_4, l_5, l_6, l_7, l_8, l_9, l_10, l_15, l_24, l_32, l_39, l_40, l_47, l_48, l_50, l_57, l_60, l_63, l_80, l_95, l_99, l_100, l_120, l_126, l_128, l_1000, l_9999, l_10000, L_0, L_1, L_2, L_3, L_4, L_5, L_7, L_9, L_15, L_40, L_50, L_99, L_127, L_9999, c_ltT, c_ltF, c_leT, c_leF, c_eqT, c_eqF, n_leF, n_ltF, c_gltT, c_gltF, c_ggtT, c_ggtF, false_or, or_false, or_self, true_or, or_true]
  | succ d ih =>
    intro i fu fv C R hd hi hf hg h hm
    obtain ⟨fu, rfl⟩ : ∃ f, fu = f + 1 := ⟨fu - 1, by omega⟩
    obtain ⟨fv, rfl⟩ : ∃ f, fv = f + 1 := ⟨fv - 1, by omega⟩
    obtain ⟨m', m1, m2, m3, m4⟩ := off_l h.2.2.2.2.2.1
    have hmm : m' = m := (nI_eq (by omega) (by omega)).mp (m2.symm.trans hm)
    subst hmm
    obtain ⟨v, a, b, dd, hv, hdd, c2, c4, hh, c6, c7, -⟩ := m4 i (by omega)
    have hj := h.1.2.1
    obtain ⟨r, C1, R1, t1, t2, t3, -, t5⟩ := reckon_l hn ht h.1 hv hw h.2.2.2.1
    have fa := act_rck (ga_X0_reckon h.1.1 t1)
    have fl := lay_chs (gl_X11_layOut t2)
    have hok := Ok_fr hj h fa fl
    rw [fX10_fitsAll_h3.eq_2, fX11_doesFit_h3.eq_2]
    unfold fX7_size fX10_fitsAll_b65 fX11_doesFit_b74
    unfold fX10_fitsAll_b70
    rcases t3 with rfl | rfl
    · refine ⟨0, C1, R1, Or.inl rfl, ?_, ?_, fa, fl⟩
      · simp (disch := omega) only [m2, c6, t1, ↓lt_d, eq_self, lN_add, i_l, wTn, wFa, wFb, wCT, wCF, mNe, mNe2, mLt, mLe, bp_s, bn_s, n_clampS, nI_1, nI_add, pk_sub, nI_mul, wrI_at, wrI_2, wrL_at, wrL_1, true_and, false_and, and_true, and_false, and_self, ↓reduceIte, Nat.reduceEqDiff, Nat.reduceAdd, Nat.reduceMul, Nat.add_zero, Nat.zero_add, reduceCtorEq, l_0, l_1, l_2, l_3, l_4, l_5, l_6, l_7, l_8, l_9, l_10, l_15, l_24, l_32, l_39, l_40, l_47, l_48, l_50, l_57, l_60, l_63, l_80, l_95, l_99, l_100, l_120, l_126, l_128, l_1000, l_9999, l_10000, L_0, L_1, L_2, L_3, L_4, L_5, L_7, L_9, L_15, L_40, L_50, L_99, L_127, L_9999, c_ltT, c_ltF, c_leT, c_leF, c_eqT, c_eqF, n_leF, n_ltF, c_gltT, c_gltF, c_ggtT, c_ggtF, false_or, or_false, or_self, true_or, or_true]
      · simp (disch := omega) only [m3, c2, t2, ↓lt_d, eq_self, lN_add, i_l, wTn, wFa, wFb, wCT, wCF, mNe, mNe2, mLt, mLe, bp_s, bn_s, n_clampS, nI_1, nI_add, pk_sub, nI_mul, wrI_at, wrI_2, wrL_at, wrL_1, true_and, false_and, and_true, and_false, and_self, ↓reduceIte, Nat.reduceEqDiff, Nat.reduceAdd, Nat.reduceMul, Nat.add_zero, Nat.zero_add, reduceCtorEq, l_0, l_1, l_2, l_3, l_4, l_5, l_6, l_7, l_8, l_9, l_10, l_15, l_24, l_32, l_39, l_40, l_47, l_48, l_50, l_57, l_60, l_63, l_80, l_95, l_99, l_100, l_120, l_126, l_128, l_1000, l_9999, l_10000, L_0, L_1, L_2, L_3, L_4, L_5, L_7, L_9, L_15, L_40, L_50, L_99, L_127, L_9999, c_ltT, c_ltF, c_leT, c_leF, c_eqT, c_eqF, n_leF, n_ltF, c_gltT, c_gltF, c_ggtT, c_ggtF, false_or, or_false, or_self, true_or, or_true]
    · obtain ⟨a', v', hd', wy⟩ := t5 rfl
      obtain ⟨S, s1, s2, s3⟩ := Wy_sec hn wy
      obtain ⟨m'', n1, n2, n3, n4⟩ := off_l hok.2.2.2.2.2.1
      have hm2 : C1.1 43 3 = nI m' := by rw [fa.1 _ _ (by unfold fRck; omega)]; exact m2
      have hmm2 : m'' = m' := (nI_eq (by omega) (by omega)).mp (n2.symm.trans hm2)
      subst hmm2
      obtain ⟨v2, a2, b2, dd2, -, -, d2, d4, -, -, d7, off, d8, d9⟩ := n4 i (by omega)
      obtain ⟨r, C2, R2, u0, u1, u2, u3, u4⟩ := ih (i + 1) fu fv C1 R1 (by omega) (by omega) (by omega) (by omega) hok hm2
      have hsz := size_iabs (nI S - nI dd2)
      by_cases ho : off = nI 0
      · subst ho
        by_cases hx : iabs (nI S - nI dd2) ≤ x
        · refine ⟨r, C2, R2, u0, ?_, ?_, ag_tr fa u3, ag_tr fl u4⟩
          · simp (disch := omega) only [m2, c6, t1, d8, d7, s2, hx, ↓lt_d, eq_self, lN_add, i_l, wTn, wFa, wFb, wCT, wCF, mNe, mNe2, mLt, mLe, bp_s, bn_s, n_clampS, nI_1, nI_add, pk_sub, nI_mul, wrI_at, wrI_2, wrL_at, wrL_1, true_and, false_and, and_true, and_false, and_self, ↓reduceIte, Nat.reduceEqDiff, Nat.reduceAdd, Nat.reduceMul, Nat.add_zero, Nat.zero_add, reduceCtorEq, l_0, l_1, l_2, l_3, l_4, l_5, l_6, l_7, l_8, l_9, l_10, l_15, l_24, l_32, l_39, l_40, l_47, l_48, l_50, l_57, l_60, l_63, l_80, l_95, l_99, l_100, l_120, l_126, l_128, l_1000, l_9999, l_10000, L_0, L_1, L_2, L_3, L_4, L_5, L_7, L_9, L_15, L_40, L_50, L_99, L_127, L_9999, c_ltT, c_ltF, c_leT, c_leF, c_eqT, c_eqF, n_leF, n_ltF, c_gltT, c_gltF, c_ggtT, c_ggtF, false_or, or_false, or_self, true_or, or_true]
            exact u1
          · simp (disch := omega) only [m3, c2, t2, s3, d4, ↓hsz, hx, d9, ↓lt_d, eq_self, lN_add, i_l, wTn, wFa, wFb, wCT, wCF, mNe, mNe2, mLt, mLe, bp_s, bn_s, n_clampS, nI_1, nI_add, pk_sub, nI_mul, wrI_at, wrI_2, wrL_at, wrL_1, true_and, false_and, and_true, and_false, and_self, ↓reduceIte, Nat.reduceEqDiff, Nat.reduceAdd, Nat.reduceMul, Nat.add_zero, Nat.zero_add, reduceCtorEq, l_0, l_1, l_2, l_3, l_4, l_5, l_6, l_7, l_8, l_9, l_10, l_15, l_24, l_32, l_39, l_40, l_47, l_48, l_50, l_57, l_60, l_63, l_80, l_95, l_99, l_100, l_120, l_126, l_128, l_1000, l_9999, l_10000, L_0, L_1, L_2, L_3, L_4, L_5, L_7, L_9, L_15, L_40, L_50, L_99, L_127, L_9999, c_ltT, c_ltF, c_leT, c_leF, c_eqT, c_eqF, n_leF, n_ltF, c_gltT, c_gltF, c_ggtT, c_ggtF, false_or, or_false, or_self, true_or, or_true]
            exact u2
        · refine ⟨0, C1, R1, Or.inl rfl, ?_, ?_, fa, fl⟩
          · simp (disch := omega) only [m2, c6, t1, d8, d7, s2, hx, ↓lt_d, eq_self, lN_add, i_l, wTn, wFa, wFb, wCT, wCF, mNe, mNe2, mLt, mLe, bp_s, bn_s, n_clampS, nI_1, nI_add, pk_sub, nI_mul, wrI_at, wrI_2, wrL_at, wrL_1, true_and, false_and, and_true, and_false, and_self, ↓reduceIte, Nat.reduceEqDiff, Nat.reduceAdd, Nat.reduceMul, Nat.add_zero, Nat.zero_add, reduceCtorEq, l_0, l_1, l_2, l_3, l_4, l_5, l_6, l_7, l_8, l_9, l_10, l_15, l_24, l_32, l_39, l_40, l_47, l_48, l_50, l_57, l_60, l_63, l_80, l_95, l_99, l_100, l_120, l_126, l_128, l_1000, l_9999, l_10000, L_0, L_1, L_2, L_3, L_4, L_5, L_7, L_9, L_15, L_40, L_50, L_99, L_127, L_9999, c_ltT, c_ltF, c_leT, c_leF, c_eqT, c_eqF, n_leF, n_ltF, c_gltT, c_gltF, c_ggtT, c_ggtF, false_or, or_false, or_self, true_or, or_true]
          · simp (disch := omega) only [m3, c2, t2, s3, d4, ↓hsz, hx, ↓lt_d, eq_self, lN_add, i_l, wTn, wFa, wFb, wCT, wCF, mNe, mNe2, mLt, mLe, bp_s, bn_s, n_clampS, nI_1, nI_add, pk_sub, nI_mul, wrI_at, wrI_2, wrL_at, wrL_1, true_and, false_and, and_true, and_false, and_self, ↓reduceIte, Nat.reduceEqDiff, Nat.reduceAdd, Nat.reduceMul, Nat.add_zero, Nat.zero_add, reduceCtorEq, l_0, l_1, l_2, l_3, l_4, l_5, l_6, l_7, l_8, l_9, l_10, l_15, l_24, l_32, l_39, l_40, l_47, l_48, l_50, l_57, l_60, l_63, l_80, l_95, l_99, l_100, l_120, l_126, l_128, l_1000, l_9999, l_10000, L_0, L_1, L_2, L_3, L_4, L_5, L_7, L_9, L_15, L_40, L_50, L_99, L_127, L_9999, c_ltT, c_ltF, c_leT, c_leF, c_eqT, c_eqF, n_leF, n_ltF, c_gltT, c_gltF, c_ggtT, c_ggtF, false_or, or_false, or_self, true_or, or_true]
      · have ho1 : (off = nI 0) = False := eq_false ho
        obtain ⟨K, hK⟩ := cans_l hn wy off
        have ha := wy.1.1
        have s5 := wy.2.1
        have s6 := wy.2.2.1
        have hA := firstC_h (n := n) ha s5 (fun i hi => ⟨(hK i hi).1, (hK i hi).2.1⟩) a' 0 n rfl (by omega) (by omega)
        obtain ⟨q, q1, q2, q3, -, q5⟩ := many_h (n := n) ha s5 s6 hK a' 0 n n 0 rfl (by omega) (by omega) (by omega)
        have e2 : (-nI 2 = -nI 2) = True := eq_self _
        rcases hA with ⟨A1, A2⟩ | ⟨f, A1, A2, A3, A4, A5⟩
        · have hq0 : q = 0 := q3.mpr (fun k _ hk => A2 k (by omega) hk)
          subst hq0
          refine ⟨0, C1, R1, Or.inl rfl, ?_, ?_, fa, fl⟩
          · unfold fX0_firstThatCan
            simp (disch := omega) only [m2, c6, t1, d8, ho1, A1, ↓lt_d, eq_self, lN_add, i_l, wTn, wFa, wFb, wCT, wCF, mNe, mNe2, mLt, mLe, bp_s, bn_s, n_clampS, nI_1, nI_add, pk_sub, nI_mul, wrI_at, wrI_2, wrL_at, wrL_1, true_and, false_and, and_true, and_false, and_self, ↓reduceIte, Nat.reduceEqDiff, Nat.reduceAdd, Nat.reduceMul, Nat.add_zero, Nat.zero_add, reduceCtorEq, l_0, l_1, l_2, l_3, l_4, l_5, l_6, l_7, l_8, l_9, l_10, l_15, l_24, l_32, l_39, l_40, l_47, l_48, l_50, l_57, l_60, l_63, l_80, l_95, l_99, l_100, l_120, l_126, l_128, l_1000, l_9999, l_10000, L_0, L_1, L_2, L_3, L_4, L_5, L_7, L_9, L_15, L_40, L_50, L_99, L_127, L_9999, c_ltT, c_ltF, c_leT, c_leF, c_eqT, c_eqF, n_leF, n_ltF, c_gltT, c_gltF, c_ggtT, c_ggtF, false_or, or_false, or_self, true_or, or_true]
          · unfold fX11_slipsOf
            by_cases hx : iabs (nI S - nI dd2) ≤ x
            · simp (disch := omega) only [m3, c2, t2, s3, d4, ↓hsz, hx, d9, ho1, q5, ↓lt_d, eq_self, lN_add, i_l, wTn, wFa, wFb, wCT, wCF, mNe, mNe2, mLt, mLe, bp_s, bn_s, n_clampS, nI_1, nI_add, pk_sub, nI_mul, wrI_at, wrI_2, wrL_at, wrL_1, true_and, false_and, and_true, and_false, and_self, ↓reduceIte, Nat.reduceEqDiff, Nat.reduceAdd, Nat.reduceMul, Nat.add_zero, Nat.zero_add, reduceCtorEq, l_0, l_1, l_2, l_3, l_4, l_5, l_6, l_7, l_8, l_9, l_10, l_15, l_24, l_32, l_39, l_40, l_47, l_48, l_50, l_57, l_60, l_63, l_80, l_95, l_99, l_100, l_120, l_126, l_128, l_1000, l_9999, l_10000, L_0, L_1, L_2, L_3, L_4, L_5, L_7, L_9, L_15, L_40, L_50, L_99, L_127, L_9999, c_ltT, c_ltF, c_leT, c_leF, c_eqT, c_eqF, n_leF, n_ltF, c_gltT, c_gltF, c_ggtT, c_ggtF, false_or, or_false, or_self, true_or, or_true]
            · simp (disch := omega) only [m3, c2, t2, s3, d4, ↓hsz, hx, ↓lt_d, eq_self, lN_add, i_l, wTn, wFa, wFb, wCT, wCF, mNe, mNe2, mLt, mLe, bp_s, bn_s, n_clampS, nI_1, nI_add, pk_sub, nI_mul, wrI_at, wrI_2, wrL_at, wrL_1, true_and, false_and, and_true, and_false, and_self, ↓reduceIte, Nat.reduceEqDiff, Nat.reduceAdd, Nat.reduceMul, Nat.add_zero, Nat.zero_add, reduceCtorEq, l_0, l_1, l_2, l_3, l_4, l_5, l_6, l_7, l_8, l_9, l_10, l_15, l_24, l_32, l_39, l_40, l_47, l_48, l_50, l_57, l_60, l_63, l_80, l_95, l_99, l_100, l_120, l_126, l_128, l_1000, l_9999, l_10000, L_0, L_1, L_2, L_3, L_4, L_5, L_7, L_9, L_15, L_40, L_50, L_99, L_127, L_9999, c_ltT, c_ltF, c_leT, c_leF, c_eqT, c_eqF, n_leF, n_ltF, c_gltT, c_gltF, c_ggtT, c_ggtF, false_or, or_false, or_self, true_or, or_true]
        · have hq0 : q ≠ 0 := by
            intro z
            have := q3.mp z f (by omega) A2
            omega
          have hf2 : (nI f = -nI 2) = False := eq_false (fun z => ng_eq (show -nI 2 < 0 by decide) (show f < 2 ^ 31 by omega) z.symm)
          have hq1 : (nI q = nI 0) = False := c_eqF hq0 (by omega) (by omega)
          by_cases hx : iabs (nI S - nI dd2) ≤ x
          · refine ⟨r, C2, R2, u0, ?_, ?_, ag_tr fa u3, ag_tr fl u4⟩
            · unfold fX0_firstThatCan
              simp (disch := omega) only [m2, c6, t1, d8, ho1, A5, hf2, d7, s2, hx, ↓lt_d, eq_self, lN_add, i_l, wTn, wFa, wFb, wCT, wCF, mNe, mNe2, mLt, mLe, bp_s, bn_s, n_clampS, nI_1, nI_add, pk_sub, nI_mul, wrI_at, wrI_2, wrL_at, wrL_1, true_and, false_and, and_true, and_false, and_self, ↓reduceIte, Nat.reduceEqDiff, Nat.reduceAdd, Nat.reduceMul, Nat.add_zero, Nat.zero_add, reduceCtorEq, l_0, l_1, l_2, l_3, l_4, l_5, l_6, l_7, l_8, l_9, l_10, l_15, l_24, l_32, l_39, l_40, l_47, l_48, l_50, l_57, l_60, l_63, l_80, l_95, l_99, l_100, l_120, l_126, l_128, l_1000, l_9999, l_10000, L_0, L_1, L_2, L_3, L_4, L_5, L_7, L_9, L_15, L_40, L_50, L_99, L_127, L_9999, c_ltT, c_ltF, c_leT, c_leF, c_eqT, c_eqF, n_leF, n_ltF, c_gltT, c_gltF, c_ggtT, c_ggtF, false_or, or_false, or_self, true_or, or_true]
              exact u1
            · unfold fX11_slipsOf
              simp (disch := omega) only [m3, c2, t2, s3, d4, ↓hsz, hx, d9, ho1, q5, hq1, ↓lt_d, eq_self, lN_add, i_l, wTn, wFa, wFb, wCT, wCF, mNe, mNe2, mLt, mLe, bp_s, bn_s, n_clampS, nI_1, nI_add, pk_sub, nI_mul, wrI_at, wrI_2, wrL_at, wrL_1, true_and, false_and, and_true, and_false, and_self, ↓reduceIte, Nat.reduceEqDiff, Nat.reduceAdd, Nat.reduceMul, Nat.add_zero, Nat.zero_add, reduceCtorEq, l_0, l_1, l_2, l_3, l_4, l_5, l_6, l_7, l_8, l_9, l_10, l_15, l_24, l_32, l_39, l_40, l_47, l_48, l_50, l_57, l_60, l_63, l_80, l_95, l_99, l_100, l_120, l_126, l_128, l_1000, l_9999, l_10000, L_0, L_1, L_2, L_3, L_4, L_5, L_7, L_9, L_15, L_40, L_50, L_99, L_127, L_9999, c_ltT, c_ltF, c_leT, c_leF, c_eqT, c_eqF, n_leF, n_ltF, c_gltT, c_gltF, c_ggtT, c_ggtF, false_or, or_false, or_self, true_or, or_true]
              exact u2
          · refine ⟨0, C1, R1, Or.inl rfl, ?_, ?_, fa, fl⟩
            · unfold fX0_firstThatCan
              simp (disch := omega) only [m2, c6, t1, d8, ho1, A5, hf2, d7, s2, hx, ↓lt_d, eq_self, lN_add, i_l, wTn, wFa, wFb, wCT, wCF, mNe, mNe2, mLt, mLe, bp_s, bn_s, n_clampS, nI_1, nI_add, pk_sub, nI_mul, wrI_at, wrI_2, wrL_at, wrL_1, true_and, false_and, and_true, and_false, and_self, ↓reduceIte, Nat.reduceEqDiff, Nat.reduceAdd, Nat.reduceMul, Nat.add_zero, Nat.zero_add, reduceCtorEq, l_0, l_1, l_2, l_3, l_4, l_5, l_6, l_7, l_8, l_9, l_10, l_15, l_24, l_32, l_39, l_40, l_47, l_48, l_50, l_57, l_60, l_63, l_80, l_95, l_99, l_100, l_120, l_126, l_128, l_1000, l_9999, l_10000, L_0, L_1, L_2, L_3, L_4, L_5, L_7, L_9, L_15, L_40, L_50, L_99, L_127, L_9999, c_ltT, c_ltF, c_leT, c_leF, c_eqT, c_eqF, n_leF, n_ltF, c_gltT, c_gltF, c_ggtT, c_ggtF, false_or, or_false, or_self, true_or, or_true]
            · simp (disch := omega) only [m3, c2, t2, s3, d4, ↓hsz, hx, ↓lt_d, eq_self, lN_add, i_l, wTn, wFa, wFb, wCT, wCF, mNe, mNe2, mLt, mLe, bp_s, bn_s, n_clampS, nI_1, nI_add, pk_sub, nI_mul, wrI_at, wrI_2, wrL_at, wrL_1, true_and, false_and, and_true, and_false, and_self, ↓reduceIte, Nat.reduceEqDiff, Nat.reduceAdd, Nat.reduceMul, Nat.add_zero, Nat.zero_add, reduceCtorEq, l_0, l_1, l_2, l_3, l_4, l_5, l_6, l_7, l_8, l_9, l_10, l_15, l_24, l_32, l_39, l_40, l_47, l_48, l_50, l_57, l_60, l_63, l_80, l_95, l_99, l_100, l_120, l_126, l_128, l_1000, l_9999, l_10000, L_0, L_1, L_2, L_3, L_4, L_5, L_7, L_9, L_15, L_40, L_50, L_99, L_127, L_9999, c_ltT, c_ltF, c_leT, c_leF, c_eqT, c_eqF, n_leF, n_ltF, c_gltT, c_gltF, c_ggtT, c_ggtF, false_or, or_false, or_self, true_or, or_true]
theorem fits_h {t n j tb cp m : Nat} (hn : 1000 ≤ n) (ht : t < 2 ^ 30) (hm40 : m ≤ 40) {T : Nat → Nat} (x : Int32) : ∀ d i fu fv y C R, 7 - i = d → i ≤ 7 → d < fu → d < fv → Ok t j tb cp T C R → C.1 43 3 = nI m → ∃ r C' R', fX10_fits_h39 n fu (nI j) x y (nI i) C = some (r, C') ∧ fX11_fits_h37 n fv (nI j) x y (nI i) R = some (r, R') := by
  intro d
  induction d with
  | zero =>
    intro i fu fv y C R hd hi hf hg h hm
    obtain ⟨fu, rfl⟩ : ∃ f, fu = f + 1 := ⟨fu - 1, by omega⟩
    obtain ⟨fv, rfl⟩ : ∃ f, fv = f + 1 := ⟨fv - 1, by omega⟩
    refine ⟨y, C, R, ?_, ?_⟩
    · rw [fX10_fits_h39.eq_2]
      simp (disch := omega) only [↓lt_d, eq_self, lN_add, i_l, wTn, wFa, wFb, wCT, wCF, mNe, mNe2, mLt, mLe, bp_s, bn_s, n_clampS, nI_1, nI_add, pk_sub, nI_mul, wrI_at, wrI_2, wrL_at, wrL_1, true_and, false_and, and_true, and_false, and_self, ↓reduceIte, Nat.reduceEqDiff, Nat.reduceAdd, Nat.reduceMul, Nat.add_zero, Nat.zero_add, reduceCtorEq, l_0, l_1, l_2, l_3, l_4, l_5, l_6, l_7, l_8, l_9, l_10, l_15, l_24, l_32, l_39, l_40, l_47, l_48, l_50, l_57, l_60, l_63, l_80, l_95, l_99, l_100, l_120, l_126, l_128, l_1000, l_9999, l_10000, L_0, L_1, L_2, L_3, L_4, L_5, L_7, L_9, L_15, L_40, L_50, L_99, L_127, L_9999, c_ltT, c_ltF, c_leT, c_leF, c_eqT, c_eqF, n_leF, n_ltF, c_gltT, c_gltF, c_ggtT, c_ggtF, false_or, or_false, or_self, true_or, or_true]
    · rw [fX11_fits_h37.eq_2]
      simp (disch := omega) only [↓lt_d, eq_self, lN_add, i_l, wTn, wFa, wFb, wCT, wCF, mNe, mNe2, mLt, mLe, bp_s, bn_s, n_clampS, nI_1, nI_add, pk_sub, nI_mul, wrI_at, wrI_2, wrL_at, wrL_1, true_and, false_and, and_true, and_false, and_self, ↓reduceIte, Nat.reduceEqDiff, Nat.reduceAdd, Nat.reduceMul, Nat.add_zero, Nat.zero_add, reduceCtorEq, l_0, l_1, l_2, l_3, l_4, l_5, l_6, l_7, l_8, l_9, l_10, l_15, l_24, l_32, l_39, l_40, l_47, l_48, l_50, l_57, l_60, l_63, l_80, l_95, l_99, l_100, l_120, l_126, l_128, l_1000, l_9999, l_10000, L_0, L_1, L_2, L_3, L_4, L_5, L_7, L_9, L_15, L_40, L_50, L_99, L_127, L_9999, c_ltT, c_ltF, c_leT, c_leF, c_eqT, c_eqF, n_leF, n_ltF, c_gltT, c_gltF, c_ggtT, c_ggtF, false_or, or_false, or_self, true_or, or_true]
  | succ d ih =>
    intro i fu fv y C R hd hi hf hg h hm
    obtain ⟨fu, rfl⟩ : ∃ f, fu = f + 1 := ⟨fu - 1, by omega⟩
    obtain ⟨fv, rfl⟩ : ∃ f, fv = f + 1 := ⟨fv - 1, by omega⟩
    have hj := h.1.2.1
    obtain ⟨r, C1, R1, t0, t1, t2, t3, t4⟩ := fit_h hn ht hm40 (w := i) (by omega) x m 0 n n C R (by omega) (by omega) (by omega) (by omega) h hm
    have hok := Ok_fr hj h t3 t4
    have hm2 : C1.1 43 3 = nI m := by rw [t3.1 _ _ (by unfold fRck; omega)]; exact hm
    rw [fX10_fits_h39.eq_2, fX11_fits_h37.eq_2]
    unfold fX10_fits_b69 fX11_fits_b64 fX10_fitsAll fX11_doesFit
    rcases t0 with rfl | rfl
    · obtain ⟨q, C2, R2, u1, u2⟩ := ih (i + 1) fu fv y C1 R1 (by omega) (by omega) (by omega) (by omega) hok hm2
      have e0 : y ||| nI 0 = y := Int32.or_zero
      refine ⟨q, C2, R2, ?_, ?_⟩
      · simp (disch := omega) only [t1, ↓lt_d, eq_self, lN_add, i_l, wTn, wFa, wFb, wCT, wCF, mNe, mNe2, mLt, mLe, bp_s, bn_s, n_clampS, nI_1, nI_add, pk_sub, nI_mul, wrI_at, wrI_2, wrL_at, wrL_1, true_and, false_and, and_true, and_false, and_self, ↓reduceIte, Nat.reduceEqDiff, Nat.reduceAdd, Nat.reduceMul, Nat.add_zero, Nat.zero_add, reduceCtorEq, l_0, l_1, l_2, l_3, l_4, l_5, l_6, l_7, l_8, l_9, l_10, l_15, l_24, l_32, l_39, l_40, l_47, l_48, l_50, l_57, l_60, l_63, l_80, l_95, l_99, l_100, l_120, l_126, l_128, l_1000, l_9999, l_10000, L_0, L_1, L_2, L_3, L_4, L_5, L_7, L_9, L_15, L_40, L_50, L_99, L_127, L_9999, c_ltT, c_ltF, c_leT, c_leF, c_eqT, c_eqF, n_leF, n_ltF, c_gltT, c_gltF, c_ggtT, c_ggtF, false_or, or_false, or_self, true_or, or_true]
        exact u1
      · simp (disch := omega) only [t2, ↓e0, ↓lt_d, eq_self, lN_add, i_l, wTn, wFa, wFb, wCT, wCF, mNe, mNe2, mLt, mLe, bp_s, bn_s, n_clampS, nI_1, nI_add, pk_sub, nI_mul, wrI_at, wrI_2, wrL_at, wrL_1, true_and, false_and, and_true, and_false, and_self, ↓reduceIte, Nat.reduceEqDiff, Nat.reduceAdd, Nat.reduceMul, Nat.add_zero, Nat.zero_add, reduceCtorEq, l_0, l_1, l_2, l_3, l_4, l_5, l_6, l_7, l_8, l_9, l_10, l_15, l_24, l_32, l_39, l_40, l_47, l_48, l_50, l_57, l_60, l_63, l_80, l_95, l_99, l_100, l_120, l_126, l_128, l_1000, l_9999, l_10000, L_0, L_1, L_2, L_3, L_4, L_5, L_7, L_9, L_15, L_40, L_50, L_99, L_127, L_9999, c_ltT, c_ltF, c_leT, c_leF, c_eqT, c_eqF, n_leF, n_ltF, c_gltT, c_gltF, c_ggtT, c_ggtF, false_or, or_false, or_self, true_or, or_true]
        exact u2
    · obtain ⟨q, C2, R2, u1, u2⟩ := ih (i + 1) fu fv (y ||| (nI 1 <<< (nI i &&& 31))) C1 R1 (by omega) (by omega) (by omega) (by omega) hok hm2
      refine ⟨q, C2, R2, ?_, ?_⟩
      · simp (disch := omega) only [t1, ↓lt_d, eq_self, lN_add, i_l, wTn, wFa, wFb, wCT, wCF, mNe, mNe2, mLt, mLe, bp_s, bn_s, n_clampS, nI_1, nI_add, pk_sub, nI_mul, wrI_at, wrI_2, wrL_at, wrL_1, true_and, false_and, and_true, and_false, and_self, ↓reduceIte, Nat.reduceEqDiff, Nat.reduceAdd, Nat.reduceMul, Nat.add_zero, Nat.zero_add, reduceCtorEq, l_0, l_1, l_2, l_3, l_4, l_5, l_6, l_7, l_8, l_9, l_10, l_15, l_24, l_32, l_39, l_40, l_47, l_48, l_50, l_57, l_60, l_63, l_80, l_95, l_99, l_100, l_120, l_126, l_128, l_1000, l_9999, l_10000, L_0, L_1, L_2, L_3, L_4, L_5, L_7, L_9, L_15, L_40, L_50, L_99, L_127, L_9999, c_ltT, c_ltF, c_leT, c_leF, c_eqT, c_eqF, n_leF, n_ltF, c_gltT, c_gltF, c_ggtT, c_ggtF, false_or, or_false, or_self, true_or, or_true]
        exact u1
      · simp (disch := omega) only [t2, ↓lt_d, eq_self, lN_add, i_l, wTn, wFa, wFb, wCT, wCF, mNe, mNe2, mLt, mLe, bp_s, bn_s, n_clampS, nI_1, nI_add, pk_sub, nI_mul, wrI_at, wrI_2, wrL_at, wrL_1, true_and, false_and, and_true, and_false, and_self, ↓reduceIte, Nat.reduceEqDiff, Nat.reduceAdd, Nat.reduceMul, Nat.add_zero, Nat.zero_add, reduceCtorEq, l_0, l_1, l_2, l_3, l_4, l_5, l_6, l_7, l_8, l_9, l_10, l_15, l_24, l_32, l_39, l_40, l_47, l_48, l_50, l_57, l_60, l_63, l_80, l_95, l_99, l_100, l_120, l_126, l_128, l_1000, l_9999, l_10000, L_0, L_1, L_2, L_3, L_4, L_5, L_7, L_9, L_15, L_40, L_50, L_99, L_127, L_9999, c_ltT, c_ltF, c_leT, c_leF, c_eqT, c_eqF, n_leF, n_ltF, c_gltT, c_gltF, c_ggtT, c_ggtF, false_or, or_false, or_self, true_or, or_true]
        exact u2
theorem op_fits {t n : Nat} (hn : 1000 ≤ n) (ht : t < 2 ^ 30) {C R : Mm} (h : Inv t C R) (p x : Int32) : ∃ r C' R', fX10_fits n p x C = some (r, C') ∧ fX11_fits n p x R = some (r, R') ∧ Inv (t + 1) C' R' := by
  have core : ∃ r C' R', fX10_fits n p x C = some (r, C') ∧ fX11_fits n p x R = some (r, R') := by
    obtain ⟨k, nb, h⟩ := h
    have hIn : In k nb t C R := h
    obtain ⟨h1, h2, h3, h4, h5, h6, h7, h8, h9, h10⟩ := h
    have hk := h2.1
    obtain ⟨m, m1, m2, m3, m4⟩ := off_l h5
    unfold fX10_fits fX11_fits fX7_size
    rcases head_cases h2 p with ⟨j, hj, rfl, g1, g2⟩ | ⟨g1, g2⟩
    · rcases i_cases x with hx | ⟨u, hu, rfl⟩
      · have hx0 : (x < nI 0) = True := eq_true hx
        have hwi := wFn (x := x) (lo := 0) (z := lN 9999) hx (by omega)
        refine ⟨-1, C, R, ?_, ?_⟩
        · simp (disch := omega) only [g1, hx0, ↓lt_d, eq_self, lN_add, i_l, wTn, wFa, wFb, wCT, wCF, mNe, mNe2, mLt, mLe, bp_s, bn_s, n_clampS, nI_1, nI_add, pk_sub, nI_mul, wrI_at, wrI_2, wrL_at, wrL_1, true_and, false_and, and_true, and_false, and_self, ↓reduceIte, Nat.reduceEqDiff, Nat.reduceAdd, Nat.reduceMul, Nat.add_zero, Nat.zero_add, reduceCtorEq, l_0, l_1, l_2, l_3, l_4, l_5, l_6, l_7, l_8, l_9, l_10, l_15, l_24, l_32, l_39, l_40, l_47, l_48, l_50, l_57, l_60, l_63, l_80, l_95, l_99, l_100, l_120, l_126, l_128, l_1000, l_9999, l_10000, L_0, L_1, L_2, L_3, L_4, L_5, L_7, L_9, L_15, L_40, L_50, L_99, L_127, L_9999, c_ltT, c_ltF, c_leT, c_leF, c_eqT, c_eqF, n_leF, n_ltF, c_gltT, c_gltF, c_ggtT, c_ggtF, false_or, or_false, or_self, true_or, or_true]
        · simp (disch := omega) only [g2, hwi, ↓lt_d, eq_self, lN_add, i_l, wTn, wFa, wFb, wCT, wCF, mNe, mNe2, mLt, mLe, bp_s, bn_s, n_clampS, nI_1, nI_add, pk_sub, nI_mul, wrI_at, wrI_2, wrL_at, wrL_1, true_and, false_and, and_true, and_false, and_self, ↓reduceIte, Nat.reduceEqDiff, Nat.reduceAdd, Nat.reduceMul, Nat.add_zero, Nat.zero_add, reduceCtorEq, l_0, l_1, l_2, l_3, l_4, l_5, l_6, l_7, l_8, l_9, l_10, l_15, l_24, l_32, l_39, l_40, l_47, l_48, l_50, l_57, l_60, l_63, l_80, l_95, l_99, l_100, l_120, l_126, l_128, l_1000, l_9999, l_10000, L_0, L_1, L_2, L_3, L_4, L_5, L_7, L_9, L_15, L_40, L_50, L_99, L_127, L_9999, c_ltT, c_ltF, c_leT, c_leF, c_eqT, c_eqF, n_leF, n_ltF, c_gltT, c_gltF, c_ggtT, c_ggtF, false_or, or_false, or_self, true_or, or_true]
      · by_cases hu2 : u ≤ 9999
        · by_cases hm0 : m = 0
          · subst hm0
            refine ⟨-5, C, R, ?_, ?_⟩
            · simp (disch := omega) only [g1, m2, ↓lt_d, eq_self, lN_add, i_l, wTn, wFa, wFb, wCT, wCF, mNe, mNe2, mLt, mLe, bp_s, bn_s, n_clampS, nI_1, nI_add, pk_sub, nI_mul, wrI_at, wrI_2, wrL_at, wrL_1, true_and, false_and, and_true, and_false, and_self, ↓reduceIte, Nat.reduceEqDiff, Nat.reduceAdd, Nat.reduceMul, Nat.add_zero, Nat.zero_add, reduceCtorEq, l_0, l_1, l_2, l_3, l_4, l_5, l_6, l_7, l_8, l_9, l_10, l_15, l_24, l_32, l_39, l_40, l_47, l_48, l_50, l_57, l_60, l_63, l_80, l_95, l_99, l_100, l_120, l_126, l_128, l_1000, l_9999, l_10000, L_0, L_1, L_2, L_3, L_4, L_5, L_7, L_9, L_15, L_40, L_50, L_99, L_127, L_9999, c_ltT, c_ltF, c_leT, c_leF, c_eqT, c_eqF, n_leF, n_ltF, c_gltT, c_gltF, c_ggtT, c_ggtF, false_or, or_false, or_self, true_or, or_true]
            · simp (disch := omega) only [g2, m3, ↓lt_d, eq_self, lN_add, i_l, wTn, wFa, wFb, wCT, wCF, mNe, mNe2, mLt, mLe, bp_s, bn_s, n_clampS, nI_1, nI_add, pk_sub, nI_mul, wrI_at, wrI_2, wrL_at, wrL_1, true_and, false_and, and_true, and_false, and_self, ↓reduceIte, Nat.reduceEqDiff, Nat.reduceAdd, Nat.reduceMul, Nat.add_zero, Nat.zero_add, reduceCtorEq, l_0, l_1, l_2, l_3, l_4, l_5, l_6, l_7, l_8, l_9, l_10, l_15, l_24, l_32, l_39, l_40, l_47, l_48, l_50, l_57, l_60, l_63, l_80, l_95, l_99, l_100, l_120, l_126, l_128, l_1000, l_9999, l_10000, L_0, L_1, L_2, L_3, L_4, L_5, L_7, L_9, L_15, L_40, L_50, L_99, L_127, L_9999, c_ltT, c_ltF, c_leT, c_leF, c_eqT, c_eqF, n_leF, n_ltF, c_gltT, c_gltF, c_ggtT, c_ggtF, false_or, or_false, or_self, true_or, or_true]
          · obtain ⟨tb, cp, T, hok⟩ := ok_of hIn hj
            obtain ⟨r, C', R', t1, t2⟩ := fits_h hn ht m1 (nI u) 7 0 n n (nI 0) C R (by omega) (by omega) (by omega) (by omega) hok m2
            refine ⟨r, C', R', ?_, ?_⟩
            · simp (disch := omega) only [g1, m2, ↓lt_d, eq_self, lN_add, i_l, wTn, wFa, wFb, wCT, wCF, mNe, mNe2, mLt, mLe, bp_s, bn_s, n_clampS, nI_1, nI_add, pk_sub, nI_mul, wrI_at, wrI_2, wrL_at, wrL_1, true_and, false_and, and_true, and_false, and_self, ↓reduceIte, Nat.reduceEqDiff, Nat.reduceAdd, Nat.reduceMul, Nat.add_zero, Nat.zero_add, reduceCtorEq, l_0, l_1, l_2, l_3, l_4, l_5, l_6, l_7, l_8, l_9, l_10, l_15, l_24, l_32, l_39, l_40, l_47, l_48, l_50, l_57, l_60, l_63, l_80, l_95, l_99, l_100, l_120, l_126, l_128, l_1000, l_9999, l_10000, L_0, L_1, L_2, L_3, L_4, L_5, L_7, L_9, L_15, L_40, L_50, L_99, L_127, L_9999, c_ltT, c_ltF, c_leT, c_leF, c_eqT, c_eqF, n_leF, n_ltF, c_gltT, c_gltF, c_ggtT, c_ggtF, false_or, or_false, or_self, true_or, or_true]
              exact t1
            · simp (disch := omega) only [g2, m3, ↓lt_d, eq_self, lN_add, i_l, wTn, wFa, wFb, wCT, wCF, mNe, mNe2, mLt, mLe, bp_s, bn_s, n_clampS, nI_1, nI_add, pk_sub, nI_mul, wrI_at, wrI_2, wrL_at, wrL_1, true_and, false_and, and_true, and_false, and_self, ↓reduceIte, Nat.reduceEqDiff, Nat.reduceAdd, Nat.reduceMul, Nat.add_zero, Nat.zero_add, reduceCtorEq, l_0, l_1, l_2, l_3, l_4, l_5, l_6, l_7, l_8, l_9, l_10, l_15, l_24, l_32, l_39, l_40, l_47, l_48, l_50, l_57, l_60, l_63, l_80, l_95, l_99, l_100, l_120, l_126, l_128, l_1000, l_9999, l_10000, L_0, L_1, L_2, L_3, L_4, L_5, L_7, L_9, L_15, L_40, L_50, L_99, L_127, L_9999, c_ltT, c_ltF, c_leT, c_leF, c_eqT, c_eqF, n_leF, n_ltF, c_gltT, c_gltF, c_ggtT, c_ggtF, false_or, or_false, or_self, true_or, or_true]
              exact t2
        · refine ⟨-1, C, R, ?_, ?_⟩
          · simp (disch := omega) only [g1, ↓lt_d, eq_self, lN_add, i_l, wTn, wFa, wFb, wCT, wCF, mNe, mNe2, mLt, mLe, bp_s, bn_s, n_clampS, nI_1, nI_add, pk_sub, nI_mul, wrI_at, wrI_2, wrL_at, wrL_1, true_and, false_and, and_true, and_false, and_self, ↓reduceIte, Nat.reduceEqDiff, Nat.reduceAdd, Nat.reduceMul, Nat.add_zero, Nat.zero_add, reduceCtorEq, l_0, l_1, l_2, l_3, l_4, l_5, l_6, l_7, l_8, l_9, l_10, l_15, l_24, l_32, l_39, l_40, l_47, l_48, l_50, l_57, l_60, l_63, l_80, l_95, l_99, l_100, l_120, l_126, l_128, l_1000, l_9999, l_10000, L_0, L_1, L_2, L_3, L_4, L_5, L_7, L_9, L_15, L_40, L_50, L_99, L_127, L_9999, c_ltT, c_ltF, c_leT, c_leF, c_eqT, c_eqF, n_leF, n_ltF, c_gltT, c_gltF, c_ggtT, c_ggtF, false_or, or_false, or_self, true_or, or_true]
          · simp (disch := omega) only [g2, ↓lt_d, eq_self, lN_add, i_l, wTn, wFa, wFb, wCT, wCF, mNe, mNe2, mLt, mLe, bp_s, bn_s, n_clampS, nI_1, nI_add, pk_sub, nI_mul, wrI_at, wrI_2, wrL_at, wrL_1, true_and, false_and, and_true, and_false, and_self, ↓reduceIte, Nat.reduceEqDiff, Nat.reduceAdd, Nat.reduceMul, Nat.add_zero, Nat.zero_add, reduceCtorEq, l_0, l_1, l_2, l_3, l_4, l_5, l_6, l_7, l_8, l_9, l_10, l_15, l_24, l_32, l_39, l_40, l_47, l_48, l_50, l_57, l_60, l_63, l_80, l_95, l_99, l_100, l_120, l_126, l_128, l_1000, l_9999, l_10000, L_0, L_1, L_2, L_3, L_4, L_5, L_7, L_9, L_15, L_40, L_50, L_99, L_127, L_9999, c_ltT, c_ltF, c_leT, c_leF, c_eqT, c_eqF, n_leF, n_ltF, c_gltT, c_gltF, c_ggtT, c_ggtF, false_or, or_false, or_self, true_or, or_true]
    · refine ⟨-1, C, R, ?_, ?_⟩
      · simp (disch := omega) only [g1, ↓lt_d, eq_self, lN_add, i_l, wTn, wFa, wFb, wCT, wCF, mNe, mNe2, mLt, mLe, bp_s, bn_s, n_clampS, nI_1, nI_add, pk_sub, nI_mul, wrI_at, wrI_2, wrL_at, wrL_1, true_and, false_and, and_true, and_false, and_self, ↓reduceIte, Nat.reduceEqDiff, Nat.reduceAdd, Nat.reduceMul, Nat.add_zero, Nat.zero_add, reduceCtorEq, l_0, l_1, l_2, l_3, l_4, l_5, l_6, l_7, l_8, l_9, l_10, l_15, l_24, l_32, l_39, l_40, l_47, l_48, l_50, l_57, l_60, l_63, l_80, l_95, l_99, l_100, l_120, l_126, l_128, l_1000, l_9999, l_10000, L_0, L_1, L_2, L_3, L_4, L_5, L_7, L_9, L_15, L_40, L_50, L_99, L_127, L_9999, c_ltT, c_ltF, c_leT, c_leF, c_eqT, c_eqF, n_leF, n_ltF, c_gltT, c_gltF, c_ggtT, c_ggtF, false_or, or_false, or_self, true_or, or_true]
      · simp (disch := omega) only [g2, ↓lt_d, eq_self, lN_add, i_l, wTn, wFa, wFb, wCT, wCF, mNe, mNe2, mLt, mLe, bp_s, bn_s, n_clampS, nI_1, nI_add, pk_sub, nI_mul, wrI_at, wrI_2, wrL_at, wrL_1, true_and, false_and, and_true, and_false, and_self, ↓reduceIte, Nat.reduceEqDiff, Nat.reduceAdd, Nat.reduceMul, Nat.add_zero, Nat.zero_add, reduceCtorEq, l_0, l_1, l_2, l_3, l_4, l_5, l_6, l_7, l_8, l_9, l_10, l_15, l_24, l_32, l_39, l_40, l_47, l_48, l_50, l_57, l_60, l_63, l_80, l_95, l_99, l_100, l_120, l_126, l_128, l_1000, l_9999, l_10000, L_0, L_1, L_2, L_3, L_4, L_5, L_7, L_9, L_15, L_40, L_50, L_99, L_127, L_9999, c_ltT, c_ltF, c_leT, c_leF, c_eqT, c_eqF, n_leF, n_ltF, c_gltT, c_gltF, c_ggtT, c_ggtF, false_or, or_false, or_self, true_or, or_true]
  obtain ⟨r, C', R', c1, c2⟩ := core
  exact ⟨r, C', R', c1, c2, Inv_up (Nat.le_succ t) (Inv_fl h (gc_X10_fits c1) (gr_X11_fits c2))⟩
theorem suits_h {t n j tb cp m : Nat} (hn : 1000 ≤ n) (ht : t < 2 ^ 30) (hm40 : m ≤ 40) (hm1 : 1 ≤ m) {T : Nat → Nat} : ∀ d i fu fv s C R, m - i = d → i ≤ m → d < fu → d < fv → s ≤ i → Ok t j tb cp T C R → C.1 43 3 = nI m → ∃ r C' R', fX10_suits_h30 n fu (nI j) (nI m) (nI s) (nI i) C = some (r, C') ∧ fX11_suits_h24 n fv (nI j) (nI s) (nI i) R = some (r, R') := by
  intro d
  induction d with
  | zero =>
    intro i fu fv s C R hd hi hf hg hs h hm
    obtain ⟨fu, rfl⟩ : ∃ f, fu = f + 1 := ⟨fu - 1, by omega⟩
    obtain ⟨fv, rfl⟩ : ∃ f, fv = f + 1 := ⟨fv - 1, by omega⟩
    obtain ⟨m', m1, m2, m3, m4⟩ := off_l h.2.2.2.2.2.1
    have hmm : m' = m := (nI_eq (by omega) (by omega)).mp (m2.symm.trans hm)
    subst hmm
    have e1 : nI (s * 1000) / nI m' = nI (s * 1000 / m') := dv (by omega) (by omega) (by omega)
    refine ⟨nI (s * 1000 / m'), C, R, ?_, ?_⟩
    · rw [fX10_suits_h30.eq_2]
      simp (disch := omega) only [e1, ↓lt_d, eq_self, lN_add, i_l, wTn, wFa, wFb, wCT, wCF, mNe, mNe2, mLt, mLe, bp_s, bn_s, n_clampS, nI_1, nI_add, pk_sub, nI_mul, wrI_at, wrI_2, wrL_at, wrL_1, true_and, false_and, and_true, and_false, and_self, ↓reduceIte, Nat.reduceEqDiff, Nat.reduceAdd, Nat.reduceMul, Nat.add_zero, Nat.zero_add, reduceCtorEq, l_0, l_1, l_2, l_3, l_4, l_5, l_6, l_7, l_8, l_9, l_10, l_15, l_24, l_32, l_39, l_40, l_47, l_48, l_50, l_57, l_60, l_63, l_80, l_95, l_99, l_100, l_120, l_126, l_128, l_1000, l_9999, l_10000, L_0, L_1, L_2, L_3, L_4, L_5, L_7, L_9, L_15, L_40, L_50, L_99, L_127, L_9999, c_ltT, c_ltF, c_leT, c_leF, c_eqT, c_eqF, n_leF, n_ltF, c_gltT, c_gltF, c_ggtT, c_ggtF, false_or, or_false, or_self, true_or, or_true]
    · rw [fX11_suits_h24.eq_2]
      simp (disch := omega) only [m3, Nat.mul_comm 1000, e1, ↓lt_d, eq_self, lN_add, i_l, wTn, wFa, wFb, wCT, wCF, mNe, mNe2, mLt, mLe, bp_s, bn_s, n_clampS, nI_1, nI_add, pk_sub, nI_mul, wrI_at, wrI_2, wrL_at, wrL_1, true_and, false_and, and_true, and_false, and_self, ↓reduceIte, Nat.reduceEqDiff, Nat.reduceAdd, Nat.reduceMul, Nat.add_zero, Nat.zero_add, reduceCtorEq, l_0, l_1, l_2, l_3, l_4, l_5, l_6, l_7, l_8, l_9, l_10, l_15, l_24, l_32, l_39, l_40, l_47, l_48, l_50, l_57, l_60, l_63, l_80, l_95, l_99, l_100, l_120, l_126, l_128, l_1000, l_9999, l_10000, L_0, L_1, L_2, L_3, L_4, L_5, L_7, L_9, L_15, L_40, L_50, L_99, L_127, L_9999, c_ltT, c_ltF, c_leT, c_leF, c_eqT, c_eqF, n_leF, n_ltF, c_gltT, c_gltF, c_ggtT, c_ggtF, false_or, or_false, or_self, true_or, or_true]
  | succ d ih =>
    intro i fu fv s C R hd hi hf hg hs h hm
    obtain ⟨fu, rfl⟩ : ∃ f, fu = f + 1 := ⟨fu - 1, by omega⟩
    obtain ⟨fv, rfl⟩ : ∃ f, fv = f + 1 := ⟨fv - 1, by omega⟩
    obtain ⟨m', m1, m2, m3, m4⟩ := off_l h.2.2.2.2.2.1
    have hmm : m' = m := (nI_eq (by omega) (by omega)).mp (m2.symm.trans hm)
    subst hmm
    obtain ⟨v, a, b, dd, hv, hdd, c2, c4, hh, c6, c7, -⟩ := m4 i (by omega)
    have hj := h.1.2.1
    -- the reference chooses first
    obtain ⟨w, C9, R1, q1, q2, -, aw, vw, hw, wy1⟩ := chosen_l hn ht h.1 h.2.1 h.2.2.1 h.2.2.2.2.1 hv h.2.2.2.1
    have fh := gh_X11_chosenBy q2
    have hok1 := Ok_fr hj h ag_rf fh
    obtain ⟨S, s1, s2, s3⟩ := Wy_sec hn wy1
    -- then LEFT, against the class's first
    obtain ⟨r, C1, R2, t1, t2, -, t4, t5⟩ := reckon_l hn ht hok1.1 hv (w := 1) (by omega) hok1.2.2.2.1
    have hr := t4 rfl
    subst hr
    obtain ⟨al, vl, hl, wy2⟩ := t5 rfl
    obtain ⟨L, l1, l2, l3⟩ := Wy_sec hn wy2
    have fa := act_rck (ga_X0_reckon h.1.1 t1)
    have fl := lay_chs (gl_X11_layOut t2)
    -- the class chooses behind
    have hok2 := Ok_fr hj h fa ag_rf
    obtain ⟨w', C2, R9, p1, p2, -, aw', vw', hw', wy3⟩ := chosen_l hn ht hok2.1 hok2.2.1 hok2.2.2.1 hok2.2.2.2.2.1 hv hok2.2.2.2.1
    have hR9 : R9 = R1 := congrArg Prod.snd (Option.some.inj (p2.symm.trans q2))
    subst hR9
    obtain ⟨S', s1', s2', s3'⟩ := Wy_sec hn wy3
    have hS : nI S' = nI S := Option.some.inj (s3'.symm.trans s3)
    rw [hS] at s2'
    have fk := gk_X10_reckonChosen h.1.1 p1
    have hok3 := Ok_fr hj h (ag_tr fa fk) (ag_tr fh fl)
    have hm3 : C2.1 43 3 = nI m' := by rw [(ag_tr fa fk).1 _ _ (by unfold fRck; omega)]; exact m2
    have c6' : fX7_pair (nI i) C1 = some (nI v) := by
      rw [← c6]
      unfold fX7_pair fX7_has
      rw [fa.1 43 _ (by unfold fRck; omega), fa.1 44 _ (by unfold fRck; omega)]
    have c2' : R9.1 91 i = nI v := by rw [fh.1 _ _ (by unfold fChs; omega)]; exact c2
    have eL : nI L / nI 2 = nI (L / 2) := dv (by omega) (by omega) (by omega)
    rw [fX10_suits_h30.eq_2, fX11_suits_h24.eq_2]
    unfold fX10_suits_b106 fX11_suits_b84
    by_cases hx : L / 2 < S
    · obtain ⟨z, C5, R5, u1, u2⟩ := ih (i + 1) fu fv s C2 R2 (by omega) (by omega) (by omega) (by omega) (by omega) hok3 hm3
      refine ⟨z, C5, R5, ?_, ?_⟩
      · simp (disch := omega) only [c6, t1, l2, eL, c6', p1, s2', ↓lt_d, eq_self, lN_add, i_l, wTn, wFa, wFb, wCT, wCF, mNe, mNe2, mLt, mLe, bp_s, bn_s, n_clampS, nI_1, nI_add, pk_sub, nI_mul, wrI_at, wrI_2, wrL_at, wrL_1, true_and, false_and, and_true, and_false, and_self, ↓reduceIte, Nat.reduceEqDiff, Nat.reduceAdd, Nat.reduceMul, Nat.add_zero, Nat.zero_add, reduceCtorEq, l_0, l_1, l_2, l_3, l_4, l_5, l_6, l_7, l_8, l_9, l_10, l_15, l_24, l_32, l_39, l_40, l_47, l_48, l_50, l_57, l_60, l_63, l_80, l_95, l_99, l_100, l_120, l_126, l_128, l_1000, l_9999, l_10000, L_0, L_1, L_2, L_3, L_4, L_5, L_7, L_9, L_15, L_40, L_50, L_99, L_127, L_9999, c_ltT, c_ltF, c_leT, c_leF, c_eqT, c_eqF, n_leF, n_ltF, c_gltT, c_gltF, c_ggtT, c_ggtF, false_or, or_false, or_self, true_or, or_true]
        exact u1
      · simp (disch := omega) only [m3, c2, q2, s3, c2', t2, l3, eL, ↓lt_d, eq_self, lN_add, i_l, wTn, wFa, wFb, wCT, wCF, mNe, mNe2, mLt, mLe, bp_s, bn_s, n_clampS, nI_1, nI_add, pk_sub, nI_mul, wrI_at, wrI_2, wrL_at, wrL_1, true_and, false_and, and_true, and_false, and_self, ↓reduceIte, Nat.reduceEqDiff, Nat.reduceAdd, Nat.reduceMul, Nat.add_zero, Nat.zero_add, reduceCtorEq, l_0, l_1, l_2, l_3, l_4, l_5, l_6, l_7, l_8, l_9, l_10, l_15, l_24, l_32, l_39, l_40, l_47, l_48, l_50, l_57, l_60, l_63, l_80, l_95, l_99, l_100, l_120, l_126, l_128, l_1000, l_9999, l_10000, L_0, L_1, L_2, L_3, L_4, L_5, L_7, L_9, L_15, L_40, L_50, L_99, L_127, L_9999, c_ltT, c_ltF, c_leT, c_leF, c_eqT, c_eqF, n_leF, n_ltF, c_gltT, c_gltF, c_ggtT, c_ggtF, false_or, or_false, or_self, true_or, or_true]
        exact u2
    · obtain ⟨z, C5, R5, u1, u2⟩ := ih (i + 1) fu fv (s + 1) C2 R2 (by omega) (by omega) (by omega) (by omega) (by omega) hok3 hm3
      refine ⟨z, C5, R5, ?_, ?_⟩
      · simp (disch := omega) only [c6, t1, l2, eL, c6', p1, s2', ↓lt_d, eq_self, lN_add, i_l, wTn, wFa, wFb, wCT, wCF, mNe, mNe2, mLt, mLe, bp_s, bn_s, n_clampS, nI_1, nI_add, pk_sub, nI_mul, wrI_at, wrI_2, wrL_at, wrL_1, true_and, false_and, and_true, and_false, and_self, ↓reduceIte, Nat.reduceEqDiff, Nat.reduceAdd, Nat.reduceMul, Nat.add_zero, Nat.zero_add, reduceCtorEq, l_0, l_1, l_2, l_3, l_4, l_5, l_6, l_7, l_8, l_9, l_10, l_15, l_24, l_32, l_39, l_40, l_47, l_48, l_50, l_57, l_60, l_63, l_80, l_95, l_99, l_100, l_120, l_126, l_128, l_1000, l_9999, l_10000, L_0, L_1, L_2, L_3, L_4, L_5, L_7, L_9, L_15, L_40, L_50, L_99, L_127, L_9999, c_ltT, c_ltF, c_leT, c_leF, c_eqT, c_eqF, n_leF, n_ltF, c_gltT, c_gltF, c_ggtT, c_ggtF, false_or, or_false, or_self, true_or, or_true]
        exact u1
      · simp (disch := omega) only [m3, c2, q2, s3, c2', t2, l3, eL, ↓lt_d, eq_self, lN_add, i_l, wTn, wFa, wFb, wCT, wCF, mNe, mNe2, mLt, mLe, bp_s, bn_s, n_clampS, nI_1, nI_add, pk_sub, nI_mul, wrI_at, wrI_2, wrL_at, wrL_1, true_and, false_and, and_true, and_false, and_self, ↓reduceIte, Nat.reduceEqDiff, Nat.reduceAdd, Nat.reduceMul, Nat.add_zero, Nat.zero_add, reduceCtorEq, l_0, l_1, l_2, l_3, l_4, l_5, l_6, l_7, l_8, l_9, l_10, l_15, l_24, l_32, l_39, l_40, l_47, l_48, l_50, l_57, l_60, l_63, l_80, l_95, l_99, l_100, l_120, l_126, l_128, l_1000, l_9999, l_10000, L_0, L_1, L_2, L_3, L_4, L_5, L_7, L_9, L_15, L_40, L_50, L_99, L_127, L_9999, c_ltT, c_ltF, c_leT, c_leF, c_eqT, c_eqF, n_leF, n_ltF, c_gltT, c_gltF, c_ggtT, c_ggtF, false_or, or_false, or_self, true_or, or_true]
        exact u2
theorem op_suits {t n : Nat} (hn : 1000 ≤ n) (ht : t < 2 ^ 30) {C R : Mm} (h : Inv t C R) (p : Int32) : ∃ r C' R', fX10_suits n p C = some (r, C') ∧ fX11_suits n p R = some (r, R') ∧ Inv (t + 1) C' R' := by
  have core : ∃ r C' R', fX10_suits n p C = some (r, C') ∧ fX11_suits n p R = some (r, R') := by
    obtain ⟨k, nb, h⟩ := h
    have hIn : In k nb t C R := h
    obtain ⟨h1, h2, h3, h4, h5, h6, h7, h8, h9, h10⟩ := h
    have hk := h2.1
    obtain ⟨m, m1, m2, m3, m4⟩ := off_l h5
    unfold fX10_suits fX11_suits fX7_size
    rcases head_cases h2 p with ⟨j, hj, rfl, g1, g2⟩ | ⟨g1, g2⟩
    · by_cases hm0 : m = 0
      · subst hm0
        refine ⟨-5, C, R, ?_, ?_⟩
        · simp (disch := omega) only [g1, m2, ↓lt_d, eq_self, lN_add, i_l, wTn, wFa, wFb, wCT, wCF, mNe, mNe2, mLt, mLe, bp_s, bn_s, n_clampS, nI_1, nI_add, pk_sub, nI_mul, wrI_at, wrI_2, wrL_at, wrL_1, true_and, false_and, and_true, and_false, and_self, ↓reduceIte, Nat.reduceEqDiff, Nat.reduceAdd, Nat.reduceMul, Nat.add_zero, Nat.zero_add, reduceCtorEq, l_0, l_1, l_2, l_3, l_4, l_5, l_6, l_7, l_8, l_9, l_10, l_15, l_24, l_32, l_39, l_40, l_47, l_48, l_50, l_57, l_60, l_63, l_80, l_95, l_99, l_100, l_120, l_126, l_128, l_1000, l_9999, l_10000, L_0, L_1, L_2, L_3, L_4, L_5, L_7, L_9, L_15, L_40, L_50, L_99, L_127, L_9999, c_ltT, c_ltF, c_leT, c_leF, c_eqT, c_eqF, n_leF, n_ltF, c_gltT, c_gltF, c_ggtT, c_ggtF, false_or, or_false, or_self, true_or, or_true]
        · simp (disch := omega) only [g2, m3, ↓lt_d, eq_self, lN_add, i_l, wTn, wFa, wFb, wCT, wCF, mNe, mNe2, mLt, mLe, bp_s, bn_s, n_clampS, nI_1, nI_add, pk_sub, nI_mul, wrI_at, wrI_2, wrL_at, wrL_1, true_and, false_and, and_true, and_false, and_self, ↓reduceIte, Nat.reduceEqDiff, Nat.reduceAdd, Nat.reduceMul, Nat.add_zero, Nat.zero_add, reduceCtorEq, l_0, l_1, l_2, l_3, l_4, l_5, l_6, l_7, l_8, l_9, l_10, l_15, l_24, l_32, l_39, l_40, l_47, l_48, l_50, l_57, l_60, l_63, l_80, l_95, l_99, l_100, l_120, l_126, l_128, l_1000, l_9999, l_10000, L_0, L_1, L_2, L_3, L_4, L_5, L_7, L_9, L_15, L_40, L_50, L_99, L_127, L_9999, c_ltT, c_ltF, c_leT, c_leF, c_eqT, c_eqF, n_leF, n_ltF, c_gltT, c_gltF, c_ggtT, c_ggtF, false_or, or_false, or_self, true_or, or_true]
      · obtain ⟨tb, cp, T, hok⟩ := ok_of hIn hj
        obtain ⟨r, C', R', t1, t2⟩ := suits_h hn ht m1 (by omega) m 0 n n 0 C R (by omega) (by omega) (by omega) (by omega) (by omega) hok m2
        refine ⟨r, C', R', ?_, ?_⟩
        · simp (disch := omega) only [g1, m2, ↓lt_d, eq_self, lN_add, i_l, wTn, wFa, wFb, wCT, wCF, mNe, mNe2, mLt, mLe, bp_s, bn_s, n_clampS, nI_1, nI_add, pk_sub, nI_mul, wrI_at, wrI_2, wrL_at, wrL_1, true_and, false_and, and_true, and_false, and_self, ↓reduceIte, Nat.reduceEqDiff, Nat.reduceAdd, Nat.reduceMul, Nat.add_zero, Nat.zero_add, reduceCtorEq, l_0, l_1, l_2, l_3, l_4, l_5, l_6, l_7, l_8, l_9, l_10, l_15, l_24, l_32, l_39, l_40, l_47, l_48, l_50, l_57, l_60, l_63, l_80, l_95, l_99, l_100, l_120, l_126, l_128, l_1000, l_9999, l_10000, L_0, L_1, L_2, L_3, L_4, L_5, L_7, L_9, L_15, L_40, L_50, L_99, L_127, L_9999, c_ltT, c_ltF, c_leT, c_leF, c_eqT, c_eqF, n_leF, n_ltF, c_gltT, c_gltF, c_ggtT, c_ggtF, false_or, or_false, or_self, true_or, or_true]
          exact t1
        · simp (disch := omega) only [g2, m3, ↓lt_d, eq_self, lN_add, i_l, wTn, wFa, wFb, wCT, wCF, mNe, mNe2, mLt, mLe, bp_s, bn_s, n_clampS, nI_1, nI_add, pk_sub, nI_mul, wrI_at, wrI_2, wrL_at, wrL_1, true_and, false_and, and_true, and_false, and_self, ↓reduceIte, Nat.reduceEqDiff, Nat.reduceAdd, Nat.reduceMul, Nat.add_zero, Nat.zero_add, reduceCtorEq, l_0, l_1, l_2, l_3, l_4, l_5, l_6, l_7, l_8, l_9, l_10, l_15, l_24, l_32, l_39, l_40, l_47, l_48, l_50, l_57, l_60, l_63, l_80, l_95, l_99, l_100, l_120, l_126, l_128, l_1000, l_9999, l_10000, L_0, L_1, L_2, L_3, L_4, L_5, L_7, L_9, L_15, L_40, L_50, L_99, L_127, L_9999, c_ltT, c_ltF, c_leT, c_leF, c_eqT, c_eqF, n_leF, n_ltF, c_gltT, c_gltF, c_ggtT, c_ggtF, false_or, or_false, or_self, true_or, or_true]
          exact t2
    · refine ⟨-1, C, R, ?_, ?_⟩
      · simp (disch := omega) only [g1, ↓lt_d, eq_self, lN_add, i_l, wTn, wFa, wFb, wCT, wCF, mNe, mNe2, mLt, mLe, bp_s, bn_s, n_clampS, nI_1, nI_add, pk_sub, nI_mul, wrI_at, wrI_2, wrL_at, wrL_1, true_and, false_and, and_true, and_false, and_self, ↓reduceIte, Nat.reduceEqDiff, Nat.reduceAdd, Nat.reduceMul, Nat.add_zero, Nat.zero_add, reduceCtorEq, l_0, l_1, l_2, l_3, l_4, l_5, l_6, l_7, l_8, l_9, l_10, l_15, l_24, l_32, l_39, l_40, l_47, l_48, l_50, l_57, l_60, l_63, l_80, l_95, l_99, l_100, l_120, l_126, l_128, l_1000, l_9999, l_10000, L_0, L_1, L_2, L_3, L_4, L_5, L_7, L_9, L_15, L_40, L_50, L_99, L_127, L_9999, c_ltT, c_ltF, c_leT, c_leF, c_eqT, c_eqF, n_leF, n_ltF, c_gltT, c_gltF, c_ggtT, c_ggtF, false_or, or_false, or_self, true_or, or_true]
      · simp (disch := omega) only [g2, ↓lt_d, eq_self, lN_add, i_l, wTn, wFa, wFb, wCT, wCF, mNe, mNe2, mLt, mLe, bp_s, bn_s, n_clampS, nI_1, nI_add, pk_sub, nI_mul, wrI_at, wrI_2, wrL_at, wrL_1, true_and, false_and, and_true, and_false, and_self, ↓reduceIte, Nat.reduceEqDiff, Nat.reduceAdd, Nat.reduceMul, Nat.add_zero, Nat.zero_add, reduceCtorEq, l_0, l_1, l_2, l_3, l_4, l_5, l_6, l_7, l_8, l_9, l_10, l_15, l_24, l_32, l_39, l_40, l_47, l_48, l_50, l_57, l_60, l_63, l_80, l_95, l_99, l_100, l_120, l_126, l_128, l_1000, l_9999, l_10000, L_0, L_1, L_2, L_3, L_4, L_5, L_7, L_9, L_15, L_40, L_50, L_99, L_127, L_9999, c_ltT, c_ltF, c_leT, c_leF, c_eqT, c_eqF, n_leF, n_ltF, c_gltT, c_gltF, c_ggtT, c_ggtF, false_or, or_false, or_self, true_or, or_true]
  obtain ⟨r, C', R', c1, c2⟩ := core
  exact ⟨r, C', R', c1, c2, Inv_up (Nat.le_succ t) (Inv_fl h (gc_X10_suits c1) (gr_X11_suits c2))⟩
