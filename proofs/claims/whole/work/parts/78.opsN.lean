/-! best -/
theorem dif_le {a b : Nat} (ha : a ≤ 79200) (hb : b ≤ 9999) : dif a b ≤ 100000 := by
  unfold dif
  split <;> omega
theorem sum_h {t n j tb cp w m : Nat} (hn : 1000 ≤ n) (ht : t < 2 ^ 30) (hm40 : m ≤ 40) {T : Nat → Nat} (hw : w ≤ 7) : ∀ d i fu fv s C R, m - i = d → i ≤ m → d < fu → d < fv → s ≤ 100000 * i → Ok t j tb cp T C R → C.1 43 3 = nI m → ∃ o v C' R', (o = 0 ∨ o = 1) ∧ (w = 7 → o = 1) ∧ v ≤ 4000000 ∧ fX10_sumOfDifferences_h5 n j fu (nI w) (nI s) (nI i) C = some ((if o = 0 then -nI 2 else nI v), C') ∧ fX11_offSum_h5 n fv (nI j) (nI w) (nI s) (nI i) R = some ((if o = 0 then -nI 1 else nI v), R') ∧ ag fRck C C' ∧ ag fChs R R' := by
  intro d
  induction d with
  | zero =>
    intro i fu fv s C R hd hi hf hg hs h hm
    obtain ⟨fu, rfl⟩ : ∃ f, fu = f + 1 := ⟨fu - 1, by omega⟩
    obtain ⟨fv, rfl⟩ : ∃ f, fv = f + 1 := ⟨fv - 1, by omega⟩
    obtain ⟨m', m1, m2, m3, m4⟩ := off_l h.2.2.2.2.2.1
    have hmm : m' = m := (nI_eq (by omega) (by omega)).mp (m2.symm.trans hm)
    subst hmm
    refine ⟨1, s, C, R, Or.inr rfl, fun _ => rfl, by omega, ?_, ?_, ag_rf, ag_rf⟩
    · rw [fX10_sumOfDifferences_h5.eq_2, if_neg (show ¬ (1 : Nat) = 0 by decide)]
      unfold fX7_size
      simp (disch := omega) only [m2, ↓lt_d, eq_self, lN_add, i_l, wTn, wFa, wFb, wCT, wCF, mNe, mNe2, mLt, mLe, bp_s, bn_s, n_clampS, nI_1, nI_add, pk_sub, nI_mul, wrI_at, wrI_2, wrL_at, wrL_1, true_and, false_and, and_true, and_false, and_self, ↓reduceIte, Nat.reduceEqDiff, Nat.reduceAdd, Nat.reduceMul, Nat.add_zero, Nat.zero_add, reduceCtorEq, l_0, l_1, l_2, l_3, l_4, l_5, l_6, l_7, l_8, l_9, l_10, l_15, l_24, l_32, l_39, l_40, l_47, l_48, l_50, l_57, l_60, l_63, l_80, l_95, l_99, l_100, l_120, l_126, l_128, l_1000, l_9999, l_10000, L_0, L_1, L_2, L_3, L_4, L_5, L_7, L_9, L_15, L_40, L_50, L_99, L_127, L_9999, c_ltT, c_ltF, c_leT, c_leF, c_eqT, c_eqF, n_leF, n_ltF, c_gltT, c_gltF, c_ggtT, c_ggtF, false_or, or_false, or_self, true_or, or_true]
    · rw [fX11_offSum_h5.eq_2, if_neg (show ¬ (1 : Nat) = 0 by decide)]
      simp (disch := omega) only [m3, ↓lt_d, eq_self, lN_add, i_l, wTn, wFa, wFb, wCT, wCF, mNe, mNe2, mLt, mLe, bp_s, bn_s, n_clampS, nI_1, nI_add, pk_sub, nI_mul, wrI_at, wrI_2, wrL_at, wrL_1, true_and, false_and, and_true, and_false, and_self, ↓reduceIte, Nat.reduceEqDiff, Nat.reduceAdd, Nat.reduceMul, Nat.add_zero, Nat.zero_add, reduceCtorEq, l_0, l_1, l_2, l_3, l_4, l_5, l_6, l_7, l_8, l_9, l_10, l_15, l_24, l_32, l_39, l_40, l_47, l_48, l_50, l_57, l_60, l_63, l_80, l_95, l_99, l_100, l_120, l_126, l_128, l_1000, l_9999, l_10000, L_0, L_1, L_2, L_3, L_4, L_5, L_7, L_9, L_15, L_40, L_50, L_99, L_127, L_9999, c_ltT, c_ltF, c_leT, c_leF, c_eqT, c_eqF, n_leF, n_ltF, c_gltT, c_gltF, c_ggtT, c_ggtF, false_or, or_false, or_self, true_or, or_true]
  | succ d ih =>
    intro i fu fv s C R hd hi hf hg hs h hm
    obtain ⟨fu, rfl⟩ : ∃ f, fu = f + 1 := ⟨fu - 1, by omega⟩
    obtain ⟨fv, rfl⟩ : ∃ f, fv = f + 1 := ⟨fv - 1, by omega⟩
    obtain ⟨m', m1, m2, m3, m4⟩ := off_l h.2.2.2.2.2.1
    have hmm : m' = m := (nI_eq (by omega) (by omega)).mp (m2.symm.trans hm)
    subst hmm
    obtain ⟨v, a, b, dd, hv, hdd, c2, c4, hh, c6, c7, -⟩ := m4 i (by omega)
    have hj := h.1.2.1
    rw [fX10_sumOfDifferences_h5.eq_2, fX11_offSum_h5.eq_2]
    unfold fX7_size fX10_sumOfDifferences_b65 fX11_offSum_b57
    have go : ∀ C1 R1 a1 v1 h1, ag fRck C C1 → ag fChs R R1 → Wy j T C1 R1 a1 v1 h1 → ∃ S, fX0_seconds C1 = nI S ∧ fX11_seconds n R1 = some (nI S) ∧ fX7_tenths (nI i) C1 = some (nI dd) ∧ R1.1 92 i = nI dd ∧ iabs (nI S - nI dd) = nI (dif S dd) ∧ ∃ o v C' R', (o = 0 ∨ o = 1) ∧ (w = 7 → o = 1) ∧ v ≤ 4000000 ∧ fX10_sumOfDifferences_h5 n j fu (nI w) (nI (s + dif S dd)) (nI (i + 1)) C1 = some ((if o = 0 then -nI 2 else nI v), C') ∧ fX11_offSum_h5 n fv (nI j) (nI w) (nI (s + dif S dd)) (nI (i + 1)) R1 = some ((if o = 0 then -nI 1 else nI v), R') ∧ ag fRck C C' ∧ ag fChs R R' := by
      intro C1 R1 a1 v1 h1 fa fl wy
      obtain ⟨S, s1, s2, s3⟩ := Wy_sec hn wy
      have hok := Ok_fr hj h fa fl
      have hm2 : C1.1 43 3 = nI m' := by rw [fa.1 _ _ (by unfold fRck; omega)]; exact m2
      have hdl := dif_le s1 hdd
      obtain ⟨o, v', C2, R2, u0, u1, u2, u3, u4, u5, u6⟩ := ih (i + 1) fu fv (s + dif S dd) C1 R1 (by omega) (by omega) (by omega) (by omega) (by omega) hok hm2
      refine ⟨S, s2, s3, ?_, ?_, iabs_l (by omega) (by omega), o, v', C2, R2, u0, u1, u2, u3, u4, ag_tr fa u5, ag_tr fl u6⟩
      · rw [← c7]
        unfold fX7_tenths fX7_has
        rw [fa.1 43 _ (by unfold fRck; omega), fa.1 45 _ (by unfold fRck; omega)]
      · rw [fl.1 _ _ (by unfold fChs; omega)]
        exact c4
    by_cases hw7 : w = 7
    · obtain ⟨y, C1, R1, t1, t2, t3, aw, vw, hw', wy⟩ := chosen_l hn ht h.1 h.2.1 h.2.2.1 h.2.2.2.2.1 hv h.2.2.2.1
      obtain ⟨S, s2, s3, s4, s5, s6, o, v', C2, R2, u0, u1, u2, u3, u4, u5, u6⟩ := go C1 R1 aw vw hw' (gk_X10_reckonChosen h.1.1 t1) (gh_X11_chosenBy t2) wy
      have s7 := (size_iabs (nI S - nI dd)).trans s6
      refine ⟨o, v', C2, R2, u0, u1, u2, ?_, ?_, u5, u6⟩
      · simp (disch := omega) only [m2, c6, t1, s4, s2, ↓s6, ↓lt_d, eq_self, lN_add, i_l, wTn, wFa, wFb, wCT, wCF, mNe, mNe2, mLt, mLe, bp_s, bn_s, n_clampS, nI_1, nI_add, pk_sub, nI_mul, wrI_at, wrI_2, wrL_at, wrL_1, true_and, false_and, and_true, and_false, and_self, ↓reduceIte, Nat.reduceEqDiff, Nat.reduceAdd, Nat.reduceMul, Nat.add_zero, Nat.zero_add, reduceCtorEq, l_0, l_1, l_2, l_3, l_4, l_5, l_6, l_7, l_8, l_9, l_10, l_15, l_24, l_32, l_39, l_40, l_47, l_48, l_50, l_57, l_60, l_63, l_80, l_95, l_99, l_100, l_120, l_126, l_128, l_1000, l_9999, l_10000, L_0, L_1, L_2, L_3, L_4, L_5, L_7, L_9, L_15, L_40, L_50, L_99, L_127, L_9999, c_ltT, c_ltF, c_leT, c_leF, c_eqT, c_eqF, n_leF, n_ltF, c_gltT, c_gltF, c_ggtT, c_ggtF, false_or, or_false, or_self, true_or, or_true]
        exact u3
      · simp (disch := omega) only [m3, c2, t2, s3, s5, ↓s7, ↓lt_d, eq_self, lN_add, i_l, wTn, wFa, wFb, wCT, wCF, mNe, mNe2, mLt, mLe, bp_s, bn_s, n_clampS, nI_1, nI_add, pk_sub, nI_mul, wrI_at, wrI_2, wrL_at, wrL_1, true_and, false_and, and_true, and_false, and_self, ↓reduceIte, Nat.reduceEqDiff, Nat.reduceAdd, Nat.reduceMul, Nat.add_zero, Nat.zero_add, reduceCtorEq, l_0, l_1, l_2, l_3, l_4, l_5, l_6, l_7, l_8, l_9, l_10, l_15, l_24, l_32, l_39, l_40, l_47, l_48, l_50, l_57, l_60, l_63, l_80, l_95, l_99, l_100, l_120, l_126, l_128, l_1000, l_9999, l_10000, L_0, L_1, L_2, L_3, L_4, L_5, L_7, L_9, L_15, L_40, L_50, L_99, L_127, L_9999, c_ltT, c_ltF, c_leT, c_leF, c_eqT, c_eqF, n_leF, n_ltF, c_gltT, c_gltF, c_ggtT, c_ggtF, false_or, or_false, or_self, true_or, or_true]
        exact u4
    · obtain ⟨r, C1, R1, t1, t2, t3, -, t5⟩ := reckon_l hn ht h.1 hv (show w ≤ 6 by omega) h.2.2.2.1
      have fa := act_rck (ga_X0_reckon h.1.1 t1)
      have fl := lay_chs (gl_X11_layOut t2)
      rcases t3 with rfl | rfl
      · refine ⟨0, 0, C1, R1, Or.inl rfl, fun z => absurd z hw7, by omega, ?_, ?_, fa, fl⟩
        · rw [if_pos rfl]
          simp (disch := omega) only [m2, c6, t1, ↓lt_d, eq_self, lN_add, i_l, wTn, wFa, wFb, wCT, wCF, mNe, mNe2, mLt, mLe, bp_s, bn_s, n_clampS, nI_1, nI_add, pk_sub, nI_mul, wrI_at, wrI_2, wrL_at, wrL_1, true_and, false_and, and_true, and_false, and_self, ↓reduceIte, Nat.reduceEqDiff, Nat.reduceAdd, Nat.reduceMul, Nat.add_zero, Nat.zero_add, reduceCtorEq, l_0, l_1, l_2, l_3, l_4, l_5, l_6, l_7, l_8, l_9, l_10, l_15, l_24, l_32, l_39, l_40, l_47, l_48, l_50, l_57, l_60, l_63, l_80, l_95, l_99, l_100, l_120, l_126, l_128, l_1000, l_9999, l_10000, L_0, L_1, L_2, L_3, L_4, L_5, L_7, L_9, L_15, L_40, L_50, L_99, L_127, L_9999, c_ltT, c_ltF, c_leT, c_leF, c_eqT, c_eqF, n_leF, n_ltF, c_gltT, c_gltF, c_ggtT, c_ggtF, false_or, or_false, or_self, true_or, or_true]
        · rw [if_pos rfl]
          simp (disch := omega) only [m3, c2, t2, ↓lt_d, eq_self, lN_add, i_l, wTn, wFa, wFb, wCT, wCF, mNe, mNe2, mLt, mLe, bp_s, bn_s, n_clampS, nI_1, nI_add, pk_sub, nI_mul, wrI_at, wrI_2, wrL_at, wrL_1, true_and, false_and, and_true, and_false, and_self, ↓reduceIte, Nat.reduceEqDiff, Nat.reduceAdd, Nat.reduceMul, Nat.add_zero, Nat.zero_add, reduceCtorEq, l_0, l_1, l_2, l_3, l_4, l_5, l_6, l_7, l_8, l_9, l_10, l_15, l_24, l_32, l_39, l_40, l_47, l_48, l_50, l_57, l_60, l_63, l_80, l_95, l_99, l_100, l_120, l_126, l_128, l_1000, l_9999, l_10000, L_0, L_1, L_2, L_3, L_4, L_5, L_7, L_9, L_15, L_40, L_50, L_99, L_127, L_9999, c_ltT, c_ltF, c_leT, c_leF, c_eqT, c_eqF, n_leF, n_ltF, c_gltT, c_gltF, c_ggtT, c_ggtF, false_or, or_false, or_self, true_or, or_true]
      · obtain ⟨aw, vw, hw', wy⟩ := t5 rfl
        obtain ⟨S, s2, s3, s4, s5, s6, o, v', C2, R2, u0, u1, u2, u3, u4, u5, u6⟩ := go C1 R1 aw vw hw' fa fl wy
        have s7 := (size_iabs (nI S - nI dd)).trans s6
        refine ⟨o, v', C2, R2, u0, u1, u2, ?_, ?_, u5, u6⟩
        · simp (disch := omega) only [m2, c6, t1, s4, s2, ↓s6, ↓lt_d, eq_self, lN_add, i_l, wTn, wFa, wFb, wCT, wCF, mNe, mNe2, mLt, mLe, bp_s, bn_s, n_clampS, nI_1, nI_add, pk_sub, nI_mul, wrI_at, wrI_2, wrL_at, wrL_1, true_and, false_and, and_true, and_false, and_self, ↓reduceIte, Nat.reduceEqDiff, Nat.reduceAdd, Nat.reduceMul, Nat.add_zero, Nat.zero_add, reduceCtorEq, l_0, l_1, l_2, l_3, l_4, l_5, l_6, l_7, l_8, l_9, l_10, l_15, l_24, l_32, l_39, l_40, l_47, l_48, l_50, l_57, l_60, l_63, l_80, l_95, l_99, l_100, l_120, l_126, l_128, l_1000, l_9999, l_10000, L_0, L_1, L_2, L_3, L_4, L_5, L_7, L_9, L_15, L_40, L_50, L_99, L_127, L_9999, c_ltT, c_ltF, c_leT, c_leF, c_eqT, c_eqF, n_leF, n_ltF, c_gltT, c_gltF, c_ggtT, c_ggtF, false_or, or_false, or_self, true_or, or_true]
          exact u3
        · simp (disch := omega) only [m3, c2, t2, s3, s5, ↓s7, ↓lt_d, eq_self, lN_add, i_l, wTn, wFa, wFb, wCT, wCF, mNe, mNe2, mLt, mLe, bp_s, bn_s, n_clampS, nI_1, nI_add, pk_sub, nI_mul, wrI_at, wrI_2, wrL_at, wrL_1, true_and, false_and, and_true, and_false, and_self, ↓reduceIte, Nat.reduceEqDiff, Nat.reduceAdd, Nat.reduceMul, Nat.add_zero, Nat.zero_add, reduceCtorEq, l_0, l_1, l_2, l_3, l_4, l_5, l_6, l_7, l_8, l_9, l_10, l_15, l_24, l_32, l_39, l_40, l_47, l_48, l_50, l_57, l_60, l_63, l_80, l_95, l_99, l_100, l_120, l_126, l_128, l_1000, l_9999, l_10000, L_0, L_1, L_2, L_3, L_4, L_5, L_7, L_9, L_15, L_40, L_50, L_99, L_127, L_9999, c_ltT, c_ltF, c_leT, c_leF, c_eqT, c_eqF, n_leF, n_ltF, c_gltT, c_gltF, c_ggtT, c_ggtF, false_or, or_false, or_self, true_or, or_true]
          exact u4
theorem sum_v {t n j tb cp m w : Nat} (hn : 1000 ≤ n) (ht : t < 2 ^ 30) (hm40 : m ≤ 40) {T : Nat → Nat} {C0 R0 : Mm} (h : Ok t j tb cp T C0 R0) (hm : C0.1 43 3 = nI m) (hw : w ≤ 7) : ∃ o v, (o = 0 ∨ o = 1) ∧ (w = 7 → o = 1) ∧ v ≤ 4000000 ∧ (∀ C, ag fRck C0 C → ∃ C', fX10_sumOfDifferences n j (nI w) C = some ((if o = 0 then -nI 2 else nI v), C') ∧ ag fRck C C') ∧ ∀ R, ag fChs R0 R → ∃ R', fX11_offSum n (nI j) (nI w) R = some ((if o = 0 then -nI 1 else nI v), R') ∧ ag fChs R R' := by
  have hj := h.1.2.1
  obtain ⟨o, v, C1, R1, u0, u1, u2, u3, u4, u5, u6⟩ := sum_h hn ht hm40 hw m 0 n n 0 C0 R0 (by omega) (by omega) (by omega) (by omega) (by omega) h hm
  refine ⟨o, v, u0, u1, u2, fun C hC => ?_, fun R hR => ?_⟩
  · have hok := Ok_fr hj h hC (ag_rf (C := R0))
    have hm2 : C.1 43 3 = nI m := by rw [hC.1 _ _ (by unfold fRck; omega)]; exact hm
    obtain ⟨o', v', C2, R2, w0, w1, w2, w3, w4, w5, w6⟩ := sum_h hn ht hm40 hw m 0 n n 0 C R0 (by omega) (by omega) (by omega) (by omega) (by omega) hok hm2
    have he := congrArg Prod.fst (Option.some.inj (w4.symm.trans u4))
    refine ⟨C2, ?_, w5⟩
    unfold fX10_sumOfDifferences
    rw [l_0, w3]
    rcases u0 with rfl | rfl
    · rcases w0 with rfl | rfl
      · rfl
      · have he : nI v' = -nI 1 := he
        exact absurd he.symm (fun z => ng_eq (show -nI 1 < 0 by decide) (by omega) z)
    · rcases w0 with rfl | rfl
      · have he : -nI 1 = nI v := he
        exact absurd he (fun z => ng_eq (show -nI 1 < 0 by decide) (by omega) z)
      · have he : nI v' = nI v := he
        show some (nI v', C2) = some (nI v, C2)
        rw [he]
  · have hok := Ok_fr hj h (ag_rf (C := C0)) hR
    obtain ⟨o', v', C2, R2, w0, w1, w2, w3, w4, w5, w6⟩ := sum_h hn ht hm40 hw m 0 n n 0 C0 R (by omega) (by omega) (by omega) (by omega) (by omega) hok hm
    have he := congrArg Prod.fst (Option.some.inj (w3.symm.trans u3))
    refine ⟨R2, ?_, w6⟩
    unfold fX11_offSum
    rw [l_0, w4]
    rcases u0 with rfl | rfl
    · rcases w0 with rfl | rfl
      · rfl
      · have he : nI v' = -nI 2 := he
        exact absurd he.symm (fun z => ng_eq (show -nI 2 < 0 by decide) (by omega) z)
    · rcases w0 with rfl | rfl
      · have he : -nI 2 = nI v := he
        exact absurd he (fun z => ng_eq (show -nI 2 < 0 by decide) (by omega) z)
      · have he : nI v' = nI v := he
        show some (nI v', R2) = some (nI v, R2)
        rw [he]
/-- b is the first of the least, from lo on, below hi -/
def Bst (O V : Nat → Nat) (lo hi b : Nat) : Prop := lo ≤ b ∧ b < hi ∧ O b = 1 ∧ (∀ k, lo ≤ k → k < hi → O k = 1 → V b ≤ V k) ∧ ∀ k, lo ≤ k → k < b → O k = 1 → V b < V k
theorem Bst_u {O V : Nat → Nat} {lo hi b b' : Nat} (h : Bst O V lo hi b) (h' : Bst O V lo hi b') : b = b' := by
  obtain ⟨h1, h2, h3, h4, h5⟩ := h
  obtain ⟨g1, g2, g3, g4, g5⟩ := h'
  by_cases z1 : b < b'
  · have := g5 b h1 z1 h3
    have := h4 b' g1 g2 g3
    omega
  · by_cases z2 : b' < b
    · have := h5 b' g1 z2 g3
      have := g4 b h1 h2 h3
      omega
    · omega
theorem bestC_h {n j wh : Nat} (hj : j < 6) (hwh : wh ≤ 1) {O V : Nat → Nat} {C0 : Mm} (hO : ∀ w, w ≤ 7 → (O w = 0 ∨ O w = 1) ∧ V w ≤ 4000000) (hC : ∀ w, w ≤ 7 → ∀ C, ag fRck C0 C → ∃ C', fX10_sumOfDifferences n j (nI w) C = some ((if O w = 0 then -nI 2 else nI (V w)), C') ∧ ag fRck C C') : ∀ i fu b C, i ≤ 7 → i < fu → Bst O V i 8 b → ag fRck C0 C → ∃ b' C', fX10_best_h53 n fu (nI j) (nI wh) (nI b) (nI (V b)) (nI i + -nI 1) C = some ((if wh = 0 then nI b' else nI (V b')), C') ∧ Bst O V 0 8 b' := by
  intro i
  induction i with
  | zero =>
    intro fu b C hi hf hb hc
    obtain ⟨fu, rfl⟩ : ∃ f, fu = f + 1 := ⟨fu - 1, by omega⟩
    refine ⟨b, C, ?_, hb⟩
    rw [fX10_best_h53.eq_2]
    rcases (show wh = 0 ∨ wh = 1 by omega) with rfl | rfl
    · rw [if_pos rfl]
      simp (disch := omega) only [nI_mz, ↓lt_d, eq_self, lN_add, i_l, wTn, wFa, wFb, wCT, wCF, mNe, mNe2, mLt, mLe, bp_s, bn_s, n_clampS, nI_1, nI_add, pk_sub, nI_mul, wrI_at, wrI_2, wrL_at, wrL_1, true_and, false_and, and_true, and_false, and_self, ↓reduceIte, Nat.reduceEqDiff, Nat.reduceAdd, Nat.reduceMul, Nat.add_zero, Nat.zero_add, reduceCtorEq, l_0, l_1, l_2, l_3, l_4, l_5, l_6, l_7, l_8, l_9, l_10, l_15, l_24, l_32, l_39, l_40, l_47, l_48, l_50, l_57, l_60, l_63, l_80, l_95, l_99, l_100, l_120, l_126, l_128, l_1000, l_9999, l_10000, L_0, L_1, L_2, L_3, L_4, L_5, L_7, L_9, L_15, L_40, L_50, L_99, L_127, L_9999, c_ltT, c_ltF, c_leT, c_leF, c_eqT, c_eqF, n_leF, n_ltF, c_gltT, c_gltF, c_ggtT, c_ggtF, false_or, or_false, or_self, true_or, or_true]
    · rw [if_neg (show ¬ (1 : Nat) = 0 by decide)]
      simp (disch := omega) only [nI_mz, ↓lt_d, eq_self, lN_add, i_l, wTn, wFa, wFb, wCT, wCF, mNe, mNe2, mLt, mLe, bp_s, bn_s, n_clampS, nI_1, nI_add, pk_sub, nI_mul, wrI_at, wrI_2, wrL_at, wrL_1, true_and, false_and, and_true, and_false, and_self, ↓reduceIte, Nat.reduceEqDiff, Nat.reduceAdd, Nat.reduceMul, Nat.add_zero, Nat.zero_add, reduceCtorEq, l_0, l_1, l_2, l_3, l_4, l_5, l_6, l_7, l_8, l_9, l_10, l_15, l_24, l_32, l_39, l_40, l_47, l_48, l_50, l_57, l_60, l_63, l_80, l_95, l_99, l_100, l_120, l_126, l_128, l_1000, l_9999, l_10000, L_0, L_1, L_2, L_3, L_4, L_5, L_7, L_9, L_15, L_40, L_50, L_99, L_127, L_9999, c_ltT, c_ltF, c_leT, c_leF, c_eqT, c_eqF, n_leF, n_ltF, c_gltT, c_gltF, c_ggtT, c_ggtF, false_or, or_false, or_self, true_or, or_true]
  | succ i ih =>
    intro fu b C hi hf hb hc
    obtain ⟨fu, rfl⟩ : ∃ f, fu = f + 1 := ⟨fu - 1, by omega⟩
    obtain ⟨C1, e1, e2⟩ := hC i (by omega) C hc
    obtain ⟨o1, o2⟩ := hO i (by omega)
    obtain ⟨b1, b2, b3, b4, b5⟩ := hb
    have o3 := (hO b (by omega)).2
    rw [fX10_best_h53.eq_2]
    unfold fX10_best_b93
    rcases o1 with o1 | o1
    · rw [if_pos o1] at e1
      obtain ⟨b', C', u1, u2⟩ := ih fu b C1 (by omega) (by omega) ⟨by omega, b2, b3, fun k h1 h2 h3 => by
        by_cases hk : k = i
        · subst hk
          omega
        · exact b4 k (by omega) h2 h3, fun k h1 h2 h3 => by
        by_cases hk : k = i
        · subst hk
          omega
        · exact b5 k (by omega) h2 h3⟩ (ag_tr hc e2)
      refine ⟨b', C', ?_, u2⟩
      simp (disch := omega) only [nI_ms, e1, ↓lt_d, eq_self, lN_add, i_l, wTn, wFa, wFb, wCT, wCF, mNe, mNe2, mLt, mLe, bp_s, bn_s, n_clampS, nI_1, nI_add, pk_sub, nI_mul, wrI_at, wrI_2, wrL_at, wrL_1, true_and, false_and, and_true, and_false, and_self, ↓reduceIte, Nat.reduceEqDiff, Nat.reduceAdd, Nat.reduceMul, Nat.add_zero, Nat.zero_add, reduceCtorEq, l_0, l_1, l_2, l_3, l_4, l_5, l_6, l_7, l_8, l_9, l_10, l_15, l_24, l_32, l_39, l_40, l_47, l_48, l_50, l_57, l_60, l_63, l_80, l_95, l_99, l_100, l_120, l_126, l_128, l_1000, l_9999, l_10000, L_0, L_1, L_2, L_3, L_4, L_5, L_7, L_9, L_15, L_40, L_50, L_99, L_127, L_9999, c_ltT, c_ltF, c_leT, c_leF, c_eqT, c_eqF, n_leF, n_ltF, c_gltT, c_gltF, c_ggtT, c_ggtF, false_or, or_false, or_self, true_or, or_true]
      exact u1
    · rw [if_neg (show ¬ O i = 0 by omega)] at e1
      have hne : (nI (V i) = -nI 2) = False := eq_false (fun z => ng_eq (show -nI 2 < 0 by decide) (show V i < 2 ^ 31 by omega) z.symm)
      by_cases hv : V b < V i
      · obtain ⟨b', C', u1, u2⟩ := ih fu b C1 (by omega) (by omega) ⟨by omega, b2, b3, fun k h1 h2 h3 => by
          by_cases hk : k = i
          · subst hk
            omega
          · exact b4 k (by omega) h2 h3, fun k h1 h2 h3 => by
          by_cases hk : k = i
          · subst hk
            omega
          · exact b5 k (by omega) h2 h3⟩ (ag_tr hc e2)
        refine ⟨b', C', ?_, u2⟩
        simp (disch := omega) only [nI_ms, e1, hne, ↓lt_d, eq_self, lN_add, i_l, wTn, wFa, wFb, wCT, wCF, mNe, mNe2, mLt, mLe, bp_s, bn_s, n_clampS, nI_1, nI_add, pk_sub, nI_mul, wrI_at, wrI_2, wrL_at, wrL_1, true_and, false_and, and_true, and_false, and_self, ↓reduceIte, Nat.reduceEqDiff, Nat.reduceAdd, Nat.reduceMul, Nat.add_zero, Nat.zero_add, reduceCtorEq, l_0, l_1, l_2, l_3, l_4, l_5, l_6, l_7, l_8, l_9, l_10, l_15, l_24, l_32, l_39, l_40, l_47, l_48, l_50, l_57, l_60, l_63, l_80, l_95, l_99, l_100, l_120, l_126, l_128, l_1000, l_9999, l_10000, L_0, L_1, L_2, L_3, L_4, L_5, L_7, L_9, L_15, L_40, L_50, L_99, L_127, L_9999, c_ltT, c_ltF, c_leT, c_leF, c_eqT, c_eqF, n_leF, n_ltF, c_gltT, c_gltF, c_ggtT, c_ggtF, false_or, or_false, or_self, true_or, or_true]
        exact u1
      · obtain ⟨b', C', u1, u2⟩ := ih fu i C1 (by omega) (by omega) ⟨Nat.le_refl _, by omega, o1, fun k h1 h2 h3 => by
          by_cases hk : k = i
          · subst hk
            omega
          · have := b4 k (by omega) h2 h3
            omega, fun k h1 h2 h3 => by omega⟩ (ag_tr hc e2)
        refine ⟨b', C', ?_, u2⟩
        simp (disch := omega) only [nI_ms, e1, hne, ↓lt_d, eq_self, lN_add, i_l, wTn, wFa, wFb, wCT, wCF, mNe, mNe2, mLt, mLe, bp_s, bn_s, n_clampS, nI_1, nI_add, pk_sub, nI_mul, wrI_at, wrI_2, wrL_at, wrL_1, true_and, false_and, and_true, and_false, and_self, ↓reduceIte, Nat.reduceEqDiff, Nat.reduceAdd, Nat.reduceMul, Nat.add_zero, Nat.zero_add, reduceCtorEq, l_0, l_1, l_2, l_3, l_4, l_5, l_6, l_7, l_8, l_9, l_10, l_15, l_24, l_32, l_39, l_40, l_47, l_48, l_50, l_57, l_60, l_63, l_80, l_95, l_99, l_100, l_120, l_126, l_128, l_1000, l_9999, l_10000, L_0, L_1, L_2, L_3, L_4, L_5, L_7, L_9, L_15, L_40, L_50, L_99, L_127, L_9999, c_ltT, c_ltF, c_leT, c_leF, c_eqT, c_eqF, n_leF, n_ltF, c_gltT, c_gltF, c_ggtT, c_ggtF, false_or, or_false, or_self, true_or, or_true]
        exact u1
theorem bestR_h {n j wh : Nat} (hj : j < 6) (hwh : wh ≤ 1) {O V : Nat → Nat} {R0 : Mm} (hO : ∀ w, w ≤ 7 → (O w = 0 ∨ O w = 1) ∧ V w ≤ 4000000) (h7 : O 7 = 1) (hR : ∀ w, w ≤ 7 → ∀ R, ag fChs R0 R → ∃ R', fX11_offSum n (nI j) (nI w) R = some ((if O w = 0 then -nI 1 else nI (V w)), R') ∧ ag fChs R R') : ∀ d i fu y l R, 8 - i = d → i ≤ 8 → d < fu → ((y = -nI 1 ∧ ∀ k, k < i → O k = 0) ∨ ∃ b, y = nI b ∧ l = nI (V b) ∧ Bst O V 0 i b) → ag fChs R0 R → ∃ b' R', fX11_best_h38 n fu (nI j) (nI wh) y l (nI i) R = some ((if wh = 0 then nI b' else nI (V b')), R') ∧ Bst O V 0 8 b' := by
  intro d
  induction d with
  | zero =>
    intro i fu y l R hd hi hf hb hr
    obtain ⟨fu, rfl⟩ : ∃ f, fu = f + 1 := ⟨fu - 1, by omega⟩
    have hi8 : i = 8 := by omega
    subst hi8
    rcases hb with ⟨-, hb⟩ | ⟨b, rfl, rfl, hb⟩
    · have := hb 7 (by omega)
      omega
    · refine ⟨b, R, ?_, hb⟩
      rw [fX11_best_h38.eq_2]
      rcases (show wh = 0 ∨ wh = 1 by omega) with rfl | rfl
      · rw [if_pos rfl]
        simp (disch := omega) only [↓lt_d, eq_self, lN_add, i_l, wTn, wFa, wFb, wCT, wCF, mNe, mNe2, mLt, mLe, bp_s, bn_s, n_clampS, nI_1, nI_add, pk_sub, nI_mul, wrI_at, wrI_2, wrL_at, wrL_1, true_and, false_and, and_true, and_false, and_self, ↓reduceIte, Nat.reduceEqDiff, Nat.reduceAdd, Nat.reduceMul, Nat.add_zero, Nat.zero_add, reduceCtorEq, l_0, l_1, l_2, l_3, l_4, l_5, l_6, l_7, l_8, l_9, l_10, l_15, l_24, l_32, l_39, l_40, l_47, l_48, l_50, l_57, l_60, l_63, l_80, l_95, l_99, l_100, l_120, l_126, l_128, l_1000, l_9999, l_10000, L_0, L_1, L_2, L_3, L_4, L_5, L_7, L_9, L_15, L_40, L_50, L_99, L_127, L_9999, c_ltT, c_ltF, c_leT, c_leF, c_eqT, c_eqF, n_leF, n_ltF, c_gltT, c_gltF, c_ggtT, c_ggtF, false_or, or_false, or_self, true_or, or_true]
      · rw [if_neg (show ¬ (1 : Nat) = 0 by decide)]
        simp (disch := omega) only [↓lt_d, eq_self, lN_add, i_l, wTn, wFa, wFb, wCT, wCF, mNe, mNe2, mLt, mLe, bp_s, bn_s, n_clampS, nI_1, nI_add, pk_sub, nI_mul, wrI_at, wrI_2, wrL_at, wrL_1, true_and, false_and, and_true, and_false, and_self, ↓reduceIte, Nat.reduceEqDiff, Nat.reduceAdd, Nat.reduceMul, Nat.add_zero, Nat.zero_add, reduceCtorEq, l_0, l_1, l_2, l_3, l_4, l_5, l_6, l_7, l_8, l_9, l_10, l_15, l_24, l_32, l_39, l_40, l_47, l_48, l_50, l_57, l_60, l_63, l_80, l_95, l_99, l_100, l_120, l_126, l_128, l_1000, l_9999, l_10000, L_0, L_1, L_2, L_3, L_4, L_5, L_7, L_9, L_15, L_40, L_50, L_99, L_127, L_9999, c_ltT, c_ltF, c_leT, c_leF, c_eqT, c_eqF, n_leF, n_ltF, c_gltT, c_gltF, c_ggtT, c_ggtF, false_or, or_false, or_self, true_or, or_true]
  | succ d ih =>
    intro i fu y l R hd hi hf hb hr
    obtain ⟨fu, rfl⟩ : ∃ f, fu = f + 1 := ⟨fu - 1, by omega⟩
    obtain ⟨R1, e1, e2⟩ := hR i (by omega) R hr
    obtain ⟨o1, o2⟩ := hO i (by omega)
    rw [fX11_best_h38.eq_2]
    unfold fX11_best_b77 fX11_best_b70
    unfold fX11_best_b77
    rcases o1 with o1 | o1
    · rw [if_pos o1] at e1
      have hlt : (-nI 1 < nI 0) = True := eq_true (by decide)
      obtain ⟨b', R', u1, u2⟩ := ih (i + 1) fu y l R1 (by omega) (by omega) (by omega) (by
        rcases hb with ⟨h1, h2⟩ | ⟨b, h1, h2, b1, b2, b3, b4, b5⟩
        · refine Or.inl ⟨h1, fun k hk => ?_⟩
          by_cases hki : k = i
          · subst hki
            exact o1
          · exact h2 k (by omega)
        · refine Or.inr ⟨b, h1, h2, b1, by omega, b3, fun k h3 h4 h5 => ?_, b5⟩
          by_cases hki : k = i
          · subst hki
            omega
          · exact b4 k h3 (by omega) h5) (ag_tr hr e2)
      refine ⟨b', R', ?_, u2⟩
      simp (disch := omega) only [e1, hlt, ↓lt_d, eq_self, lN_add, i_l, wTn, wFa, wFb, wCT, wCF, mNe, mNe2, mLt, mLe, bp_s, bn_s, n_clampS, nI_1, nI_add, pk_sub, nI_mul, wrI_at, wrI_2, wrL_at, wrL_1, true_and, false_and, and_true, and_false, and_self, ↓reduceIte, Nat.reduceEqDiff, Nat.reduceAdd, Nat.reduceMul, Nat.add_zero, Nat.zero_add, reduceCtorEq, l_0, l_1, l_2, l_3, l_4, l_5, l_6, l_7, l_8, l_9, l_10, l_15, l_24, l_32, l_39, l_40, l_47, l_48, l_50, l_57, l_60, l_63, l_80, l_95, l_99, l_100, l_120, l_126, l_128, l_1000, l_9999, l_10000, L_0, L_1, L_2, L_3, L_4, L_5, L_7, L_9, L_15, L_40, L_50, L_99, L_127, L_9999, c_ltT, c_ltF, c_leT, c_leF, c_eqT, c_eqF, n_leF, n_ltF, c_gltT, c_gltF, c_ggtT, c_ggtF, false_or, or_false, or_self, true_or, or_true]
      exact u1
    · rw [if_neg (show ¬ O i = 0 by omega)] at e1
      rcases hb with ⟨h1, h2⟩ | ⟨b, h1, h2, b1, b2, b3, b4, b5⟩
      · obtain ⟨b', R', u1, u2⟩ := ih (i + 1) fu (nI i) (nI (V i)) R1 (by omega) (by omega) (by omega) (Or.inr ⟨i, rfl, rfl, by omega, by omega, o1, fun k h3 h4 h5 => by
          by_cases hki : k = i
          · subst hki
            omega
          · have := h2 k (by omega)
            omega, fun k h3 h4 h5 => by
          have := h2 k h4
          omega⟩) (ag_tr hr e2)
        refine ⟨b', R', ?_, u2⟩
        subst h1
        have hlt : (-nI 1 < nI 0) = True := eq_true (by decide)
        simp (disch := omega) only [e1, hlt, ↓lt_d, eq_self, lN_add, i_l, wTn, wFa, wFb, wCT, wCF, mNe, mNe2, mLt, mLe, bp_s, bn_s, n_clampS, nI_1, nI_add, pk_sub, nI_mul, wrI_at, wrI_2, wrL_at, wrL_1, true_and, false_and, and_true, and_false, and_self, ↓reduceIte, Nat.reduceEqDiff, Nat.reduceAdd, Nat.reduceMul, Nat.add_zero, Nat.zero_add, reduceCtorEq, l_0, l_1, l_2, l_3, l_4, l_5, l_6, l_7, l_8, l_9, l_10, l_15, l_24, l_32, l_39, l_40, l_47, l_48, l_50, l_57, l_60, l_63, l_80, l_95, l_99, l_100, l_120, l_126, l_128, l_1000, l_9999, l_10000, L_0, L_1, L_2, L_3, L_4, L_5, L_7, L_9, L_15, L_40, L_50, L_99, L_127, L_9999, c_ltT, c_ltF, c_leT, c_leF, c_eqT, c_eqF, n_leF, n_ltF, c_gltT, c_gltF, c_ggtT, c_ggtF, false_or, or_false, or_self, true_or, or_true]
        exact u1
      · have o3 := (hO b (by omega)).2
        subst h1
        subst h2
        by_cases hv : V b ≤ V i
        · obtain ⟨b', R', u1, u2⟩ := ih (i + 1) fu (nI b) (nI (V b)) R1 (by omega) (by omega) (by omega) (Or.inr ⟨b, rfl, rfl, b1, by omega, b3, fun k h3 h4 h5 => by
            by_cases hki : k = i
            · subst hki
              omega
            · exact b4 k h3 (by omega) h5, b5⟩) (ag_tr hr e2)
          refine ⟨b', R', ?_, u2⟩
          simp (disch := omega) only [e1, ↓lt_d, eq_self, lN_add, i_l, wTn, wFa, wFb, wCT, wCF, mNe, mNe2, mLt, mLe, bp_s, bn_s, n_clampS, nI_1, nI_add, pk_sub, nI_mul, wrI_at, wrI_2, wrL_at, wrL_1, true_and, false_and, and_true, and_false, and_self, ↓reduceIte, Nat.reduceEqDiff, Nat.reduceAdd, Nat.reduceMul, Nat.add_zero, Nat.zero_add, reduceCtorEq, l_0, l_1, l_2, l_3, l_4, l_5, l_6, l_7, l_8, l_9, l_10, l_15, l_24, l_32, l_39, l_40, l_47, l_48, l_50, l_57, l_60, l_63, l_80, l_95, l_99, l_100, l_120, l_126, l_128, l_1000, l_9999, l_10000, L_0, L_1, L_2, L_3, L_4, L_5, L_7, L_9, L_15, L_40, L_50, L_99, L_127, L_9999, c_ltT, c_ltF, c_leT, c_leF, c_eqT, c_eqF, n_leF, n_ltF, c_gltT, c_gltF, c_ggtT, c_ggtF, false_or, or_false, or_self, true_or, or_true]
          exact u1
        · obtain ⟨b', R', u1, u2⟩ := ih (i + 1) fu (nI i) (nI (V i)) R1 (by omega) (by omega) (by omega) (Or.inr ⟨i, rfl, rfl, by omega, by omega, o1, fun k h3 h4 h5 => by
            by_cases hki : k = i
            · subst hki
              omega
            · have := b4 k h3 (by omega) h5
              omega, fun k h3 h4 h5 => by
            have := b4 k h3 h4 h5
            omega⟩) (ag_tr hr e2)
          refine ⟨b', R', ?_, u2⟩
          simp (disch := omega) only [e1, ↓lt_d, eq_self, lN_add, i_l, wTn, wFa, wFb, wCT, wCF, mNe, mNe2, mLt, mLe, bp_s, bn_s, n_clampS, nI_1, nI_add, pk_sub, nI_mul, wrI_at, wrI_2, wrL_at, wrL_1, true_and, false_and, and_true, and_false, and_self, ↓reduceIte, Nat.reduceEqDiff, Nat.reduceAdd, Nat.reduceMul, Nat.add_zero, Nat.zero_add, reduceCtorEq, l_0, l_1, l_2, l_3, l_4, l_5, l_6, l_7, l_8, l_9, l_10, l_15, l_24, l_32, l_39, l_40, l_47, l_48, l_50, l_57, l_60, l_63, l_80, l_95, l_99, l_100, l_120, l_126, l_128, l_1000, l_9999, l_10000, L_0, L_1, L_2, L_3, L_4, L_5, L_7, L_9, L_15, L_40, L_50, L_99, L_127, L_9999, c_ltT, c_ltF, c_leT, c_leF, c_eqT, c_eqF, n_leF, n_ltF, c_gltT, c_gltF, c_ggtT, c_ggtF, false_or, or_false, or_self, true_or, or_true]
          exact u1
theorem op_best {t n : Nat} (hn : 1000 ≤ n) (ht : t < 2 ^ 30) {C R : Mm} (h : Inv t C R) (p x : Int32) : ∃ r C' R', fX10_best n p x C = some (r, C') ∧ fX11_best n p x R = some (r, R') ∧ Inv (t + 1) C' R' := by
  have core : ∃ r C' R', fX10_best n p x C = some (r, C') ∧ fX11_best n p x R = some (r, R') := by
    obtain ⟨k, nb, h⟩ := h
    have hIn : In k nb t C R := h
    obtain ⟨h1, h2, h3, h4, h5, h6, h7, h8, h9, h10⟩ := h
    have hk := h2.1
    obtain ⟨m, m1, m2, m3, m4⟩ := off_l h5
    unfold fX10_best fX11_best fX7_size
    rcases head_cases h2 p with ⟨j, hj, rfl, g1, g2⟩ | ⟨g1, g2⟩
    · rcases i_cases x with hx | ⟨u, hu, rfl⟩
      · have hx0 : (x < nI 0) = True := eq_true hx
        have hwi := wFn (x := x) (lo := 0) (z := lN 1) hx (by omega)
        refine ⟨-1, C, R, ?_, ?_⟩
        · simp (disch := omega) only [g1, hx0, ↓lt_d, eq_self, lN_add, i_l, wTn, wFa, wFb, wCT, wCF, mNe, mNe2, mLt, mLe, bp_s, bn_s, n_clampS, nI_1, nI_add, pk_sub, nI_mul, wrI_at, wrI_2, wrL_at, wrL_1, true_and, false_and, and_true, and_false, and_self, ↓reduceIte, Nat.reduceEqDiff, Nat.reduceAdd, Nat.reduceMul, Nat.add_zero, Nat.zero_add, reduceCtorEq, l_0, l_1, l_2, l_3, l_4, l_5, l_6, l_7, l_8, l_9, l_10, l_15, l_24, l_32, l_39, l_40, l_47, l_48, l_50, l_57, l_60, l_63, l_80, l_95, l_99, l_100, l_120, l_126, l_128, l_1000, l_9999, l_10000, L_0, L_1, L_2, L_3, L_4, L_5, L_7, L_9, L_15, L_40, L_50, L_99, L_127, L_9999, c_ltT, c_ltF, c_leT, c_leF, c_eqT, c_eqF, n_leF, n_ltF, c_gltT, c_gltF, c_ggtT, c_ggtF, false_or, or_false, or_self, true_or, or_true]
        · simp (disch := omega) only [g2, hwi, ↓lt_d, eq_self, lN_add, i_l, wTn, wFa, wFb, wCT, wCF, mNe, mNe2, mLt, mLe, bp_s, bn_s, n_clampS, nI_1, nI_add, pk_sub, nI_mul, wrI_at, wrI_2, wrL_at, wrL_1, true_and, false_and, and_true, and_false, and_self, ↓reduceIte, Nat.reduceEqDiff, Nat.reduceAdd, Nat.reduceMul, Nat.add_zero, Nat.zero_add, reduceCtorEq, l_0, l_1, l_2, l_3, l_4, l_5, l_6, l_7, l_8, l_9, l_10, l_15, l_24, l_32, l_39, l_40, l_47, l_48, l_50, l_57, l_60, l_63, l_80, l_95, l_99, l_100, l_120, l_126, l_128, l_1000, l_9999, l_10000, L_0, L_1, L_2, L_3, L_4, L_5, L_7, L_9, L_15, L_40, L_50, L_99, L_127, L_9999, c_ltT, c_ltF, c_leT, c_leF, c_eqT, c_eqF, n_leF, n_ltF, c_gltT, c_gltF, c_ggtT, c_ggtF, false_or, or_false, or_self, true_or, or_true]
      · by_cases hu2 : u ≤ 1
        · by_cases hm0 : m = 0
          · subst hm0
            refine ⟨-5, C, R, ?_, ?_⟩
            · simp (disch := omega) only [g1, m2, ↓lt_d, eq_self, lN_add, i_l, wTn, wFa, wFb, wCT, wCF, mNe, mNe2, mLt, mLe, bp_s, bn_s, n_clampS, nI_1, nI_add, pk_sub, nI_mul, wrI_at, wrI_2, wrL_at, wrL_1, true_and, false_and, and_true, and_false, and_self, ↓reduceIte, Nat.reduceEqDiff, Nat.reduceAdd, Nat.reduceMul, Nat.add_zero, Nat.zero_add, reduceCtorEq, l_0, l_1, l_2, l_3, l_4, l_5, l_6, l_7, l_8, l_9, l_10, l_15, l_24, l_32, l_39, l_40, l_47, l_48, l_50, l_57, l_60, l_63, l_80, l_95, l_99, l_100, l_120, l_126, l_128, l_1000, l_9999, l_10000, L_0, L_1, L_2, L_3, L_4, L_5, L_7, L_9, L_15, L_40, L_50, L_99, L_127, L_9999, c_ltT, c_ltF, c_leT, c_leF, c_eqT, c_eqF, n_leF, n_ltF, c_gltT, c_gltF, c_ggtT, c_ggtF, false_or, or_false, or_self, true_or, or_true]
            · simp (disch := omega) only [g2, m3, ↓lt_d, eq_self, lN_add, i_l, wTn, wFa, wFb, wCT, wCF, mNe, mNe2, mLt, mLe, bp_s, bn_s, n_clampS, nI_1, nI_add, pk_sub, nI_mul, wrI_at, wrI_2, wrL_at, wrL_1, true_and, false_and, and_true, and_false, and_self, ↓reduceIte, Nat.reduceEqDiff, Nat.reduceAdd, Nat.reduceMul, Nat.add_zero, Nat.zero_add, reduceCtorEq, l_0, l_1, l_2, l_3, l_4, l_5, l_6, l_7, l_8, l_9, l_10, l_15, l_24, l_32, l_39, l_40, l_47, l_48, l_50, l_57, l_60, l_63, l_80, l_95, l_99, l_100, l_120, l_126, l_128, l_1000, l_9999, l_10000, L_0, L_1, L_2, L_3, L_4, L_5, L_7, L_9, L_15, L_40, L_50, L_99, L_127, L_9999, c_ltT, c_ltF, c_leT, c_leF, c_eqT, c_eqF, n_leF, n_ltF, c_gltT, c_gltF, c_ggtT, c_ggtF, false_or, or_false, or_self, true_or, or_true]
          · obtain ⟨tb, cp, T, hok⟩ := ok_of hIn hj
            have hall : ∀ w, w ≤ 7 → ∃ ov : Nat × Nat, (ov.1 = 0 ∨ ov.1 = 1) ∧ (w = 7 → ov.1 = 1) ∧ ov.2 ≤ 4000000 ∧ (∀ C1, ag fRck C C1 → ∃ C', fX10_sumOfDifferences n j (nI w) C1 = some ((if ov.1 = 0 then -nI 2 else nI ov.2), C') ∧ ag fRck C1 C') ∧ ∀ R1, ag fChs R R1 → ∃ R', fX11_offSum n (nI j) (nI w) R1 = some ((if ov.1 = 0 then -nI 1 else nI ov.2), R') ∧ ag fChs R1 R' := by
              intro w hw
              obtain ⟨o, v, h1⟩ := sum_v hn ht m1 hok m2 hw
              exact ⟨(o, v), h1⟩
            have hF : ∃ F : Nat → Nat × Nat, ∀ w, w ≤ 7 → ((F w).1 = 0 ∨ (F w).1 = 1) ∧ (w = 7 → (F w).1 = 1) ∧ (F w).2 ≤ 4000000 ∧ (∀ C1, ag fRck C C1 → ∃ C', fX10_sumOfDifferences n j (nI w) C1 = some ((if (F w).1 = 0 then -nI 2 else nI (F w).2), C') ∧ ag fRck C1 C') ∧ ∀ R1, ag fChs R R1 → ∃ R', fX11_offSum n (nI j) (nI w) R1 = some ((if (F w).1 = 0 then -nI 1 else nI (F w).2), R') ∧ ag fChs R1 R' := by
              refine ⟨fun w => if hw : w ≤ 7 then Classical.choose (hall w hw) else (0, 0), fun w hw => ?_⟩
              have e : (fun w => if hw : w ≤ 7 then Classical.choose (hall w hw) else (0, 0)) w = Classical.choose (hall w hw) := dif_pos hw
              rw [e]
              exact Classical.choose_spec (hall w hw)
            obtain ⟨F, hF⟩ := hF
            obtain ⟨C1, e1, e2⟩ := (hF 7 (by omega)).2.2.2.1 C ag_rf
            have o7 := (hF 7 (by omega)).2.1 rfl
            rw [if_neg (show ¬ (F 7).1 = 0 by omega)] at e1
            obtain ⟨b, C2, u1, u2⟩ := bestC_h (n := n) (j := j) (wh := u) (O := fun w => (F w).1) (V := fun w => (F w).2) (C0 := C) (by omega) hu2 (fun w hw => ⟨(hF w hw).1, (hF w hw).2.2.1⟩) (fun w hw => (hF w hw).2.2.2.1) 7 n 7 C1 (by omega) (by omega) ⟨by omega, by omega, o7, fun k h1 h2 h3 => by rw [show k = 7 by omega]; exact Nat.le_refl _, fun k h1 h2 h3 => by omega⟩ e2
            obtain ⟨b', R2, w1, w2⟩ := bestR_h (n := n) (j := j) (wh := u) (O := fun w => (F w).1) (V := fun w => (F w).2) (R0 := R) (by omega) hu2 (fun w hw => ⟨(hF w hw).1, (hF w hw).2.2.1⟩) o7 (fun w hw => (hF w hw).2.2.2.2) 8 0 n (-nI 1) (nI 0) R (by omega) (by omega) (by omega) (Or.inl ⟨rfl, fun k hk => by omega⟩) ag_rf
            have hbb := Bst_u u2 w2
            subst hbb
            have e6 : nI 7 + -nI 1 = nI 6 := by decide
            rw [e6] at u1
            refine ⟨if u = 0 then nI b else nI (F b).2, C2, R2, ?_, ?_⟩
            · simp (disch := omega) only [g1, m2, e1, ↓lt_d, eq_self, lN_add, i_l, wTn, wFa, wFb, wCT, wCF, mNe, mNe2, mLt, mLe, bp_s, bn_s, n_clampS, nI_1, nI_add, pk_sub, nI_mul, wrI_at, wrI_2, wrL_at, wrL_1, true_and, false_and, and_true, and_false, and_self, ↓reduceIte, Nat.reduceEqDiff, Nat.reduceAdd, Nat.reduceMul, Nat.add_zero, Nat.zero_add, reduceCtorEq, l_0, l_1, l_2, l_3, l_4, l_5, l_6, l_7, l_8, l_9, l_10, l_15, l_24, l_32, l_39, l_40, l_47, l_48, l_50, l_57, l_60, l_63, l_80, l_95, l_99, l_100, l_120, l_126, l_128, l_1000, l_9999, l_10000, L_0, L_1, L_2, L_3, L_4, L_5, L_7, L_9, L_15, L_40, L_50, L_99, L_127, L_9999, c_ltT, c_ltF, c_leT, c_leF, c_eqT, c_eqF, n_leF, n_ltF, c_gltT, c_gltF, c_ggtT, c_ggtF, false_or, or_false, or_self, true_or, or_true]
              exact u1
            · simp (disch := omega) only [g2, m3, ↓lt_d, eq_self, lN_add, i_l, wTn, wFa, wFb, wCT, wCF, mNe, mNe2, mLt, mLe, bp_s, bn_s, n_clampS, nI_1, nI_add, pk_sub, nI_mul, wrI_at, wrI_2, wrL_at, wrL_1, true_and, false_and, and_true, and_false, and_self, ↓reduceIte, Nat.reduceEqDiff, Nat.reduceAdd, Nat.reduceMul, Nat.add_zero, Nat.zero_add, reduceCtorEq, l_0, l_1, l_2, l_3, l_4, l_5, l_6, l_7, l_8, l_9, l_10, l_15, l_24, l_32, l_39, l_40, l_47, l_48, l_50, l_57, l_60, l_63, l_80, l_95, l_99, l_100, l_120, l_126, l_128, l_1000, l_9999, l_10000, L_0, L_1, L_2, L_3, L_4, L_5, L_7, L_9, L_15, L_40, L_50, L_99, L_127, L_9999, c_ltT, c_ltF, c_leT, c_leF, c_eqT, c_eqF, n_leF, n_ltF, c_gltT, c_gltF, c_ggtT, c_ggtF, false_or, or_false, or_self, true_or, or_true]
              exact w1
        · refine ⟨-1, C, R, ?_, ?_⟩
          · simp (disch := omega) only [g1, ↓lt_d, eq_self, lN_add, i_l, wTn, wFa, wFb, wCT, wCF, mNe, mNe2, mLt, mLe, bp_s, bn_s, n_clampS, nI_1, nI_add, pk_sub, nI_mul, wrI_at, wrI_2, wrL_at, wrL_1, true_and, false_and, and_true, and_false, and_self, ↓reduceIte, Nat.reduceEqDiff, Nat.reduceAdd, Nat.reduceMul, Nat.add_zero, Nat.zero_add, reduceCtorEq, l_0, l_1, l_2, l_3, l_4, l_5, l_6, l_7, l_8, l_9, l_10, l_15, l_24, l_32, l_39, l_40, l_47, l_48, l_50, l_57, l_60, l_63, l_80, l_95, l_99, l_100, l_120, l_126, l_128, l_1000, l_9999, l_10000, L_0, L_1, L_2, L_3, L_4, L_5, L_7, L_9, L_15, L_40, L_50, L_99, L_127, L_9999, c_ltT, c_ltF, c_leT, c_leF, c_eqT, c_eqF, n_leF, n_ltF, c_gltT, c_gltF, c_ggtT, c_ggtF, false_or, or_false, or_self, true_or, or_true]
          · simp (disch := omega) only [g2, ↓lt_d, eq_self, lN_add, i_l, wTn, wFa, wFb, wCT, wCF, mNe, mNe2, mLt, mLe, bp_s, bn_s, n_clampS, nI_1, nI_add, pk_sub, nI_mul, wrI_at, wrI_2, wrL_at, wrL_1, true_and, false_and, and_true, and_false, and_self, ↓reduceIte, Nat.reduceEqDiff, Nat.reduceAdd, Nat.reduceMul, Nat.add_zero, Nat.zero_add, reduceCtorEq, l_0, l_1, l_2, l_3, l_4, l_5, l_6, l_7, l_8, l_9, l_10, l_15, l_24, l_32, l_39, l_40, l_47, l_48, l_50, l_57, l_60, l_63, l_80, l_95, l_99, l_100, l_120, l_126, l_128, l_1000, l_9999, l_10000, L_0, L_1, L_2, L_3, L_4, L_5, L_7, L_9, L_15, L_40, L_50, L_99, L_127, L_9999, c_ltT, c_ltF, c_leT, c_leF, c_eqT, c_eqF, n_leF, n_ltF, c_gltT, c_gltF, c_ggtT, c_ggtF, false_or, or_false, or_self, true_or, or_true]
    · refine ⟨-1, C, R, ?_, ?_⟩
      · simp (disch := omega) only [g1, ↓lt_d, eq_self, lN_add, i_l, wTn, wFa, wFb, wCT, wCF, mNe, mNe2, mLt, mLe, bp_s, bn_s, n_clampS, nI_1, nI_add, pk_sub, nI_mul, wrI_at, wrI_2, wrL_at, wrL_1, true_and, false_and, and_true, and_false, and_self, ↓reduceIte, Nat.reduceEqDiff, Nat.reduceAdd, Nat.reduceMul, Nat.add_zero, Nat.zero_add, reduceCtorEq, l_0, l_1, l_2, l_3, l_4, l_5, l_6, l_7, l_8, l_9, l_10, l_15, l_24, l_32, l_39, l_40, l_47, l_48, l_50, l_57, l_60, l_63, l_80, l_95, l_99, l_100, l_120, l_126, l_128, l_1000, l_9999, l_10000, L_0, L_1, L_2, L_3, L_4, L_5, L_7, L_9, L_15, L_40, L_50, L_99, L_127, L_9999, c_ltT, c_ltF, c_leT, c_leF, c_eqT, c_eqF, n_leF, n_ltF, c_gltT, c_gltF, c_ggtT, c_ggtF, false_or, or_false, or_self, true_or, or_true]
      · simp (disch := omega) only [g2, ↓lt_d, eq_self, lN_add, i_l, wTn, wFa, wFb, wCT, wCF, mNe, mNe2, mLt, mLe, bp_s, bn_s, n_clampS, nI_1, nI_add, pk_sub, nI_mul, wrI_at, wrI_2, wrL_at, wrL_1, true_and, false_and, and_true, and_false, and_self, ↓reduceIte, Nat.reduceEqDiff, Nat.reduceAdd, Nat.reduceMul, Nat.add_zero, Nat.zero_add, reduceCtorEq, l_0, l_1, l_2, l_3, l_4, l_5, l_6, l_7, l_8, l_9, l_10, l_15, l_24, l_32, l_39, l_40, l_47, l_48, l_50, l_57, l_60, l_63, l_80, l_95, l_99, l_100, l_120, l_126, l_128, l_1000, l_9999, l_10000, L_0, L_1, L_2, L_3, L_4, L_5, L_7, L_9, L_15, L_40, L_50, L_99, L_127, L_9999, c_ltT, c_ltF, c_leT, c_leF, c_eqT, c_eqF, n_leF, n_ltF, c_gltT, c_gltF, c_ggtT, c_ggtF, false_or, or_false, or_self, true_or, or_true]
  obtain ⟨r, C', R', c1, c2⟩ := core
  exact ⟨r, C', R', c1, c2, Inv_up (Nat.le_succ t) (Inv_fl h (gc_X10_best c1) (gr_X11_best c2))⟩
