/-! the way chosen, alike on both sides -/
theorem reckon_x {n jc : Nat} (hj : jc < 7) {x ab : Int32} (hx : x < 0 ∨ ∃ a, 6 < a ∧ a < 2 ^ 31 ∧ x = nI a) (C : Mm) : fX0_reckon n jc x ab C = some (nI 0, beg jc C) := by
  have eb := begin_l hj C
  unfold fX0_reckon
  rcases hx with hx | ⟨a, ha, ha2, rfl⟩
  · have n0 := nNe hx (a := 0) (by omega)
    have n1 := nNe hx (a := 1) (by omega)
    have n2 := nNe hx (a := 2) (by omega)
    have n3 := nNe hx (a := 3) (by omega)
    have n4 := nNe hx (a := 4) (by omega)
    have n5 := nNe hx (a := 5) (by omega)
    have n6 := nNe hx (a := 6) (by omega)
    simp (disch := omega) only [eb, n0, n1, n2, n3, n4, n5, n6, ↓lt_d, eq_self, lN_add, i_l, wTn, wFa, wFb, wCT, wCF, mNe, mNe2, mLt, mLe, bp_s, bn_s, n_clampS, nI_1, nI_add, pk_sub, nI_mul, wrI_at, wrI_2, wrL_at, wrL_1, true_and, false_and, and_true, and_false, and_self, ↓reduceIte, Nat.reduceEqDiff, Nat.reduceAdd, Nat.reduceMul, Nat.add_zero, Nat.zero_add, reduceCtorEq, l_0, l_1, l_2, l_3, l_4, l_5, l_6, l_7, l_8, l_9, l_10, l_15, l_24, l_32, l_39, l_40, l_47, l_48, l_50, l_57, l_60, l_63, l_80, l_95, l_99, l_100, l_120, l_126, l_128, l_1000, l_9999, l_10000, L_0, L_1, L_2, L_3, L_4, L_5, L_7, L_9, L_15, L_40, L_50, L_99, L_127, L_9999, c_ltT, c_ltF, c_leT, c_leF, c_eqT, c_eqF, n_leF, n_ltF, c_gltT, c_gltF, c_ggtT, c_ggtF, false_or, or_false, or_self, true_or, or_true]
  · simp (disch := omega) only [eb, ↓lt_d, eq_self, lN_add, i_l, wTn, wFa, wFb, wCT, wCF, mNe, mNe2, mLt, mLe, bp_s, bn_s, n_clampS, nI_1, nI_add, pk_sub, nI_mul, wrI_at, wrI_2, wrL_at, wrL_1, true_and, false_and, and_true, and_false, and_self, ↓reduceIte, Nat.reduceEqDiff, Nat.reduceAdd, Nat.reduceMul, Nat.add_zero, Nat.zero_add, reduceCtorEq, l_0, l_1, l_2, l_3, l_4, l_5, l_6, l_7, l_8, l_9, l_10, l_15, l_24, l_32, l_39, l_40, l_47, l_48, l_50, l_57, l_60, l_63, l_80, l_95, l_99, l_100, l_120, l_126, l_128, l_1000, l_9999, l_10000, L_0, L_1, L_2, L_3, L_4, L_5, L_7, L_9, L_15, L_40, L_50, L_99, L_127, L_9999, c_ltT, c_ltF, c_leT, c_leF, c_eqT, c_eqF, n_leF, n_ltF, c_gltT, c_gltF, c_ggtT, c_ggtF, false_or, or_false, or_self, true_or, or_true]
theorem Hd_fr {t jc jr tb : Nat} {T : Nat → Nat} {C R C' R' : Mm} (h : Hd t jc jr tb T C R) (hc : ∀ q i, 4 ≤ q ∧ q < 32 → C'.1 q i = C.1 q i) (hr : ∀ q i, q = 73 ∨ q = 81 ∨ q = 82 ∨ q = 83 → R'.1 q i = R.1 q i) : Hd t jc jr tb T C' R' := by
  obtain ⟨h1, h2, h3, h4, h5, h6, h7, h8⟩ := h
  refine ⟨h1, h2, I_prx_fr h1 h3 (fun q i hq => hc q i (by unfold hdc hdp hdk at hq; omega)) (fun q i hq => hr q i (by omega)), fun s hs => ⟨?_, ?_⟩, ?_, h6, h7, h8⟩
  · rw [hc _ _ (by unfold hdn; omega)]
    exact (h4 s hs).1
  · rw [hr _ _ (by omega)]
    exact (h4 s hs).2
  · rw [hc _ _ (by unfold hdn; omega)]
    exact h5
theorem Hn_fr {jc jr tb : Nat} {T : Nat → Nat} {C R C' R' : Mm} (h : Hn jc jr tb T C R) (hc : ∀ q i, 4 ≤ q ∧ q < 32 → C'.1 q i = C.1 q i) (hr : ∀ q i, q = 73 → R'.1 q i = R.1 q i) : Hn jc jr tb T C' R' := by
  obtain ⟨h1, h2, h4, h5, h6, h7, h8⟩ := h
  refine ⟨h1, h2, fun s hs => ⟨?_, ?_⟩, ?_, h6, h7, h8⟩
  · rw [hc _ _ (by unfold hdn; omega)]
    exact (h4 s hs).1
  · rw [hr _ _ rfl]
    exact (h4 s hs).2
  · rw [hc _ _ (by unfold hdn; omega)]
    exact h5
theorem tbl_fr {jr tb : Nat} {p4 : Int32} {R R' : Mm} (h : tbl jr tb p4 R) (hr : ∀ q i, q = 73 → R'.1 q i = R.1 q i) : tbl jr tb p4 R' := by
  rcases h with h | ⟨h1, h2⟩
  · exact Or.inl h
  · exact Or.inr ⟨h1, by rw [hr _ _ rfl]; exact h2⟩
theorem num_x {n jc jr tb cp v a b : Nat} {p4 : Int32} {T : Nat → Nat} {C R : Mm} (hn : 1000 ≤ n) (h : Hn jc jr tb T C R) (hc4 : C.1 (hdn jc) 4 = nI cp) (hr4 : R.1 73 (5 * jr + 4) = nI cp) (hcho : I_cho C R) (hv : isAB v a b) (htb : tbl jr tb p4 R) : ∃ x C1 R1, fX3_numberFor n jc (nI v) C = some (x, C1) ∧ fX11_chosenBy n (nI jr) (nI v) p4 R = fX11_chosenBy_b152 n (nI jr) (nI v) p4 x R1 ∧ ∀ q i, ¬ (q = 79 ∨ (q = 72 ∧ 10 ≤ i ∧ i ≤ 14)) → R1.1 q i = R.1 q i := by
  obtain ⟨g1, g2, g4, g5, g6, g7, g8⟩ := h
  obtain ⟨v1, v2, v3⟩ := ab_div hv
  have hvv := hv
  unfold isAB at hvv
  have hda : nI v / nI 10000 = nI a := by rw [dv v3 (by decide) (by decide), v1]
  have hdb : irm (nI v) (nI 10000) = nI b := by rw [rm v3 (by decide) (by decide), v2]
  rcases hcho with ⟨c1, c2⟩ | ⟨Tx, m, q, ks, m1, m2, c3, c4, c5, c6, c7, c8, c9⟩
  · refine ⟨nI 1, C, R, ?_, ?_, fun _ _ _ => rfl⟩
    · unfold fX3_numberFor
      simp (disch := omega) only [c1, ↓lt_d, eq_self, lN_add, i_l, wTn, wFa, wFb, wCT, wCF, mNe, mNe2, mLt, mLe, bp_s, bn_s, n_clampS, nI_1, nI_add, pk_sub, nI_mul, wrI_at, wrI_2, wrL_at, wrL_1, true_and, false_and, and_true, and_false, and_self, ↓reduceIte, Nat.reduceEqDiff, Nat.reduceAdd, Nat.reduceMul, Nat.add_zero, Nat.zero_add, reduceCtorEq, l_0, l_1, l_2, l_3, l_4, l_5, l_6, l_7, l_8, l_9, l_10, l_15, l_24, l_32, l_39, l_40, l_47, l_48, l_50, l_57, l_60, l_63, l_80, l_95, l_99, l_100, l_120, l_126, l_128, l_1000, l_9999, l_10000, L_0, L_1, L_2, L_3, L_4, L_5, L_7, L_9, L_15, L_40, L_50, L_99, L_127, L_9999, c_ltT, c_ltF, c_leT, c_leF, c_eqT, c_eqF, n_leF, n_ltF, c_gltT, c_gltF, c_ggtT, c_ggtF, false_or, or_false, or_self, true_or, or_true]
    · unfold fX11_chosenBy
      have : (R.1 72 9 < nI 0) = True := by rw [c2]; exact eq_true (by decide)
      simp (disch := omega) only [this, ↓lt_d, eq_self, lN_add, i_l, wTn, wFa, wFb, wCT, wCF, mNe, mNe2, mLt, mLe, bp_s, bn_s, n_clampS, nI_1, nI_add, pk_sub, nI_mul, wrI_at, wrI_2, wrL_at, wrL_1, true_and, false_and, and_true, and_false, and_self, ↓reduceIte, Nat.reduceEqDiff, Nat.reduceAdd, Nat.reduceMul, Nat.add_zero, Nat.zero_add, reduceCtorEq, l_0, l_1, l_2, l_3, l_4, l_5, l_6, l_7, l_8, l_9, l_10, l_15, l_24, l_32, l_39, l_40, l_47, l_48, l_50, l_57, l_60, l_63, l_80, l_95, l_99, l_100, l_120, l_126, l_128, l_1000, l_9999, l_10000, L_0, L_1, L_2, L_3, L_4, L_5, L_7, L_9, L_15, L_40, L_50, L_99, L_127, L_9999, c_ltT, c_ltF, c_leT, c_leF, c_eqT, c_eqF, n_leF, n_ltF, c_gltT, c_gltF, c_ggtT, c_ggtF, false_or, or_false, or_self, true_or, or_true]
  · have hw := workOut_r (n := n) hn (V := VV a b tb cp) (T := Tx) (b := nI 0) (R := wrI (wrI (wrI (wrI (wrI (wrI (wrI (wrI R 79 0 (nI (dgs a))) 79 1 (nI (dgs b))) 79 2 (nI (a % 10))) 79 3 (nI (b % 10))) 79 4 (nI (dif a b))) 79 5 (nI (nnF 20 a + nnF 20 b))) 79 6 (nI tb)) 79 7 (nI cp)) m2 (fun i hi => (c4 i hi).1) (Or.inr ⟨rfl, fun i hi => by
      rw [wrI_at, if_neg (by omega), wrI_at, if_neg (by omega), wrI_at, if_neg (by omega), wrI_at, if_neg (by omega), wrI_at, if_neg (by omega), wrI_at, if_neg (by omega), wrI_at, if_neg (by omega), wrI_at, if_neg (by omega)]
      exact (c4 i hi).2⟩) (fun c hc => by
      rw [VV_l hc]
      rcases isNm_e hc with rfl | rfl | rfl | rfl | rfl | rfl | rfl | rfl <;> rfl)
    rcases hw with ⟨q2, w, R1, r1, -⟩ | ⟨k2, q2, R1, r1, r2, r3⟩
    · have := congrArg Prod.fst (r1.symm.trans c5)
      cases this
    · have hk : k2 = ks := Option.some.inj (congrArg Prod.fst (r1.symm.trans c5))
      subst hk
      obtain ⟨C1, e1⟩ := nf_h (n := n) hn hv g1 k2 n 0 [] false (wrI C 32 5 (nI 0)) (fun k hk => by rw [wrI_at, if_neg (by omega), Nat.zero_add]; exact c9 k hk) (by rw [wrI_at, if_neg (by omega), Nat.zero_add]; exact c8) (by omega) (by omega) ⟨by simp (disch := omega) only [↓lt_d, eq_self, lN_add, i_l, wTn, wFa, wFb, wCT, wCF, mNe, mNe2, mLt, mLe, bp_s, bn_s, n_clampS, nI_1, nI_add, pk_sub, nI_mul, wrI_at, wrI_2, wrL_at, wrL_1, true_and, false_and, and_true, and_false, and_self, ↓reduceIte, Nat.reduceEqDiff, Nat.reduceAdd, Nat.reduceMul, Nat.add_zero, Nat.zero_add, reduceCtorEq, l_0, l_1, l_2, l_3, l_4, l_5, l_6, l_7, l_8, l_9, l_10, l_15, l_24, l_32, l_39, l_40, l_47, l_48, l_50, l_57, l_60, l_63, l_80, l_95, l_99, l_100, l_120, l_126, l_128, l_1000, l_9999, l_10000, L_0, L_1, L_2, L_3, L_4, L_5, L_7, L_9, L_15, L_40, L_50, L_99, L_127, L_9999, c_ltT, c_ltF, c_leT, c_leF, c_eqT, c_eqF, n_leF, n_ltF, c_gltT, c_gltF, c_ggtT, c_ggtF, false_or, or_false, or_self, true_or, or_true]; rfl, fun i hi => absurd hi (by show ¬ i < 0; omega)⟩ (Nat.le_refl 0) (by rw [wrI_at, if_neg (by unfold hdn; omega)]; exact g5) (by rw [wrI_at, if_neg (by unfold hdn; omega)]; exact hc4)
      have hfr := gw_X11_workOut r2
      have d1 := digits_l (n := n) (v := a) hn (by omega)
      have d2 := digits_l (n := n) (v := b) hn (by omega)
      have d3 := (nought_l (n := n) (v := a) hn (by omega)).2
      have d4 := (nought_l (n := n) (v := b) hn (by omega)).2
      have d5 := size_l (a := a) (b := b) (by omega) (by omega)
      have l_30 : (30 : Int32) = nI 30 := by decide
      refine ⟨nf (VV a b tb cp) k2 [] false, C1, R1, ?_, ?_, fun q i hq => ?_⟩
      · unfold fX3_numberFor
        simp only [Bool.false_eq_true, ↓reduceIte] at e1
        simp (disch := omega) only [c8, e1, ↓lt_d, eq_self, lN_add, i_l, wTn, wFa, wFb, wCT, wCF, mNe, mNe2, mLt, mLe, bp_s, bn_s, n_clampS, nI_1, nI_add, pk_sub, nI_mul, wrI_at, wrI_2, wrL_at, wrL_1, true_and, false_and, and_true, and_false, and_self, ↓reduceIte, Nat.reduceEqDiff, Nat.reduceAdd, Nat.reduceMul, Nat.add_zero, Nat.zero_add, reduceCtorEq, l_0, l_1, l_2, l_3, l_4, l_5, l_6, l_7, l_8, l_9, l_10, l_15, l_24, l_32, l_39, l_40, l_47, l_48, l_50, l_57, l_60, l_63, l_80, l_95, l_99, l_100, l_120, l_126, l_128, l_1000, l_9999, l_10000, L_0, L_1, L_2, L_3, L_4, L_5, L_7, L_9, L_15, L_40, L_50, L_99, L_127, L_9999, c_ltT, c_ltF, c_leT, c_leF, c_eqT, c_eqF, n_leF, n_ltF, c_gltT, c_gltF, c_ggtT, c_ggtF, false_or, or_false, or_self, true_or, or_true]
      · unfold fX11_chosenBy fX11_chosenBy_b123
        rcases htb with rfl | ⟨rfl, htb⟩
        · simp (disch := omega) only [c3, hda, hdb, d1, d2, d3, d4, d5, rm, hr4, r2, ↓lt_d, eq_self, lN_add, i_l, wTn, wFa, wFb, wCT, wCF, mNe, mNe2, mLt, mLe, bp_s, bn_s, n_clampS, nI_1, nI_add, pk_sub, nI_mul, wrI_at, wrI_2, wrL_at, wrL_1, true_and, false_and, and_true, and_false, and_self, ↓reduceIte, Nat.reduceEqDiff, Nat.reduceAdd, Nat.reduceMul, Nat.add_zero, Nat.zero_add, reduceCtorEq, l_0, l_1, l_2, l_3, l_4, l_5, l_6, l_7, l_8, l_9, l_10, l_15, l_24, l_32, l_39, l_40, l_47, l_48, l_50, l_57, l_60, l_63, l_80, l_95, l_99, l_100, l_120, l_126, l_128, l_1000, l_9999, l_10000, L_0, L_1, L_2, L_3, L_4, L_5, L_7, L_9, L_15, L_40, L_50, L_99, L_127, L_9999, c_ltT, c_ltF, c_leT, c_leF, c_eqT, c_eqF, n_leF, n_ltF, c_gltT, c_gltF, c_ggtT, c_ggtF, false_or, or_false, or_self, true_or, or_true]
        · simp (disch := omega) only [c3, hda, hdb, d1, d2, d3, d4, d5, rm, hr4, htb, r2, ↓lt_d, eq_self, lN_add, i_l, wTn, wFa, wFb, wCT, wCF, mNe, mNe2, mLt, mLe, bp_s, bn_s, n_clampS, nI_1, nI_add, pk_sub, nI_mul, wrI_at, wrI_2, wrL_at, wrL_1, true_and, false_and, and_true, and_false, and_self, ↓reduceIte, Nat.reduceEqDiff, Nat.reduceAdd, Nat.reduceMul, Nat.add_zero, Nat.zero_add, reduceCtorEq, l_0, l_1, l_2, l_3, l_4, l_5, l_6, l_7, l_8, l_9, l_10, l_15, l_24, l_32, l_39, l_40, l_47, l_48, l_50, l_57, l_60, l_63, l_80, l_95, l_99, l_100, l_120, l_126, l_128, l_1000, l_9999, l_10000, L_0, L_1, L_2, L_3, L_4, L_5, L_7, L_9, L_15, L_40, L_50, L_99, L_127, L_9999, c_ltT, c_ltF, c_leT, c_leF, c_eqT, c_eqF, n_leF, n_ltF, c_gltT, c_gltF, c_ggtT, c_ggtF, false_or, or_false, or_self, true_or, or_true]
      · rw [hfr.1 q i (by unfold fWrk; omega), wrI_at, if_neg (by omega), wrI_at, if_neg (by omega), wrI_at, if_neg (by omega), wrI_at, if_neg (by omega), wrI_at, if_neg (by omega), wrI_at, if_neg (by omega), wrI_at, if_neg (by omega), wrI_at, if_neg (by omega)]
theorem chosen_k {n jc jr tb cp v a b : Nat} {p4 : Int32} {T : Nat → Nat} {C R : Mm} (hn : 1000 ≤ n) (h : Hn jc jr tb T C R) (hk : ∀ C' R' : Mm, (∀ q i, 4 ≤ q ∧ q < 32 → C'.1 q i = C.1 q i) → (∀ q i, q = 81 ∨ q = 82 ∨ q = 83 → R'.1 q i = R.1 q i) → ∃ k, (k = 0 ∨ k = 1) ∧ fX5_looksUp n jc (nI v) C' = some (nI k) ∧ fX11_isKnown n (nI a) (nI b) (lay jr tb R') = some (nI k)) (hc4 : C.1 (hdn jc) 4 = nI cp) (hr4 : R.1 73 (5 * jr + 4) = nI cp) (hcho : I_cho C R) (hv : isAB v a b) (htb : tbl jr tb p4 R) : ∃ w C' R', fX10_reckonChosen n jc (nI v) C = some (nI w, C') ∧ fX11_chosenBy n (nI jr) (nI v) p4 R = some (nI w, R') ∧ w ≤ 6 ∧ ∃ a v hd, Wy jr T C' R' a v hd := by
  obtain ⟨x, C1, R1, e1, e2, e3⟩ := num_x hn h hc4 hr4 hcho hv htb
  have fs := gs_X3_numberFor h.1 e1
  have h1 : Hn jc jr tb T C1 R1 := Hn_fr h (fun q i hq => fs.1 q i (by unfold fStk; omega)) (fun q i hq => e3 q i (by omega))
  have htb1 : tbl jr tb p4 R1 := tbl_fr htb (fun q i hq => e3 q i (by omega))
  rw [e2]
  unfold fX10_reckonChosen fX11_chosenBy_b152 fX11_chosenBy_b177
  have left : ∀ C2 R2, (∀ q i, 4 ≤ q ∧ q < 32 → C2.1 q i = C.1 q i) → (∀ q i, q = 73 ∨ q = 81 ∨ q = 82 ∨ q = 83 → R2.1 q i = R.1 q i) → ∃ C' R', fX0_reckon n jc (nI 1) (nI v) C2 = some (nI 1, C') ∧ fX11_layOut n (nI jr) (nI 1) (nI v) p4 R2 = some (nI 1, R') ∧ ∃ a v hd, Wy jr T C' R' a v hd := by
    intro C2 R2 g1 g2
    obtain ⟨r, C', R', t1, t2, t3, t4, t5⟩ := reckon_k hn (Hn_fr h g1 (fun q i hq => g2 q i (by omega))) (hk (beg jc C2) R2 (fun q i hq => by rw [beg_hd (by omega)]; exact g1 q i hq) (fun q i hq => g2 q i (by omega))) hv (w := 1) (by omega) (tbl_fr htb (fun q i hq => g2 q i (by omega)))
    have := t4 rfl
    subst this
    exact ⟨C', R', t1, t2, t5 rfl⟩
  have L_6 : (6 : Int64) = lN 6 := by decide
  by_cases hx : ∃ w, w ≤ 6 ∧ x = nI w
  · obtain ⟨w, w1, rfl⟩ := hx
    obtain ⟨r, C2, R2, t1, t2, t3, t4, t5⟩ := reckon_k hn h1 (hk (beg jc C1) R1 (fun q i hq => by rw [beg_hd (by omega)]; exact fs.1 q i (by unfold fStk; omega)) (fun q i hq => e3 q i (by omega))) hv w1 htb1
    rcases t3 with rfl | rfl
    · have fa := ga_X0_reckon h.1 t1
      have fl := gl_X11_layOut t2
      obtain ⟨C3, R3, u1, u2, u3⟩ := left C2 R2 (fun q i hq => (fa.1 q i (by unfold fAct; omega)).trans (fs.1 q i (by unfold fStk; omega))) (fun q i hq => (fl.1 q i (by unfold fLay; omega)).trans (e3 q i (by omega)))
      refine ⟨1, C3, R3, ?_, ?_, by omega, u3⟩
      · simp (disch := omega) only [e1, t1, u1, ↓lt_d, eq_self, lN_add, i_l, wTn, wFa, wFb, wCT, wCF, mNe, mNe2, mLt, mLe, bp_s, bn_s, n_clampS, nI_1, nI_add, pk_sub, nI_mul, wrI_at, wrI_2, wrL_at, wrL_1, true_and, false_and, and_true, and_false, and_self, ↓reduceIte, Nat.reduceEqDiff, Nat.reduceAdd, Nat.reduceMul, Nat.add_zero, Nat.zero_add, reduceCtorEq, l_0, l_1, l_2, l_3, l_4, l_5, l_6, l_7, l_8, l_9, l_10, l_15, l_24, l_32, l_39, l_40, l_47, l_48, l_50, l_57, l_60, l_63, l_80, l_95, l_99, l_100, l_120, l_126, l_128, l_1000, l_9999, l_10000, L_0, L_1, L_2, L_3, L_4, L_5, L_7, L_9, L_15, L_40, L_50, L_99, L_127, L_9999, c_ltT, c_ltF, c_leT, c_leF, c_eqT, c_eqF, n_leF, n_ltF, c_gltT, c_gltF, c_ggtT, c_ggtF, false_or, or_false, or_self, true_or, or_true]
      · simp (disch := omega) only [L_6, t2, u2, ↓lt_d, eq_self, lN_add, i_l, wTn, wFa, wFb, wCT, wCF, mNe, mNe2, mLt, mLe, bp_s, bn_s, n_clampS, nI_1, nI_add, pk_sub, nI_mul, wrI_at, wrI_2, wrL_at, wrL_1, true_and, false_and, and_true, and_false, and_self, ↓reduceIte, Nat.reduceEqDiff, Nat.reduceAdd, Nat.reduceMul, Nat.add_zero, Nat.zero_add, reduceCtorEq, l_0, l_1, l_2, l_3, l_4, l_5, l_6, l_7, l_8, l_9, l_10, l_15, l_24, l_32, l_39, l_40, l_47, l_48, l_50, l_57, l_60, l_63, l_80, l_95, l_99, l_100, l_120, l_126, l_128, l_1000, l_9999, l_10000, L_0, L_1, L_2, L_3, L_4, L_5, L_7, L_9, L_15, L_40, L_50, L_99, L_127, L_9999, c_ltT, c_ltF, c_leT, c_leF, c_eqT, c_eqF, n_leF, n_ltF, c_gltT, c_gltF, c_ggtT, c_ggtF, false_or, or_false, or_self, true_or, or_true]
    · refine ⟨w, C2, R2, ?_, ?_, w1, t5 rfl⟩
      · simp (disch := omega) only [e1, t1, ↓lt_d, eq_self, lN_add, i_l, wTn, wFa, wFb, wCT, wCF, mNe, mNe2, mLt, mLe, bp_s, bn_s, n_clampS, nI_1, nI_add, pk_sub, nI_mul, wrI_at, wrI_2, wrL_at, wrL_1, true_and, false_and, and_true, and_false, and_self, ↓reduceIte, Nat.reduceEqDiff, Nat.reduceAdd, Nat.reduceMul, Nat.add_zero, Nat.zero_add, reduceCtorEq, l_0, l_1, l_2, l_3, l_4, l_5, l_6, l_7, l_8, l_9, l_10, l_15, l_24, l_32, l_39, l_40, l_47, l_48, l_50, l_57, l_60, l_63, l_80, l_95, l_99, l_100, l_120, l_126, l_128, l_1000, l_9999, l_10000, L_0, L_1, L_2, L_3, L_4, L_5, L_7, L_9, L_15, L_40, L_50, L_99, L_127, L_9999, c_ltT, c_ltF, c_leT, c_leF, c_eqT, c_eqF, n_leF, n_ltF, c_gltT, c_gltF, c_ggtT, c_ggtF, false_or, or_false, or_self, true_or, or_true]
      · simp (disch := omega) only [L_6, t2, ↓lt_d, eq_self, lN_add, i_l, wTn, wFa, wFb, wCT, wCF, mNe, mNe2, mLt, mLe, bp_s, bn_s, n_clampS, nI_1, nI_add, pk_sub, nI_mul, wrI_at, wrI_2, wrL_at, wrL_1, true_and, false_and, and_true, and_false, and_self, ↓reduceIte, Nat.reduceEqDiff, Nat.reduceAdd, Nat.reduceMul, Nat.add_zero, Nat.zero_add, reduceCtorEq, l_0, l_1, l_2, l_3, l_4, l_5, l_6, l_7, l_8, l_9, l_10, l_15, l_24, l_32, l_39, l_40, l_47, l_48, l_50, l_57, l_60, l_63, l_80, l_95, l_99, l_100, l_120, l_126, l_128, l_1000, l_9999, l_10000, L_0, L_1, L_2, L_3, L_4, L_5, L_7, L_9, L_15, L_40, L_50, L_99, L_127, L_9999, c_ltT, c_ltF, c_leT, c_leF, c_eqT, c_eqF, n_leF, n_ltF, c_gltT, c_gltF, c_ggtT, c_ggtF, false_or, or_false, or_self, true_or, or_true]
  · have hx2 : x < 0 ∨ ∃ a, 6 < a ∧ a < 2 ^ 31 ∧ x = nI a := by
      rcases i_cases x with h0 | ⟨a, a1, a2⟩
      · exact Or.inl h0
      · exact Or.inr ⟨a, by
          apply Nat.lt_of_not_le
          intro z
          exact hx ⟨a, z, a2⟩, a1, a2⟩
    have hwi : fX11_within (Int32.toInt64 x) (lN 0) (lN 6) = nI 0 := by
      rcases hx2 with h0 | ⟨a, a1, a2, rfl⟩
      · exact wFn h0 (by omega)
      · rw [i_l a2]
        exact wFb a1 a2 (by omega)
    have t1 := reckon_x (n := n) (ab := nI v) h.1 hx2 C1
    have fa := ga_X0_reckon h.1 t1
    obtain ⟨C3, R3, u1, u2, u3⟩ := left (beg jc C1) R1 (fun q i hq => (fa.1 q i (by unfold fAct; omega)).trans (fs.1 q i (by unfold fStk; omega))) (fun q i hq => e3 q i (by omega))
    refine ⟨1, C3, R3, ?_, ?_, by omega, u3⟩
    · simp (disch := omega) only [e1, t1, u1, ↓lt_d, eq_self, lN_add, i_l, wTn, wFa, wFb, wCT, wCF, mNe, mNe2, mLt, mLe, bp_s, bn_s, n_clampS, nI_1, nI_add, pk_sub, nI_mul, wrI_at, wrI_2, wrL_at, wrL_1, true_and, false_and, and_true, and_false, and_self, ↓reduceIte, Nat.reduceEqDiff, Nat.reduceAdd, Nat.reduceMul, Nat.add_zero, Nat.zero_add, reduceCtorEq, l_0, l_1, l_2, l_3, l_4, l_5, l_6, l_7, l_8, l_9, l_10, l_15, l_24, l_32, l_39, l_40, l_47, l_48, l_50, l_57, l_60, l_63, l_80, l_95, l_99, l_100, l_120, l_126, l_128, l_1000, l_9999, l_10000, L_0, L_1, L_2, L_3, L_4, L_5, L_7, L_9, L_15, L_40, L_50, L_99, L_127, L_9999, c_ltT, c_ltF, c_leT, c_leF, c_eqT, c_eqF, n_leF, n_ltF, c_gltT, c_gltF, c_ggtT, c_ggtF, false_or, or_false, or_self, true_or, or_true]
    · simp (disch := omega) only [L_6, hwi, u2, ↓lt_d, eq_self, lN_add, i_l, wTn, wFa, wFb, wCT, wCF, mNe, mNe2, mLt, mLe, bp_s, bn_s, n_clampS, nI_1, nI_add, pk_sub, nI_mul, wrI_at, wrI_2, wrL_at, wrL_1, true_and, false_and, and_true, and_false, and_self, ↓reduceIte, Nat.reduceEqDiff, Nat.reduceAdd, Nat.reduceMul, Nat.add_zero, Nat.zero_add, reduceCtorEq, l_0, l_1, l_2, l_3, l_4, l_5, l_6, l_7, l_8, l_9, l_10, l_15, l_24, l_32, l_39, l_40, l_47, l_48, l_50, l_57, l_60, l_63, l_80, l_95, l_99, l_100, l_120, l_126, l_128, l_1000, l_9999, l_10000, L_0, L_1, L_2, L_3, L_4, L_5, L_7, L_9, L_15, L_40, L_50, L_99, L_127, L_9999, c_ltT, c_ltF, c_leT, c_leF, c_eqT, c_eqF, n_leF, n_ltF, c_gltT, c_gltF, c_ggtT, c_ggtF, false_or, or_false, or_self, true_or, or_true]
theorem chosen_l {n t jc jr tb cp v a b : Nat} {p4 : Int32} {T : Nat → Nat} {C R : Mm} (hn : 1000 ≤ n) (ht : t < 2 ^ 30) (h : Hd t jc jr tb T C R) (hc4 : C.1 (hdn jc) 4 = nI cp) (hr4 : R.1 73 (5 * jr + 4) = nI cp) (hcho : I_cho C R) (hv : isAB v a b) (htb : tbl jr tb p4 R) : ∃ w C' R', fX10_reckonChosen n jc (nI v) C = some (nI w, C') ∧ fX11_chosenBy n (nI jr) (nI v) p4 R = some (nI w, R') ∧ w ≤ 6 ∧ ∃ a v hd, Wy jr T C' R' a v hd :=
  chosen_k hn (Hd_n h) (fun C' R' hc hr => known_l (n := n) (C := C') (R := lay jr tb R') hn ht h.2.1 hv (I_prx_fr h.1 h.2.2.1 (fun q i hq => hc q i (by have := h.1; unfold hdc hdp hdk at hq; omega)) (fun q i hq => by rw [lay_fr (by omega)]; exact hr q i hq)) (by rw [hc _ _ (by have := h.1; unfold hdn; omega)]; exact h.2.2.2.2.1) h.2.2.2.2.2.2.1 (by unfold lay; simp (disch := omega) only [↓lt_d, eq_self, lN_add, i_l, wTn, wFa, wFb, wCT, wCF, mNe, mNe2, mLt, mLe, bp_s, bn_s, n_clampS, nI_1, nI_add, pk_sub, nI_mul, wrI_at, wrI_2, wrL_at, wrL_1, true_and, false_and, and_true, and_false, and_self, ↓reduceIte, Nat.reduceEqDiff, Nat.reduceAdd, Nat.reduceMul, Nat.add_zero, Nat.zero_add, reduceCtorEq, l_0, l_1, l_2, l_3, l_4, l_5, l_6, l_7, l_8, l_9, l_10, l_15, l_24, l_32, l_39, l_40, l_47, l_48, l_50, l_57, l_60, l_63, l_80, l_95, l_99, l_100, l_120, l_126, l_128, l_1000, l_9999, l_10000, L_0, L_1, L_2, L_3, L_4, L_5, L_7, L_9, L_15, L_40, L_50, L_99, L_127, L_9999, c_ltT, c_ltF, c_leT, c_leF, c_eqT, c_eqF, n_leF, n_ltF, c_gltT, c_gltF, c_ggtT, c_ggtF, false_or, or_false, or_self, true_or, or_true]) (by unfold lay; simp (disch := omega) only [↓lt_d, eq_self, lN_add, i_l, wTn, wFa, wFb, wCT, wCF, mNe, mNe2, mLt, mLe, bp_s, bn_s, n_clampS, nI_1, nI_add, pk_sub, nI_mul, wrI_at, wrI_2, wrL_at, wrL_1, true_and, false_and, and_true, and_false, and_self, ↓reduceIte, Nat.reduceEqDiff, Nat.reduceAdd, Nat.reduceMul, Nat.add_zero, Nat.zero_add, reduceCtorEq, l_0, l_1, l_2, l_3, l_4, l_5, l_6, l_7, l_8, l_9, l_10, l_15, l_24, l_32, l_39, l_40, l_47, l_48, l_50, l_57, l_60, l_63, l_80, l_95, l_99, l_100, l_120, l_126, l_128, l_1000, l_9999, l_10000, L_0, L_1, L_2, L_3, L_4, L_5, L_7, L_9, L_15, L_40, L_50, L_99, L_127, L_9999, c_ltT, c_ltF, c_leT, c_leF, c_eqT, c_eqF, n_leF, n_ltF, c_gltT, c_gltF, c_ggtT, c_ggtF, false_or, or_false, or_self, true_or, or_true])) hc4 hr4 hcho hv htb
