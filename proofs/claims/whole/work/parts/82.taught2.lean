/-! taught -/
/-- all but the table that a way of the head thought of looks at -/
def Bas (j tb cp : Nat) (T : Nat → Nat) (C R : Mm) : Prop := Hn 6 j tb T C R ∧ C.1 (hdn 6) 4 = nI cp ∧ R.1 73 (5 * j + 4) = nI cp ∧ I_cho C R ∧ tbl j tb (nI 0) R ∧ I_told C R
theorem Bas_fr {j tb cp : Nat} {T : Nat → Nat} {C R C' R' : Mm} (h : Bas j tb cp T C R) (hc : ∀ q i, q = hdn 6 ∨ (q = 32 ∧ i = 1) ∨ q = 33 ∨ (q = 0 ∧ i = 8) ∨ q = 47 → C'.1 q i = C.1 q i) (hr : ∀ q i, q = 73 ∨ (q = 72 ∧ (i = 9 ∨ i = 37)) ∨ q = 78 ∨ q = 94 → R'.1 q i = R.1 q i) : Bas j tb cp T C' R' := by
  obtain ⟨⟨h1, h2, h4, h5, h6, h7, h8⟩, g2, g3, g4, g5, g6⟩ := h
  refine ⟨⟨h1, h2, fun s hs => ⟨?_, ?_⟩, ?_, h6, h7, h8⟩, ?_, ?_, I_cho_fr g4 (fun q i hq => hc q i (by omega)) (fun q i hq => hr q i (by omega)), tbl_fr g5 (fun q i hq => hr q i (by omega)), I_told_fr g6 (fun q i hq => hc q i (by omega)) (fun q i hq => hr q i (by omega))⟩
  · rw [hc _ _ (by omega)]
    exact (h4 s hs).1
  · rw [hr _ _ (by omega)]
    exact (h4 s hs).2
  · rw [hc _ _ (by omega)]
    exact h5
  · rw [hc _ _ (by omega)]
    exact g2
  · rw [hr _ _ (by omega)]
    exact g3
theorem secs_k {n t j tb cp v a b : Nat} (hn : 1000 ≤ n) (ht : t < 2 ^ 30) {T : Nat → Nat} {C R : Mm} {P Q : TB} (h : Bas j tb cp T C R) (hv : isAB v a b) (ha : a ≤ 99) (hb : b ≤ 99) (hP : Bd t P) (hQ : Bd t Q) (hC : RepC 6 P C) (hR : RepR j Q R) (hk : kbit a b tb P = kbit a b tb Q) : ∃ S w C' R', S ≤ 79200 ∧ fX10_reckonChosen n 6 (nI v) C = some (w, C') ∧ fX0_seconds C' = nI S ∧ fX11_chosenBy n (nI j) (nI v) (nI 0) R = some (w, R') ∧ fX11_seconds n R' = some (nI S) ∧ ag fRck C C' ∧ ag fChs R R' := by
  obtain ⟨g1, g2, g3, g4, g5, g6⟩ := h
  have h5 := g1.2.2.2.1
  have h7 := g1.2.2.2.2.2.1
  obtain ⟨w, C', R', t1, t2, t3, aw, vw, hw, wy⟩ := chosen_k hn g1 (fun C2 R2 hc hr => ⟨kbit a b tb P, kbit_01 a b tb P, knownC hn ht hv ha hb hP (RepC_fr hC (fun q i hq => hc q i (by unfold hdc hdp hdk at hq; omega))) (by rw [hc _ _ (by unfold hdn; omega)]; exact h5) h7, by rw [hk]; exact knownR hn ht g1.2.1 hv ha hb hQ (RepR_fr hR hr) h7⟩) g2 g3 g4 hv g5
  obtain ⟨S, s1, s2, s3⟩ := Wy_sec hn wy
  exact ⟨S, nI w, C', R', s1, t1, s2, t2, s3, gk_X10_reckonChosen (by omega) t1, gh_X11_chosenBy t2⟩
def fTau (jr q i : Nat) : Prop := fChs q i ∨ fAsk jr q i
/-- what taught and first change of the class's -/
def fThk (q i : Nat) : Prop := fRck q i ∨ q = hdc 6 ∨ q = hdp 6 ∨ q = hdk 6
/-- an ask of the head thought of, and of the reference's head, side by side -/
theorem asked_l {n t j tb cp v a b : Nat} (hn : 1000 ≤ n) (ht : t < 2 ^ 30) {T : Nat → Nat} {C R : Mm} {P : TB} (h : Bas j tb cp T C R) (hv : isAB v a b) (ha : a ≤ 99) (hb : b ≤ 99) (hP : Bd t P) (hC : RepC 6 P C) (hR : RepR j P R) : ∃ S w C1 C2 R2, S ≤ 79200 ∧ fX10_reckonChosen n 6 (nI v) C = some (w, C1) ∧ fX0_seconds C1 = nI S ∧ fX5_hear n 6 (nI v) C1 = some (nI (hr P (asP a b)).1, C2) ∧ fX11_asksOne n (nI j) (nI v) R = some (nI S, R2) ∧ Bas j tb cp T C2 R2 ∧ RepC 6 (hr P (asP a b)).2 C2 ∧ RepR j (hr P (asP a b)).2 R2 ∧ ag fRck C C1 ∧ ag (fTau j) R R2 := by
  have hj := h.1.2.1
  obtain ⟨S, w, C1, R1, s1, t1, s2, t2, s3, fk, fh⟩ := secs_k hn ht h hv ha hb hP hP hC hR rfl
  have hC1 : RepC 6 P C1 := RepC_fr hC (fun q i hq => fk.1 q i (by unfold hdc hdp hdk at hq; unfold fRck; omega))
  have hR1 : RepR j P R1 := RepR_fr hR (fun q i hq => fh.1 q i (by unfold fChs; omega))
  obtain ⟨C2, c1, c2, c3⟩ := hearC (n := n) hn ht hv ha hb hP hC1
  obtain ⟨R2, r1, r2, r3⟩ := askR (n := n) hn ht hj hv ha hb hP hR1
  refine ⟨S, w, C1, C2, R2, s1, t1, s2, c1, ?_, ?_, c2, r2, fk, ag_tr (ag_mono (fun q i z => Or.inl z) fh) (ag_mono (fun q i z => Or.inr z) r3)⟩
  · unfold fX11_asksOne
    simp (disch := omega) only [t2, s3, r1, ↓lt_d, eq_self, lN_add, i_l, wTn, wFa, wFb, wCT, wCF, mNe, mNe2, mLt, mLe, bp_s, bn_s, n_clampS, nI_1, nI_add, pk_sub, nI_mul, wrI_at, wrI_2, wrL_at, wrL_1, true_and, false_and, and_true, and_false, and_self, ↓reduceIte, Nat.reduceEqDiff, Nat.reduceAdd, Nat.reduceMul, Nat.add_zero, Nat.zero_add, reduceCtorEq, l_0, l_1, l_2, l_3, l_4, l_5, l_6, l_7, l_8, l_9, l_10, l_15, l_24, l_32, l_39, l_40, l_47, l_48, l_50, l_57, l_60, l_63, l_80, l_95, l_99, l_100, l_120, l_126, l_128, l_1000, l_9999, l_10000, L_0, L_1, L_2, L_3, L_4, L_5, L_7, L_9, L_15, L_40, L_50, L_99, L_127, L_9999, c_ltT, c_ltF, c_leT, c_leF, c_eqT, c_eqF, n_leF, n_ltF, c_gltT, c_gltF, c_ggtT, c_ggtF, false_or, or_false, or_self, true_or, or_true]
  · refine Bas_fr h (fun q i hq => ?_) (fun q i hq => ?_)
    · rw [c3 q i (by unfold hdn at hq; unfold hdc hdp hdk; omega)]
      exact fk.1 q i (by unfold hdn at hq; unfold fRck; omega)
    · rw [r3.1 q i (by unfold fAsk; omega)]
      exact fh.1 q i (by unfold fChs; omega)
theorem learntC_h {n j t : Nat} {P : TB} {C R : Mm} (ht : t < 2 ^ 30) (hj : j < 6) (hP : Bd t P) (hC : RepC 6 P C) (hR : RepR j P R) : ∀ d i x fu fv, P.1 - i = d → i ≤ P.1 → d < fu → d < fv → x ≤ i → ∃ r, r ≤ P.1 ∧ fX5_learntCount_h4 n 6 fu (nI x) (nI i) C = some (nI r) ∧ fX11_learntOf_h4 n fv (nI j) (nI x) (nI i) R = some (nI r) := by
  have hp := hP.1
  have h1 := hC.1
  have h2 := hR.1
  have l_360 : (360 : Int32) = nI 360 := by decide
  intro d
  induction d with
  | zero =>
    intro i x fu fv hd hi hf hg hx
    obtain ⟨fu, rfl⟩ : ∃ f, fu = f + 1 := ⟨fu - 1, by omega⟩
    obtain ⟨fv, rfl⟩ : ∃ f, fv = f + 1 := ⟨fv - 1, by omega⟩
    rw [fX5_learntCount_h4.eq_2, fX11_learntOf_h4.eq_2]
    refine ⟨x, by omega, ?_, ?_⟩
    · simp (disch := omega) only [h1, ↓lt_d, eq_self, lN_add, i_l, wTn, wFa, wFb, wCT, wCF, mNe, mNe2, mLt, mLe, bp_s, bn_s, n_clampS, nI_1, nI_add, pk_sub, nI_mul, wrI_at, wrI_2, wrL_at, wrL_1, true_and, false_and, and_true, and_false, and_self, ↓reduceIte, Nat.reduceEqDiff, Nat.reduceAdd, Nat.reduceMul, Nat.add_zero, Nat.zero_add, reduceCtorEq, l_0, l_1, l_2, l_3, l_4, l_5, l_6, l_7, l_8, l_9, l_10, l_15, l_24, l_32, l_39, l_40, l_47, l_48, l_50, l_57, l_60, l_63, l_80, l_95, l_99, l_100, l_120, l_126, l_128, l_1000, l_9999, l_10000, L_0, L_1, L_2, L_3, L_4, L_5, L_7, L_9, L_15, L_40, L_50, L_99, L_127, L_9999, c_ltT, c_ltF, c_leT, c_leF, c_eqT, c_eqF, n_leF, n_ltF, c_gltT, c_gltF, c_ggtT, c_ggtF, false_or, or_false, or_self, true_or, or_true]
    · simp (disch := omega) only [h2, ↓lt_d, eq_self, lN_add, i_l, wTn, wFa, wFb, wCT, wCF, mNe, mNe2, mLt, mLe, bp_s, bn_s, n_clampS, nI_1, nI_add, pk_sub, nI_mul, wrI_at, wrI_2, wrL_at, wrL_1, true_and, false_and, and_true, and_false, and_self, ↓reduceIte, Nat.reduceEqDiff, Nat.reduceAdd, Nat.reduceMul, Nat.add_zero, Nat.zero_add, reduceCtorEq, l_0, l_1, l_2, l_3, l_4, l_5, l_6, l_7, l_8, l_9, l_10, l_15, l_24, l_32, l_39, l_40, l_47, l_48, l_50, l_57, l_60, l_63, l_80, l_95, l_99, l_100, l_120, l_126, l_128, l_1000, l_9999, l_10000, L_0, L_1, L_2, L_3, L_4, L_5, L_7, L_9, L_15, L_40, L_50, L_99, L_127, L_9999, c_ltT, c_ltF, c_leT, c_leF, c_eqT, c_eqF, n_leF, n_ltF, c_gltT, c_gltF, c_ggtT, c_ggtF, false_or, or_false, or_self, true_or, or_true]
  | succ d ih =>
    intro i x fu fv hd hi hf hg hx
    obtain ⟨fu, rfl⟩ : ∃ f, fu = f + 1 := ⟨fu - 1, by omega⟩
    obtain ⟨fv, rfl⟩ : ∃ f, fv = f + 1 := ⟨fv - 1, by omega⟩
    rw [fX5_learntCount_h4.eq_2, fX11_learntOf_h4.eq_2]
    unfold fX5_learntCount_b25 fX11_learntOf_b35
    obtain ⟨-, -, -, -, -, -, -, -, c1⟩ := hC.2 i (by omega)
    obtain ⟨-, -, c2⟩ := hR.2 i (by omega)
    have hct := hP.2 i (by omega)
    by_cases hc3 : P.2.2 i < 3
    · obtain ⟨r, hr, r1, r2⟩ := ih (i + 1) x fu fv (by omega) (by omega) (by omega) (by omega) (by omega)
      refine ⟨r, hr, ?_, ?_⟩
      · simp (disch := omega) only [h1, c1, ↓lt_d, eq_self, lN_add, i_l, wTn, wFa, wFb, wCT, wCF, mNe, mNe2, mLt, mLe, bp_s, bn_s, n_clampS, nI_1, nI_add, pk_sub, nI_mul, wrI_at, wrI_2, wrL_at, wrL_1, true_and, false_and, and_true, and_false, and_self, ↓reduceIte, Nat.reduceEqDiff, Nat.reduceAdd, Nat.reduceMul, Nat.add_zero, Nat.zero_add, reduceCtorEq, l_0, l_1, l_2, l_3, l_4, l_5, l_6, l_7, l_8, l_9, l_10, l_15, l_24, l_32, l_39, l_40, l_47, l_48, l_50, l_57, l_60, l_63, l_80, l_95, l_99, l_100, l_120, l_126, l_128, l_1000, l_9999, l_10000, L_0, L_1, L_2, L_3, L_4, L_5, L_7, L_9, L_15, L_40, L_50, L_99, L_127, L_9999, c_ltT, c_ltF, c_leT, c_leF, c_eqT, c_eqF, n_leF, n_ltF, c_gltT, c_gltF, c_ggtT, c_ggtF, false_or, or_false, or_self, true_or, or_true]
        exact r1
      · simp (disch := omega) only [h2, c2, ↓lt_d, eq_self, lN_add, i_l, wTn, wFa, wFb, wCT, wCF, mNe, mNe2, mLt, mLe, bp_s, bn_s, n_clampS, nI_1, nI_add, pk_sub, nI_mul, wrI_at, wrI_2, wrL_at, wrL_1, true_and, false_and, and_true, and_false, and_self, ↓reduceIte, Nat.reduceEqDiff, Nat.reduceAdd, Nat.reduceMul, Nat.add_zero, Nat.zero_add, reduceCtorEq, l_0, l_1, l_2, l_3, l_4, l_5, l_6, l_7, l_8, l_9, l_10, l_15, l_24, l_32, l_39, l_40, l_47, l_48, l_50, l_57, l_60, l_63, l_80, l_95, l_99, l_100, l_120, l_126, l_128, l_1000, l_9999, l_10000, L_0, L_1, L_2, L_3, L_4, L_5, L_7, L_9, L_15, L_40, L_50, L_99, L_127, L_9999, c_ltT, c_ltF, c_leT, c_leF, c_eqT, c_eqF, n_leF, n_ltF, c_gltT, c_gltF, c_ggtT, c_ggtF, false_or, or_false, or_self, true_or, or_true]
        exact r2
    · obtain ⟨r, hr, r1, r2⟩ := ih (i + 1) (x + 1) fu fv (by omega) (by omega) (by omega) (by omega) (by omega)
      refine ⟨r, hr, ?_, ?_⟩
      · simp (disch := omega) only [h1, c1, ↓lt_d, eq_self, lN_add, i_l, wTn, wFa, wFb, wCT, wCF, mNe, mNe2, mLt, mLe, bp_s, bn_s, n_clampS, nI_1, nI_add, pk_sub, nI_mul, wrI_at, wrI_2, wrL_at, wrL_1, true_and, false_and, and_true, and_false, and_self, ↓reduceIte, Nat.reduceEqDiff, Nat.reduceAdd, Nat.reduceMul, Nat.add_zero, Nat.zero_add, reduceCtorEq, l_0, l_1, l_2, l_3, l_4, l_5, l_6, l_7, l_8, l_9, l_10, l_15, l_24, l_32, l_39, l_40, l_47, l_48, l_50, l_57, l_60, l_63, l_80, l_95, l_99, l_100, l_120, l_126, l_128, l_1000, l_9999, l_10000, L_0, L_1, L_2, L_3, L_4, L_5, L_7, L_9, L_15, L_40, L_50, L_99, L_127, L_9999, c_ltT, c_ltF, c_leT, c_leF, c_eqT, c_eqF, n_leF, n_ltF, c_gltT, c_gltF, c_ggtT, c_ggtF, false_or, or_false, or_self, true_or, or_true]
        exact r1
      · simp (disch := omega) only [h2, c2, ↓lt_d, eq_self, lN_add, i_l, wTn, wFa, wFb, wCT, wCF, mNe, mNe2, mLt, mLe, bp_s, bn_s, n_clampS, nI_1, nI_add, pk_sub, nI_mul, wrI_at, wrI_2, wrL_at, wrL_1, true_and, false_and, and_true, and_false, and_self, ↓reduceIte, Nat.reduceEqDiff, Nat.reduceAdd, Nat.reduceMul, Nat.add_zero, Nat.zero_add, reduceCtorEq, l_0, l_1, l_2, l_3, l_4, l_5, l_6, l_7, l_8, l_9, l_10, l_15, l_24, l_32, l_39, l_40, l_47, l_48, l_50, l_57, l_60, l_63, l_80, l_95, l_99, l_100, l_120, l_126, l_128, l_1000, l_9999, l_10000, L_0, L_1, L_2, L_3, L_4, L_5, L_7, L_9, L_15, L_40, L_50, L_99, L_127, L_9999, c_ltT, c_ltF, c_leT, c_leF, c_eqT, c_eqF, n_leF, n_ltF, c_gltT, c_gltF, c_ggtT, c_ggtF, false_or, or_false, or_self, true_or, or_true]
        exact r2
/-- the list told: all small on both sides, or not -/
theorem list_h {n m : Nat} {C R : Mm} (hm : m ≤ 8) (h1 : C.1 0 8 = nI m) (h2 : R.1 72 37 = nI m) (h3 : ∀ i, i < m → ∃ v a b, isAB v a b ∧ C.1 47 i = nI v ∧ R.1 94 i = nI v) : ∀ d i fu fv, m - i = d → i ≤ m → d < fu → d < fv → (fX10_allToldCanBeTaught_h2 n fu (nI i) C = some (nI 1) ∧ fX11_isListBad_h2 n fv (nI i) R = some (nI 0) ∧ ∀ k, i ≤ k → k < m → ∃ v a b, isAB v a b ∧ a ≤ 99 ∧ b ≤ 99 ∧ C.1 47 k = nI v ∧ R.1 94 k = nI v) ∨ (fX10_allToldCanBeTaught_h2 n fu (nI i) C = some (nI 0) ∧ fX11_isListBad_h2 n fv (nI i) R = some (nI 1)) := by
  intro d
  induction d with
  | zero =>
    intro i fu fv hd hi hf hg
    obtain ⟨fu, rfl⟩ : ∃ f, fu = f + 1 := ⟨fu - 1, by omega⟩
    obtain ⟨fv, rfl⟩ : ∃ f, fv = f + 1 := ⟨fv - 1, by omega⟩
    rw [fX10_allToldCanBeTaught_h2.eq_2, fX11_isListBad_h2.eq_2]
    refine Or.inl ⟨?_, ?_, fun k h4 h5 => by omega⟩
    · simp (disch := omega) only [h1, ↓lt_d, eq_self, lN_add, i_l, wTn, wFa, wFb, wCT, wCF, mNe, mNe2, mLt, mLe, bp_s, bn_s, n_clampS, nI_1, nI_add, pk_sub, nI_mul, wrI_at, wrI_2, wrL_at, wrL_1, true_and, false_and, and_true, and_false, and_self, ↓reduceIte, Nat.reduceEqDiff, Nat.reduceAdd, Nat.reduceMul, Nat.add_zero, Nat.zero_add, reduceCtorEq, l_0, l_1, l_2, l_3, l_4, l_5, l_6, l_7, l_8, l_9, l_10, l_15, l_24, l_32, l_39, l_40, l_47, l_48, l_50, l_57, l_60, l_63, l_80, l_95, l_99, l_100, l_120, l_126, l_128, l_1000, l_9999, l_10000, L_0, L_1, L_2, L_3, L_4, L_5, L_7, L_9, L_15, L_40, L_50, L_99, L_127, L_9999, c_ltT, c_ltF, c_leT, c_leF, c_eqT, c_eqF, n_leF, n_ltF, c_gltT, c_gltF, c_ggtT, c_ggtF, false_or, or_false, or_self, true_or, or_true]
    · simp (disch := omega) only [h2, ↓lt_d, eq_self, lN_add, i_l, wTn, wFa, wFb, wCT, wCF, mNe, mNe2, mLt, mLe, bp_s, bn_s, n_clampS, nI_1, nI_add, pk_sub, nI_mul, wrI_at, wrI_2, wrL_at, wrL_1, true_and, false_and, and_true, and_false, and_self, ↓reduceIte, Nat.reduceEqDiff, Nat.reduceAdd, Nat.reduceMul, Nat.add_zero, Nat.zero_add, reduceCtorEq, l_0, l_1, l_2, l_3, l_4, l_5, l_6, l_7, l_8, l_9, l_10, l_15, l_24, l_32, l_39, l_40, l_47, l_48, l_50, l_57, l_60, l_63, l_80, l_95, l_99, l_100, l_120, l_126, l_128, l_1000, l_9999, l_10000, L_0, L_1, L_2, L_3, L_4, L_5, L_7, L_9, L_15, L_40, L_50, L_99, L_127, L_9999, c_ltT, c_ltF, c_leT, c_leF, c_eqT, c_eqF, n_leF, n_ltF, c_gltT, c_gltF, c_ggtT, c_ggtF, false_or, or_false, or_self, true_or, or_true]
  | succ d ih =>
    intro i fu fv hd hi hf hg
    obtain ⟨fu, rfl⟩ : ∃ f, fu = f + 1 := ⟨fu - 1, by omega⟩
    obtain ⟨fv, rfl⟩ : ∃ f, fv = f + 1 := ⟨fv - 1, by omega⟩
    rw [fX10_allToldCanBeTaught_h2.eq_2, fX11_isListBad_h2.eq_2]
    obtain ⟨v, a, b, hv, c1, c2⟩ := h3 i (by omega)
    rcases small_l hv with ⟨s1, s2, s3, s4⟩ | ⟨s1, s3, s4⟩
    · rcases ih (i + 1) fu fv (by omega) (by omega) (by omega) (by omega) with ⟨e1, e2, e3⟩ | ⟨e1, e2⟩
      · refine Or.inl ⟨?_, ?_, fun k h4 h5 => ?_⟩
        · simp (disch := omega) only [h1, c1, s3, ↓lt_d, eq_self, lN_add, i_l, wTn, wFa, wFb, wCT, wCF, mNe, mNe2, mLt, mLe, bp_s, bn_s, n_clampS, nI_1, nI_add, pk_sub, nI_mul, wrI_at, wrI_2, wrL_at, wrL_1, true_and, false_and, and_true, and_false, and_self, ↓reduceIte, Nat.reduceEqDiff, Nat.reduceAdd, Nat.reduceMul, Nat.add_zero, Nat.zero_add, reduceCtorEq, l_0, l_1, l_2, l_3, l_4, l_5, l_6, l_7, l_8, l_9, l_10, l_15, l_24, l_32, l_39, l_40, l_47, l_48, l_50, l_57, l_60, l_63, l_80, l_95, l_99, l_100, l_120, l_126, l_128, l_1000, l_9999, l_10000, L_0, L_1, L_2, L_3, L_4, L_5, L_7, L_9, L_15, L_40, L_50, L_99, L_127, L_9999, c_ltT, c_ltF, c_leT, c_leF, c_eqT, c_eqF, n_leF, n_ltF, c_gltT, c_gltF, c_ggtT, c_ggtF, false_or, or_false, or_self, true_or, or_true]
          exact e1
        · simp (disch := omega) only [h2, c2, s4, ↓lt_d, eq_self, lN_add, i_l, wTn, wFa, wFb, wCT, wCF, mNe, mNe2, mLt, mLe, bp_s, bn_s, n_clampS, nI_1, nI_add, pk_sub, nI_mul, wrI_at, wrI_2, wrL_at, wrL_1, true_and, false_and, and_true, and_false, and_self, ↓reduceIte, Nat.reduceEqDiff, Nat.reduceAdd, Nat.reduceMul, Nat.add_zero, Nat.zero_add, reduceCtorEq, l_0, l_1, l_2, l_3, l_4, l_5, l_6, l_7, l_8, l_9, l_10, l_15, l_24, l_32, l_39, l_40, l_47, l_48, l_50, l_57, l_60, l_63, l_80, l_95, l_99, l_100, l_120, l_126, l_128, l_1000, l_9999, l_10000, L_0, L_1, L_2, L_3, L_4, L_5, L_7, L_9, L_15, L_40, L_50, L_99, L_127, L_9999, c_ltT, c_ltF, c_leT, c_leF, c_eqT, c_eqF, n_leF, n_ltF, c_gltT, c_gltF, c_ggtT, c_ggtF, false_or, or_false, or_self, true_or, or_true]
          exact e2
        · by_cases hk : k = i
          · subst hk
            exact ⟨v, a, b, hv, s1, s2, c1, c2⟩
          · exact e3 k (by omega) h5
      · refine Or.inr ⟨?_, ?_⟩
        · simp (disch := omega) only [h1, c1, s3, ↓lt_d, eq_self, lN_add, i_l, wTn, wFa, wFb, wCT, wCF, mNe, mNe2, mLt, mLe, bp_s, bn_s, n_clampS, nI_1, nI_add, pk_sub, nI_mul, wrI_at, wrI_2, wrL_at, wrL_1, true_and, false_and, and_true, and_false, and_self, ↓reduceIte, Nat.reduceEqDiff, Nat.reduceAdd, Nat.reduceMul, Nat.add_zero, Nat.zero_add, reduceCtorEq, l_0, l_1, l_2, l_3, l_4, l_5, l_6, l_7, l_8, l_9, l_10, l_15, l_24, l_32, l_39, l_40, l_47, l_48, l_50, l_57, l_60, l_63, l_80, l_95, l_99, l_100, l_120, l_126, l_128, l_1000, l_9999, l_10000, L_0, L_1, L_2, L_3, L_4, L_5, L_7, L_9, L_15, L_40, L_50, L_99, L_127, L_9999, c_ltT, c_ltF, c_leT, c_leF, c_eqT, c_eqF, n_leF, n_ltF, c_gltT, c_gltF, c_ggtT, c_ggtF, false_or, or_false, or_self, true_or, or_true]
          exact e1
        · simp (disch := omega) only [h2, c2, s4, ↓lt_d, eq_self, lN_add, i_l, wTn, wFa, wFb, wCT, wCF, mNe, mNe2, mLt, mLe, bp_s, bn_s, n_clampS, nI_1, nI_add, pk_sub, nI_mul, wrI_at, wrI_2, wrL_at, wrL_1, true_and, false_and, and_true, and_false, and_self, ↓reduceIte, Nat.reduceEqDiff, Nat.reduceAdd, Nat.reduceMul, Nat.add_zero, Nat.zero_add, reduceCtorEq, l_0, l_1, l_2, l_3, l_4, l_5, l_6, l_7, l_8, l_9, l_10, l_15, l_24, l_32, l_39, l_40, l_47, l_48, l_50, l_57, l_60, l_63, l_80, l_95, l_99, l_100, l_120, l_126, l_128, l_1000, l_9999, l_10000, L_0, L_1, L_2, L_3, L_4, L_5, L_7, L_9, L_15, L_40, L_50, L_99, L_127, L_9999, c_ltT, c_ltF, c_leT, c_leF, c_eqT, c_eqF, n_leF, n_ltF, c_gltT, c_gltF, c_ggtT, c_ggtF, false_or, or_false, or_self, true_or, or_true]
          exact e2
    · refine Or.inr ⟨?_, ?_⟩
      · simp (disch := omega) only [h1, c1, s3, ↓lt_d, eq_self, lN_add, i_l, wTn, wFa, wFb, wCT, wCF, mNe, mNe2, mLt, mLe, bp_s, bn_s, n_clampS, nI_1, nI_add, pk_sub, nI_mul, wrI_at, wrI_2, wrL_at, wrL_1, true_and, false_and, and_true, and_false, and_self, ↓reduceIte, Nat.reduceEqDiff, Nat.reduceAdd, Nat.reduceMul, Nat.add_zero, Nat.zero_add, reduceCtorEq, l_0, l_1, l_2, l_3, l_4, l_5, l_6, l_7, l_8, l_9, l_10, l_15, l_24, l_32, l_39, l_40, l_47, l_48, l_50, l_57, l_60, l_63, l_80, l_95, l_99, l_100, l_120, l_126, l_128, l_1000, l_9999, l_10000, L_0, L_1, L_2, L_3, L_4, L_5, L_7, L_9, L_15, L_40, L_50, L_99, L_127, L_9999, c_ltT, c_ltF, c_leT, c_leF, c_eqT, c_eqF, n_leF, n_ltF, c_gltT, c_gltF, c_ggtT, c_ggtF, false_or, or_false, or_self, true_or, or_true]
      · simp (disch := omega) only [h2, c2, s4, ↓lt_d, eq_self, lN_add, i_l, wTn, wFa, wFb, wCT, wCF, mNe, mNe2, mLt, mLe, bp_s, bn_s, n_clampS, nI_1, nI_add, pk_sub, nI_mul, wrI_at, wrI_2, wrL_at, wrL_1, true_and, false_and, and_true, and_false, and_self, ↓reduceIte, Nat.reduceEqDiff, Nat.reduceAdd, Nat.reduceMul, Nat.add_zero, Nat.zero_add, reduceCtorEq, l_0, l_1, l_2, l_3, l_4, l_5, l_6, l_7, l_8, l_9, l_10, l_15, l_24, l_32, l_39, l_40, l_47, l_48, l_50, l_57, l_60, l_63, l_80, l_95, l_99, l_100, l_120, l_126, l_128, l_1000, l_9999, l_10000, L_0, L_1, L_2, L_3, L_4, L_5, L_7, L_9, L_15, L_40, L_50, L_99, L_127, L_9999, c_ltT, c_ltF, c_leT, c_leF, c_eqT, c_eqF, n_leF, n_ltF, c_gltT, c_gltF, c_ggtT, c_ggtF, false_or, or_false, or_self, true_or, or_true]
theorem taught_h {n t j tb cp m nn wh : Nat} (hn : 1000 ≤ n) (ht : t ≤ 100000) (hm : m ≤ 8) (hm1 : 1 ≤ m) (hnn : nn ≤ 50) (hwh : wh ≤ 1) {T : Nat → Nat} : ∀ d i fu fv s P C R, nn - i = d → i ≤ nn → d < fu → d < fv → Bas j tb cp T C R → Bd (t + i) P → RepC 6 P C → RepR j P R → C.1 0 8 = nI m → R.1 72 37 = nI m → (∀ k, k < m → ∃ v a b, isAB v a b ∧ a ≤ 99 ∧ b ≤ 99 ∧ C.1 47 k = nI v ∧ R.1 94 k = nI v) → ∃ r C' R1 R' P1, fX10_taught_h66 n fu (nI nn) (nI wh) s (nI i) C = some (r, C') ∧ fX11_taught_h60 n fv (nI j) (nI nn) (nI wh) s (nI i) R = some (r, R') ∧ ag (fTau j) R R1 ∧ RepR j P1 R1 ∧ Ext P P1 ∧ fX11_putsBack n (nI j) R1 = some R' := by
  intro d
  induction d with
  | zero =>
    intro i fu fv s P C R hd hi hf hg h hP hC hR h8 h37 hl
    obtain ⟨fu, rfl⟩ : ∃ f, fu = f + 1 := ⟨fu - 1, by omega⟩
    obtain ⟨fv, rfl⟩ : ∃ f, fv = f + 1 := ⟨fv - 1, by omega⟩
    have hj := h.1.2.1
    obtain ⟨R', p1, -⟩ := puts_l (n := n) hn hj R
    have hp := hP.1
    obtain ⟨r, -, l1, l2⟩ := learntC_h (n := n) (show t + i < 2 ^ 30 by omega) hj hP hC hR P.1 0 0 n n rfl (by omega) (by omega) (by omega) (Nat.le_refl _)
    rw [fX10_taught_h66.eq_2, fX11_taught_h60.eq_2]
    rcases (show wh = 0 ∨ wh = 1 by omega) with rfl | rfl
    · refine ⟨s, C, R, R', P, ?_, ?_, ag_rf, hR, Ext_rf hp, p1⟩
      · simp (disch := omega) only [↓lt_d, eq_self, lN_add, i_l, wTn, wFa, wFb, wCT, wCF, mNe, mNe2, mLt, mLe, bp_s, bn_s, n_clampS, nI_1, nI_add, pk_sub, nI_mul, wrI_at, wrI_2, wrL_at, wrL_1, true_and, false_and, and_true, and_false, and_self, ↓reduceIte, Nat.reduceEqDiff, Nat.reduceAdd, Nat.reduceMul, Nat.add_zero, Nat.zero_add, reduceCtorEq, l_0, l_1, l_2, l_3, l_4, l_5, l_6, l_7, l_8, l_9, l_10, l_15, l_24, l_32, l_39, l_40, l_47, l_48, l_50, l_57, l_60, l_63, l_80, l_95, l_99, l_100, l_120, l_126, l_128, l_1000, l_9999, l_10000, L_0, L_1, L_2, L_3, L_4, L_5, L_7, L_9, L_15, L_40, L_50, L_99, L_127, L_9999, c_ltT, c_ltF, c_leT, c_leF, c_eqT, c_eqF, n_leF, n_ltF, c_gltT, c_gltF, c_ggtT, c_ggtF, false_or, or_false, or_self, true_or, or_true]
      · unfold fX11_learntOf
        simp (disch := omega) only [l2, p1, ↓lt_d, eq_self, lN_add, i_l, wTn, wFa, wFb, wCT, wCF, mNe, mNe2, mLt, mLe, bp_s, bn_s, n_clampS, nI_1, nI_add, pk_sub, nI_mul, wrI_at, wrI_2, wrL_at, wrL_1, true_and, false_and, and_true, and_false, and_self, ↓reduceIte, Nat.reduceEqDiff, Nat.reduceAdd, Nat.reduceMul, Nat.add_zero, Nat.zero_add, reduceCtorEq, l_0, l_1, l_2, l_3, l_4, l_5, l_6, l_7, l_8, l_9, l_10, l_15, l_24, l_32, l_39, l_40, l_47, l_48, l_50, l_57, l_60, l_63, l_80, l_95, l_99, l_100, l_120, l_126, l_128, l_1000, l_9999, l_10000, L_0, L_1, L_2, L_3, L_4, L_5, L_7, L_9, L_15, L_40, L_50, L_99, L_127, L_9999, c_ltT, c_ltF, c_leT, c_leF, c_eqT, c_eqF, n_leF, n_ltF, c_gltT, c_gltF, c_ggtT, c_ggtF, false_or, or_false, or_self, true_or, or_true]
    · refine ⟨nI r, C, R, R', P, ?_, ?_, ag_rf, hR, Ext_rf hp, p1⟩
      · unfold fX5_learntCount
        simp (disch := omega) only [l1, ↓lt_d, eq_self, lN_add, i_l, wTn, wFa, wFb, wCT, wCF, mNe, mNe2, mLt, mLe, bp_s, bn_s, n_clampS, nI_1, nI_add, pk_sub, nI_mul, wrI_at, wrI_2, wrL_at, wrL_1, true_and, false_and, and_true, and_false, and_self, ↓reduceIte, Nat.reduceEqDiff, Nat.reduceAdd, Nat.reduceMul, Nat.add_zero, Nat.zero_add, reduceCtorEq, l_0, l_1, l_2, l_3, l_4, l_5, l_6, l_7, l_8, l_9, l_10, l_15, l_24, l_32, l_39, l_40, l_47, l_48, l_50, l_57, l_60, l_63, l_80, l_95, l_99, l_100, l_120, l_126, l_128, l_1000, l_9999, l_10000, L_0, L_1, L_2, L_3, L_4, L_5, L_7, L_9, L_15, L_40, L_50, L_99, L_127, L_9999, c_ltT, c_ltF, c_leT, c_leF, c_eqT, c_eqF, n_leF, n_ltF, c_gltT, c_gltF, c_ggtT, c_ggtF, false_or, or_false, or_self, true_or, or_true]
      · unfold fX11_learntOf
        simp (disch := omega) only [l2, p1, ↓lt_d, eq_self, lN_add, i_l, wTn, wFa, wFb, wCT, wCF, mNe, mNe2, mLt, mLe, bp_s, bn_s, n_clampS, nI_1, nI_add, pk_sub, nI_mul, wrI_at, wrI_2, wrL_at, wrL_1, true_and, false_and, and_true, and_false, and_self, ↓reduceIte, Nat.reduceEqDiff, Nat.reduceAdd, Nat.reduceMul, Nat.add_zero, Nat.zero_add, reduceCtorEq, l_0, l_1, l_2, l_3, l_4, l_5, l_6, l_7, l_8, l_9, l_10, l_15, l_24, l_32, l_39, l_40, l_47, l_48, l_50, l_57, l_60, l_63, l_80, l_95, l_99, l_100, l_120, l_126, l_128, l_1000, l_9999, l_10000, L_0, L_1, L_2, L_3, L_4, L_5, L_7, L_9, L_15, L_40, L_50, L_99, L_127, L_9999, c_ltT, c_ltF, c_leT, c_leF, c_eqT, c_eqF, n_leF, n_ltF, c_gltT, c_gltF, c_ggtT, c_ggtF, false_or, or_false, or_self, true_or, or_true]
  | succ d ih =>
    intro i fu fv s P C R hd hi hf hg h hP hC hR h8 h37 hl
    obtain ⟨fu, rfl⟩ : ∃ f, fu = f + 1 := ⟨fu - 1, by omega⟩
    obtain ⟨fv, rfl⟩ : ∃ f, fv = f + 1 := ⟨fv - 1, by omega⟩
    have hmod : i % m < m := Nat.mod_lt _ (by omega)
    have hrm : irm (nI i) (nI m) = nI (i % m) := rm (by omega) (by omega) (by omega)
    obtain ⟨v, a, b, hv, ha, hb, c1, c2⟩ := hl (i % m) hmod
    obtain ⟨S, w, C1, C2, R2, s1, t1, s2, t3, t4, hB2, hC2, hR2, fk, ft⟩ := asked_l hn (show t + i < 2 ^ 30 by omega) h hv ha hb hP hC hR
    have fh : ∀ q k, q = 0 ∨ q = 47 → C2.1 q k = C.1 q k := by
      intro q k hq
      obtain ⟨C9, y1, -, y3⟩ := hearC (n := n) hn (show t + i < 2 ^ 30 by omega) hv ha hb hP (RepC_fr hC (fun q i hq => fk.1 q i (by unfold hdc hdp hdk at hq; unfold fRck; omega)))
      have hCC : C9 = C2 := congrArg Prod.snd (Option.some.inj (y1.symm.trans t3))
      subst hCC
      rw [y3 q k (by unfold hdc hdp hdk; omega)]
      exact fk.1 q k (by unfold fRck; omega)
    have fr : ∀ q k, (q = 72 ∧ k = 37) ∨ q = 94 → R2.1 q k = R.1 q k := fun q k hq => ft.1 q k (by unfold fTau fChs fAsk; omega)
    obtain ⟨r, C', R1, R', P1, u1, u2, u3, u4, u5, u6⟩ := ih (i + 1) fu fv (s + nI S) (hr P (asP a b)).2 C2 R2 (by omega) (by omega) (by omega) (by omega) hB2 (Bd_hr hP) hC2 hR2 (by rw [fh 0 8 (by omega)]; exact h8) (by rw [fr 72 37 (by omega)]; exact h37) (fun k hk => by
      obtain ⟨v', a', b', x1, x2, x3, x4, x5⟩ := hl k hk
      exact ⟨v', a', b', x1, x2, x3, by rw [fh 47 k (by omega)]; exact x4, by rw [fr 94 k (by omega)]; exact x5⟩)
    have hE : Ext P P1 := by
      obtain ⟨q1, q2, q3⟩ := Ext_hr (asP a b) (Ext_rf (P := P) hP.1)
      obtain ⟨q4, q5, q6⟩ := u5
      exact ⟨by omega, q5, fun k hk => by
        have y1 := q3 k hk
        have y2 := q6 k (by omega)
        exact ⟨y2.1.trans y1.1, by omega⟩⟩
    refine ⟨r, C', R1, R', P1, ?_, ?_, ag_tr ft u3, u4, hE, u6⟩
    · rw [fX10_taught_h66.eq_2]
      simp (disch := omega) only [h8, hrm, c1, t1, s2, t3, ↓lt_d, eq_self, lN_add, i_l, wTn, wFa, wFb, wCT, wCF, mNe, mNe2, mLt, mLe, bp_s, bn_s, n_clampS, nI_1, nI_add, pk_sub, nI_mul, wrI_at, wrI_2, wrL_at, wrL_1, true_and, false_and, and_true, and_false, and_self, ↓reduceIte, Nat.reduceEqDiff, Nat.reduceAdd, Nat.reduceMul, Nat.add_zero, Nat.zero_add, reduceCtorEq, l_0, l_1, l_2, l_3, l_4, l_5, l_6, l_7, l_8, l_9, l_10, l_15, l_24, l_32, l_39, l_40, l_47, l_48, l_50, l_57, l_60, l_63, l_80, l_95, l_99, l_100, l_120, l_126, l_128, l_1000, l_9999, l_10000, L_0, L_1, L_2, L_3, L_4, L_5, L_7, L_9, L_15, L_40, L_50, L_99, L_127, L_9999, c_ltT, c_ltF, c_leT, c_leF, c_eqT, c_eqF, n_leF, n_ltF, c_gltT, c_gltF, c_ggtT, c_ggtF, false_or, or_false, or_self, true_or, or_true]
      exact u1
    · rw [fX11_taught_h60.eq_2]
      simp (disch := omega) only [h37, hrm, c2, t4, ↓lt_d, eq_self, lN_add, i_l, wTn, wFa, wFb, wCT, wCF, mNe, mNe2, mLt, mLe, bp_s, bn_s, n_clampS, nI_1, nI_add, pk_sub, nI_mul, wrI_at, wrI_2, wrL_at, wrL_1, true_and, false_and, and_true, and_false, and_self, ↓reduceIte, Nat.reduceEqDiff, Nat.reduceAdd, Nat.reduceMul, Nat.add_zero, Nat.zero_add, reduceCtorEq, l_0, l_1, l_2, l_3, l_4, l_5, l_6, l_7, l_8, l_9, l_10, l_15, l_24, l_32, l_39, l_40, l_47, l_48, l_50, l_57, l_60, l_63, l_80, l_95, l_99, l_100, l_120, l_126, l_128, l_1000, l_9999, l_10000, L_0, L_1, L_2, L_3, L_4, L_5, L_7, L_9, L_15, L_40, L_50, L_99, L_127, L_9999, c_ltT, c_ltF, c_leT, c_leF, c_eqT, c_eqF, n_leF, n_ltF, c_gltT, c_gltF, c_ggtT, c_ggtF, false_or, or_false, or_self, true_or, or_true]
      exact u2
/-- a call behind which all stands as it did, but what lies behind the pairs counted -/
theorem Inv_rs {t : Nat} {C R C' R' : Mm} (h : Inv t C R) (hc : ag fScr C C') (hr : ∀ q i, lastR q i → q ≠ 82 → R'.1 q i = R.1 q i) (h82 : ∀ j pc, j < 6 → pc ≤ 60 → R.1 81 j = nI pc → ∀ i, i < pc → R'.1 82 (60 * j + i) = R.1 82 (60 * j + i)) (hl : ∀ i, R'.2 101 i = R.2 101 i) : Inv t C' R' := by
  obtain ⟨k, nb, h1, h2, h3, h4, h5, h6, h7, h8, h9, h10⟩ := h
  have hk := h2.1
  have zc : ∀ q i, lastC q i → C'.1 q i = C.1 q i := fun q i hq => hc.1 q i (fun z => z.1 hq)
  refine ⟨k, nb, I_tape_fr h1 ?_ ?_, I_head_fr h2 ?_ ?_, ⟨fun j hj => ?_, fun j hj hj6 => ?_⟩, I_chg_fr h4 ?_ ?_, I_seen_fr h5 ?_ ?_, I_told_fr h6 ?_ ?_, I_body_fr h7 ?_ ?_, I_ran_fr h8 ?_ ?_, I_shelf_fl h9 ?_ (fun q i hq => hc.2 q i (fun z => by unfold fScr at z; omega)) ?_ hl, I_cho_fr h10 ?_ ?_⟩
  · exact fun q i z => zc q i (by unfold lastC; omega)
  · exact fun q i z => hr q i (by unfold lastR; omega) (by omega)
  · exact fun q i z => zc q i (by unfold lastC; omega)
  · exact fun q i z => hr q i (by unfold lastR; omega) (by omega)
  · obtain ⟨pc, p1, p2, p3, p4⟩ := h3.1 j hj
    refine ⟨pc, p1, by rw [zc _ _ (by unfold lastC hdc; omega)]; exact p2, by rw [hr 81 j (by unfold lastR; omega) (by omega)]; exact p3, fun i hi => ?_⟩
    rw [zc (hdp j) i (by unfold lastC hdp; omega), zc (hdk j) i (by unfold lastC hdk; omega), h82 j pc (by omega) p1 p3 i hi, hr 83 _ (by unfold lastR; omega) (by omega)]
    exact p4 i hi
  · rw [hr 81 j (by unfold lastR; omega) (by omega)]
    exact h3.2 j hj hj6
  all_goals first
    | exact fun q i z => zc q i (by unfold lastC; omega)
    | exact fun q i z => hr q i (by unfold lastR; omega) (by omega)
/-- the table of a head -/
theorem table_of {t j k : Nat} (ht : t < 2 ^ 30) {C R : Mm} (h3 : I_pair k t C R) (hj : j < k) : ∃ P, Bd t P ∧ RepC j P C ∧ RepR j P R := by
  obtain ⟨pc, p1, p2, p3, p4⟩ := h3.1 j hj
  have hi : ∀ i, i < pc → ∃ a b, 1 ≤ a ∧ a ≤ 99 ∧ 1 ≤ b ∧ b ≤ 99 ∧ (R.1 82 (60 * j + i)).toNatClampNeg = asP a b ∧ (R.1 83 (60 * j + i)).toNatClampNeg ≤ t ∧ C.1 (hdp j) i = nI (a * 10000 + b) ∧ C.1 (hdk j) i = nI (R.1 83 (60 * j + i)).toNatClampNeg ∧ R.1 82 (60 * j + i) = nI (R.1 82 (60 * j + i)).toNatClampNeg ∧ R.1 83 (60 * j + i) = nI (R.1 83 (60 * j + i)).toNatClampNeg := by
    intro i hi
    obtain ⟨a, b, c, w1, w2, w3, w4, w5, w6, w7, w8, w9⟩ := p4 i hi
    have hx := asP_le w2 w4
    refine ⟨a, b, w1, w2, w3, w4, ?_⟩
    rw [w8, w9, n_clampS (show asP a b < 2 ^ 31 by omega), n_clampS (show c < 2 ^ 31 by omega)]
    exact ⟨rfl, w5, w6, w7, rfl, rfl⟩
  refine ⟨(pc, fun i => (R.1 82 (60 * j + i)).toNatClampNeg, fun i => (R.1 83 (60 * j + i)).toNatClampNeg), ⟨p1, fun i h => ?_⟩, ⟨p2, fun i h => ?_⟩, ⟨p3, fun i h => ?_⟩⟩
  · obtain ⟨a, b, w1, w2, w3, w4, w5, w6, w7, w8, w9, w10⟩ := hi i h
    exact w6
  · obtain ⟨a, b, w1, w2, w3, w4, w5, w6, w7, w8, w9, w10⟩ := hi i h
    exact ⟨a, b, w1, w2, w3, w4, w5, w7, w8⟩
  · obtain ⟨a, b, w1, w2, w3, w4, w5, w6, w7, w8, w9, w10⟩ := hi i h
    have := asP_le w2 w4
    refine ⟨?_, w9, w10⟩
    show (R.1 82 (60 * j + i)).toNatClampNeg ≤ 9999
    omega
/-- the head thought of becomes one of the heads -/
theorem think_l {k nb t j : Nat} (ht : t < 2 ^ 30) {C R : Mm} (h : In k nb t C R) (hj : j < k) : ∃ tb cp T P C1, fX5_become 6 j C = some C1 ∧ Bas j tb cp T C1 R ∧ Bd t P ∧ RepC 6 P C1 ∧ RepR j P R ∧ RepC j P C ∧ (∀ q i, ¬ (28 ≤ q ∧ q < 32) → C1.1 q i = C.1 q i) := by
  obtain ⟨h1, h2, h3, h4, h5, h6, h7, h8, h9, h10⟩ := h
  have hk := h2.1
  obtain ⟨tb, cp, T, f1, f2, f3, f4, f5, f6⟩ := hd_of h2 h3 hj
  obtain ⟨P, P1, P2, P3⟩ := table_of ht h3 hj
  obtain ⟨d1, d2, -, d4, d5, d6, d7, d8⟩ := f1
  obtain ⟨C1, b1, b2, b3, b4, b5, b6, b7⟩ := become_l (j0 := 6) (j1 := j) (by omega) (by omega) (by omega) P2.1 P1.1
  have fr : ∀ q i, ¬ (28 ≤ q ∧ q < 32) → C1.1 q i = C.1 q i := fun q i hq => b7 q i (by unfold hdn hdp hdk hdc; omega)
  refine ⟨tb, cp, T, P, C1, b1, ⟨⟨by omega, d2, fun s hs => ⟨?_, (d4 s hs).2⟩, ?_, d6, d7, d8⟩, ?_, f3, I_cho_fr h10 (fun q i hq => fr q i (by omega)) (fun _ _ _ => rfl), f6, I_told_fr h6 (fun q i hq => fr q i (by omega)) (fun _ _ _ => rfl)⟩, P1, ⟨b6, fun i hi => ?_⟩, P3, P2, fr⟩
  · rw [b3 s (by omega)]
    exact (d4 s hs).1
  · rw [b3 3 (by omega)]
    exact d5
  · rw [b3 4 (by omega)]
    exact f2
  · rw [b4 i hi, b5 i hi]
    exact P2.2 i hi
theorem op_taught {t n : Nat} (hn : 1000 ≤ n) (ht : t ≤ 100000) {C R : Mm} (h : Inv t C R) (p y x : Int32) : ∃ r C' R', fX10_taught n p y x C = some (r, C') ∧ fX11_taught n p y x R = some (r, R') ∧ Inv (t + 1) C' R' := by
  have h0 := h
  obtain ⟨k, nb, h⟩ := h
  have hIn : In k nb t C R := h
  obtain ⟨h1, h2, h3, h4, h5, h6, h7, h8, h9, h10⟩ := h
  have hk := h2.1
  obtain ⟨m, m1, m2, m3, m4⟩ := h6
  have bad : ∀ e, fX10_taught n p y x C = some (e, C) → fX11_taught n p y x R = some (e, R) → ∃ r C' R', fX10_taught n p y x C = some (r, C') ∧ fX11_taught n p y x R = some (r, R') ∧ Inv (t + 1) C' R' := fun e a b => ⟨e, C, R, a, b, Inv_up (Nat.le_succ t) h0⟩
  have l_50 : (50 : Int32) = nI 50 := by decide
  have L_50 : (50 : Int64) = lN 50 := by decide
  rcases head_cases h2 p with ⟨j, hj, rfl, g1, g2⟩ | ⟨g1, g2⟩
  · rcases i_cases y with hy | ⟨w, hw, rfl⟩
    · have hy0 : (y < nI 1) = True := eq_true (Int32.lt_trans hy (by decide))
      have hwi := wFn (x := y) (lo := 1) (z := lN 50) hy (by omega)
      refine bad (-1) ?_ ?_
      · unfold fX10_taught
        simp (disch := omega) only [g1, hy0, ↓lt_d, eq_self, lN_add, i_l, wTn, wFa, wFb, wCT, wCF, mNe, mNe2, mLt, mLe, bp_s, bn_s, n_clampS, nI_1, nI_add, pk_sub, nI_mul, wrI_at, wrI_2, wrL_at, wrL_1, true_and, false_and, and_true, and_false, and_self, ↓reduceIte, Nat.reduceEqDiff, Nat.reduceAdd, Nat.reduceMul, Nat.add_zero, Nat.zero_add, reduceCtorEq, l_0, l_1, l_2, l_3, l_4, l_5, l_6, l_7, l_8, l_9, l_10, l_15, l_24, l_32, l_39, l_40, l_47, l_48, l_50, l_57, l_60, l_63, l_80, l_95, l_99, l_100, l_120, l_126, l_128, l_1000, l_9999, l_10000, L_0, L_1, L_2, L_3, L_4, L_5, L_7, L_9, L_15, L_40, L_50, L_99, L_127, L_9999, c_ltT, c_ltF, c_leT, c_leF, c_eqT, c_eqF, n_leF, n_ltF, c_gltT, c_gltF, c_ggtT, c_ggtF, false_or, or_false, or_self, true_or, or_true]
      · unfold fX11_taught
        simp (disch := omega) only [g2, L_50, hwi, ↓lt_d, eq_self, lN_add, i_l, wTn, wFa, wFb, wCT, wCF, mNe, mNe2, mLt, mLe, bp_s, bn_s, n_clampS, nI_1, nI_add, pk_sub, nI_mul, wrI_at, wrI_2, wrL_at, wrL_1, true_and, false_and, and_true, and_false, and_self, ↓reduceIte, Nat.reduceEqDiff, Nat.reduceAdd, Nat.reduceMul, Nat.add_zero, Nat.zero_add, reduceCtorEq, l_0, l_1, l_2, l_3, l_4, l_5, l_6, l_7, l_8, l_9, l_10, l_15, l_24, l_32, l_39, l_40, l_47, l_48, l_50, l_57, l_60, l_63, l_80, l_95, l_99, l_100, l_120, l_126, l_128, l_1000, l_9999, l_10000, L_0, L_1, L_2, L_3, L_4, L_5, L_7, L_9, L_15, L_40, L_50, L_99, L_127, L_9999, c_ltT, c_ltF, c_leT, c_leF, c_eqT, c_eqF, n_leF, n_ltF, c_gltT, c_gltF, c_ggtT, c_ggtF, false_or, or_false, or_self, true_or, or_true]
    · by_cases hw1 : w < 1
      · refine bad (-1) ?_ ?_
        · unfold fX10_taught
          simp (disch := omega) only [g1, ↓lt_d, eq_self, lN_add, i_l, wTn, wFa, wFb, wCT, wCF, mNe, mNe2, mLt, mLe, bp_s, bn_s, n_clampS, nI_1, nI_add, pk_sub, nI_mul, wrI_at, wrI_2, wrL_at, wrL_1, true_and, false_and, and_true, and_false, and_self, ↓reduceIte, Nat.reduceEqDiff, Nat.reduceAdd, Nat.reduceMul, Nat.add_zero, Nat.zero_add, reduceCtorEq, l_0, l_1, l_2, l_3, l_4, l_5, l_6, l_7, l_8, l_9, l_10, l_15, l_24, l_32, l_39, l_40, l_47, l_48, l_50, l_57, l_60, l_63, l_80, l_95, l_99, l_100, l_120, l_126, l_128, l_1000, l_9999, l_10000, L_0, L_1, L_2, L_3, L_4, L_5, L_7, L_9, L_15, L_40, L_50, L_99, L_127, L_9999, c_ltT, c_ltF, c_leT, c_leF, c_eqT, c_eqF, n_leF, n_ltF, c_gltT, c_gltF, c_ggtT, c_ggtF, false_or, or_false, or_self, true_or, or_true]
        · unfold fX11_taught
          simp (disch := omega) only [g2, L_50, ↓lt_d, eq_self, lN_add, i_l, wTn, wFa, wFb, wCT, wCF, mNe, mNe2, mLt, mLe, bp_s, bn_s, n_clampS, nI_1, nI_add, pk_sub, nI_mul, wrI_at, wrI_2, wrL_at, wrL_1, true_and, false_and, and_true, and_false, and_self, ↓reduceIte, Nat.reduceEqDiff, Nat.reduceAdd, Nat.reduceMul, Nat.add_zero, Nat.zero_add, reduceCtorEq, l_0, l_1, l_2, l_3, l_4, l_5, l_6, l_7, l_8, l_9, l_10, l_15, l_24, l_32, l_39, l_40, l_47, l_48, l_50, l_57, l_60, l_63, l_80, l_95, l_99, l_100, l_120, l_126, l_128, l_1000, l_9999, l_10000, L_0, L_1, L_2, L_3, L_4, L_5, L_7, L_9, L_15, L_40, L_50, L_99, L_127, L_9999, c_ltT, c_ltF, c_leT, c_leF, c_eqT, c_eqF, n_leF, n_ltF, c_gltT, c_gltF, c_ggtT, c_ggtF, false_or, or_false, or_self, true_or, or_true]
      · by_cases hw2 : 50 < w
        · refine bad (-1) ?_ ?_
          · unfold fX10_taught
            simp (disch := omega) only [g1, l_50, ↓lt_d, eq_self, lN_add, i_l, wTn, wFa, wFb, wCT, wCF, mNe, mNe2, mLt, mLe, bp_s, bn_s, n_clampS, nI_1, nI_add, pk_sub, nI_mul, wrI_at, wrI_2, wrL_at, wrL_1, true_and, false_and, and_true, and_false, and_self, ↓reduceIte, Nat.reduceEqDiff, Nat.reduceAdd, Nat.reduceMul, Nat.add_zero, Nat.zero_add, reduceCtorEq, l_0, l_1, l_2, l_3, l_4, l_5, l_6, l_7, l_8, l_9, l_10, l_15, l_24, l_32, l_39, l_40, l_47, l_48, l_50, l_57, l_60, l_63, l_80, l_95, l_99, l_100, l_120, l_126, l_128, l_1000, l_9999, l_10000, L_0, L_1, L_2, L_3, L_4, L_5, L_7, L_9, L_15, L_40, L_50, L_99, L_127, L_9999, c_ltT, c_ltF, c_leT, c_leF, c_eqT, c_eqF, n_leF, n_ltF, c_gltT, c_gltF, c_ggtT, c_ggtF, false_or, or_false, or_self, true_or, or_true]
          · unfold fX11_taught
            simp (disch := omega) only [g2, L_50, ↓lt_d, eq_self, lN_add, i_l, wTn, wFa, wFb, wCT, wCF, mNe, mNe2, mLt, mLe, bp_s, bn_s, n_clampS, nI_1, nI_add, pk_sub, nI_mul, wrI_at, wrI_2, wrL_at, wrL_1, true_and, false_and, and_true, and_false, and_self, ↓reduceIte, Nat.reduceEqDiff, Nat.reduceAdd, Nat.reduceMul, Nat.add_zero, Nat.zero_add, reduceCtorEq, l_0, l_1, l_2, l_3, l_4, l_5, l_6, l_7, l_8, l_9, l_10, l_15, l_24, l_32, l_39, l_40, l_47, l_48, l_50, l_57, l_60, l_63, l_80, l_95, l_99, l_100, l_120, l_126, l_128, l_1000, l_9999, l_10000, L_0, L_1, L_2, L_3, L_4, L_5, L_7, L_9, L_15, L_40, L_50, L_99, L_127, L_9999, c_ltT, c_ltF, c_leT, c_leF, c_eqT, c_eqF, n_leF, n_ltF, c_gltT, c_gltF, c_ggtT, c_ggtF, false_or, or_false, or_self, true_or, or_true]
        · rcases i_cases x with hx | ⟨u, hu, rfl⟩
          · have hx0 : (x < nI 0) = True := eq_true hx
            have hwi := wFn (x := x) (lo := 0) (z := lN 1) hx (by omega)
            refine bad (-1) ?_ ?_
            · unfold fX10_taught
              simp (disch := omega) only [g1, l_50, hx0, ↓lt_d, eq_self, lN_add, i_l, wTn, wFa, wFb, wCT, wCF, mNe, mNe2, mLt, mLe, bp_s, bn_s, n_clampS, nI_1, nI_add, pk_sub, nI_mul, wrI_at, wrI_2, wrL_at, wrL_1, true_and, false_and, and_true, and_false, and_self, ↓reduceIte, Nat.reduceEqDiff, Nat.reduceAdd, Nat.reduceMul, Nat.add_zero, Nat.zero_add, reduceCtorEq, l_0, l_1, l_2, l_3, l_4, l_5, l_6, l_7, l_8, l_9, l_10, l_15, l_24, l_32, l_39, l_40, l_47, l_48, l_50, l_57, l_60, l_63, l_80, l_95, l_99, l_100, l_120, l_126, l_128, l_1000, l_9999, l_10000, L_0, L_1, L_2, L_3, L_4, L_5, L_7, L_9, L_15, L_40, L_50, L_99, L_127, L_9999, c_ltT, c_ltF, c_leT, c_leF, c_eqT, c_eqF, n_leF, n_ltF, c_gltT, c_gltF, c_ggtT, c_ggtF, false_or, or_false, or_self, true_or, or_true]
            · unfold fX11_taught
              simp (disch := omega) only [g2, L_50, hwi, ↓lt_d, eq_self, lN_add, i_l, wTn, wFa, wFb, wCT, wCF, mNe, mNe2, mLt, mLe, bp_s, bn_s, n_clampS, nI_1, nI_add, pk_sub, nI_mul, wrI_at, wrI_2, wrL_at, wrL_1, true_and, false_and, and_true, and_false, and_self, ↓reduceIte, Nat.reduceEqDiff, Nat.reduceAdd, Nat.reduceMul, Nat.add_zero, Nat.zero_add, reduceCtorEq, l_0, l_1, l_2, l_3, l_4, l_5, l_6, l_7, l_8, l_9, l_10, l_15, l_24, l_32, l_39, l_40, l_47, l_48, l_50, l_57, l_60, l_63, l_80, l_95, l_99, l_100, l_120, l_126, l_128, l_1000, l_9999, l_10000, L_0, L_1, L_2, L_3, L_4, L_5, L_7, L_9, L_15, L_40, L_50, L_99, L_127, L_9999, c_ltT, c_ltF, c_leT, c_leF, c_eqT, c_eqF, n_leF, n_ltF, c_gltT, c_gltF, c_ggtT, c_ggtF, false_or, or_false, or_self, true_or, or_true]
          · by_cases hu2 : 1 < u
            · refine bad (-1) ?_ ?_
              · unfold fX10_taught
                simp (disch := omega) only [g1, l_50, ↓lt_d, eq_self, lN_add, i_l, wTn, wFa, wFb, wCT, wCF, mNe, mNe2, mLt, mLe, bp_s, bn_s, n_clampS, nI_1, nI_add, pk_sub, nI_mul, wrI_at, wrI_2, wrL_at, wrL_1, true_and, false_and, and_true, and_false, and_self, ↓reduceIte, Nat.reduceEqDiff, Nat.reduceAdd, Nat.reduceMul, Nat.add_zero, Nat.zero_add, reduceCtorEq, l_0, l_1, l_2, l_3, l_4, l_5, l_6, l_7, l_8, l_9, l_10, l_15, l_24, l_32, l_39, l_40, l_47, l_48, l_50, l_57, l_60, l_63, l_80, l_95, l_99, l_100, l_120, l_126, l_128, l_1000, l_9999, l_10000, L_0, L_1, L_2, L_3, L_4, L_5, L_7, L_9, L_15, L_40, L_50, L_99, L_127, L_9999, c_ltT, c_ltF, c_leT, c_leF, c_eqT, c_eqF, n_leF, n_ltF, c_gltT, c_gltF, c_ggtT, c_ggtF, false_or, or_false, or_self, true_or, or_true]
              · unfold fX11_taught
                simp (disch := omega) only [g2, L_50, ↓lt_d, eq_self, lN_add, i_l, wTn, wFa, wFb, wCT, wCF, mNe, mNe2, mLt, mLe, bp_s, bn_s, n_clampS, nI_1, nI_add, pk_sub, nI_mul, wrI_at, wrI_2, wrL_at, wrL_1, true_and, false_and, and_true, and_false, and_self, ↓reduceIte, Nat.reduceEqDiff, Nat.reduceAdd, Nat.reduceMul, Nat.add_zero, Nat.zero_add, reduceCtorEq, l_0, l_1, l_2, l_3, l_4, l_5, l_6, l_7, l_8, l_9, l_10, l_15, l_24, l_32, l_39, l_40, l_47, l_48, l_50, l_57, l_60, l_63, l_80, l_95, l_99, l_100, l_120, l_126, l_128, l_1000, l_9999, l_10000, L_0, L_1, L_2, L_3, L_4, L_5, L_7, L_9, L_15, L_40, L_50, L_99, L_127, L_9999, c_ltT, c_ltF, c_leT, c_leF, c_eqT, c_eqF, n_leF, n_ltF, c_gltT, c_gltF, c_ggtT, c_ggtF, false_or, or_false, or_self, true_or, or_true]
            · have hls := list_h (n := n) m1 m2 m3 m4 m 0 n n rfl (by omega) (by omega) (by omega)
              unfold fX10_taught fX11_taught fX10_allToldCanBeTaught fX11_isListBad at *
              rcases hls with ⟨q1, q2, q3⟩ | ⟨q1, q2⟩
              · by_cases hm0 : m = 0
                · subst hm0
                  refine bad (-5) ?_ ?_
                  · simp (disch := omega) only [g1, l_50, q1, m2, ↓lt_d, eq_self, lN_add, i_l, wTn, wFa, wFb, wCT, wCF, mNe, mNe2, mLt, mLe, bp_s, bn_s, n_clampS, nI_1, nI_add, pk_sub, nI_mul, wrI_at, wrI_2, wrL_at, wrL_1, true_and, false_and, and_true, and_false, and_self, ↓reduceIte, Nat.reduceEqDiff, Nat.reduceAdd, Nat.reduceMul, Nat.add_zero, Nat.zero_add, reduceCtorEq, l_0, l_1, l_2, l_3, l_4, l_5, l_6, l_7, l_8, l_9, l_10, l_15, l_24, l_32, l_39, l_40, l_47, l_48, l_50, l_57, l_60, l_63, l_80, l_95, l_99, l_100, l_120, l_126, l_128, l_1000, l_9999, l_10000, L_0, L_1, L_2, L_3, L_4, L_5, L_7, L_9, L_15, L_40, L_50, L_99, L_127, L_9999, c_ltT, c_ltF, c_leT, c_leF, c_eqT, c_eqF, n_leF, n_ltF, c_gltT, c_gltF, c_ggtT, c_ggtF, false_or, or_false, or_self, true_or, or_true]
                  · simp (disch := omega) only [g2, L_50, q2, m3, ↓lt_d, eq_self, lN_add, i_l, wTn, wFa, wFb, wCT, wCF, mNe, mNe2, mLt, mLe, bp_s, bn_s, n_clampS, nI_1, nI_add, pk_sub, nI_mul, wrI_at, wrI_2, wrL_at, wrL_1, true_and, false_and, and_true, and_false, and_self, ↓reduceIte, Nat.reduceEqDiff, Nat.reduceAdd, Nat.reduceMul, Nat.add_zero, Nat.zero_add, reduceCtorEq, l_0, l_1, l_2, l_3, l_4, l_5, l_6, l_7, l_8, l_9, l_10, l_15, l_24, l_32, l_39, l_40, l_47, l_48, l_50, l_57, l_60, l_63, l_80, l_95, l_99, l_100, l_120, l_126, l_128, l_1000, l_9999, l_10000, L_0, L_1, L_2, L_3, L_4, L_5, L_7, L_9, L_15, L_40, L_50, L_99, L_127, L_9999, c_ltT, c_ltF, c_leT, c_leF, c_eqT, c_eqF, n_leF, n_ltF, c_gltT, c_gltF, c_ggtT, c_ggtF, false_or, or_false, or_self, true_or, or_true]
                · obtain ⟨tb, cp, T, P, C1, b1, b2, b3, b4, b5, -, b7⟩ := think_l (show t < 2 ^ 30 by omega) hIn hj
                  obtain ⟨Rk, k1, k2, k3, k4⟩ := keeps_l (n := n) hn (show j < 6 by omega) R
                  have hBas : Bas j tb cp T C1 Rk := Bas_fr b2 (fun _ _ _ => rfl) (fun q i hq => k4.1 q i (by unfold fKee; omega))
                  have hRk : RepR j P Rk := RepR_fr b5 (fun q i hq => k4.1 q i (by unfold fKee; omega))
                  obtain ⟨r, C', R1, R', P1, u1, u2, u3, u4, u5, u6⟩ := taught_h (n := n) (t := t) (m := m) hn ht m1 (by omega) (show w ≤ 50 by omega) (show u ≤ 1 by omega) w 0 n n (nI 0) P C1 Rk (by omega) (by omega) (by omega) (by omega) hBas b3 b4 hRk (by rw [b7 0 8 (by omega)]; exact m2) (by rw [k4.1 72 37 (by unfold fKee; omega)]; exact m3) (fun i hi => by
                    obtain ⟨v, a, b, x1, x2, x3, x4, x5⟩ := q3 i (by omega) hi
                    exact ⟨v, a, b, x1, x2, x3, by rw [b7 47 i (by omega)]; exact x4, by rw [k4.1 94 i (by unfold fKee; omega)]; exact x5⟩)
                  obtain ⟨R'', v1, v2, v3, v4⟩ := puts_l (n := n) hn (show j < 6 by omega) R1
                  have hRR : R'' = R' := Option.some.inj (v1.symm.trans u6)
                  subst hRR
                  have ec : (if fX10_isHead (nI j) C = 0 then some (-1, C) else if nI w < 1 then some (-1, C) else if 50 < nI w then some (-1, C) else if nI u < 0 then some (-1, C) else if 1 < nI u then some (-1, C) else Option.bind (fX10_allToldCanBeTaught_h2 n n 0 C) fun r29 => if r29 = 0 then some (-1, C) else if C.1 0 8 = 0 then some (-5, C) else if nI j < (0 : Int32) ∨ 6 ≤ Int32.toNatClampNeg (nI j) then none else Option.bind (fX5_become 6 (Int32.toNatClampNeg (nI j)) C) fun C36 => fX10_taught_h66 n n (nI w) (nI u) 0 0 C36) = some (r, C') := by
                    simp (disch := omega) only [g1, l_50, q1, m2, b1, ↓lt_d, eq_self, lN_add, i_l, wTn, wFa, wFb, wCT, wCF, mNe, mNe2, mLt, mLe, bp_s, bn_s, n_clampS, nI_1, nI_add, pk_sub, nI_mul, wrI_at, wrI_2, wrL_at, wrL_1, true_and, false_and, and_true, and_false, and_self, ↓reduceIte, Nat.reduceEqDiff, Nat.reduceAdd, Nat.reduceMul, Nat.add_zero, Nat.zero_add, reduceCtorEq, l_0, l_1, l_2, l_3, l_4, l_5, l_6, l_7, l_8, l_9, l_10, l_15, l_24, l_32, l_39, l_40, l_47, l_48, l_50, l_57, l_60, l_63, l_80, l_95, l_99, l_100, l_120, l_126, l_128, l_1000, l_9999, l_10000, L_0, L_1, L_2, L_3, L_4, L_5, L_7, L_9, L_15, L_40, L_50, L_99, L_127, L_9999, c_ltT, c_ltF, c_leT, c_leF, c_eqT, c_eqF, n_leF, n_ltF, c_gltT, c_gltF, c_ggtT, c_ggtF, false_or, or_false, or_self, true_or, or_true]
                    exact u1
                  refine ⟨r, C', R'', ec, ?_, Inv_up (Nat.le_succ t) (Inv_rs h0 (gc_X10_taught (n := n) (p1 := nI j) (p2 := nI w) (p3 := nI u) (C := C) (r0 := r) (by unfold fX10_taught fX10_allToldCanBeTaught; exact ec)) (fun q i hq hq82 => ?_) (fun j' pc hj' hpc h81 i hi => ?_) (fun i => ?_))⟩
                  · simp (disch := omega) only [g2, L_50, q2, m3, k1, ↓lt_d, eq_self, lN_add, i_l, wTn, wFa, wFb, wCT, wCF, mNe, mNe2, mLt, mLe, bp_s, bn_s, n_clampS, nI_1, nI_add, pk_sub, nI_mul, wrI_at, wrI_2, wrL_at, wrL_1, true_and, false_and, and_true, and_false, and_self, ↓reduceIte, Nat.reduceEqDiff, Nat.reduceAdd, Nat.reduceMul, Nat.add_zero, Nat.zero_add, reduceCtorEq, l_0, l_1, l_2, l_3, l_4, l_5, l_6, l_7, l_8, l_9, l_10, l_15, l_24, l_32, l_39, l_40, l_47, l_48, l_50, l_57, l_60, l_63, l_80, l_95, l_99, l_100, l_120, l_126, l_128, l_1000, l_9999, l_10000, L_0, L_1, L_2, L_3, L_4, L_5, L_7, L_9, L_15, L_40, L_50, L_99, L_127, L_9999, c_ltT, c_ltF, c_leT, c_leF, c_eqT, c_eqF, n_leF, n_ltF, c_gltT, c_gltF, c_ggtT, c_ggtF, false_or, or_false, or_self, true_or, or_true]
                    exact u2
                  · by_cases c81 : q = 81 ∧ i = j
                    · obtain ⟨rfl, rfl⟩ := c81
                      rw [v2, u3.1 72 40 (by unfold fTau fChs fAsk; omega), k2]
                    · by_cases c83 : q = 83 ∧ 60 * j ≤ i ∧ i < 60 * j + 60
                      · obtain ⟨rfl, c4, c5⟩ := c83
                        obtain ⟨z, rfl⟩ : ∃ z, i = 60 * j + z := ⟨i - 60 * j, by omega⟩
                        rw [v3 z (by omega), u3.1 95 _ (by unfold fTau fChs fAsk; omega), k3 z (by omega)]
                      · rw [v4.1 q i (by unfold fPut; omega), u3.1 q i (by unfold lastR at hq; unfold fTau fChs fAsk; omega), k4.1 q i (by unfold lastR at hq; unfold fKee; omega)]
                  · rw [v4.1 82 _ (by unfold fPut; omega)]
                    by_cases hjj : j' = j
                    · subst hjj
                      have hpP : pc = P.1 := by
                        have hz := b5.1
                        have hzP := b3.1
                        exact (nI_eq (by omega) (by omega)).mp (h81.symm.trans hz)
                      subst hpP
                      rw [(u4.2 i (by have := u5.1; omega)).2.1, (u5.2.2 i hi).1, (b5.2 i hi).2.1]
                    · rw [u3.1 82 _ (by unfold fTau fChs fAsk; omega), k4.1 82 _ (by unfold fKee; omega)]
                  · rw [v4.2 101 i (by unfold fPut; omega), u3.2 101 i (by unfold fTau fChs fAsk; omega), k4.2 101 i (by unfold fKee; omega)]
              · refine bad (-1) ?_ ?_
                · simp (disch := omega) only [g1, l_50, q1, ↓lt_d, eq_self, lN_add, i_l, wTn, wFa, wFb, wCT, wCF, mNe, mNe2, mLt, mLe, bp_s, bn_s, n_clampS, nI_1, nI_add, pk_sub, nI_mul, wrI_at, wrI_2, wrL_at, wrL_1, true_and, false_and, and_true, and_false, and_self, ↓reduceIte, Nat.reduceEqDiff, Nat.reduceAdd, Nat.reduceMul, Nat.add_zero, Nat.zero_add, reduceCtorEq, l_0, l_1, l_2, l_3, l_4, l_5, l_6, l_7, l_8, l_9, l_10, l_15, l_24, l_32, l_39, l_40, l_47, l_48, l_50, l_57, l_60, l_63, l_80, l_95, l_99, l_100, l_120, l_126, l_128, l_1000, l_9999, l_10000, L_0, L_1, L_2, L_3, L_4, L_5, L_7, L_9, L_15, L_40, L_50, L_99, L_127, L_9999, c_ltT, c_ltF, c_leT, c_leF, c_eqT, c_eqF, n_leF, n_ltF, c_gltT, c_gltF, c_ggtT, c_ggtF, false_or, or_false, or_self, true_or, or_true]
                · simp (disch := omega) only [g2, L_50, q2, ↓lt_d, eq_self, lN_add, i_l, wTn, wFa, wFb, wCT, wCF, mNe, mNe2, mLt, mLe, bp_s, bn_s, n_clampS, nI_1, nI_add, pk_sub, nI_mul, wrI_at, wrI_2, wrL_at, wrL_1, true_and, false_and, and_true, and_false, and_self, ↓reduceIte, Nat.reduceEqDiff, Nat.reduceAdd, Nat.reduceMul, Nat.add_zero, Nat.zero_add, reduceCtorEq, l_0, l_1, l_2, l_3, l_4, l_5, l_6, l_7, l_8, l_9, l_10, l_15, l_24, l_32, l_39, l_40, l_47, l_48, l_50, l_57, l_60, l_63, l_80, l_95, l_99, l_100, l_120, l_126, l_128, l_1000, l_9999, l_10000, L_0, L_1, L_2, L_3, L_4, L_5, L_7, L_9, L_15, L_40, L_50, L_99, L_127, L_9999, c_ltT, c_ltF, c_leT, c_leF, c_eqT, c_eqF, n_leF, n_ltF, c_gltT, c_gltF, c_ggtT, c_ggtF, false_or, or_false, or_self, true_or, or_true]
  · refine bad (-1) ?_ ?_
    · unfold fX10_taught
      simp (disch := omega) only [g1, ↓lt_d, eq_self, lN_add, i_l, wTn, wFa, wFb, wCT, wCF, mNe, mNe2, mLt, mLe, bp_s, bn_s, n_clampS, nI_1, nI_add, pk_sub, nI_mul, wrI_at, wrI_2, wrL_at, wrL_1, true_and, false_and, and_true, and_false, and_self, ↓reduceIte, Nat.reduceEqDiff, Nat.reduceAdd, Nat.reduceMul, Nat.add_zero, Nat.zero_add, reduceCtorEq, l_0, l_1, l_2, l_3, l_4, l_5, l_6, l_7, l_8, l_9, l_10, l_15, l_24, l_32, l_39, l_40, l_47, l_48, l_50, l_57, l_60, l_63, l_80, l_95, l_99, l_100, l_120, l_126, l_128, l_1000, l_9999, l_10000, L_0, L_1, L_2, L_3, L_4, L_5, L_7, L_9, L_15, L_40, L_50, L_99, L_127, L_9999, c_ltT, c_ltF, c_leT, c_leF, c_eqT, c_eqF, n_leF, n_ltF, c_gltT, c_gltF, c_ggtT, c_ggtF, false_or, or_false, or_self, true_or, or_true]
    · unfold fX11_taught
      simp (disch := omega) only [g2, ↓lt_d, eq_self, lN_add, i_l, wTn, wFa, wFb, wCT, wCF, mNe, mNe2, mLt, mLe, bp_s, bn_s, n_clampS, nI_1, nI_add, pk_sub, nI_mul, wrI_at, wrI_2, wrL_at, wrL_1, true_and, false_and, and_true, and_false, and_self, ↓reduceIte, Nat.reduceEqDiff, Nat.reduceAdd, Nat.reduceMul, Nat.add_zero, Nat.zero_add, reduceCtorEq, l_0, l_1, l_2, l_3, l_4, l_5, l_6, l_7, l_8, l_9, l_10, l_15, l_24, l_32, l_39, l_40, l_47, l_48, l_50, l_57, l_60, l_63, l_80, l_95, l_99, l_100, l_120, l_126, l_128, l_1000, l_9999, l_10000, L_0, L_1, L_2, L_3, L_4, L_5, L_7, L_9, L_15, L_40, L_50, L_99, L_127, L_9999, c_ltT, c_ltF, c_leT, c_leF, c_eqT, c_eqF, n_leF, n_ltF, c_gltT, c_gltF, c_ggtT, c_ggtF, false_or, or_false, or_self, true_or, or_true]
