/-! FIRST order: the seconds of each ask, fresh and learnt -/
def RA (R0 R : Mm) : Prop := ∀ q i, q = 73 ∨ (q = 72 ∧ (i = 9 ∨ i = 37)) ∨ q = 78 ∨ q = 94 → R.1 q i = R0.1 q i
theorem RA_tr {R0 R R' : Mm} (h : RA R0 R) (h2 : ∀ q i, q = 73 ∨ (q = 72 ∧ (i = 9 ∨ i = 37)) ∨ q = 78 ∨ q = 94 → R'.1 q i = R.1 q i) : RA R0 R' := fun q i hq => (h2 q i hq).trans (h q i hq)
def Bh (j tb cp : Nat) (T : Nat → Nat) (P0 : TB) (C R : Mm) : Prop := Hn j j tb T C R ∧ C.1 (hdn j) 4 = nI cp ∧ R.1 73 (5 * j + 4) = nI cp ∧ I_cho C R ∧ tbl j tb (nI 0) R ∧ I_told C R ∧ RepC j P0 C ∧ P0.1 ≤ 60
def agI (F : Nat → Nat → Prop) (C C' : Mm) : Prop := ∀ q i, ¬ F q i → C'.1 q i = C.1 q i
def fFst (q i : Nat) : Prop := fRck q i ∨ (28 ≤ q ∧ q < 32) ∨ q = 48 ∨ q = 49 ∨ q = 50
theorem Bh_fr {j tb cp : Nat} {T : Nat → Nat} {P0 : TB} {C R C' : Mm} (h : Bh j tb cp T P0 C R) (hc : agI fFst C C') : Bh j tb cp T P0 C' R := by
  obtain ⟨h1, h2, h3, h4, h5, h6, h7, h8⟩ := h
  have hj := h1.2.1
  have zc : ∀ q i, (4 ≤ q ∧ q < 28) ∨ (q = 32 ∧ i = 1) ∨ q = 33 ∨ (q = 0 ∧ i = 8) ∨ q = 47 → C'.1 q i = C.1 q i := fun q i hq => hc q i (by unfold fFst fRck; omega)
  obtain ⟨g1, g2, g4, g5, g6, g7, g8⟩ := h1
  refine ⟨⟨g1, g2, fun s hs => ⟨?_, (g4 s hs).2⟩, ?_, g6, g7, g8⟩, ?_, h3, I_cho_fr h4 (fun q i hq => zc q i (by omega)) (fun _ _ _ => rfl), h5, I_told_fr h6 (fun q i hq => zc q i (by omega)) (fun _ _ _ => rfl), RepC_fr h7 (fun q i hq => zc q i (by unfold hdc hdp hdk at hq; omega)), h8⟩
  · rw [zc _ _ (by unfold hdn; omega)]
    exact (g4 s hs).1
  · rw [zc _ _ (by unfold hdn; omega)]
    exact g5
  · rw [zc _ _ (by unfold hdn; omega)]
    exact h2
theorem think2 {j tb cp : Nat} {T : Nat → Nat} {P0 : TB} {C R : Mm} (h : Bh j tb cp T P0 C R) : ∃ C1, fX5_become 6 j C = some C1 ∧ Bas j tb cp T C1 R ∧ RepC 6 P0 C1 ∧ agI fFst C C1 ∧ ∀ q i, ¬ (28 ≤ q ∧ q < 32) → C1.1 q i = C.1 q i := by
  obtain ⟨⟨d1, d2, d4, d5, d6, d7, d8⟩, f2, f3, h4, h5, h6, P2, P1⟩ := h
  obtain ⟨C1, b1, b2, b3, b4, b5, b6, b7⟩ := become_l (j0 := 6) (j1 := j) (by omega) (by omega) (by omega) P2.1 P1
  have fr : ∀ q i, ¬ (28 ≤ q ∧ q < 32) → C1.1 q i = C.1 q i := fun q i hq => b7 q i (by unfold hdn hdp hdk hdc; omega)
  refine ⟨C1, b1, ⟨⟨by omega, d2, fun s hs => ⟨?_, (d4 s hs).2⟩, ?_, d6, d7, d8⟩, ?_, f3, I_cho_fr h4 (fun q i hq => fr q i (by omega)) (fun _ _ _ => rfl), h5, I_told_fr h6 (fun q i hq => fr q i (by omega)) (fun _ _ _ => rfl)⟩, ⟨b6, fun i hi => ?_⟩, fun q i hq => fr q i (by unfold fFst at hq; omega), fr⟩
  · rw [b3 s (by omega)]
    exact (d4 s hs).1
  · rw [b3 3 (by omega)]
    exact d5
  · rw [b3 4 (by omega)]
    exact f2
  · rw [b4 i hi, b5 i hi]
    exact P2.2 i hi
/-- the reference's seconds of an ask, wherever the table has come to -/
def Sec (n j : Nat) (R0 : Mm) (P0 : TB) (v x SF SL : Nat) : Prop := ∀ P R, RepR j P R → Bd 1000000 P → Ext P0 P → RA R0 R → ∃ w R', fX11_chosenBy n (nI j) (nI v) (nI 0) R = some (w, R') ∧ fX11_seconds n R' = some (nI (if 3 < (hr P x).1 then SL else SF)) ∧ ag fChs R R'
theorem Bas_RA {j tb cp : Nat} {T : Nat → Nat} {C R0 R : Mm} (h : Bas j tb cp T C R0) (hr : RA R0 R) : Bas j tb cp T C R := Bas_fr h (fun _ _ _ => rfl) hr
def h3 (P : TB) (x : Nat) : TB := (hr (hr (hr P x).2 x).2 x).2
theorem Bd_up {t u : Nat} {P : TB} (htu : t ≤ u) (h : Bd t P) : Bd u P := ⟨h.1, fun i hi => Nat.le_trans (h.2 i hi) htu⟩
theorem sec_make {n t j tb cp v a b SF SL : Nat} (hn : 1000 ≤ n) (ht : t ≤ 200000) {T : Nat → Nat} {C1 C2 R0 : Mm} {P0 : TB} {w1 w2 : Int32} {D1 D2 : Mm} (hv : isAB v a b) (ha : a ≤ 99) (hb : b ≤ 99) (hP : Bd t P0) (hB1 : Bas j tb cp T C1 R0) (hC1 : RepC 6 P0 C1) (e1 : fX10_reckonChosen n 6 (nI v) C1 = some (w1, D1)) (s1 : fX0_seconds D1 = nI SF) (hB2 : Bas j tb cp T C2 R0) (hC2 : RepC 6 (h3 P0 (asP a b)) C2) (e2 : fX10_reckonChosen n 6 (nI v) C2 = some (w2, D2)) (s2 : fX0_seconds D2 = nI SL) : Sec n j R0 P0 v (asP a b) SF SL := by
  intro P R hR hBP hE hRA
  by_cases hl : lrn P (asP a b)
  · have hl2 : lrn (h3 P0 (asP a b)) (asP a b) := lrn_3 hP.1 hE hl
    have hk : kbit a b tb (h3 P0 (asP a b)) = kbit a b tb P := kbit_e ⟨fun _ => hl, fun _ => hl2⟩
    obtain ⟨S, w, C', R', t1, t2, t3, t4, t5, t6, t7⟩ := secs_k (n := n) (t := 1000000) hn (by omega) (Bas_RA hB2 hRA) hv ha hb (Bd_up (show t + 1 + 1 + 1 ≤ 1000000 by omega) (Bd_hr (Bd_hr (Bd_hr hP)))) hBP hC2 hR hk
    have hD : C' = D2 := congrArg Prod.snd (Option.some.inj (t2.symm.trans e2))
    subst hD
    rw [if_pos ((hr_gt hBP.1).mpr hl)]
    refine ⟨w, R', t4, ?_, t7⟩
    rw [t5, ← t3, s2]
  · have hl0 : ¬ lrn P0 (asP a b) := fun z => hl (lrn_up hE z)
    have hk : kbit a b tb P0 = kbit a b tb P := kbit_e ⟨fun z => absurd z hl0, fun z => absurd z hl⟩
    obtain ⟨S, w, C', R', t1, t2, t3, t4, t5, t6, t7⟩ := secs_k (n := n) (t := 1000000) hn (by omega) (Bas_RA hB1 hRA) hv ha hb (Bd_up (by omega) hP) hBP hC1 hR hk
    have hD : C' = D1 := congrArg Prod.snd (Option.some.inj (t2.symm.trans e1))
    subst hD
    rw [if_neg (fun z => hl ((hr_gt hBP.1).mp z))]
    refine ⟨w, R', t4, ?_, t7⟩
    rw [t5, ← t3, s1]
theorem hear_fst {C C' : Mm} (h : ∀ q i, ¬ (q = hdc 6 ∨ q = hdp 6 ∨ q = hdk 6) → C'.1 q i = C.1 q i) : ∀ q i, ¬ (28 ≤ q ∧ q < 32) → C'.1 q i = C.1 q i := fun q i hq => h q i (by unfold hdc hdp hdk; omega)
/-- one ask prepared: fresh, three times heard, learnt -/
theorem prep_1 {n t j tb cp v a b i : Nat} (hn : 1000 ≤ n) (ht : t ≤ 200000) {T : Nat → Nat} {C R0 : Mm} {P0 : TB} (h : Bh j tb cp T P0 C R0) (hR : RepR j P0 R0) (hP : Bd t P0) (hv : isAB v a b) (ha : a ≤ 99) (hb : b ≤ 99) (hi : i < 5) (h47 : C.1 47 i = nI v) (m5 : Int32) (fu : Nat) : ∃ SF SL C', SF ≤ 79200 ∧ SL ≤ 79200 ∧ fX10_prepareOrders_h2 n j (fu + 1) m5 (nI i) C = (if m5 ≤ nI i then some C else fX10_prepareOrders_h2 n j fu m5 (nI (i + 1)) C') ∧ (∀ q k, ¬ (fRck q k ∨ (28 ≤ q ∧ q < 32) ∨ ((q = 48 ∨ q = 49 ∨ q = 50) ∧ k = i)) → C'.1 q k = C.1 q k) ∧ C'.1 48 i = nI SF ∧ C'.1 49 i = nI SL ∧ C'.1 50 i = nI i ∧ Sec n j R0 P0 v (asP a b) SF SL := by
  have hj := h.1.2.1
  have h20 : Bh j tb cp T P0 (wrI C 50 i (nI i)) R0 := Bh_fr h (ag_wrI (F := fFst) (by unfold fFst; omega)).1
  obtain ⟨C22, b1, b2, b3, -, b5⟩ := think2 h20
  obtain ⟨SF, w1, C26, R9, s1, t1, t2, t3, t4, t5, t6⟩ := secs_k (n := n) (t := t) hn (by omega) b2 hv ha hb hP hP b3 hR rfl
  have b31 : RepC 6 P0 (wrI C26 48 i (nI SF)) := RepC_fr b3 (fun q k hq => by
    rw [wrI_at, if_neg (by unfold hdc hdp hdk at hq; omega)]
    exact t5.1 q k (by unfold hdc hdp hdk at hq; unfold fRck; omega))
  obtain ⟨C1, c1, c2, c3⟩ := hearC (n := n) (t := t) hn (by omega) hv ha hb hP b31
  obtain ⟨C2, d1, d2, d3⟩ := hearC (n := n) (t := t + 1) hn (by omega) hv ha hb (Bd_hr hP) c2
  obtain ⟨C3, e1, e2, e3⟩ := hearC (n := n) (t := t + 1 + 1) hn (by omega) hv ha hb (Bd_hr (Bd_hr hP)) d2
  obtain ⟨R1, q1, q2, q3⟩ := askR (n := n) (t := t) hn (by omega) hj hv ha hb hP hR
  obtain ⟨R2, r1, r2, r3⟩ := askR (n := n) (t := t + 1) hn (by omega) hj hv ha hb (Bd_hr hP) q2
  obtain ⟨R3, u1, u2, u3⟩ := askR (n := n) (t := t + 1 + 1) hn (by omega) hj hv ha hb (Bd_hr (Bd_hr hP)) r2
  have f1 := hear_fst c3
  have f2 := hear_fst d3
  have f3 := hear_fst e3
  have z31 : ∀ q k, ¬ (fRck q k ∨ (28 ≤ q ∧ q < 32) ∨ ((q = 48 ∨ q = 50) ∧ k = i)) → (wrI C26 48 i (nI SF)).1 q k = C.1 q k := by
    intro q k hq
    rw [wrI_at, if_neg (by omega), t5.1 q k (fun z => hq (Or.inl z)), b5 q k (by omega), wrI_at, if_neg (by omega)]
  have z3 : ∀ q k, ¬ (fRck q k ∨ (28 ≤ q ∧ q < 32) ∨ ((q = 48 ∨ q = 50) ∧ k = i)) → C3.1 q k = C.1 q k := by
    intro q k hq
    rw [f3 q k (by omega), f2 q k (by omega), f1 q k (by omega), z31 q k hq]
  have hB3 : Bas j tb cp T C3 R0 := Bas_fr b2 (fun q k hq => by
    rw [e3 q k (by unfold hdn at hq; unfold hdc hdp hdk; omega), d3 q k (by unfold hdn at hq; unfold hdc hdp hdk; omega), c3 q k (by unfold hdn at hq; unfold hdc hdp hdk; omega), wrI_at, if_neg (by unfold hdn at hq; omega)]
    exact t5.1 q k (by unfold hdn at hq; unfold fRck; omega)) (fun _ _ _ => rfl)
  have hRA : RA R0 R3 := fun q k hq => by
    rw [u3.1 q k (by unfold fAsk; omega), r3.1 q k (by unfold fAsk; omega), q3.1 q k (by unfold fAsk; omega)]
  obtain ⟨SL, w2, C35, R8, s3, t7, t8, t9, t10, t11, t12⟩ := secs_k (n := n) (t := t + 1 + 1 + 1) hn (by omega) (Bas_RA hB3 hRA) hv ha hb (Bd_hr (Bd_hr (Bd_hr hP))) (Bd_hr (Bd_hr (Bd_hr hP))) e2 u2 rfl
  refine ⟨SF, SL, wrI C35 49 i (nI SL), s1, s3, ?_, fun q k hq => ?_, ?_, ?_, ?_, sec_make hn ht hv ha hb hP b2 b3 t1 t2 hB3 e2 t7 t8⟩
  · rw [fX10_prepareOrders_h2.eq_2]
    by_cases hm : m5 ≤ nI i
    · rw [if_pos hm, if_pos hm]
    · rw [if_neg hm, if_neg hm]
      have g47 : C22.1 47 i = nI v := by
        rw [b5 47 i (by omega), wrI_at, if_neg (by omega)]
        exact h47
      have g31 : (wrI C26 48 i (nI SF)).1 47 i = nI v := by
        rw [z31 47 i (by unfold fRck; omega)]
        exact h47
      have g1 : C1.1 47 i = nI v := by
        rw [f1 47 i (by omega)]
        exact g31
      have g2 : C2.1 47 i = nI v := by
        rw [f2 47 i (by omega)]
        exact g1
      have g3 : C3.1 47 i = nI v := by
        rw [f3 47 i (by omega)]
        exact g2
      have step : ∀ k2 fv, fX10_prepareOrders_h53 n j k2 (fv + 4) m5 (nI i) (nI 0) (wrI C26 48 i (nI SF)) = k2 m5 (nI (i + 1)) (wrI C35 49 i (nI SL)) := by
        intro k2 fv
        rw [fX10_prepareOrders_h53.eq_2]
        simp (disch := omega) only [g31, c1, ↓lt_d, eq_self, lN_add, i_l, wTn, wFa, wFb, wCT, wCF, mNe, mNe2, mLt, mLe, bp_s, bn_s, n_clampS, nI_1, nI_add, pk_sub, nI_mul, wrI_at, wrI_2, wrL_at, wrL_1, true_and, false_and, and_true, and_false, and_self, ↓reduceIte, Nat.reduceEqDiff, Nat.reduceAdd, Nat.reduceMul, Nat.add_zero, Nat.zero_add, reduceCtorEq, l_0, l_1, l_2, l_3, l_4, l_5, l_6, l_7, l_8, l_9, l_10, l_15, l_24, l_32, l_39, l_40, l_47, l_48, l_50, l_57, l_60, l_63, l_80, l_95, l_99, l_100, l_120, l_126, l_128, l_1000, l_9999, l_10000, L_0, L_1, L_2, L_3, L_4, L_5, L_7, L_9, L_15, L_40, L_50, L_99, L_127, L_9999, c_ltT, c_ltF, c_leT, c_leF, c_eqT, c_eqF, n_leF, n_ltF, c_gltT, c_gltF, c_ggtT, c_ggtF, false_or, or_false, or_self, true_or, or_true]
        rw [fX10_prepareOrders_h53.eq_2]
        simp (disch := omega) only [g1, d1, ↓lt_d, eq_self, lN_add, i_l, wTn, wFa, wFb, wCT, wCF, mNe, mNe2, mLt, mLe, bp_s, bn_s, n_clampS, nI_1, nI_add, pk_sub, nI_mul, wrI_at, wrI_2, wrL_at, wrL_1, true_and, false_and, and_true, and_false, and_self, ↓reduceIte, Nat.reduceEqDiff, Nat.reduceAdd, Nat.reduceMul, Nat.add_zero, Nat.zero_add, reduceCtorEq, l_0, l_1, l_2, l_3, l_4, l_5, l_6, l_7, l_8, l_9, l_10, l_15, l_24, l_32, l_39, l_40, l_47, l_48, l_50, l_57, l_60, l_63, l_80, l_95, l_99, l_100, l_120, l_126, l_128, l_1000, l_9999, l_10000, L_0, L_1, L_2, L_3, L_4, L_5, L_7, L_9, L_15, L_40, L_50, L_99, L_127, L_9999, c_ltT, c_ltF, c_leT, c_leF, c_eqT, c_eqF, n_leF, n_ltF, c_gltT, c_gltF, c_ggtT, c_ggtF, false_or, or_false, or_self, true_or, or_true]
        rw [fX10_prepareOrders_h53.eq_2]
        simp (disch := omega) only [g2, e1, ↓lt_d, eq_self, lN_add, i_l, wTn, wFa, wFb, wCT, wCF, mNe, mNe2, mLt, mLe, bp_s, bn_s, n_clampS, nI_1, nI_add, pk_sub, nI_mul, wrI_at, wrI_2, wrL_at, wrL_1, true_and, false_and, and_true, and_false, and_self, ↓reduceIte, Nat.reduceEqDiff, Nat.reduceAdd, Nat.reduceMul, Nat.add_zero, Nat.zero_add, reduceCtorEq, l_0, l_1, l_2, l_3, l_4, l_5, l_6, l_7, l_8, l_9, l_10, l_15, l_24, l_32, l_39, l_40, l_47, l_48, l_50, l_57, l_60, l_63, l_80, l_95, l_99, l_100, l_120, l_126, l_128, l_1000, l_9999, l_10000, L_0, L_1, L_2, L_3, L_4, L_5, L_7, L_9, L_15, L_40, L_50, L_99, L_127, L_9999, c_ltT, c_ltF, c_leT, c_leF, c_eqT, c_eqF, n_leF, n_ltF, c_gltT, c_gltF, c_ggtT, c_ggtF, false_or, or_false, or_self, true_or, or_true]
        rw [fX10_prepareOrders_h53.eq_2]
        simp (disch := omega) only [g3, t7, t8, ↓lt_d, eq_self, lN_add, i_l, wTn, wFa, wFb, wCT, wCF, mNe, mNe2, mLt, mLe, bp_s, bn_s, n_clampS, nI_1, nI_add, pk_sub, nI_mul, wrI_at, wrI_2, wrL_at, wrL_1, true_and, false_and, and_true, and_false, and_self, ↓reduceIte, Nat.reduceEqDiff, Nat.reduceAdd, Nat.reduceMul, Nat.add_zero, Nat.zero_add, reduceCtorEq, l_0, l_1, l_2, l_3, l_4, l_5, l_6, l_7, l_8, l_9, l_10, l_15, l_24, l_32, l_39, l_40, l_47, l_48, l_50, l_57, l_60, l_63, l_80, l_95, l_99, l_100, l_120, l_126, l_128, l_1000, l_9999, l_10000, L_0, L_1, L_2, L_3, L_4, L_5, L_7, L_9, L_15, L_40, L_50, L_99, L_127, L_9999, c_ltT, c_ltF, c_leT, c_leF, c_eqT, c_eqF, n_leF, n_ltF, c_gltT, c_gltF, c_ggtT, c_ggtF, false_or, or_false, or_self, true_or, or_true]
      obtain ⟨fv, hfv⟩ : ∃ fv, n = fv + 4 := ⟨n - 4, by omega⟩
      have st := step (fX10_prepareOrders_h2 n j fu) fv
      rw [← hfv] at st
      simp (disch := omega) only [b1, g47, t1, t2, st, ↓lt_d, eq_self, lN_add, i_l, wTn, wFa, wFb, wCT, wCF, mNe, mNe2, mLt, mLe, bp_s, bn_s, n_clampS, nI_1, nI_add, pk_sub, nI_mul, wrI_at, wrI_2, wrL_at, wrL_1, true_and, false_and, and_true, and_false, and_self, ↓reduceIte, Nat.reduceEqDiff, Nat.reduceAdd, Nat.reduceMul, Nat.add_zero, Nat.zero_add, reduceCtorEq, l_0, l_1, l_2, l_3, l_4, l_5, l_6, l_7, l_8, l_9, l_10, l_15, l_24, l_32, l_39, l_40, l_47, l_48, l_50, l_57, l_60, l_63, l_80, l_95, l_99, l_100, l_120, l_126, l_128, l_1000, l_9999, l_10000, L_0, L_1, L_2, L_3, L_4, L_5, L_7, L_9, L_15, L_40, L_50, L_99, L_127, L_9999, c_ltT, c_ltF, c_leT, c_leF, c_eqT, c_eqF, n_leF, n_ltF, c_gltT, c_gltF, c_ggtT, c_ggtF, false_or, or_false, or_self, true_or, or_true]
  · rw [wrI_at, if_neg (by omega), t11.1 q k (fun z => hq (Or.inl z))]
    exact z3 q k (fun z => hq (z.elim Or.inl (fun z => Or.inr (z.elim Or.inl (fun z => Or.inr ⟨by omega, z.2⟩)))))
  · rw [wrI_at, if_neg (by omega), t11.1 48 i (by unfold fRck; omega), f3 48 i (by omega), f2 48 i (by omega), f1 48 i (by omega), wrI_at, if_pos ⟨rfl, rfl⟩]
  · rw [wrI_at, if_pos ⟨rfl, rfl⟩]
  · rw [wrI_at, if_neg (by omega), t11.1 50 i (by unfold fRck; omega), f3 50 i (by omega), f2 50 i (by omega), f1 50 i (by omega), wrI_at, if_neg (by omega), t5.1 50 i (by unfold fRck; omega), b5 50 i (by omega), wrI_at, if_pos ⟨rfl, rfl⟩]
theorem prep_h {n t j tb cp m5 : Nat} (hn : 1000 ≤ n) (ht : t ≤ 200000) (hm : m5 ≤ 5) {T v a b : Nat → Nat} {R0 : Mm} {P0 : TB} (hR : RepR j P0 R0) (hP : Bd t P0) (hv : ∀ p, p < m5 → isAB (v p) (a p) (b p) ∧ a p ≤ 99 ∧ b p ≤ 99) : ∀ d i fu (SF SL : Nat → Nat) (C : Mm), m5 - i = d → i ≤ m5 → d < fu → Bh j tb cp T P0 C R0 → (∀ p, p < m5 → C.1 47 p = nI (v p)) → (∀ p, p < i → SF p ≤ 79200 ∧ SL p ≤ 79200 ∧ C.1 48 p = nI (SF p) ∧ C.1 49 p = nI (SL p) ∧ C.1 50 p = nI p ∧ Sec n j R0 P0 (v p) (asP (a p) (b p)) (SF p) (SL p)) → ∃ (SF' SL' : Nat → Nat) (C' : Mm), fX10_prepareOrders_h2 n j fu (nI m5) (nI i) C = some C' ∧ agI fFst C C' ∧ ∀ p, p < m5 → SF' p ≤ 79200 ∧ SL' p ≤ 79200 ∧ C'.1 48 p = nI (SF' p) ∧ C'.1 49 p = nI (SL' p) ∧ C'.1 50 p = nI p ∧ Sec n j R0 P0 (v p) (asP (a p) (b p)) (SF' p) (SL' p) := by
  intro d
  induction d with
  | zero =>
    intro i fu SF SL C hd hi hf h h47 hp
    obtain ⟨fu, rfl⟩ : ∃ f, fu = f + 1 := ⟨fu - 1, by omega⟩
    have hi5 : i = m5 := by omega
    subst hi5
    refine ⟨SF, SL, C, ?_, fun _ _ _ => rfl, hp⟩
    rw [fX10_prepareOrders_h2.eq_2]
    simp (disch := omega) only [↓lt_d, eq_self, lN_add, i_l, wTn, wFa, wFb, wCT, wCF, mNe, mNe2, mLt, mLe, bp_s, bn_s, n_clampS, nI_1, nI_add, pk_sub, nI_mul, wrI_at, wrI_2, wrL_at, wrL_1, true_and, false_and, and_true, and_false, and_self, ↓reduceIte, Nat.reduceEqDiff, Nat.reduceAdd, Nat.reduceMul, Nat.add_zero, Nat.zero_add, reduceCtorEq, l_0, l_1, l_2, l_3, l_4, l_5, l_6, l_7, l_8, l_9, l_10, l_15, l_24, l_32, l_39, l_40, l_47, l_48, l_50, l_57, l_60, l_63, l_80, l_95, l_99, l_100, l_120, l_126, l_128, l_1000, l_9999, l_10000, L_0, L_1, L_2, L_3, L_4, L_5, L_7, L_9, L_15, L_40, L_50, L_99, L_127, L_9999, c_ltT, c_ltF, c_leT, c_leF, c_eqT, c_eqF, n_leF, n_ltF, c_gltT, c_gltF, c_ggtT, c_ggtF, false_or, or_false, or_self, true_or, or_true]
  | succ d ih =>
    intro i fu SF SL C hd hi hf h h47 hp
    obtain ⟨fu, rfl⟩ : ∃ f, fu = f + 1 := ⟨fu - 1, by omega⟩
    obtain ⟨hv1, hv2, hv3⟩ := hv i (by omega)
    obtain ⟨sf, sl, C1, y1, y2, y3, y4, y5, y6, y7, y8⟩ := prep_1 hn ht h hR hP hv1 hv2 hv3 (show i < 5 by omega) (h47 i (by omega)) (nI m5) fu
    have hag : ∀ q k, ¬ fFst q k → C1.1 q k = C.1 q k := fun q k hq => y4 q k (by unfold fFst fRck at hq; unfold fRck; omega)
    obtain ⟨SF', SL', C', z1, z2, z3⟩ := ih (i + 1) fu (udn SF i sf) (udn SL i sl) C1 (by omega) (by omega) (by omega) (Bh_fr h hag) (fun p hp' => by rw [hag 47 p (by unfold fFst fRck; omega)]; exact h47 p hp') (fun p hp' => by
      by_cases hpi : p = i
      · subst hpi
        rw [udn_s, udn_s]
        exact ⟨y1, y2, y5, y6, y7, y8⟩
      · rw [udn_n _ _ hpi, udn_n _ _ hpi]
        obtain ⟨x1, x2, x3, x4, x5, x6⟩ := hp p (by omega)
        refine ⟨x1, x2, ?_, ?_, ?_, x6⟩
        · rw [y4 48 p (by unfold fRck; omega)]; exact x3
        · rw [y4 49 p (by unfold fRck; omega)]; exact x4
        · rw [y4 50 p (by unfold fRck; omega)]; exact x5)
    refine ⟨SF', SL', C', ?_, fun q k hq => (z2 q k hq).trans (hag q k hq), z3⟩
    rw [y3, if_neg]
    · exact z1
    · rw [nI_leI (by omega) (by omega)]
      omega
