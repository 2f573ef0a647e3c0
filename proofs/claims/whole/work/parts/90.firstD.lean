/-! FIRST order: the class goes on from order to order -/
def sw (o : Nat → Nat) (i k : Nat) : Nat → Nat := udn (udn o i (o k)) k (o i)
def rsF (o : Nat → Nat) : Nat → Option Nat
  | 0 => none
  | r + 1 => if o (r + 1) < o r then rsF o r else some r
def ntF (o : Nat → Nat) (r : Nat) : Nat → Nat
  | 0 => 0
  | q + 1 => if q + 1 ≤ r + 1 then q + 1 else if o r ≤ o (q + 1) then q + 1 else ntF o r q
def rvF : Nat → (Nat → Nat) → Nat → Nat → Nat → Nat
  | 0, o, _, _ => o
  | d + 1, o, i, k => if k ≤ i then o else rvF d (sw o i k) (i + 1) (k - 1)
def nx (o : Nat → Nat) (m : Nat) : Option (Nat → Nat) :=
  match rsF o (m - 1) with
  | none => none
  | some r => some (rvF 5 (sw o r (ntF o r (m - 1))) (r + 1) (m - 1))
def Cel (m : Nat) (o : Nat → Nat) (C : Mm) : Prop := ∀ i, i < m → C.1 50 i = nI (o i) ∧ o i < m
theorem swap_c {m i k : Nat} {o : Nat → Nat} {C : Mm} (hm : m ≤ 5) (hi : i < m) (hk : k < m) (h : Cel m o C) : ∃ C', fX10_swapPlaces (nI i) (nI k) C = some C' ∧ Cel m (sw o i k) C' ∧ ∀ q z, q ≠ 50 → C'.1 q z = C.1 q z := by
  obtain ⟨h1, h2⟩ := h i hi
  obtain ⟨g1, g2⟩ := h k hk
  refine ⟨wrI (wrI C 50 i (nI (o k))) 50 k (nI (o i)), ?_, fun z hz => ?_, fun q z hq => ?_⟩
  · unfold fX10_swapPlaces
    simp (disch := omega) only [h1, g1, ↓lt_d, eq_self, lN_add, i_l, wTn, wFa, wFb, wCT, wCF, mNe, mNe2, mLt, mLe, bp_s, bn_s, n_clampS, nI_1, nI_add, pk_sub, nI_mul, wrI_at, wrI_2, wrL_at, wrL_1, true_and, false_and, and_true, and_false, and_self, ↓reduceIte, Nat.reduceEqDiff, Nat.reduceAdd, Nat.reduceMul, Nat.add_zero, Nat.zero_add, reduceCtorEq, l_0, l_1, l_2, l_3, l_4, l_5, l_6, l_7, l_8, l_9, l_10, l_15, l_24, l_32, l_39, l_40, l_47, l_48, l_50, l_57, l_60, l_63, l_80, l_95, l_99, l_100, l_120, l_126, l_128, l_1000, l_9999, l_10000, L_0, L_1, L_2, L_3, L_4, L_5, L_7, L_9, L_15, L_40, L_50, L_99, L_127, L_9999, c_ltT, c_ltF, c_leT, c_leF, c_eqT, c_eqF, n_leF, n_ltF, c_gltT, c_gltF, c_ggtT, c_ggtF, false_or, or_false, or_self, true_or, or_true]
  · unfold sw
    by_cases zk : z = k
    · subst zk
      rw [wrI_at, if_pos ⟨rfl, rfl⟩, udn_s]
      exact ⟨rfl, h2⟩
    · rw [wrI_at, if_neg (by omega), udn_n _ _ zk, wrI_at]
      by_cases zi : z = i
      · subst zi
        rw [if_pos ⟨rfl, rfl⟩, udn_s]
        exact ⟨rfl, g2⟩
      · rw [if_neg (by omega), udn_n _ _ zi]
        exact h z hz
  · rw [wrI_at, if_neg (by omega), wrI_at, if_neg (by omega)]
theorem rev_c {n m : Nat} (hm : m ≤ 5) : ∀ d fu o i k C, k - i ≤ d → k < m → d < fu → i ≤ 5 → Cel m o C → ∃ C', fX10_nextOrder_h85 n fu (nI i) (nI k) C = some (nI 1, C') ∧ Cel m (rvF d o i k) C' ∧ ∀ q z, q ≠ 50 → C'.1 q z = C.1 q z := by
  intro d
  induction d with
  | zero =>
    intro fu o i k C hd hk hf hi h
    obtain ⟨fu, rfl⟩ : ∃ f, fu = f + 1 := ⟨fu - 1, by omega⟩
    refine ⟨C, ?_, h, fun _ _ _ => rfl⟩
    rw [fX10_nextOrder_h85.eq_2]
    simp (disch := omega) only [↓lt_d, eq_self, lN_add, i_l, wTn, wFa, wFb, wCT, wCF, mNe, mNe2, mLt, mLe, bp_s, bn_s, n_clampS, nI_1, nI_add, pk_sub, nI_mul, wrI_at, wrI_2, wrL_at, wrL_1, true_and, false_and, and_true, and_false, and_self, ↓reduceIte, Nat.reduceEqDiff, Nat.reduceAdd, Nat.reduceMul, Nat.add_zero, Nat.zero_add, reduceCtorEq, l_0, l_1, l_2, l_3, l_4, l_5, l_6, l_7, l_8, l_9, l_10, l_15, l_24, l_32, l_39, l_40, l_47, l_48, l_50, l_57, l_60, l_63, l_80, l_95, l_99, l_100, l_120, l_126, l_128, l_1000, l_9999, l_10000, L_0, L_1, L_2, L_3, L_4, L_5, L_7, L_9, L_15, L_40, L_50, L_99, L_127, L_9999, c_ltT, c_ltF, c_leT, c_leF, c_eqT, c_eqF, n_leF, n_ltF, c_gltT, c_gltF, c_ggtT, c_ggtF, false_or, or_false, or_self, true_or, or_true]
  | succ d ih =>
    intro fu o i k C hd hk hf hi h
    obtain ⟨fu, rfl⟩ : ∃ f, fu = f + 1 := ⟨fu - 1, by omega⟩
    rw [fX10_nextOrder_h85.eq_2]
    show ∃ C', _ ∧ Cel m (if k ≤ i then o else rvF d (sw o i k) (i + 1) (k - 1)) C' ∧ _
    by_cases hki : k ≤ i
    · rw [if_pos hki]
      refine ⟨C, ?_, h, fun _ _ _ => rfl⟩
      simp (disch := omega) only [↓lt_d, eq_self, lN_add, i_l, wTn, wFa, wFb, wCT, wCF, mNe, mNe2, mLt, mLe, bp_s, bn_s, n_clampS, nI_1, nI_add, pk_sub, nI_mul, wrI_at, wrI_2, wrL_at, wrL_1, true_and, false_and, and_true, and_false, and_self, ↓reduceIte, Nat.reduceEqDiff, Nat.reduceAdd, Nat.reduceMul, Nat.add_zero, Nat.zero_add, reduceCtorEq, l_0, l_1, l_2, l_3, l_4, l_5, l_6, l_7, l_8, l_9, l_10, l_15, l_24, l_32, l_39, l_40, l_47, l_48, l_50, l_57, l_60, l_63, l_80, l_95, l_99, l_100, l_120, l_126, l_128, l_1000, l_9999, l_10000, L_0, L_1, L_2, L_3, L_4, L_5, L_7, L_9, L_15, L_40, L_50, L_99, L_127, L_9999, c_ltT, c_ltF, c_leT, c_leF, c_eqT, c_eqF, n_leF, n_ltF, c_gltT, c_gltF, c_ggtT, c_ggtF, false_or, or_false, or_self, true_or, or_true]
    · rw [if_neg hki]
      obtain ⟨C1, e1, e2, e3⟩ := swap_c hm (show i < m by omega) hk h
      obtain ⟨C2, u1, u2, u3⟩ := ih fu (sw o i k) (i + 1) (k - 1) C1 (by omega) (by omega) (by omega) (by omega) e2
      obtain ⟨k', rfl⟩ : ∃ k', k = k' + 1 := ⟨k - 1, by omega⟩
      refine ⟨C2, ?_, u2, fun q z hq => by rw [u3 q z hq, e3 q z hq]⟩
      rw [Nat.add_sub_cancel] at u1
      simp (disch := omega) only [e1, nI_ms, ↓lt_d, eq_self, lN_add, i_l, wTn, wFa, wFb, wCT, wCF, mNe, mNe2, mLt, mLe, bp_s, bn_s, n_clampS, nI_1, nI_add, pk_sub, nI_mul, wrI_at, wrI_2, wrL_at, wrL_1, true_and, false_and, and_true, and_false, and_self, ↓reduceIte, Nat.reduceEqDiff, Nat.reduceAdd, Nat.reduceMul, Nat.add_zero, Nat.zero_add, reduceCtorEq, l_0, l_1, l_2, l_3, l_4, l_5, l_6, l_7, l_8, l_9, l_10, l_15, l_24, l_32, l_39, l_40, l_47, l_48, l_50, l_57, l_60, l_63, l_80, l_95, l_99, l_100, l_120, l_126, l_128, l_1000, l_9999, l_10000, L_0, L_1, L_2, L_3, L_4, L_5, L_7, L_9, L_15, L_40, L_50, L_99, L_127, L_9999, c_ltT, c_ltF, c_leT, c_leF, c_eqT, c_eqF, n_leF, n_ltF, c_gltT, c_gltF, c_ggtT, c_ggtF, false_or, or_false, or_self, true_or, or_true]
      exact u1
theorem next_c {n m r : Nat} {o : Nat → Nat} {C : Mm} (hm : m ≤ 5) (h : Cel m o C) : ∀ q fu, r + 1 ≤ q → q < m → q < fu → fX10_nextOrder_h41 n fu (nI m) (nI r) (nI q) C = fX10_nextOrder_b69 n (nI m) (nI r) (nI (ntF o r q)) C ∧ r + 1 ≤ ntF o r q ∧ ntF o r q ≤ q := by
  intro q
  induction q with
  | zero =>
    intro fu h1 h2 h3
    omega
  | succ q ih =>
    intro fu h1 h2 h3
    obtain ⟨fu, rfl⟩ : ∃ f, fu = f + 1 := ⟨fu - 1, by omega⟩
    obtain ⟨g1, g2⟩ := h r (by omega)
    obtain ⟨g3, g4⟩ := h (q + 1) h2
    rw [fX10_nextOrder_h41.eq_2]
    show _ = fX10_nextOrder_b69 n (nI m) (nI r) (nI (if q + 1 ≤ r + 1 then q + 1 else if o r ≤ o (q + 1) then q + 1 else ntF o r q)) C ∧ r + 1 ≤ (if q + 1 ≤ r + 1 then q + 1 else if o r ≤ o (q + 1) then q + 1 else ntF o r q) ∧ (if q + 1 ≤ r + 1 then q + 1 else if o r ≤ o (q + 1) then q + 1 else ntF o r q) ≤ q + 1
    by_cases c1 : q + 1 ≤ r + 1
    · rw [if_pos c1]
      refine ⟨?_, by omega, by omega⟩
      simp (disch := omega) only [↓lt_d, eq_self, lN_add, i_l, wTn, wFa, wFb, wCT, wCF, mNe, mNe2, mLt, mLe, bp_s, bn_s, n_clampS, nI_1, nI_add, pk_sub, nI_mul, wrI_at, wrI_2, wrL_at, wrL_1, true_and, false_and, and_true, and_false, and_self, ↓reduceIte, Nat.reduceEqDiff, Nat.reduceAdd, Nat.reduceMul, Nat.add_zero, Nat.zero_add, reduceCtorEq, l_0, l_1, l_2, l_3, l_4, l_5, l_6, l_7, l_8, l_9, l_10, l_15, l_24, l_32, l_39, l_40, l_47, l_48, l_50, l_57, l_60, l_63, l_80, l_95, l_99, l_100, l_120, l_126, l_128, l_1000, l_9999, l_10000, L_0, L_1, L_2, L_3, L_4, L_5, L_7, L_9, L_15, L_40, L_50, L_99, L_127, L_9999, c_ltT, c_ltF, c_leT, c_leF, c_eqT, c_eqF, n_leF, n_ltF, c_gltT, c_gltF, c_ggtT, c_ggtF, false_or, or_false, or_self, true_or, or_true]
    · rw [if_neg c1]
      by_cases c2 : o r ≤ o (q + 1)
      · rw [if_pos c2]
        refine ⟨?_, by omega, by omega⟩
        simp (disch := omega) only [g1, g3, ↓lt_d, eq_self, lN_add, i_l, wTn, wFa, wFb, wCT, wCF, mNe, mNe2, mLt, mLe, bp_s, bn_s, n_clampS, nI_1, nI_add, pk_sub, nI_mul, wrI_at, wrI_2, wrL_at, wrL_1, true_and, false_and, and_true, and_false, and_self, ↓reduceIte, Nat.reduceEqDiff, Nat.reduceAdd, Nat.reduceMul, Nat.add_zero, Nat.zero_add, reduceCtorEq, l_0, l_1, l_2, l_3, l_4, l_5, l_6, l_7, l_8, l_9, l_10, l_15, l_24, l_32, l_39, l_40, l_47, l_48, l_50, l_57, l_60, l_63, l_80, l_95, l_99, l_100, l_120, l_126, l_128, l_1000, l_9999, l_10000, L_0, L_1, L_2, L_3, L_4, L_5, L_7, L_9, L_15, L_40, L_50, L_99, L_127, L_9999, c_ltT, c_ltF, c_leT, c_leF, c_eqT, c_eqF, n_leF, n_ltF, c_gltT, c_gltF, c_ggtT, c_ggtF, false_or, or_false, or_self, true_or, or_true]
      · rw [if_neg c2]
        obtain ⟨e1, e2, e3⟩ := ih fu (by omega) (by omega) (by omega)
        refine ⟨?_, e2, by omega⟩
        simp (disch := omega) only [g1, g3, nI_ms, ↓lt_d, eq_self, lN_add, i_l, wTn, wFa, wFb, wCT, wCF, mNe, mNe2, mLt, mLe, bp_s, bn_s, n_clampS, nI_1, nI_add, pk_sub, nI_mul, wrI_at, wrI_2, wrL_at, wrL_1, true_and, false_and, and_true, and_false, and_self, ↓reduceIte, Nat.reduceEqDiff, Nat.reduceAdd, Nat.reduceMul, Nat.add_zero, Nat.zero_add, reduceCtorEq, l_0, l_1, l_2, l_3, l_4, l_5, l_6, l_7, l_8, l_9, l_10, l_15, l_24, l_32, l_39, l_40, l_47, l_48, l_50, l_57, l_60, l_63, l_80, l_95, l_99, l_100, l_120, l_126, l_128, l_1000, l_9999, l_10000, L_0, L_1, L_2, L_3, L_4, L_5, L_7, L_9, L_15, L_40, L_50, L_99, L_127, L_9999, c_ltT, c_ltF, c_leT, c_leF, c_eqT, c_eqF, n_leF, n_ltF, c_gltT, c_gltF, c_ggtT, c_ggtF, false_or, or_false, or_self, true_or, or_true]
        exact e1
theorem rise_c {n m : Nat} {o : Nat → Nat} {C : Mm} (hm : m ≤ 5) (h : Cel m o C) : ∀ r1 fu, r1 < m → r1 < fu → (rsF o r1 = none ∧ fX10_nextOrder_h4 n fu (nI m) (nI r1 + -nI 1) C = some (nI 0, C)) ∨ ∃ r, rsF o r1 = some r ∧ r + 1 < m ∧ fX10_nextOrder_h4 n fu (nI m) (nI r1 + -nI 1) C = fX10_nextOrder_h41 n n (nI m) (nI r) (nI m - nI 1) C := by
  intro r1
  induction r1 with
  | zero =>
    intro fu h1 h2
    obtain ⟨fu, rfl⟩ : ∃ f, fu = f + 1 := ⟨fu - 1, by omega⟩
    refine Or.inl ⟨rfl, ?_⟩
    rw [fX10_nextOrder_h4.eq_2]
    unfold fX10_nextOrder_b31
    have h0 : (nI 0 ≤ -nI 1) = False := eq_false (by decide)
    simp (disch := omega) only [nI_mz, h0, ↓lt_d, eq_self, lN_add, i_l, wTn, wFa, wFb, wCT, wCF, mNe, mNe2, mLt, mLe, bp_s, bn_s, n_clampS, nI_1, nI_add, pk_sub, nI_mul, wrI_at, wrI_2, wrL_at, wrL_1, true_and, false_and, and_true, and_false, and_self, ↓reduceIte, Nat.reduceEqDiff, Nat.reduceAdd, Nat.reduceMul, Nat.add_zero, Nat.zero_add, reduceCtorEq, l_0, l_1, l_2, l_3, l_4, l_5, l_6, l_7, l_8, l_9, l_10, l_15, l_24, l_32, l_39, l_40, l_47, l_48, l_50, l_57, l_60, l_63, l_80, l_95, l_99, l_100, l_120, l_126, l_128, l_1000, l_9999, l_10000, L_0, L_1, L_2, L_3, L_4, L_5, L_7, L_9, L_15, L_40, L_50, L_99, L_127, L_9999, c_ltT, c_ltF, c_leT, c_leF, c_eqT, c_eqF, n_leF, n_ltF, c_gltT, c_gltF, c_ggtT, c_ggtF, false_or, or_false, or_self, true_or, or_true]
  | succ r ih =>
    intro fu h1 h2
    obtain ⟨fu, rfl⟩ : ∃ f, fu = f + 1 := ⟨fu - 1, by omega⟩
    obtain ⟨g1, g2⟩ := h r (by omega)
    obtain ⟨g3, g4⟩ := h (r + 1) h1
    rw [fX10_nextOrder_h4.eq_2]
    unfold fX10_nextOrder_b31
    by_cases c : o (r + 1) < o r
    · have hr : rsF o (r + 1) = rsF o r := if_pos c
      rw [hr]
      rcases ih fu (by omega) (by omega) with ⟨e1, e2⟩ | ⟨r', e1, e2, e3⟩
      · refine Or.inl ⟨e1, ?_⟩
        simp (disch := omega) only [nI_ms, g1, g3, ↓lt_d, eq_self, lN_add, i_l, wTn, wFa, wFb, wCT, wCF, mNe, mNe2, mLt, mLe, bp_s, bn_s, n_clampS, nI_1, nI_add, pk_sub, nI_mul, wrI_at, wrI_2, wrL_at, wrL_1, true_and, false_and, and_true, and_false, and_self, ↓reduceIte, Nat.reduceEqDiff, Nat.reduceAdd, Nat.reduceMul, Nat.add_zero, Nat.zero_add, reduceCtorEq, l_0, l_1, l_2, l_3, l_4, l_5, l_6, l_7, l_8, l_9, l_10, l_15, l_24, l_32, l_39, l_40, l_47, l_48, l_50, l_57, l_60, l_63, l_80, l_95, l_99, l_100, l_120, l_126, l_128, l_1000, l_9999, l_10000, L_0, L_1, L_2, L_3, L_4, L_5, L_7, L_9, L_15, L_40, L_50, L_99, L_127, L_9999, c_ltT, c_ltF, c_leT, c_leF, c_eqT, c_eqF, n_leF, n_ltF, c_gltT, c_gltF, c_ggtT, c_ggtF, false_or, or_false, or_self, true_or, or_true]
        exact e2
      · refine Or.inr ⟨r', e1, e2, ?_⟩
        rw [← e3]
        simp (disch := omega) only [nI_ms, g1, g3, ↓lt_d, eq_self, lN_add, i_l, wTn, wFa, wFb, wCT, wCF, mNe, mNe2, mLt, mLe, bp_s, bn_s, n_clampS, nI_1, nI_add, pk_sub, nI_mul, wrI_at, wrI_2, wrL_at, wrL_1, true_and, false_and, and_true, and_false, and_self, ↓reduceIte, Nat.reduceEqDiff, Nat.reduceAdd, Nat.reduceMul, Nat.add_zero, Nat.zero_add, reduceCtorEq, l_0, l_1, l_2, l_3, l_4, l_5, l_6, l_7, l_8, l_9, l_10, l_15, l_24, l_32, l_39, l_40, l_47, l_48, l_50, l_57, l_60, l_63, l_80, l_95, l_99, l_100, l_120, l_126, l_128, l_1000, l_9999, l_10000, L_0, L_1, L_2, L_3, L_4, L_5, L_7, L_9, L_15, L_40, L_50, L_99, L_127, L_9999, c_ltT, c_ltF, c_leT, c_leF, c_eqT, c_eqF, n_leF, n_ltF, c_gltT, c_gltF, c_ggtT, c_ggtF, false_or, or_false, or_self, true_or, or_true]
    · have hr : rsF o (r + 1) = some r := if_neg c
      refine Or.inr ⟨r, hr, h1, ?_⟩
      simp (disch := omega) only [nI_ms, g1, g3, ↓lt_d, eq_self, lN_add, i_l, wTn, wFa, wFb, wCT, wCF, mNe, mNe2, mLt, mLe, bp_s, bn_s, n_clampS, nI_1, nI_add, pk_sub, nI_mul, wrI_at, wrI_2, wrL_at, wrL_1, true_and, false_and, and_true, and_false, and_self, ↓reduceIte, Nat.reduceEqDiff, Nat.reduceAdd, Nat.reduceMul, Nat.add_zero, Nat.zero_add, reduceCtorEq, l_0, l_1, l_2, l_3, l_4, l_5, l_6, l_7, l_8, l_9, l_10, l_15, l_24, l_32, l_39, l_40, l_47, l_48, l_50, l_57, l_60, l_63, l_80, l_95, l_99, l_100, l_120, l_126, l_128, l_1000, l_9999, l_10000, L_0, L_1, L_2, L_3, L_4, L_5, L_7, L_9, L_15, L_40, L_50, L_99, L_127, L_9999, c_ltT, c_ltF, c_leT, c_leF, c_eqT, c_eqF, n_leF, n_ltF, c_gltT, c_gltF, c_ggtT, c_ggtF, false_or, or_false, or_self, true_or, or_true]
theorem m2_l : ∀ m, m < 6 → 1 ≤ m → nI m - nI 2 = nI (m - 1) + -nI 1 := by decide
theorem nextC {n m : Nat} {o : Nat → Nat} {C : Mm} (hn : 1000 ≤ n) (hm1 : 1 ≤ m) (hm : m ≤ 5) (h : Cel m o C) : (nx o m = none ∧ fX10_nextOrder n (nI m) C = some (nI 0, C)) ∨ ∃ o' C', nx o m = some o' ∧ fX10_nextOrder n (nI m) C = some (nI 1, C') ∧ Cel m o' C' ∧ ∀ q z, q ≠ 50 → C'.1 q z = C.1 q z := by
  have e0 := m2_l m (by omega) hm1
  unfold nx
  rcases rise_c (n := n) hm h (m - 1) n (by omega) (by omega) with ⟨e1, e2⟩ | ⟨r, e1, e2, e3⟩
  · refine Or.inl ⟨by rw [e1], ?_⟩
    unfold fX10_nextOrder
    rw [l_2, e0, lt_d]
    exact e2
  · obtain ⟨u1, u2, u3⟩ := next_c (n := n) (r := r) hm h (m - 1) n (by omega) (by omega) (by omega)
    obtain ⟨C1, s1, s2, s3⟩ := swap_c hm (show r < m by omega) (show ntF o r (m - 1) < m by omega) h
    obtain ⟨C2, v1, v2, v3⟩ := rev_c (n := n) hm 5 n (sw o r (ntF o r (m - 1))) (r + 1) (m - 1) C1 (by omega) (by omega) (by omega) (by omega) s2
    refine Or.inr ⟨_, C2, by rw [e1], ?_, v2, fun q z hq => by rw [v3 q z hq, s3 q z hq]⟩
    have hp : nI m - nI 1 = nI (m - 1) := pk_sub hm1
    rw [hp, u1] at e3
    unfold fX10_nextOrder
    rw [l_2, e0, lt_d, e3]
    unfold fX10_nextOrder_b69
    simp (disch := omega) only [s1, ↓lt_d, eq_self, lN_add, i_l, wTn, wFa, wFb, wCT, wCF, mNe, mNe2, mLt, mLe, bp_s, bn_s, n_clampS, nI_1, nI_add, pk_sub, nI_mul, wrI_at, wrI_2, wrL_at, wrL_1, true_and, false_and, and_true, and_false, and_self, ↓reduceIte, Nat.reduceEqDiff, Nat.reduceAdd, Nat.reduceMul, Nat.add_zero, Nat.zero_add, reduceCtorEq, l_0, l_1, l_2, l_3, l_4, l_5, l_6, l_7, l_8, l_9, l_10, l_15, l_24, l_32, l_39, l_40, l_47, l_48, l_50, l_57, l_60, l_63, l_80, l_95, l_99, l_100, l_120, l_126, l_128, l_1000, l_9999, l_10000, L_0, L_1, L_2, L_3, L_4, L_5, L_7, L_9, L_15, L_40, L_50, L_99, L_127, L_9999, c_ltT, c_ltF, c_leT, c_leF, c_eqT, c_eqF, n_leF, n_ltF, c_gltT, c_gltF, c_ggtT, c_ggtF, false_or, or_false, or_self, true_or, or_true]
    exact v1
def nxL (l : List Nat) (m : Nat) : Option (List Nat) :=
  match nx (fl l) m with
  | none => none
  | some o => some ((List.range m).map o)
def chk (m : Nat) : List (List Nat) → Bool
  | [] => true
  | [l] => (nxL l m).isNone
  | l :: l' :: rest => (nxL l m == some l') && chk m (l' :: rest)
def dgo (o : Nat → Nat) : Nat → Nat → Nat → Nat
  | 0, _, acc => acc
  | d + 1, i, acc => dgo o d (i + 1) (acc * 10 + o i + 1)
def goodL (m : Nat) (L : List (List Nat)) : Bool := L.all (fun l => (List.range m).all (fun k => decide (fl l k < m)))
def LP1 : List (List Nat) := [[0]]
def LP2 : List (List Nat) := [[0, 1], [1, 0]]
def LP3 : List (List Nat) := [[0, 1, 2], [0, 2, 1], [1, 0, 2], [1, 2, 0], [2, 0, 1], [2, 1, 0]]
def LP4 : List (List Nat) := [[0, 1, 2, 3], [0, 1, 3, 2], [0, 2, 1, 3], [0, 2, 3, 1], [0, 3, 1, 2], [0, 3, 2, 1], [1, 0, 2, 3], [1, 0, 3, 2], [1, 2, 0, 3], [1, 2, 3, 0], [1, 3, 0, 2], [1, 3, 2, 0], [2, 0, 1, 3], [2, 0, 3, 1], [2, 1, 0, 3], [2, 1, 3, 0], [2, 3, 0, 1], [2, 3, 1, 0], [3, 0, 1, 2], [3, 0, 2, 1], [3, 1, 0, 2], [3, 1, 2, 0], [3, 2, 0, 1], [3, 2, 1, 0]]
def LP5 : List (List Nat) := [[0, 1, 2, 3, 4], [0, 1, 2, 4, 3], [0, 1, 3, 2, 4], [0, 1, 3, 4, 2], [0, 1, 4, 2, 3], [0, 1, 4, 3, 2], [0, 2, 1, 3, 4], [0, 2, 1, 4, 3], [0, 2, 3, 1, 4], [0, 2, 3, 4, 1], [0, 2, 4, 1, 3], [0, 2, 4, 3, 1], [0, 3, 1, 2, 4], [0, 3, 1, 4, 2], [0, 3, 2, 1, 4], [0, 3, 2, 4, 1], [0, 3, 4, 1, 2], [0, 3, 4, 2, 1], [0, 4, 1, 2, 3], [0, 4, 1, 3, 2], [0, 4, 2, 1, 3], [0, 4, 2, 3, 1], [0, 4, 3, 1, 2], [0, 4, 3, 2, 1], [1, 0, 2, 3, 4], [1, 0, 2, 4, 3], [1, 0, 3, 2, 4], [1, 0, 3, 4, 2], [1, 0, 4, 2, 3], [1, 0, 4, 3, 2], [1, 2, 0, 3, 4], [1, 2, 0, 4, 3], [1, 2, 3, 0, 4], [1, 2, 3, 4, 0], [1, 2, 4, 0, 3], [1, 2, 4, 3, 0], [1, 3, 0, 2, 4], [1, 3, 0, 4, 2], [1, 3, 2, 0, 4], [1, 3, 2, 4, 0], [1, 3, 4, 0, 2], [1, 3, 4, 2, 0], [1, 4, 0, 2, 3], [1, 4, 0, 3, 2], [1, 4, 2, 0, 3], [1, 4, 2, 3, 0], [1, 4, 3, 0, 2], [1, 4, 3, 2, 0], [2, 0, 1, 3, 4], [2, 0, 1, 4, 3], [2, 0, 3, 1, 4], [2, 0, 3, 4, 1], [2, 0, 4, 1, 3], [2, 0, 4, 3, 1], [2, 1, 0, 3, 4], [2, 1, 0, 4, 3], [2, 1, 3, 0, 4], [2, 1, 3, 4, 0], [2, 1, 4, 0, 3], [2, 1, 4, 3, 0], [2, 3, 0, 1, 4], [2, 3, 0, 4, 1], [2, 3, 1, 0, 4], [2, 3, 1, 4, 0], [2, 3, 4, 0, 1], [2, 3, 4, 1, 0], [2, 4, 0, 1, 3], [2, 4, 0, 3, 1], [2, 4, 1, 0, 3], [2, 4, 1, 3, 0], [2, 4, 3, 0, 1], [2, 4, 3, 1, 0], [3, 0, 1, 2, 4], [3, 0, 1, 4, 2], [3, 0, 2, 1, 4], [3, 0, 2, 4, 1], [3, 0, 4, 1, 2], [3, 0, 4, 2, 1], [3, 1, 0, 2, 4], [3, 1, 0, 4, 2], [3, 1, 2, 0, 4], [3, 1, 2, 4, 0], [3, 1, 4, 0, 2], [3, 1, 4, 2, 0], [3, 2, 0, 1, 4], [3, 2, 0, 4, 1], [3, 2, 1, 0, 4], [3, 2, 1, 4, 0], [3, 2, 4, 0, 1], [3, 2, 4, 1, 0], [3, 4, 0, 1, 2], [3, 4, 0, 2, 1], [3, 4, 1, 0, 2], [3, 4, 1, 2, 0], [3, 4, 2, 0, 1], [3, 4, 2, 1, 0], [4, 0, 1, 2, 3], [4, 0, 1, 3, 2], [4, 0, 2, 1, 3], [4, 0, 2, 3, 1], [4, 0, 3, 1, 2], [4, 0, 3, 2, 1], [4, 1, 0, 2, 3], [4, 1, 0, 3, 2], [4, 1, 2, 0, 3], [4, 1, 2, 3, 0], [4, 1, 3, 0, 2], [4, 1, 3, 2, 0], [4, 2, 0, 1, 3], [4, 2, 0, 3, 1], [4, 2, 1, 0, 3], [4, 2, 1, 3, 0], [4, 2, 3, 0, 1], [4, 2, 3, 1, 0], [4, 3, 0, 1, 2], [4, 3, 0, 2, 1], [4, 3, 1, 0, 2], [4, 3, 1, 2, 0], [4, 3, 2, 0, 1], [4, 3, 2, 1, 0]]
theorem LP_1 : chk 1 LP1 = true ∧ goodL 1 LP1 = true ∧ en 1 1 [] 0 0 = LP1.map (fun l => (l, dgo (fl l) 1 0 0)) := by decide +kernel
theorem LP_2 : chk 2 LP2 = true ∧ goodL 2 LP2 = true ∧ en 2 2 [] 0 0 = LP2.map (fun l => (l, dgo (fl l) 2 0 0)) := by decide +kernel
theorem LP_3 : chk 3 LP3 = true ∧ goodL 3 LP3 = true ∧ en 3 3 [] 0 0 = LP3.map (fun l => (l, dgo (fl l) 3 0 0)) := by decide +kernel
theorem LP_4 : chk 4 LP4 = true ∧ goodL 4 LP4 = true ∧ en 4 4 [] 0 0 = LP4.map (fun l => (l, dgo (fl l) 4 0 0)) := by decide +kernel
theorem LP_5 : chk 5 LP5 = true ∧ goodL 5 LP5 = true ∧ en 5 5 [] 0 0 = LP5.map (fun l => (l, dgo (fl l) 5 0 0)) := by decide +kernel
theorem fl_map {m i : Nat} {o : Nat → Nat} (h : i < m) : fl ((List.range m).map o) i = o i := by
  unfold fl
  rw [List.getD_eq_getElem?_getD, List.getElem?_map, List.getElem?_range h]
  rfl
theorem digits_o {n m : Nat} {o : Nat → Nat} {C : Mm} (hm : m ≤ 5) (h : Cel m o C) : ∀ d i fu acc, m - i = d → i ≤ m → d < fu → fX10_orderAsDigits_h4 n fu (nI m) (nI acc) (nI i) C = some (nI (dgo o d i acc)) := by
  intro d
  induction d with
  | zero =>
    intro i fu acc hd hi hf
    obtain ⟨fu, rfl⟩ : ∃ f, fu = f + 1 := ⟨fu - 1, by omega⟩
    rw [fX10_orderAsDigits_h4.eq_2]
    simp (disch := omega) only [↓lt_d, eq_self, lN_add, i_l, wTn, wFa, wFb, wCT, wCF, mNe, mNe2, mLt, mLe, bp_s, bn_s, n_clampS, nI_1, nI_add, pk_sub, nI_mul, wrI_at, wrI_2, wrL_at, wrL_1, true_and, false_and, and_true, and_false, and_self, ↓reduceIte, Nat.reduceEqDiff, Nat.reduceAdd, Nat.reduceMul, Nat.add_zero, Nat.zero_add, reduceCtorEq, l_0, l_1, l_2, l_3, l_4, l_5, l_6, l_7, l_8, l_9, l_10, l_15, l_24, l_32, l_39, l_40, l_47, l_48, l_50, l_57, l_60, l_63, l_80, l_95, l_99, l_100, l_120, l_126, l_128, l_1000, l_9999, l_10000, L_0, L_1, L_2, L_3, L_4, L_5, L_7, L_9, L_15, L_40, L_50, L_99, L_127, L_9999, c_ltT, c_ltF, c_leT, c_leF, c_eqT, c_eqF, n_leF, n_ltF, c_gltT, c_gltF, c_ggtT, c_ggtF, false_or, or_false, or_self, true_or, or_true]
    rfl
  | succ d ih =>
    intro i fu acc hd hi hf
    obtain ⟨fu, rfl⟩ : ∃ f, fu = f + 1 := ⟨fu - 1, by omega⟩
    obtain ⟨h1, -⟩ := h i (by omega)
    have e := ih (i + 1) fu (acc * 10 + o i + 1) (by omega) (by omega) (by omega)
    rw [fX10_orderAsDigits_h4.eq_2]
    simp (disch := omega) only [h1, ↓lt_d, eq_self, lN_add, i_l, wTn, wFa, wFb, wCT, wCF, mNe, mNe2, mLt, mLe, bp_s, bn_s, n_clampS, nI_1, nI_add, pk_sub, nI_mul, wrI_at, wrI_2, wrL_at, wrL_1, true_and, false_and, and_true, and_false, and_self, ↓reduceIte, Nat.reduceEqDiff, Nat.reduceAdd, Nat.reduceMul, Nat.add_zero, Nat.zero_add, reduceCtorEq, l_0, l_1, l_2, l_3, l_4, l_5, l_6, l_7, l_8, l_9, l_10, l_15, l_24, l_32, l_39, l_40, l_47, l_48, l_50, l_57, l_60, l_63, l_80, l_95, l_99, l_100, l_120, l_126, l_128, l_1000, l_9999, l_10000, L_0, L_1, L_2, L_3, L_4, L_5, L_7, L_9, L_15, L_40, L_50, L_99, L_127, L_9999, c_ltT, c_ltF, c_leT, c_leF, c_eqT, c_eqF, n_leF, n_ltF, c_gltT, c_gltF, c_ggtT, c_ggtF, false_or, or_false, or_self, true_or, or_true]
    exact e
theorem ordDig_l {n m : Nat} {o : Nat → Nat} {C : Mm} (hn : 1000 ≤ n) (hm : m ≤ 5) (h : Cel m o C) : fX10_orderAsDigits n (nI m) C = some (nI (dgo o m 0 0)) := digits_o hm h m 0 n 0 (by omega) (by omega) (by omega)
