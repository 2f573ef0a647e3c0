/-! FIRST order: both alike -/
theorem first_h {n t j tb cp m wh : Nat} (hn : 1000 ≤ n) (ht : t ≤ 200000) (hm1 : 1 ≤ m) (hm : m ≤ 5) (hwh : wh ≤ 1) {T v a b SF SL : Nat → Nat} {R0 : Mm} {P0 : TB} (hP : Bd t P0) (hv : Vs m v a b) (hF : ∀ o, FF (fun p => asP (a p) (b p)) SF SL P0 m o < 2 ^ 31) : ∀ (rest : List (List Nat)) l i fu dg ls C, chk m (l :: rest) = true → goodL m (l :: rest) = true → i + rest.length < 120 → rest.length < fu → Bh j tb cp T P0 C R0 → OC m v SF SL (fl l) C → ls < 2 ^ 31 → ∃ C' s d, fX10_first_h79 n fu (nI j) (nI wh) (nI m) (nI dg) (nI ls) (nI i) C = some ((if wh = 0 then nI d else nI s), C') ∧ some (s, d) = fol (FF (fun p => asP (a p) (b p)) SF SL P0 m) (some (ls, dg)) (rest.map (fun l => (l, dgo (fl l) m 0 0))) := by
  intro rest
  induction rest with
  | nil =>
    intro l i fu dg ls C hc hg hi hf h hO hls
    have hi : i < 120 := hi
    obtain ⟨fu, rfl⟩ : ∃ f, fu = f + 1 := ⟨fu - 1, by omega⟩
    have hj := h.1.2.1
    have hcel : Cel m (fl l) C := fun p hp => ⟨(hO p hp).2.2.2.1, (hO p hp).2.2.2.2⟩
    have hnone : nx (fl l) m = none := by
      have h1 : (nxL l m).isNone = true := hc
      unfold nxL at h1
      cases hx : nx (fl l) m with
      | none => rfl
      | some o =>
        rw [hx] at h1
        cases h1
    rcases nextC (n := n) hn hm1 hm hcel with ⟨e1, e2⟩ | ⟨o', C', e1, -⟩
    · refine ⟨C, ls, dg, ?_, rfl⟩
      rw [fX10_first_h79.eq_2]
      unfold fX10_first_b131
      rcases (show wh = 0 ∨ wh = 1 by omega) with rfl | rfl
      · rw [if_pos rfl]
        simp (disch := omega) only [e2, ↓lt_d, eq_self, lN_add, i_l, wTn, wFa, wFb, wCT, wCF, mNe, mNe2, mLt, mLe, bp_s, bn_s, n_clampS, nI_1, nI_add, pk_sub, nI_mul, wrI_at, wrI_2, wrL_at, wrL_1, true_and, false_and, and_true, and_false, and_self, ↓reduceIte, Nat.reduceEqDiff, Nat.reduceAdd, Nat.reduceMul, Nat.add_zero, Nat.zero_add, reduceCtorEq, l_0, l_1, l_2, l_3, l_4, l_5, l_6, l_7, l_8, l_9, l_10, l_15, l_24, l_32, l_39, l_40, l_47, l_48, l_50, l_57, l_60, l_63, l_80, l_95, l_99, l_100, l_120, l_126, l_128, l_1000, l_9999, l_10000, L_0, L_1, L_2, L_3, L_4, L_5, L_7, L_9, L_15, L_40, L_50, L_99, L_127, L_9999, c_ltT, c_ltF, c_leT, c_leF, c_eqT, c_eqF, n_leF, n_ltF, c_gltT, c_gltF, c_ggtT, c_ggtF, false_or, or_false, or_self, true_or, or_true]
      · rw [if_neg (show ¬ (1 : Nat) = 0 by decide)]
        simp (disch := omega) only [e2, ↓lt_d, eq_self, lN_add, i_l, wTn, wFa, wFb, wCT, wCF, mNe, mNe2, mLt, mLe, bp_s, bn_s, n_clampS, nI_1, nI_add, pk_sub, nI_mul, wrI_at, wrI_2, wrL_at, wrL_1, true_and, false_and, and_true, and_false, and_self, ↓reduceIte, Nat.reduceEqDiff, Nat.reduceAdd, Nat.reduceMul, Nat.add_zero, Nat.zero_add, reduceCtorEq, l_0, l_1, l_2, l_3, l_4, l_5, l_6, l_7, l_8, l_9, l_10, l_15, l_24, l_32, l_39, l_40, l_47, l_48, l_50, l_57, l_60, l_63, l_80, l_95, l_99, l_100, l_120, l_126, l_128, l_1000, l_9999, l_10000, L_0, L_1, L_2, L_3, L_4, L_5, L_7, L_9, L_15, L_40, L_50, L_99, L_127, L_9999, c_ltT, c_ltF, c_leT, c_leF, c_eqT, c_eqF, n_leF, n_ltF, c_gltT, c_gltF, c_ggtT, c_ggtF, false_or, or_false, or_self, true_or, or_true]
    · rw [hnone] at e1
      cases e1
  | cons l' rest ih =>
    intro l i fu dg ls C hc hg hi hf h hO hls
    have hi : i + (rest.length + 1) < 120 := hi
    have hf : rest.length + 1 < fu := hf
    obtain ⟨fu, rfl⟩ : ∃ f, fu = f + 1 := ⟨fu - 1, by omega⟩
    have hj := h.1.2.1
    have hcel : Cel m (fl l) C := fun p hp => ⟨(hO p hp).2.2.2.1, (hO p hp).2.2.2.2⟩
    have hc2 : ((nxL l m == some l') && chk m (l' :: rest)) = true := hc
    rw [Bool.and_eq_true] at hc2
    obtain ⟨hc3, hc4⟩ := hc2
    have hnx : nxL l m = some l' := by simpa only [beq_iff_eq] using hc3
    have hg2 : ((List.range m).all (fun k => decide (fl l k < m)) && goodL m (l' :: rest)) = true := hg
    rw [Bool.and_eq_true] at hg2
    have hg3 := hg2.2
    rcases nextC (n := n) hn hm1 hm hcel with ⟨e1, -⟩ | ⟨o', C6, e1, e2, e3, e4⟩
    · unfold nxL at hnx
      rw [e1] at hnx
      cases hnx
    · have hl' : l' = (List.range m).map o' := by
        unfold nxL at hnx
        rw [e1] at hnx
        exact (Option.some.inj hnx).symm
      have hfl : ∀ p, p < m → fl l' p = o' p := fun p hp => by rw [hl']; exact fl_map hp
      have hO6 : OC m v SF SL (fl l') C6 := by
        intro p hp
        obtain ⟨o1, o2, o3, -⟩ := hO p hp
        obtain ⟨c1, c2⟩ := e3 p hp
        rw [e4 47 p (by omega), e4 48 p (by omega), e4 49 p (by omega), hfl p hp]
        exact ⟨o1, o2, o3, c1, c2⟩
      have hB6 : Bh j tb cp T P0 C6 R0 := Bh_fr h (fun q z hq => e4 q z (by unfold fFst at hq; omega))
      obtain ⟨C13, s1, s2⟩ := secO (n := n) (t := t) hn ht hm hv hB6 hP hO6
      have hO13 : OC m v SF SL (fl l') C13 := OC_fr hO6 (fun q z hq => s2 q z (by omega))
      have hB13 : Bh j tb cp T P0 C13 R0 := Bh_fr hB6 (fun q z hq => s2 q z (by unfold fFst at hq; omega))
      have hcel13 : Cel m (fl l') C13 := fun p hp => ⟨(hO13 p hp).2.2.2.1, (hO13 p hp).2.2.2.2⟩
      have hdig := ordDig_l (n := n) hn hm hcel13
      have hF' := hF (fl l')
      have hfo : fol (FF (fun p => asP (a p) (b p)) SF SL P0 m) (some (ls, dg)) ((l' :: rest).map (fun l => (l, dgo (fl l) m 0 0))) = fol (FF (fun p => asP (a p) (b p)) SF SL P0 m) (if ls ≤ FF (fun p => asP (a p) (b p)) SF SL P0 m (fl l') then some (ls, dg) else some (FF (fun p => asP (a p) (b p)) SF SL P0 m (fl l'), dgo (fl l') m 0 0)) (rest.map (fun l => (l, dgo (fl l) m 0 0))) := rfl
      rw [hfo]
      generalize FF (fun p => asP (a p) (b p)) SF SL P0 m (fl l') = s at *
      by_cases hle : ls ≤ s
      · rw [if_pos hle]
        obtain ⟨C', s', d', u1, u2⟩ := ih l' (i + 1) fu dg ls C13 hc4 hg3 (by omega) (by omega) hB13 hO13 hls
        refine ⟨C', s', d', ?_, u2⟩
        rw [fX10_first_h79.eq_2]
        unfold fX10_first_b125
        simp (disch := omega) only [e2, s1, ↓lt_d, eq_self, lN_add, i_l, wTn, wFa, wFb, wCT, wCF, mNe, mNe2, mLt, mLe, bp_s, bn_s, n_clampS, nI_1, nI_add, pk_sub, nI_mul, wrI_at, wrI_2, wrL_at, wrL_1, true_and, false_and, and_true, and_false, and_self, ↓reduceIte, Nat.reduceEqDiff, Nat.reduceAdd, Nat.reduceMul, Nat.add_zero, Nat.zero_add, reduceCtorEq, l_0, l_1, l_2, l_3, l_4, l_5, l_6, l_7, l_8, l_9, l_10, l_15, l_24, l_32, l_39, l_40, l_47, l_48, l_50, l_57, l_60, l_63, l_80, l_95, l_99, l_100, l_120, l_126, l_128, l_1000, l_9999, l_10000, L_0, L_1, L_2, L_3, L_4, L_5, L_7, L_9, L_15, L_40, L_50, L_99, L_127, L_9999, c_ltT, c_ltF, c_leT, c_leF, c_eqT, c_eqF, n_leF, n_ltF, c_gltT, c_gltF, c_ggtT, c_ggtF, false_or, or_false, or_self, true_or, or_true]
        exact u1
      · rw [if_neg hle]
        obtain ⟨C', s', d', u1, u2⟩ := ih l' (i + 1) fu (dgo (fl l') m 0 0) s C13 hc4 hg3 (by omega) (by omega) hB13 hO13 hF'
        refine ⟨C', s', d', ?_, u2⟩
        rw [fX10_first_h79.eq_2]
        unfold fX10_first_b125
        simp (disch := omega) only [e2, s1, hdig, ↓lt_d, eq_self, lN_add, i_l, wTn, wFa, wFb, wCT, wCF, mNe, mNe2, mLt, mLe, bp_s, bn_s, n_clampS, nI_1, nI_add, pk_sub, nI_mul, wrI_at, wrI_2, wrL_at, wrL_1, true_and, false_and, and_true, and_false, and_self, ↓reduceIte, Nat.reduceEqDiff, Nat.reduceAdd, Nat.reduceMul, Nat.add_zero, Nat.zero_add, reduceCtorEq, l_0, l_1, l_2, l_3, l_4, l_5, l_6, l_7, l_8, l_9, l_10, l_15, l_24, l_32, l_39, l_40, l_47, l_48, l_50, l_57, l_60, l_63, l_80, l_95, l_99, l_100, l_120, l_126, l_128, l_1000, l_9999, l_10000, L_0, L_1, L_2, L_3, L_4, L_5, L_7, L_9, L_15, L_40, L_50, L_99, L_127, L_9999, c_ltT, c_ltF, c_leT, c_leF, c_eqT, c_eqF, n_leF, n_ltF, c_gltT, c_gltF, c_ggtT, c_ggtF, false_or, or_false, or_self, true_or, or_true]
        exact u1
theorem LP_all : ∀ m, 1 ≤ m → m ≤ 5 → ∃ l rest, chk m (l :: rest) = true ∧ goodL m (l :: rest) = true ∧ en m m [] 0 0 = (l :: rest).map (fun l => (l, dgo (fl l) m 0 0)) ∧ rest.length < 120 ∧ (∀ p, p < m → fl l p = p) := by
  intro m h1 h5
  rcases (show m = 1 ∨ m = 2 ∨ m = 3 ∨ m = 4 ∨ m = 5 by omega) with rfl | rfl | rfl | rfl | rfl
  · exact ⟨_, _, LP_1.1, LP_1.2.1, LP_1.2.2, by decide, by decide⟩
  · exact ⟨_, _, LP_2.1, LP_2.2.1, LP_2.2.2, by decide, by decide⟩
  · exact ⟨_, _, LP_3.1, LP_3.2.1, LP_3.2.2, by decide, by decide⟩
  · exact ⟨_, _, LP_4.1, LP_4.2.1, LP_4.2.2, by decide, by decide⟩
  · exact ⟨_, _, LP_5.1, LP_5.2.1, LP_5.2.2, by decide, by decide⟩
theorem op_first {t n : Nat} (hn : 1000 ≤ n) (ht : t ≤ 100000) {C R : Mm} (h : Inv t C R) (p x : Int32) : ∃ r C' R', fX10_first n p x C = some (r, C') ∧ fX11_first n p x R = some (r, R') ∧ Inv (t + 1) C' R' := by
  have h0 := h
  obtain ⟨k, nb, h⟩ := h
  have hIn : In k nb t C R := h
  obtain ⟨h1, h2, h3', h4, h5, h6, h7, h8, h9, h10⟩ := h
  have hk := h2.1
  have h6' := h6
  obtain ⟨m, m1, m2, m3, m4⟩ := h6
  have bad : ∀ e, fX10_first n p x C = some (e, C) → fX11_first n p x R = some (e, R) → ∃ r C' R', fX10_first n p x C = some (r, C') ∧ fX11_first n p x R = some (r, R') ∧ Inv (t + 1) C' R' := fun e a b => ⟨e, C, R, a, b, Inv_up (Nat.le_succ t) h0⟩
  rcases head_cases h2 p with ⟨j, hj, rfl, g1, g2⟩ | ⟨g1, g2⟩
  · rcases i_cases x with hx | ⟨u, hu, rfl⟩
    · have hx0 : (x < nI 0) = True := eq_true hx
      have hwi := wFn (x := x) (lo := 0) (z := lN 1) hx (by omega)
      refine bad (-1) ?_ ?_
      · unfold fX10_first
        simp (disch := omega) only [g1, hx0, ↓lt_d, eq_self, lN_add, i_l, wTn, wFa, wFb, wCT, wCF, mNe, mNe2, mLt, mLe, bp_s, bn_s, n_clampS, nI_1, nI_add, pk_sub, nI_mul, wrI_at, wrI_2, wrL_at, wrL_1, true_and, false_and, and_true, and_false, and_self, ↓reduceIte, Nat.reduceEqDiff, Nat.reduceAdd, Nat.reduceMul, Nat.add_zero, Nat.zero_add, reduceCtorEq, l_0, l_1, l_2, l_3, l_4, l_5, l_6, l_7, l_8, l_9, l_10, l_15, l_24, l_32, l_39, l_40, l_47, l_48, l_50, l_57, l_60, l_63, l_80, l_95, l_99, l_100, l_120, l_126, l_128, l_1000, l_9999, l_10000, L_0, L_1, L_2, L_3, L_4, L_5, L_7, L_9, L_15, L_40, L_50, L_99, L_127, L_9999, c_ltT, c_ltF, c_leT, c_leF, c_eqT, c_eqF, n_leF, n_ltF, c_gltT, c_gltF, c_ggtT, c_ggtF, false_or, or_false, or_self, true_or, or_true]
      · unfold fX11_first
        simp (disch := omega) only [g2, hwi, ↓lt_d, eq_self, lN_add, i_l, wTn, wFa, wFb, wCT, wCF, mNe, mNe2, mLt, mLe, bp_s, bn_s, n_clampS, nI_1, nI_add, pk_sub, nI_mul, wrI_at, wrI_2, wrL_at, wrL_1, true_and, false_and, and_true, and_false, and_self, ↓reduceIte, Nat.reduceEqDiff, Nat.reduceAdd, Nat.reduceMul, Nat.add_zero, Nat.zero_add, reduceCtorEq, l_0, l_1, l_2, l_3, l_4, l_5, l_6, l_7, l_8, l_9, l_10, l_15, l_24, l_32, l_39, l_40, l_47, l_48, l_50, l_57, l_60, l_63, l_80, l_95, l_99, l_100, l_120, l_126, l_128, l_1000, l_9999, l_10000, L_0, L_1, L_2, L_3, L_4, L_5, L_7, L_9, L_15, L_40, L_50, L_99, L_127, L_9999, c_ltT, c_ltF, c_leT, c_leF, c_eqT, c_eqF, n_leF, n_ltF, c_gltT, c_gltF, c_ggtT, c_ggtF, false_or, or_false, or_self, true_or, or_true]
    · by_cases hu2 : 1 < u
      · refine bad (-1) ?_ ?_
        · unfold fX10_first
          simp (disch := omega) only [g1, ↓lt_d, eq_self, lN_add, i_l, wTn, wFa, wFb, wCT, wCF, mNe, mNe2, mLt, mLe, bp_s, bn_s, n_clampS, nI_1, nI_add, pk_sub, nI_mul, wrI_at, wrI_2, wrL_at, wrL_1, true_and, false_and, and_true, and_false, and_self, ↓reduceIte, Nat.reduceEqDiff, Nat.reduceAdd, Nat.reduceMul, Nat.add_zero, Nat.zero_add, reduceCtorEq, l_0, l_1, l_2, l_3, l_4, l_5, l_6, l_7, l_8, l_9, l_10, l_15, l_24, l_32, l_39, l_40, l_47, l_48, l_50, l_57, l_60, l_63, l_80, l_95, l_99, l_100, l_120, l_126, l_128, l_1000, l_9999, l_10000, L_0, L_1, L_2, L_3, L_4, L_5, L_7, L_9, L_15, L_40, L_50, L_99, L_127, L_9999, c_ltT, c_ltF, c_leT, c_leF, c_eqT, c_eqF, n_leF, n_ltF, c_gltT, c_gltF, c_ggtT, c_ggtF, false_or, or_false, or_self, true_or, or_true]
        · unfold fX11_first
          simp (disch := omega) only [g2, ↓lt_d, eq_self, lN_add, i_l, wTn, wFa, wFb, wCT, wCF, mNe, mNe2, mLt, mLe, bp_s, bn_s, n_clampS, nI_1, nI_add, pk_sub, nI_mul, wrI_at, wrI_2, wrL_at, wrL_1, true_and, false_and, and_true, and_false, and_self, ↓reduceIte, Nat.reduceEqDiff, Nat.reduceAdd, Nat.reduceMul, Nat.add_zero, Nat.zero_add, reduceCtorEq, l_0, l_1, l_2, l_3, l_4, l_5, l_6, l_7, l_8, l_9, l_10, l_15, l_24, l_32, l_39, l_40, l_47, l_48, l_50, l_57, l_60, l_63, l_80, l_95, l_99, l_100, l_120, l_126, l_128, l_1000, l_9999, l_10000, L_0, L_1, L_2, L_3, L_4, L_5, L_7, L_9, L_15, L_40, L_50, L_99, L_127, L_9999, c_ltT, c_ltF, c_leT, c_leF, c_eqT, c_eqF, n_leF, n_ltF, c_gltT, c_gltF, c_ggtT, c_ggtF, false_or, or_false, or_self, true_or, or_true]
      · have hls := list_h (n := n) m1 m2 m3 m4 m 0 n n rfl (by omega) (by omega) (by omega)
        rcases hls with ⟨q1, q2, q3⟩ | ⟨q1, q2⟩
        · by_cases hm0 : m = 0
          · subst hm0
            refine bad (-5) ?_ ?_
            · unfold fX10_first fX10_allToldCanBeTaught
              simp (disch := omega) only [g1, q1, m2, ↓lt_d, eq_self, lN_add, i_l, wTn, wFa, wFb, wCT, wCF, mNe, mNe2, mLt, mLe, bp_s, bn_s, n_clampS, nI_1, nI_add, pk_sub, nI_mul, wrI_at, wrI_2, wrL_at, wrL_1, true_and, false_and, and_true, and_false, and_self, ↓reduceIte, Nat.reduceEqDiff, Nat.reduceAdd, Nat.reduceMul, Nat.add_zero, Nat.zero_add, reduceCtorEq, l_0, l_1, l_2, l_3, l_4, l_5, l_6, l_7, l_8, l_9, l_10, l_15, l_24, l_32, l_39, l_40, l_47, l_48, l_50, l_57, l_60, l_63, l_80, l_95, l_99, l_100, l_120, l_126, l_128, l_1000, l_9999, l_10000, L_0, L_1, L_2, L_3, L_4, L_5, L_7, L_9, L_15, L_40, L_50, L_99, L_127, L_9999, c_ltT, c_ltF, c_leT, c_leF, c_eqT, c_eqF, n_leF, n_ltF, c_gltT, c_gltF, c_ggtT, c_ggtF, false_or, or_false, or_self, true_or, or_true]
            · unfold fX11_first fX11_isListBad
              simp (disch := omega) only [g2, q2, m3, ↓lt_d, eq_self, lN_add, i_l, wTn, wFa, wFb, wCT, wCF, mNe, mNe2, mLt, mLe, bp_s, bn_s, n_clampS, nI_1, nI_add, pk_sub, nI_mul, wrI_at, wrI_2, wrL_at, wrL_1, true_and, false_and, and_true, and_false, and_self, ↓reduceIte, Nat.reduceEqDiff, Nat.reduceAdd, Nat.reduceMul, Nat.add_zero, Nat.zero_add, reduceCtorEq, l_0, l_1, l_2, l_3, l_4, l_5, l_6, l_7, l_8, l_9, l_10, l_15, l_24, l_32, l_39, l_40, l_47, l_48, l_50, l_57, l_60, l_63, l_80, l_95, l_99, l_100, l_120, l_126, l_128, l_1000, l_9999, l_10000, L_0, L_1, L_2, L_3, L_4, L_5, L_7, L_9, L_15, L_40, L_50, L_99, L_127, L_9999, c_ltT, c_ltF, c_leT, c_leF, c_eqT, c_eqF, n_leF, n_ltF, c_gltT, c_gltF, c_ggtT, c_ggtF, false_or, or_false, or_self, true_or, or_true]
          · obtain ⟨Rk, k1, k2, k3, k4⟩ := keeps_l (n := n) hn (show j < 6 by omega) R
            obtain ⟨tb, cp, T, f1, f2, f3, f4, f5, f6⟩ := hd_of h2 h3' hj
            obtain ⟨P0, P1, P2, P3⟩ := table_of (show t < 2 ^ 30 by omega) h3' hj
            obtain ⟨m5, hm5, hm51, hm5m, hmin⟩ : ∃ m5, m5 ≤ 5 ∧ 1 ≤ m5 ∧ m5 ≤ m ∧ m5 = if 5 < m then 5 else m := ⟨if 5 < m then 5 else m, by split <;> omega, by split <;> omega, by split <;> omega, rfl⟩
            have fr0 : ∀ q i, ¬ (q = 95 ∨ (q = 72 ∧ (i = 40 ∨ i = 42))) → (wrI Rk 72 42 (-nI 1)).1 q i = R.1 q i := by
              intro q i hq
              rw [wrI_at, if_neg (by omega), k4.1 q i (by unfold fKee; omega)]
            have hRR : RepR j P0 (wrI Rk 72 42 (-nI 1)) := RepR_fr P3 (fun q i hq => fr0 q i (by omega))
            have hB : Bh j tb cp T P0 C (wrI Rk 72 42 (-nI 1)) := by
              obtain ⟨d1, d2, -, d4, d5, d6, d7, d8⟩ := f1
              refine ⟨⟨d1, d2, fun s hs => ⟨(d4 s hs).1, by rw [fr0 _ _ (by omega)]; exact (d4 s hs).2⟩, d5, d6, d7, d8⟩, f2, by rw [fr0 _ _ (by omega)]; exact f3, I_cho_fr h10 (fun _ _ _ => rfl) (fun q i hq => fr0 q i (by omega)), tbl_fr f6 (fun q i hq => fr0 q i (by omega)), I_told_fr h6' (fun _ _ _ => rfl) (fun q i hq => fr0 q i (by omega)), P2, P1.1⟩
            have hK : Kept j P0 (wrI Rk 72 42 (-nI 1)) := by
              refine ⟨by omega, P1.1, hRR, ?_, fun i hi => ?_⟩
              · rw [wrI_at, if_neg (by omega), k2]
                exact P3.1
              · rw [wrI_at, if_neg (by omega), wrI_at, if_neg (by omega), k3 i hi, k4.1 83 _ (by unfold fKee; omega)]
            have hvs : ∀ i, i < m → isAB (C.1 47 i).toNatClampNeg ((C.1 47 i).toNatClampNeg / 10000) ((C.1 47 i).toNatClampNeg % 10000) ∧ (C.1 47 i).toNatClampNeg / 10000 ≤ 99 ∧ (C.1 47 i).toNatClampNeg % 10000 ≤ 99 ∧ C.1 47 i = nI (C.1 47 i).toNatClampNeg ∧ R.1 94 i = nI (C.1 47 i).toNatClampNeg := by
              intro i hi
              obtain ⟨v, a, b, w1, w2, w3, w4, w5⟩ := q3 i (Nat.zero_le _) hi
              obtain ⟨v1, v2, v3⟩ := ab_div w1
              rw [w4, n_clampS v3, v1, v2]
              exact ⟨w1, w2, w3, rfl, w5⟩
            obtain ⟨v, a, b, hvab⟩ : ∃ v a b : Nat → Nat, ∀ i, i < m → isAB (v i) (a i) (b i) ∧ a i ≤ 99 ∧ b i ≤ 99 ∧ C.1 47 i = nI (v i) ∧ R.1 94 i = nI (v i) := ⟨fun i => (C.1 47 i).toNatClampNeg, fun i => (C.1 47 i).toNatClampNeg / 10000, fun i => (C.1 47 i).toNatClampNeg % 10000, hvs⟩
            have hVs : Vs m5 v a b := fun i hi => ⟨(hvab i (by omega)).1, (hvab i (by omega)).2.1, (hvab i (by omega)).2.2.1⟩
            obtain ⟨SF', SL', C33, z1, z2, z3⟩ := prep_h (n := n) (t := t) hn (by omega) hm5 hRR P1 hVs m5 0 n (fun _ => 0) (fun _ => 0) C (by omega) (by omega) (by omega) hB (fun i hi => (hvab i (by omega)).2.2.2.1) (fun i hi => by omega)
            obtain ⟨SF, SL, hSb, hz⟩ : ∃ SF SL : Nat → Nat, (∀ i, SF i ≤ 79200 ∧ SL i ≤ 79200) ∧ ∀ i, i < m5 → C33.1 48 i = nI (SF i) ∧ C33.1 49 i = nI (SL i) ∧ C33.1 50 i = nI i ∧ Sec n j (wrI Rk 72 42 (-nI 1)) P0 (v i) (asP (a i) (b i)) (SF i) (SL i) := by
              refine ⟨fun i => if i < m5 then SF' i else 0, fun i => if i < m5 then SL' i else 0, fun i => ?_, fun i hi => ?_⟩
              · by_cases hi : i < m5
                · show (if i < m5 then SF' i else 0) ≤ 79200 ∧ (if i < m5 then SL' i else 0) ≤ 79200
                  rw [if_pos hi, if_pos hi]
                  exact ⟨(z3 i hi).1, (z3 i hi).2.1⟩
                · show (if i < m5 then SF' i else 0) ≤ 79200 ∧ (if i < m5 then SL' i else 0) ≤ 79200
                  rw [if_neg hi, if_neg hi]
                  omega
              · show C33.1 48 i = nI (if i < m5 then SF' i else 0) ∧ C33.1 49 i = nI (if i < m5 then SL' i else 0) ∧ C33.1 50 i = nI i ∧ Sec n j (wrI Rk 72 42 (-nI 1)) P0 (v i) (asP (a i) (b i)) (if i < m5 then SF' i else 0) (if i < m5 then SL' i else 0)
                rw [if_pos hi, if_pos hi]
                exact (z3 i hi).2.2
            have hFb : ∀ o, FF (fun p => asP (a p) (b p)) SF SL P0 m5 o < 2 ^ 31 := by
              intro o
              have e1 := runG_F (fun p => asP (a p) (b p)) SF SL o m5 0 (P0, 0)
              have e2 := runG_le (fun p => asP (a p) (b p)) SF SL o hSb (3 * m5) (3 * 0) (P0, 0)
              rw [e1] at e2
              have e3 : 3 * m5 * 79200 ≤ 15 * 79200 := Nat.mul_le_mul_right _ (by omega)
              have e4 : ((P0, 0) : TB × Nat).2 = 0 := rfl
              unfold FF
              omega
            obtain ⟨l, rest, L1, L2, L3, L4, L5⟩ := LP_all m5 hm51 hm5
            have hB33 : Bh j tb cp T P0 C33 (wrI Rk 72 42 (-nI 1)) := Bh_fr hB z2
            have hO33 : OC m5 v SF SL (fl l) C33 := by
              intro i hi
              obtain ⟨y1, y2, y3, -⟩ := hz i hi
              rw [L5 i hi]
              refine ⟨?_, y1, y2, y3, hi⟩
              rw [z2 47 i (by unfold fFst fRck; omega)]
              exact (hvab i (by omega)).2.2.2.1
            have hcel33 : Cel m5 (fl l) C33 := fun i hi => ⟨(hO33 i hi).2.2.2.1, (hO33 i hi).2.2.2.2⟩
            have hdig := ordDig_l (n := n) hn hm5 hcel33
            obtain ⟨C41, s1, s2⟩ := secO (n := n) (t := t) hn (by omega) hm5 hVs hB33 P1 hO33
            obtain ⟨C', s, d, u1, u2⟩ := first_h (n := n) (t := t) (wh := u) hn (by omega) hm51 hm5 (by omega) P1 hVs hFb rest l 0 n (dgo (fl l) m5 0 0) (FF (fun p => asP (a p) (b p)) SF SL P0 m5 (fl l)) C41 L1 L2 (by omega) (by omega) (Bh_fr hB33 (fun q i hq => s2 q i (by unfold fFst at hq; omega))) (OC_fr hO33 (fun q i hq => s2 q i (by omega))) (hFb _)
            obtain ⟨R', r1, r2, r3, -⟩ := dfs_h (n := n) (t := t) hn (by omega) hm5 hK P1 hVs (fun i hi => (hz i hi).2.2.2) hSb (fun i hi => by rw [fr0 94 i (by omega)]; exact (hvab i (by omega)).2.2.2.2) m5 [] 0 0 none 12 (wrI Rk 72 42 (-nI 1)) (by show 0 + m5 = m5; omega) (by omega) (fun i hi => absurd hi (by show ¬ i < 0; omega)) (by omega) ⟨hRR, fun _ _ => rfl, ag_rf⟩ (Or.inl ⟨rfl, by simp (disch := omega) only [↓lt_d, eq_self, lN_add, i_l, wTn, wFa, wFb, wCT, wCF, mNe, mNe2, mLt, mLe, bp_s, bn_s, n_clampS, nI_1, nI_add, pk_sub, nI_mul, wrI_at, wrI_2, wrL_at, wrL_1, true_and, false_and, and_true, and_false, and_self, ↓reduceIte, Nat.reduceEqDiff, Nat.reduceAdd, Nat.reduceMul, Nat.add_zero, Nat.zero_add, reduceCtorEq, l_0, l_1, l_2, l_3, l_4, l_5, l_6, l_7, l_8, l_9, l_10, l_15, l_24, l_32, l_39, l_40, l_47, l_48, l_50, l_57, l_60, l_63, l_80, l_95, l_99, l_100, l_120, l_126, l_128, l_1000, l_9999, l_10000, L_0, L_1, L_2, L_3, L_4, L_5, L_7, L_9, L_15, L_40, L_50, L_99, L_127, L_9999, c_ltT, c_ltF, c_leT, c_leF, c_eqT, c_eqF, n_leF, n_ltF, c_gltT, c_gltF, c_ggtT, c_ggtF, false_or, or_false, or_self, true_or, or_true]⟩) (fun i hi => absurd hi (by show ¬ i < 0; omega))
            have hfol : fol (FF (fun p => asP (a p) (b p)) SF SL P0 m5) none (en m5 m5 [] 0 0) = some (s, d) := by
              rw [L3, u2]
              rfl
            rw [hfol] at r3
            have hbest : R'.1 72 42 = nI s ∧ R'.1 72 43 = nI d := by
              rcases r3 with ⟨y, -⟩ | ⟨s', d', y1, y2, y3, y4⟩
              · cases y
              · have hh := Option.some.inj y1
                have hs : s = s' := congrArg Prod.fst hh
                have hd : d = d' := congrArg Prod.snd hh
                rw [hs, hd]
                exact ⟨y3, y4⟩
            have r1' : fX11_ordersFrom n 12 (nI j) (nI m5) (nI 0) (nI 0) (nI 0) (wrI Rk 72 42 (-nI 1)) = some R' := r1
            have him : imin (nI m) (nI 5) = nI m5 := by
              rw [imin_l (by omega) (by omega), hmin]
            have ec : fX10_first n (nI j) (nI u) C = some ((if u = 0 then nI d else nI s), C') := by
              unfold fX10_first fX10_allToldCanBeTaught fX10_prepareOrders
              simp (disch := omega) only [g1, q1, m2, ↓him, z1, hdig, s1, ↓lt_d, eq_self, lN_add, i_l, wTn, wFa, wFb, wCT, wCF, mNe, mNe2, mLt, mLe, bp_s, bn_s, n_clampS, nI_1, nI_add, pk_sub, nI_mul, wrI_at, wrI_2, wrL_at, wrL_1, true_and, false_and, and_true, and_false, and_self, ↓reduceIte, Nat.reduceEqDiff, Nat.reduceAdd, Nat.reduceMul, Nat.add_zero, Nat.zero_add, reduceCtorEq, l_0, l_1, l_2, l_3, l_4, l_5, l_6, l_7, l_8, l_9, l_10, l_15, l_24, l_32, l_39, l_40, l_47, l_48, l_50, l_57, l_60, l_63, l_80, l_95, l_99, l_100, l_120, l_126, l_128, l_1000, l_9999, l_10000, L_0, L_1, L_2, L_3, L_4, L_5, L_7, L_9, L_15, L_40, L_50, L_99, L_127, L_9999, c_ltT, c_ltF, c_leT, c_leF, c_eqT, c_eqF, n_leF, n_ltF, c_gltT, c_gltF, c_ggtT, c_ggtF, false_or, or_false, or_self, true_or, or_true]
              exact u1
            have er : fX11_first n (nI j) (nI u) R = some ((if u = 0 then nI d else nI s), R') := by
              have k37 : Rk.1 72 37 = nI m := by rw [k4.1 _ _ (by unfold fKee; omega)]; exact m3
              unfold fX11_first fX11_isListBad fX11_first_b65
              obtain ⟨b1, b2⟩ := hbest
              by_cases h5m : 5 ≤ m
              · have h55 : m5 = 5 := by rw [hmin]; split <;> omega
                rw [h55] at r1'
                rcases (show u = 0 ∨ u = 1 by omega) with rfl | rfl
                · rw [if_pos rfl]
                  simp (disch := omega) only [g2, q2, m3, k1, k37, r1', b1, b2, ↓lt_d, eq_self, lN_add, i_l, wTn, wFa, wFb, wCT, wCF, mNe, mNe2, mLt, mLe, bp_s, bn_s, n_clampS, nI_1, nI_add, pk_sub, nI_mul, wrI_at, wrI_2, wrL_at, wrL_1, true_and, false_and, and_true, and_false, and_self, ↓reduceIte, Nat.reduceEqDiff, Nat.reduceAdd, Nat.reduceMul, Nat.add_zero, Nat.zero_add, reduceCtorEq, l_0, l_1, l_2, l_3, l_4, l_5, l_6, l_7, l_8, l_9, l_10, l_15, l_24, l_32, l_39, l_40, l_47, l_48, l_50, l_57, l_60, l_63, l_80, l_95, l_99, l_100, l_120, l_126, l_128, l_1000, l_9999, l_10000, L_0, L_1, L_2, L_3, L_4, L_5, L_7, L_9, L_15, L_40, L_50, L_99, L_127, L_9999, c_ltT, c_ltF, c_leT, c_leF, c_eqT, c_eqF, n_leF, n_ltF, c_gltT, c_gltF, c_ggtT, c_ggtF, false_or, or_false, or_self, true_or, or_true]
                · rw [if_neg (show ¬ (1 : Nat) = 0 by decide)]
                  simp (disch := omega) only [g2, q2, m3, k1, k37, r1', b1, b2, ↓lt_d, eq_self, lN_add, i_l, wTn, wFa, wFb, wCT, wCF, mNe, mNe2, mLt, mLe, bp_s, bn_s, n_clampS, nI_1, nI_add, pk_sub, nI_mul, wrI_at, wrI_2, wrL_at, wrL_1, true_and, false_and, and_true, and_false, and_self, ↓reduceIte, Nat.reduceEqDiff, Nat.reduceAdd, Nat.reduceMul, Nat.add_zero, Nat.zero_add, reduceCtorEq, l_0, l_1, l_2, l_3, l_4, l_5, l_6, l_7, l_8, l_9, l_10, l_15, l_24, l_32, l_39, l_40, l_47, l_48, l_50, l_57, l_60, l_63, l_80, l_95, l_99, l_100, l_120, l_126, l_128, l_1000, l_9999, l_10000, L_0, L_1, L_2, L_3, L_4, L_5, L_7, L_9, L_15, L_40, L_50, L_99, L_127, L_9999, c_ltT, c_ltF, c_leT, c_leF, c_eqT, c_eqF, n_leF, n_ltF, c_gltT, c_gltF, c_ggtT, c_ggtF, false_or, or_false, or_self, true_or, or_true]
              · have h55 : m5 = m := by rw [hmin]; split <;> omega
                rw [h55] at r1'
                rcases (show u = 0 ∨ u = 1 by omega) with rfl | rfl
                · rw [if_pos rfl]
                  simp (disch := omega) only [g2, q2, m3, k1, k37, r1', b1, b2, ↓lt_d, eq_self, lN_add, i_l, wTn, wFa, wFb, wCT, wCF, mNe, mNe2, mLt, mLe, bp_s, bn_s, n_clampS, nI_1, nI_add, pk_sub, nI_mul, wrI_at, wrI_2, wrL_at, wrL_1, true_and, false_and, and_true, and_false, and_self, ↓reduceIte, Nat.reduceEqDiff, Nat.reduceAdd, Nat.reduceMul, Nat.add_zero, Nat.zero_add, reduceCtorEq, l_0, l_1, l_2, l_3, l_4, l_5, l_6, l_7, l_8, l_9, l_10, l_15, l_24, l_32, l_39, l_40, l_47, l_48, l_50, l_57, l_60, l_63, l_80, l_95, l_99, l_100, l_120, l_126, l_128, l_1000, l_9999, l_10000, L_0, L_1, L_2, L_3, L_4, L_5, L_7, L_9, L_15, L_40, L_50, L_99, L_127, L_9999, c_ltT, c_ltF, c_leT, c_leF, c_eqT, c_eqF, n_leF, n_ltF, c_gltT, c_gltF, c_ggtT, c_ggtF, false_or, or_false, or_self, true_or, or_true]
                · rw [if_neg (show ¬ (1 : Nat) = 0 by decide)]
                  simp (disch := omega) only [g2, q2, m3, k1, k37, r1', b1, b2, ↓lt_d, eq_self, lN_add, i_l, wTn, wFa, wFb, wCT, wCF, mNe, mNe2, mLt, mLe, bp_s, bn_s, n_clampS, nI_1, nI_add, pk_sub, nI_mul, wrI_at, wrI_2, wrL_at, wrL_1, true_and, false_and, and_true, and_false, and_self, ↓reduceIte, Nat.reduceEqDiff, Nat.reduceAdd, Nat.reduceMul, Nat.add_zero, Nat.zero_add, reduceCtorEq, l_0, l_1, l_2, l_3, l_4, l_5, l_6, l_7, l_8, l_9, l_10, l_15, l_24, l_32, l_39, l_40, l_47, l_48, l_50, l_57, l_60, l_63, l_80, l_95, l_99, l_100, l_120, l_126, l_128, l_1000, l_9999, l_10000, L_0, L_1, L_2, L_3, L_4, L_5, L_7, L_9, L_15, L_40, L_50, L_99, L_127, L_9999, c_ltT, c_ltF, c_leT, c_leF, c_eqT, c_eqF, n_leF, n_ltF, c_gltT, c_gltF, c_ggtT, c_ggtF, false_or, or_false, or_self, true_or, or_true]
            obtain ⟨x1, x2, x3⟩ := r2
            refine ⟨_, C', R', ec, er, Inv_up (Nat.le_succ t) (Inv_rs h0 (gc_X10_first ec) (fun q i hq hq82 => ?_) (fun j' pc hj' hpc h81 i hi => ?_) (fun i => ?_))⟩
            · by_cases c81 : q = 81 ∧ i = j
              · obtain ⟨rfl, rfl⟩ := c81
                rw [x1.1]
                exact P3.1.symm
              · by_cases c83 : q = 83 ∧ 60 * j ≤ i ∧ i < 60 * j + 60
                · obtain ⟨rfl, c4, c5⟩ := c83
                  obtain ⟨z, rfl⟩ : ∃ z, i = 60 * j + z := ⟨i - 60 * j, by omega⟩
                  rw [x2 z (by omega), fr0 _ _ (by omega)]
                · rw [x3.1 q i (by unfold lastR at hq; unfold fFr fTau fChs fAsk; omega), fr0 q i (by unfold lastR at hq; omega)]
            · by_cases hjj : j' = j
              · subst hjj
                have hpP : pc = P0.1 := by
                  have hzP := P1.1
                  exact (nI_eq (by omega) (by omega)).mp (h81.symm.trans P3.1)
                subst hpP
                rw [(x1.2 i hi).2.1, (P3.2 i hi).2.1]
              · rw [x3.1 82 _ (by unfold fFr fTau fChs fAsk; omega), fr0 _ _ (by omega)]
            · rw [x3.2 101 i (by unfold fFr fTau fChs fAsk; omega)]
              exact k4.2 101 i (by unfold fKee; omega)
        · refine bad (-1) ?_ ?_
          · unfold fX10_first fX10_allToldCanBeTaught
            simp (disch := omega) only [g1, q1, ↓lt_d, eq_self, lN_add, i_l, wTn, wFa, wFb, wCT, wCF, mNe, mNe2, mLt, mLe, bp_s, bn_s, n_clampS, nI_1, nI_add, pk_sub, nI_mul, wrI_at, wrI_2, wrL_at, wrL_1, true_and, false_and, and_true, and_false, and_self, ↓reduceIte, Nat.reduceEqDiff, Nat.reduceAdd, Nat.reduceMul, Nat.add_zero, Nat.zero_add, reduceCtorEq, l_0, l_1, l_2, l_3, l_4, l_5, l_6, l_7, l_8, l_9, l_10, l_15, l_24, l_32, l_39, l_40, l_47, l_48, l_50, l_57, l_60, l_63, l_80, l_95, l_99, l_100, l_120, l_126, l_128, l_1000, l_9999, l_10000, L_0, L_1, L_2, L_3, L_4, L_5, L_7, L_9, L_15, L_40, L_50, L_99, L_127, L_9999, c_ltT, c_ltF, c_leT, c_leF, c_eqT, c_eqF, n_leF, n_ltF, c_gltT, c_gltF, c_ggtT, c_ggtF, false_or, or_false, or_self, true_or, or_true]
          · unfold fX11_first fX11_isListBad
            simp (disch := omega) only [g2, q2, ↓lt_d, eq_self, lN_add, i_l, wTn, wFa, wFb, wCT, wCF, mNe, mNe2, mLt, mLe, bp_s, bn_s, n_clampS, nI_1, nI_add, pk_sub, nI_mul, wrI_at, wrI_2, wrL_at, wrL_1, true_and, false_and, and_true, and_false, and_self, ↓reduceIte, Nat.reduceEqDiff, Nat.reduceAdd, Nat.reduceMul, Nat.add_zero, Nat.zero_add, reduceCtorEq, l_0, l_1, l_2, l_3, l_4, l_5, l_6, l_7, l_8, l_9, l_10, l_15, l_24, l_32, l_39, l_40, l_47, l_48, l_50, l_57, l_60, l_63, l_80, l_95, l_99, l_100, l_120, l_126, l_128, l_1000, l_9999, l_10000, L_0, L_1, L_2, L_3, L_4, L_5, L_7, L_9, L_15, L_40, L_50, L_99, L_127, L_9999, c_ltT, c_ltF, c_leT, c_leF, c_eqT, c_eqF, n_leF, n_ltF, c_gltT, c_gltF, c_ggtT, c_ggtF, false_or, or_false, or_self, true_or, or_true]
  · refine bad (-1) ?_ ?_
    · unfold fX10_first
      simp (disch := omega) only [g1, ↓lt_d, eq_self, lN_add, i_l, wTn, wFa, wFb, wCT, wCF, mNe, mNe2, mLt, mLe, bp_s, bn_s, n_clampS, nI_1, nI_add, pk_sub, nI_mul, wrI_at, wrI_2, wrL_at, wrL_1, true_and, false_and, and_true, and_false, and_self, ↓reduceIte, Nat.reduceEqDiff, Nat.reduceAdd, Nat.reduceMul, Nat.add_zero, Nat.zero_add, reduceCtorEq, l_0, l_1, l_2, l_3, l_4, l_5, l_6, l_7, l_8, l_9, l_10, l_15, l_24, l_32, l_39, l_40, l_47, l_48, l_50, l_57, l_60, l_63, l_80, l_95, l_99, l_100, l_120, l_126, l_128, l_1000, l_9999, l_10000, L_0, L_1, L_2, L_3, L_4, L_5, L_7, L_9, L_15, L_40, L_50, L_99, L_127, L_9999, c_ltT, c_ltF, c_leT, c_leF, c_eqT, c_eqF, n_leF, n_ltF, c_gltT, c_gltF, c_ggtT, c_ggtF, false_or, or_false, or_self, true_or, or_true]
    · unfold fX11_first
      simp (disch := omega) only [g2, ↓lt_d, eq_self, lN_add, i_l, wTn, wFa, wFb, wCT, wCF, mNe, mNe2, mLt, mLe, bp_s, bn_s, n_clampS, nI_1, nI_add, pk_sub, nI_mul, wrI_at, wrI_2, wrL_at, wrL_1, true_and, false_and, and_true, and_false, and_self, ↓reduceIte, Nat.reduceEqDiff, Nat.reduceAdd, Nat.reduceMul, Nat.add_zero, Nat.zero_add, reduceCtorEq, l_0, l_1, l_2, l_3, l_4, l_5, l_6, l_7, l_8, l_9, l_10, l_15, l_24, l_32, l_39, l_40, l_47, l_48, l_50, l_57, l_60, l_63, l_80, l_95, l_99, l_100, l_120, l_126, l_128, l_1000, l_9999, l_10000, L_0, L_1, L_2, L_3, L_4, L_5, L_7, L_9, L_15, L_40, L_50, L_99, L_127, L_9999, c_ltT, c_ltF, c_leT, c_leF, c_eqT, c_eqF, n_leF, n_ltF, c_gltT, c_gltF, c_ggtT, c_ggtF, false_or, or_false, or_self, true_or, or_true]
