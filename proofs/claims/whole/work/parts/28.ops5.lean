/-! feed, see, turn -/
theorem and255 (y : Int32) : ∃ x, x < 256 ∧ y &&& 255 = nI x := by
  refine ⟨(y &&& 255).toBitVec.toNat, ?_, ?_⟩
  · rw [Int32.toBitVec_and, BitVec.toNat_and]
    exact Nat.lt_of_le_of_lt Nat.and_le_right (by decide)
  · apply Int32.toBitVec_inj.mp
    apply BitVec.eq_of_toNat_eq
    have h : (y &&& 255).toBitVec.toNat < 256 := by
      rw [Int32.toBitVec_and, BitVec.toNat_and]
      exact Nat.lt_of_le_of_lt Nat.and_le_right (by decide)
    generalize (y &&& 255).toBitVec.toNat = z at h
    show z = (nI z).toBitVec.toNat
    unfold nI
    simp
    omega
theorem byte_e (v : Int32) (k : Nat) (hk : k < 4) : iush v (nI (8 * k)) &&& 255 = v >>> (nI (8 * k) &&& 31) &&& 255 := by
  apply Int32.toBitVec_inj.mp
  apply BitVec.eq_of_getLsbD_eq
  intro i hi
  rw [Int32.toBitVec_and, Int32.toBitVec_and, BitVec.getLsbD_and, BitVec.getLsbD_and]
  by_cases h8 : i < 8
  · have e : (iush v (nI (8 * k))).toBitVec.getLsbD i = (v >>> (nI (8 * k) &&& 31)).toBitVec.getLsbD i := by
      unfold iush
      rw [Int32.toBitVec_shiftRight]
      have e2 : ((nI (8 * k) &&& 31).toBitVec.smod 32) = BitVec.ofNat 32 (8 * k) := by
        rcases (show k = 0 ∨ k = 1 ∨ k = 2 ∨ k = 3 by omega) with rfl | rfl | rfl | rfl <;> decide
      have e3 : ((nI (8 * k)).toUInt32 &&& Int32.toUInt32 31) = UInt32.ofNat (8 * k) := by
        rcases (show k = 0 ∨ k = 1 ∨ k = 2 ∨ k = 3 by omega) with rfl | rfl | rfl | rfl <;> decide
      rw [e2, e3]
      have e4 : (v.toUInt32 >>> UInt32.ofNat (8 * k)).toInt32.toBitVec = v.toBitVec >>> (8 * k) := by
        rcases (show k = 0 ∨ k = 1 ∨ k = 2 ∨ k = 3 by omega) with rfl | rfl | rfl | rfl <;> rfl
      have e5 : v.toBitVec.sshiftRight' (BitVec.ofNat 32 (8 * k)) = v.toBitVec.sshiftRight (8 * k) := by
        rcases (show k = 0 ∨ k = 1 ∨ k = 2 ∨ k = 3 by omega) with rfl | rfl | rfl | rfl <;> rfl
      rw [e4, e5, BitVec.getLsbD_ushiftRight, BitVec.getLsbD_sshiftRight]
      have : ¬ 32 ≤ i := by omega
      simp [this, show 8 * k + i < 32 by omega]
    rw [e]
  · have e : (255 : Int32).toBitVec.getLsbD i = false := by
      have : (255 : Int32).toBitVec = BitVec.ofNat 32 255 := rfl
      rw [this]
      have : ∀ i, i < 32 → ¬ i < 8 → (BitVec.ofNat 32 255).getLsbD i = false := by decide
      exact this i hi h8
    rw [e, Bool.and_false, Bool.and_false]
theorem feed_l {n m : Nat} (hm : m ≤ 4) (v : Int32) : ∀ d i b fu fv (C R : Mm), m - i = d → i ≤ m → d < fu → d < fv → I_tape C R → C.1 1 1 = nI b → b + d ≤ 120 → ∃ C' R', fX9_takes_h15 n fu (nI m) v (nI i) C = some (nI 1, C') ∧ fX11_feed_h30 n fv (nI m) v (nI i) R = some (nI (b + d), R') ∧ C'.1 1 1 = nI (b + d) ∧ I_tape C' R' ∧ (∀ q i, ¬ (q = 1 ∨ q = 2) → C'.1 q i = C.1 q i) ∧ (∀ q i, ¬ ((q = 72 ∧ i = 7) ∨ q = 77) → R'.1 q i = R.1 q i) ∧ C'.2 = C.2 ∧ R'.2 = R.2 := by
  intro d
  induction d with
  | zero =>
    intro i b fu fv C R hd hi hf hg h e hb
    obtain ⟨fu, rfl⟩ : ∃ f, fu = f + 1 := ⟨fu - 1, by omega⟩
    obtain ⟨fv, rfl⟩ : ∃ f, fv = f + 1 := ⟨fv - 1, by omega⟩
    have h0 := h
    obtain ⟨b2, hb2, t1, t2, t3⟩ := h
    have : b2 = b := (nI_eq (by omega) (by omega)).mp (t1.symm.trans e)
    subst this
    rw [fX9_takes_h15.eq_2, fX11_feed_h30.eq_2]
    refine ⟨C, R, ?_, ?_, e, h0, fun _ _ _ => rfl, fun _ _ _ => rfl, rfl, rfl⟩
    · simp (disch := omega) only [eq_self, g_gtT, g_gtF, lN_add, i_l, wTn, wFa, wFb, wCT, wCF, mNe, mNe2, mLt, mLe, lt_d, bp_s, bn_s, ic, i_leT, i_leF, i_ltT, i_ltF, i_eqT, i_eqF, n_clampS, nI_1, nI_add, pk_sub, nI_mul, wrI_at, wrI_2, wrL_at, wrL_1, true_and, false_and, and_true, and_false, and_self, ↓reduceIte, Nat.reduceEqDiff, Nat.reduceAdd, Nat.reduceMul, Nat.add_zero, Nat.zero_add, reduceCtorEq, l_0, l_1, l_2, l_3, l_4, l_5, l_6, l_7, l_8, l_9, l_10, l_15, l_24, l_32, l_39, l_40, l_47, l_48, l_50, l_57, l_60, l_63, l_80, l_95, l_99, l_100, l_120, l_126, l_128, l_1000, l_9999, l_10000, L_0, L_1, L_2, L_3, L_4, L_5, L_7, L_9, L_15, L_40, L_50, L_99, L_127, L_9999]
    · simp (disch := omega) only [t2, eq_self, g_gtT, g_gtF, lN_add, i_l, wTn, wFa, wFb, wCT, wCF, mNe, mNe2, mLt, mLe, lt_d, bp_s, bn_s, ic, i_leT, i_leF, i_ltT, i_ltF, i_eqT, i_eqF, n_clampS, nI_1, nI_add, pk_sub, nI_mul, wrI_at, wrI_2, wrL_at, wrL_1, true_and, false_and, and_true, and_false, and_self, ↓reduceIte, Nat.reduceEqDiff, Nat.reduceAdd, Nat.reduceMul, Nat.add_zero, Nat.zero_add, reduceCtorEq, l_0, l_1, l_2, l_3, l_4, l_5, l_6, l_7, l_8, l_9, l_10, l_15, l_24, l_32, l_39, l_40, l_47, l_48, l_50, l_57, l_60, l_63, l_80, l_95, l_99, l_100, l_120, l_126, l_128, l_1000, l_9999, l_10000, L_0, L_1, L_2, L_3, L_4, L_5, L_7, L_9, L_15, L_40, L_50, L_99, L_127, L_9999]
  | succ d ih =>
    intro i b fu fv C R hd hi hf hg h e hb
    obtain ⟨fu, rfl⟩ : ∃ f, fu = f + 1 := ⟨fu - 1, by omega⟩
    obtain ⟨fv, rfl⟩ : ∃ f, fv = f + 1 := ⟨fv - 1, by omega⟩
    obtain ⟨b2, hb2, t1, t2, t3⟩ := h
    have : b2 = b := (nI_eq (by omega) (by omega)).mp (t1.symm.trans e)
    subst this
    rw [fX9_takes_h15.eq_2, fX11_feed_h30.eq_2]
    obtain ⟨x, hx, hx2⟩ := and255 (iush v (nI (8 * i)))
    have hx3 := hx2
    rw [byte_e v i (by omega)] at hx3
    have hT : I_tape (wrI (wrI C 2 b2 (nI x)) 1 1 (nI (b2 + 1))) (wrI (wrI R 77 b2 (nI x)) 72 7 (nI (b2 + 1))) := by
      refine ⟨b2 + 1, by omega, by simp (disch := omega) only [eq_self, g_gtT, g_gtF, lN_add, i_l, wTn, wFa, wFb, wCT, wCF, mNe, mNe2, mLt, mLe, lt_d, bp_s, bn_s, ic, i_leT, i_leF, i_ltT, i_ltF, i_eqT, i_eqF, n_clampS, nI_1, nI_add, pk_sub, nI_mul, wrI_at, wrI_2, wrL_at, wrL_1, true_and, false_and, and_true, and_false, and_self, ↓reduceIte, Nat.reduceEqDiff, Nat.reduceAdd, Nat.reduceMul, Nat.add_zero, Nat.zero_add, reduceCtorEq, l_0, l_1, l_2, l_3, l_4, l_5, l_6, l_7, l_8, l_9, l_10, l_15, l_24, l_32, l_39, l_40, l_47, l_48, l_50, l_57, l_60, l_63, l_80, l_95, l_99, l_100, l_120, l_126, l_128, l_1000, l_9999, l_10000, L_0, L_1, L_2, L_3, L_4, L_5, L_7, L_9, L_15, L_40, L_50, L_99, L_127, L_9999], by simp (disch := omega) only [eq_self, g_gtT, g_gtF, lN_add, i_l, wTn, wFa, wFb, wCT, wCF, mNe, mNe2, mLt, mLe, lt_d, bp_s, bn_s, ic, i_leT, i_leF, i_ltT, i_ltF, i_eqT, i_eqF, n_clampS, nI_1, nI_add, pk_sub, nI_mul, wrI_at, wrI_2, wrL_at, wrL_1, true_and, false_and, and_true, and_false, and_self, ↓reduceIte, Nat.reduceEqDiff, Nat.reduceAdd, Nat.reduceMul, Nat.add_zero, Nat.zero_add, reduceCtorEq, l_0, l_1, l_2, l_3, l_4, l_5, l_6, l_7, l_8, l_9, l_10, l_15, l_24, l_32, l_39, l_40, l_47, l_48, l_50, l_57, l_60, l_63, l_80, l_95, l_99, l_100, l_120, l_126, l_128, l_1000, l_9999, l_10000, L_0, L_1, L_2, L_3, L_4, L_5, L_7, L_9, L_15, L_40, L_50, L_99, L_127, L_9999], fun j hj => ?_⟩
      by_cases hjb : j = b2
      · subst hjb
        exact ⟨x, hx, by simp (disch := omega) only [eq_self, g_gtT, g_gtF, lN_add, i_l, wTn, wFa, wFb, wCT, wCF, mNe, mNe2, mLt, mLe, lt_d, bp_s, bn_s, ic, i_leT, i_leF, i_ltT, i_ltF, i_eqT, i_eqF, n_clampS, nI_1, nI_add, pk_sub, nI_mul, wrI_at, wrI_2, wrL_at, wrL_1, true_and, false_and, and_true, and_false, and_self, ↓reduceIte, Nat.reduceEqDiff, Nat.reduceAdd, Nat.reduceMul, Nat.add_zero, Nat.zero_add, reduceCtorEq, l_0, l_1, l_2, l_3, l_4, l_5, l_6, l_7, l_8, l_9, l_10, l_15, l_24, l_32, l_39, l_40, l_47, l_48, l_50, l_57, l_60, l_63, l_80, l_95, l_99, l_100, l_120, l_126, l_128, l_1000, l_9999, l_10000, L_0, L_1, L_2, L_3, L_4, L_5, L_7, L_9, L_15, L_40, L_50, L_99, L_127, L_9999], by simp (disch := omega) only [eq_self, g_gtT, g_gtF, lN_add, i_l, wTn, wFa, wFb, wCT, wCF, mNe, mNe2, mLt, mLe, lt_d, bp_s, bn_s, ic, i_leT, i_leF, i_ltT, i_ltF, i_eqT, i_eqF, n_clampS, nI_1, nI_add, pk_sub, nI_mul, wrI_at, wrI_2, wrL_at, wrL_1, true_and, false_and, and_true, and_false, and_self, ↓reduceIte, Nat.reduceEqDiff, Nat.reduceAdd, Nat.reduceMul, Nat.add_zero, Nat.zero_add, reduceCtorEq, l_0, l_1, l_2, l_3, l_4, l_5, l_6, l_7, l_8, l_9, l_10, l_15, l_24, l_32, l_39, l_40, l_47, l_48, l_50, l_57, l_60, l_63, l_80, l_95, l_99, l_100, l_120, l_126, l_128, l_1000, l_9999, l_10000, L_0, L_1, L_2, L_3, L_4, L_5, L_7, L_9, L_15, L_40, L_50, L_99, L_127, L_9999]⟩
      · obtain ⟨y, y1, y2, y3⟩ := t3 j (by omega)
        refine ⟨y, y1, ?_, ?_⟩
        · simp (disch := omega) only [hjb, eq_self, g_gtT, g_gtF, lN_add, i_l, wTn, wFa, wFb, wCT, wCF, mNe, mNe2, mLt, mLe, lt_d, bp_s, bn_s, ic, i_leT, i_leF, i_ltT, i_ltF, i_eqT, i_eqF, n_clampS, nI_1, nI_add, pk_sub, nI_mul, wrI_at, wrI_2, wrL_at, wrL_1, true_and, false_and, and_true, and_false, and_self, ↓reduceIte, Nat.reduceEqDiff, Nat.reduceAdd, Nat.reduceMul, Nat.add_zero, Nat.zero_add, reduceCtorEq, l_0, l_1, l_2, l_3, l_4, l_5, l_6, l_7, l_8, l_9, l_10, l_15, l_24, l_32, l_39, l_40, l_47, l_48, l_50, l_57, l_60, l_63, l_80, l_95, l_99, l_100, l_120, l_126, l_128, l_1000, l_9999, l_10000, L_0, L_1, L_2, L_3, L_4, L_5, L_7, L_9, L_15, L_40, L_50, L_99, L_127, L_9999]
          exact y2
        · simp (disch := omega) only [hjb, eq_self, g_gtT, g_gtF, lN_add, i_l, wTn, wFa, wFb, wCT, wCF, mNe, mNe2, mLt, mLe, lt_d, bp_s, bn_s, ic, i_leT, i_leF, i_ltT, i_ltF, i_eqT, i_eqF, n_clampS, nI_1, nI_add, pk_sub, nI_mul, wrI_at, wrI_2, wrL_at, wrL_1, true_and, false_and, and_true, and_false, and_self, ↓reduceIte, Nat.reduceEqDiff, Nat.reduceAdd, Nat.reduceMul, Nat.add_zero, Nat.zero_add, reduceCtorEq, l_0, l_1, l_2, l_3, l_4, l_5, l_6, l_7, l_8, l_9, l_10, l_15, l_24, l_32, l_39, l_40, l_47, l_48, l_50, l_57, l_60, l_63, l_80, l_95, l_99, l_100, l_120, l_126, l_128, l_1000, l_9999, l_10000, L_0, L_1, L_2, L_3, L_4, L_5, L_7, L_9, L_15, L_40, L_50, L_99, L_127, L_9999]
          exact y3
    obtain ⟨C', R', c1, c2, c3, c4, c5, c6, c7, c8⟩ := ih (i + 1) (b2 + 1) fu fv _ _ (by omega) (by omega) (by omega) (by omega) hT (by simp (disch := omega) only [eq_self, g_gtT, g_gtF, lN_add, i_l, wTn, wFa, wFb, wCT, wCF, mNe, mNe2, mLt, mLe, lt_d, bp_s, bn_s, ic, i_leT, i_leF, i_ltT, i_ltF, i_eqT, i_eqF, n_clampS, nI_1, nI_add, pk_sub, nI_mul, wrI_at, wrI_2, wrL_at, wrL_1, true_and, false_and, and_true, and_false, and_self, ↓reduceIte, Nat.reduceEqDiff, Nat.reduceAdd, Nat.reduceMul, Nat.add_zero, Nat.zero_add, reduceCtorEq, l_0, l_1, l_2, l_3, l_4, l_5, l_6, l_7, l_8, l_9, l_10, l_15, l_24, l_32, l_39, l_40, l_47, l_48, l_50, l_57, l_60, l_63, l_80, l_95, l_99, l_100, l_120, l_126, l_128, l_1000, l_9999, l_10000, L_0, L_1, L_2, L_3, L_4, L_5, L_7, L_9, L_15, L_40, L_50, L_99, L_127, L_9999]) (by omega)
    have hbd : b2 + 1 + d = b2 + (d + 1) := by omega
    rw [hbd] at c2 c3
    refine ⟨C', R', ?_, ?_, c3, c4, fun q j hq => ?_, fun q j hq => ?_, c7, c8⟩
    · simp (disch := omega) only [t1, hx2, eq_self, g_gtT, g_gtF, lN_add, i_l, wTn, wFa, wFb, wCT, wCF, mNe, mNe2, mLt, mLe, lt_d, bp_s, bn_s, ic, i_leT, i_leF, i_ltT, i_ltF, i_eqT, i_eqF, n_clampS, nI_1, nI_add, pk_sub, nI_mul, wrI_at, wrI_2, wrL_at, wrL_1, true_and, false_and, and_true, and_false, and_self, ↓reduceIte, Nat.reduceEqDiff, Nat.reduceAdd, Nat.reduceMul, Nat.add_zero, Nat.zero_add, reduceCtorEq, l_0, l_1, l_2, l_3, l_4, l_5, l_6, l_7, l_8, l_9, l_10, l_15, l_24, l_32, l_39, l_40, l_47, l_48, l_50, l_57, l_60, l_63, l_80, l_95, l_99, l_100, l_120, l_126, l_128, l_1000, l_9999, l_10000, L_0, L_1, L_2, L_3, L_4, L_5, L_7, L_9, L_15, L_40, L_50, L_99, L_127, L_9999]
      exact c1
    · simp (disch := omega) only [t2, hx3, eq_self, g_gtT, g_gtF, lN_add, i_l, wTn, wFa, wFb, wCT, wCF, mNe, mNe2, mLt, mLe, lt_d, bp_s, bn_s, ic, i_leT, i_leF, i_ltT, i_ltF, i_eqT, i_eqF, n_clampS, nI_1, nI_add, pk_sub, nI_mul, wrI_at, wrI_2, wrL_at, wrL_1, true_and, false_and, and_true, and_false, and_self, ↓reduceIte, Nat.reduceEqDiff, Nat.reduceAdd, Nat.reduceMul, Nat.add_zero, Nat.zero_add, reduceCtorEq, l_0, l_1, l_2, l_3, l_4, l_5, l_6, l_7, l_8, l_9, l_10, l_15, l_24, l_32, l_39, l_40, l_47, l_48, l_50, l_57, l_60, l_63, l_80, l_95, l_99, l_100, l_120, l_126, l_128, l_1000, l_9999, l_10000, L_0, L_1, L_2, L_3, L_4, L_5, L_7, L_9, L_15, L_40, L_50, L_99, L_127, L_9999]
      exact c2
    · rw [c5 q j hq, wrI_at, if_neg (by omega), wrI_at, if_neg (by omega)]
    · rw [c6 q j hq, wrI_at, if_neg (by omega), wrI_at, if_neg (by omega)]
theorem op_feed {t n : Nat} (hn : 1000 ≤ n) {C R : Mm} (h : Inv t C R) (p v : Int32) : ∃ r C' R', fX10_feed n p v C = some (r, C') ∧ fX11_feed n p v R = some (r, R') ∧ Inv (t + 1) C' R' := by
  have h0 := h
  obtain ⟨k, nb, h1, h2, h3, h4, h5, h6, h7, h8, h9, h10⟩ := h
  have h1' := h1
  obtain ⟨b, hb, e1, e2, e3⟩ := h1
  unfold fX10_feed fX11_feed fX9_takes fX9_length
  rcases i_cases p with hp | ⟨m, hm, rfl⟩
  · have hp1 : p < nI 1 := by
      have a1 := neg_lt hp
      apply Int32.lt_iff_toInt_lt.mpr
      rw [nI_toInt (by decide)]
      omega
    refine ⟨-1, C, R, ?_, ?_, Inv_up (Nat.le_succ t) h0⟩
    · simp (disch := omega) only [hp1, eq_self, g_gtT, g_gtF, lN_add, i_l, wTn, wFa, wFb, wCT, wCF, mNe, mNe2, mLt, mLe, lt_d, bp_s, bn_s, ic, i_leT, i_leF, i_ltT, i_ltF, i_eqT, i_eqF, n_clampS, nI_1, nI_add, pk_sub, nI_mul, wrI_at, wrI_2, wrL_at, wrL_1, true_and, false_and, and_true, and_false, and_self, ↓reduceIte, Nat.reduceEqDiff, Nat.reduceAdd, Nat.reduceMul, Nat.add_zero, Nat.zero_add, reduceCtorEq, l_0, l_1, l_2, l_3, l_4, l_5, l_6, l_7, l_8, l_9, l_10, l_15, l_24, l_32, l_39, l_40, l_47, l_48, l_50, l_57, l_60, l_63, l_80, l_95, l_99, l_100, l_120, l_126, l_128, l_1000, l_9999, l_10000, L_0, L_1, L_2, L_3, L_4, L_5, L_7, L_9, L_15, L_40, L_50, L_99, L_127, L_9999]
    · rw [show (1 : Int64) = lN 1 from rfl, wFn hp (by decide)]
      simp (disch := omega) only [eq_self, g_gtT, g_gtF, lN_add, i_l, wTn, wFa, wFb, wCT, wCF, mNe, mNe2, mLt, mLe, lt_d, bp_s, bn_s, ic, i_leT, i_leF, i_ltT, i_ltF, i_eqT, i_eqF, n_clampS, nI_1, nI_add, pk_sub, nI_mul, wrI_at, wrI_2, wrL_at, wrL_1, true_and, false_and, and_true, and_false, and_self, ↓reduceIte, Nat.reduceEqDiff, Nat.reduceAdd, Nat.reduceMul, Nat.add_zero, Nat.zero_add, reduceCtorEq, l_0, l_1, l_2, l_3, l_4, l_5, l_6, l_7, l_8, l_9, l_10, l_15, l_24, l_32, l_39, l_40, l_47, l_48, l_50, l_57, l_60, l_63, l_80, l_95, l_99, l_100, l_120, l_126, l_128, l_1000, l_9999, l_10000, L_0, L_1, L_2, L_3, L_4, L_5, L_7, L_9, L_15, L_40, L_50, L_99, L_127, L_9999]
  · by_cases hm1 : m < 1
    · refine ⟨-1, C, R, ?_, ?_, Inv_up (Nat.le_succ t) h0⟩
      · simp (disch := omega) only [eq_self, g_gtT, g_gtF, lN_add, i_l, wTn, wFa, wFb, wCT, wCF, mNe, mNe2, mLt, mLe, lt_d, bp_s, bn_s, ic, i_leT, i_leF, i_ltT, i_ltF, i_eqT, i_eqF, n_clampS, nI_1, nI_add, pk_sub, nI_mul, wrI_at, wrI_2, wrL_at, wrL_1, true_and, false_and, and_true, and_false, and_self, ↓reduceIte, Nat.reduceEqDiff, Nat.reduceAdd, Nat.reduceMul, Nat.add_zero, Nat.zero_add, reduceCtorEq, l_0, l_1, l_2, l_3, l_4, l_5, l_6, l_7, l_8, l_9, l_10, l_15, l_24, l_32, l_39, l_40, l_47, l_48, l_50, l_57, l_60, l_63, l_80, l_95, l_99, l_100, l_120, l_126, l_128, l_1000, l_9999, l_10000, L_0, L_1, L_2, L_3, L_4, L_5, L_7, L_9, L_15, L_40, L_50, L_99, L_127, L_9999]
      · simp (disch := omega) only [eq_self, g_gtT, g_gtF, lN_add, i_l, wTn, wFa, wFb, wCT, wCF, mNe, mNe2, mLt, mLe, lt_d, bp_s, bn_s, ic, i_leT, i_leF, i_ltT, i_ltF, i_eqT, i_eqF, n_clampS, nI_1, nI_add, pk_sub, nI_mul, wrI_at, wrI_2, wrL_at, wrL_1, true_and, false_and, and_true, and_false, and_self, ↓reduceIte, Nat.reduceEqDiff, Nat.reduceAdd, Nat.reduceMul, Nat.add_zero, Nat.zero_add, reduceCtorEq, l_0, l_1, l_2, l_3, l_4, l_5, l_6, l_7, l_8, l_9, l_10, l_15, l_24, l_32, l_39, l_40, l_47, l_48, l_50, l_57, l_60, l_63, l_80, l_95, l_99, l_100, l_120, l_126, l_128, l_1000, l_9999, l_10000, L_0, L_1, L_2, L_3, L_4, L_5, L_7, L_9, L_15, L_40, L_50, L_99, L_127, L_9999]
    · by_cases hm4 : 4 < m
      · refine ⟨-1, C, R, ?_, ?_, Inv_up (Nat.le_succ t) h0⟩
        · simp (disch := omega) only [eq_self, g_gtT, g_gtF, lN_add, i_l, wTn, wFa, wFb, wCT, wCF, mNe, mNe2, mLt, mLe, lt_d, bp_s, bn_s, ic, i_leT, i_leF, i_ltT, i_ltF, i_eqT, i_eqF, n_clampS, nI_1, nI_add, pk_sub, nI_mul, wrI_at, wrI_2, wrL_at, wrL_1, true_and, false_and, and_true, and_false, and_self, ↓reduceIte, Nat.reduceEqDiff, Nat.reduceAdd, Nat.reduceMul, Nat.add_zero, Nat.zero_add, reduceCtorEq, l_0, l_1, l_2, l_3, l_4, l_5, l_6, l_7, l_8, l_9, l_10, l_15, l_24, l_32, l_39, l_40, l_47, l_48, l_50, l_57, l_60, l_63, l_80, l_95, l_99, l_100, l_120, l_126, l_128, l_1000, l_9999, l_10000, L_0, L_1, L_2, L_3, L_4, L_5, L_7, L_9, L_15, L_40, L_50, L_99, L_127, L_9999]
        · simp (disch := omega) only [eq_self, g_gtT, g_gtF, lN_add, i_l, wTn, wFa, wFb, wCT, wCF, mNe, mNe2, mLt, mLe, lt_d, bp_s, bn_s, ic, i_leT, i_leF, i_ltT, i_ltF, i_eqT, i_eqF, n_clampS, nI_1, nI_add, pk_sub, nI_mul, wrI_at, wrI_2, wrL_at, wrL_1, true_and, false_and, and_true, and_false, and_self, ↓reduceIte, Nat.reduceEqDiff, Nat.reduceAdd, Nat.reduceMul, Nat.add_zero, Nat.zero_add, reduceCtorEq, l_0, l_1, l_2, l_3, l_4, l_5, l_6, l_7, l_8, l_9, l_10, l_15, l_24, l_32, l_39, l_40, l_47, l_48, l_50, l_57, l_60, l_63, l_80, l_95, l_99, l_100, l_120, l_126, l_128, l_1000, l_9999, l_10000, L_0, L_1, L_2, L_3, L_4, L_5, L_7, L_9, L_15, L_40, L_50, L_99, L_127, L_9999]
      · by_cases hf : 120 < b + m
        · refine ⟨-3, C, R, ?_, ?_, Inv_up (Nat.le_succ t) h0⟩
          · simp (disch := omega) only [e1, eq_self, g_gtT, g_gtF, lN_add, i_l, wTn, wFa, wFb, wCT, wCF, mNe, mNe2, mLt, mLe, lt_d, bp_s, bn_s, ic, i_leT, i_leF, i_ltT, i_ltF, i_eqT, i_eqF, n_clampS, nI_1, nI_add, pk_sub, nI_mul, wrI_at, wrI_2, wrL_at, wrL_1, true_and, false_and, and_true, and_false, and_self, ↓reduceIte, Nat.reduceEqDiff, Nat.reduceAdd, Nat.reduceMul, Nat.add_zero, Nat.zero_add, reduceCtorEq, l_0, l_1, l_2, l_3, l_4, l_5, l_6, l_7, l_8, l_9, l_10, l_15, l_24, l_32, l_39, l_40, l_47, l_48, l_50, l_57, l_60, l_63, l_80, l_95, l_99, l_100, l_120, l_126, l_128, l_1000, l_9999, l_10000, L_0, L_1, L_2, L_3, L_4, L_5, L_7, L_9, L_15, L_40, L_50, L_99, L_127, L_9999]
          · simp (disch := omega) only [e2, eq_self, g_gtT, g_gtF, lN_add, i_l, wTn, wFa, wFb, wCT, wCF, mNe, mNe2, mLt, mLe, lt_d, bp_s, bn_s, ic, i_leT, i_leF, i_ltT, i_ltF, i_eqT, i_eqF, n_clampS, nI_1, nI_add, pk_sub, nI_mul, wrI_at, wrI_2, wrL_at, wrL_1, true_and, false_and, and_true, and_false, and_self, ↓reduceIte, Nat.reduceEqDiff, Nat.reduceAdd, Nat.reduceMul, Nat.add_zero, Nat.zero_add, reduceCtorEq, l_0, l_1, l_2, l_3, l_4, l_5, l_6, l_7, l_8, l_9, l_10, l_15, l_24, l_32, l_39, l_40, l_47, l_48, l_50, l_57, l_60, l_63, l_80, l_95, l_99, l_100, l_120, l_126, l_128, l_1000, l_9999, l_10000, L_0, L_1, L_2, L_3, L_4, L_5, L_7, L_9, L_15, L_40, L_50, L_99, L_127, L_9999]
        · obtain ⟨C', R', c1, c2, c3, c4, c5, c6, c7, c8⟩ := feed_l (n := n) (show m ≤ 4 by omega) v m 0 b n n C R (by omega) (by omega) (by omega) (by omega) h1' e1 (by omega)
          refine ⟨nI (b + m), C', R', ?_, ?_, ?_⟩
          · simp (disch := omega) only [e1, c1, c3, eq_self, g_gtT, g_gtF, lN_add, i_l, wTn, wFa, wFb, wCT, wCF, mNe, mNe2, mLt, mLe, lt_d, bp_s, bn_s, ic, i_leT, i_leF, i_ltT, i_ltF, i_eqT, i_eqF, n_clampS, nI_1, nI_add, pk_sub, nI_mul, wrI_at, wrI_2, wrL_at, wrL_1, true_and, false_and, and_true, and_false, and_self, ↓reduceIte, Nat.reduceEqDiff, Nat.reduceAdd, Nat.reduceMul, Nat.add_zero, Nat.zero_add, reduceCtorEq, l_0, l_1, l_2, l_3, l_4, l_5, l_6, l_7, l_8, l_9, l_10, l_15, l_24, l_32, l_39, l_40, l_47, l_48, l_50, l_57, l_60, l_63, l_80, l_95, l_99, l_100, l_120, l_126, l_128, l_1000, l_9999, l_10000, L_0, L_1, L_2, L_3, L_4, L_5, L_7, L_9, L_15, L_40, L_50, L_99, L_127, L_9999]
          · simp (disch := omega) only [e2, c2, eq_self, g_gtT, g_gtF, lN_add, i_l, wTn, wFa, wFb, wCT, wCF, mNe, mNe2, mLt, mLe, lt_d, bp_s, bn_s, ic, i_leT, i_leF, i_ltT, i_ltF, i_eqT, i_eqF, n_clampS, nI_1, nI_add, pk_sub, nI_mul, wrI_at, wrI_2, wrL_at, wrL_1, true_and, false_and, and_true, and_false, and_self, ↓reduceIte, Nat.reduceEqDiff, Nat.reduceAdd, Nat.reduceMul, Nat.add_zero, Nat.zero_add, reduceCtorEq, l_0, l_1, l_2, l_3, l_4, l_5, l_6, l_7, l_8, l_9, l_10, l_15, l_24, l_32, l_39, l_40, l_47, l_48, l_50, l_57, l_60, l_63, l_80, l_95, l_99, l_100, l_120, l_126, l_128, l_1000, l_9999, l_10000, L_0, L_1, L_2, L_3, L_4, L_5, L_7, L_9, L_15, L_40, L_50, L_99, L_127, L_9999]
          · refine ⟨k, nb, c4, I_head_fr h2 ?_ ?_, I_pair_up (Nat.le_succ t) (I_pair_fr h2.1 h3 ?_ ?_), I_chg_fr h4 ?_ ?_, I_seen_fr h5 ?_ ?_, I_told_fr h6 ?_ ?_, I_body_fr h7 ?_ ?_, I_ran_fr h8 ?_ ?_, I_shelf_fr h9 ?_ c7 ?_ (fun _ => by rw [c8]), I_cho_fr h10 ?_ ?_⟩
            all_goals first
              | exact fun q i z => c5 q i (by omega)
              | exact fun q i z => c6 q i (by omega)
