/-! THE TAPE becomes THE CHOICE -/
theorem read_fr {n q : Nat} {C C' : Mm} (hq : q < 2 ^ 31) (h : fX3_read n C = some (nI q, C')) : ag fPaq C C' := by
  unfold fX3_read at h
  obtain ⟨C0, e0, h⟩ := bn_x h
  have a0 : ag fPaq C C0 := gq_X9t_become e0
  obtain ⟨C1, e1, h⟩ := lt_z h
  obtain ⟨C2, e2, h⟩ := lt_z h
  obtain ⟨r4, C5, q3, h⟩ := bp_x h
  have a1 : ag fPaq C C1 := ag_tr a0 (by rw [e1]; exact ag_wrI (by unfold fPaq; omega))
  have a2 : ag fPaq C C2 := ag_tr a1 (by rw [e2]; exact ag_wrI (by unfold fPaq; omega))
  have a5 : ag fPaq C C5 := ag_tr a2 (gq_X3_readLines q3)
  by_cases c : r4 = 0
  · replace h := it_t c h
    rw [← pr_2 h]
    exact a5
  · replace h := it_f c h
    split at h
    · cases h
    · have h2 := congrArg Prod.fst (Option.some.inj h)
      exact absurd h2.symm (fun z => ng_eq (show (-1 : Int32) < 0 by decide) hq z.symm)
theorem copy_r {n b : Nat} (hb : b ≤ 120) : ∀ d fu i R, b - i = d → i ≤ b → d < fu → ∃ R' : Mm, fX11_choice_h37 n fu (nI b) (nI i) R = some (nI 1, R') ∧ R'.2 = R.2 ∧ R'.1 72 9 = nI b ∧ (∀ k, i ≤ k → k < b → R'.1 78 k = R.1 77 k) ∧ (∀ k, k < i → R'.1 78 k = R.1 78 k) ∧ ∀ q i, ¬ (q = 78 ∨ (q = 72 ∧ i = 9)) → R'.1 q i = R.1 q i := by
  intro d
  induction d with
  | zero =>
    intro fu i R hd hi hf
    obtain ⟨fu, rfl⟩ : ∃ f, fu = f + 1 := ⟨fu - 1, by omega⟩
    refine ⟨wrI R 72 9 (nI b), ?_, rfl, by simp (disch := omega) only [↓lt_d, eq_self, lN_add, i_l, wTn, wFa, wFb, wCT, wCF, mNe, mNe2, mLt, mLe, bp_s, bn_s, n_clampS, nI_1, nI_add, pk_sub, nI_mul, wrI_at, wrI_2, wrL_at, wrL_1, true_and, false_and, and_true, and_false, and_self, ↓reduceIte, Nat.reduceEqDiff, Nat.reduceAdd, Nat.reduceMul, Nat.add_zero, Nat.zero_add, reduceCtorEq, l_0, l_1, l_2, l_3, l_4, l_5, l_6, l_7, l_8, l_9, l_10, l_15, l_24, l_32, l_39, l_40, l_47, l_48, l_50, l_57, l_60, l_63, l_80, l_95, l_99, l_100, l_120, l_126, l_128, l_1000, l_9999, l_10000, L_0, L_1, L_2, L_3, L_4, L_5, L_7, L_9, L_15, L_40, L_50, L_99, L_127, L_9999, c_ltT, c_ltF, c_leT, c_leF, c_eqT, c_eqF, n_leF, n_ltF, c_gltT, c_gltF, c_ggtT, c_ggtF, false_or, or_false, or_self, true_or, or_true], fun k h1 h2 => by omega, fun k hk => ?_, fun q k hq => ?_⟩
    · rw [fX11_choice_h37.eq_2]
      simp (disch := omega) only [↓lt_d, eq_self, lN_add, i_l, wTn, wFa, wFb, wCT, wCF, mNe, mNe2, mLt, mLe, bp_s, bn_s, n_clampS, nI_1, nI_add, pk_sub, nI_mul, wrI_at, wrI_2, wrL_at, wrL_1, true_and, false_and, and_true, and_false, and_self, ↓reduceIte, Nat.reduceEqDiff, Nat.reduceAdd, Nat.reduceMul, Nat.add_zero, Nat.zero_add, reduceCtorEq, l_0, l_1, l_2, l_3, l_4, l_5, l_6, l_7, l_8, l_9, l_10, l_15, l_24, l_32, l_39, l_40, l_47, l_48, l_50, l_57, l_60, l_63, l_80, l_95, l_99, l_100, l_120, l_126, l_128, l_1000, l_9999, l_10000, L_0, L_1, L_2, L_3, L_4, L_5, L_7, L_9, L_15, L_40, L_50, L_99, L_127, L_9999, c_ltT, c_ltF, c_leT, c_leF, c_eqT, c_eqF, n_leF, n_ltF, c_gltT, c_gltF, c_ggtT, c_ggtF, false_or, or_false, or_self, true_or, or_true]
    · rw [wrI_at, if_neg (by omega)]
    · rw [wrI_at, if_neg (by omega)]
  | succ d ih =>
    intro fu i R hd hi hf
    obtain ⟨fu, rfl⟩ : ∃ f, fu = f + 1 := ⟨fu - 1, by omega⟩
    obtain ⟨R', e1, e2, e3, e4, e5, e6⟩ := ih fu (i + 1) (wrI R 78 i (R.1 77 i)) (by omega) (by omega) (by omega)
    refine ⟨R', ?_, e2, e3, fun k h1 h2 => ?_, fun k hk => ?_, fun q k hq => ?_⟩
    · rw [fX11_choice_h37.eq_2]
      simp (disch := omega) only [↓lt_d, eq_self, lN_add, i_l, wTn, wFa, wFb, wCT, wCF, mNe, mNe2, mLt, mLe, bp_s, bn_s, n_clampS, nI_1, nI_add, pk_sub, nI_mul, wrI_at, wrI_2, wrL_at, wrL_1, true_and, false_and, and_true, and_false, and_self, ↓reduceIte, Nat.reduceEqDiff, Nat.reduceAdd, Nat.reduceMul, Nat.add_zero, Nat.zero_add, reduceCtorEq, l_0, l_1, l_2, l_3, l_4, l_5, l_6, l_7, l_8, l_9, l_10, l_15, l_24, l_32, l_39, l_40, l_47, l_48, l_50, l_57, l_60, l_63, l_80, l_95, l_99, l_100, l_120, l_126, l_128, l_1000, l_9999, l_10000, L_0, L_1, L_2, L_3, L_4, L_5, L_7, L_9, L_15, L_40, L_50, L_99, L_127, L_9999, c_ltT, c_ltF, c_leT, c_leF, c_eqT, c_eqF, n_leF, n_ltF, c_gltT, c_gltF, c_ggtT, c_ggtF, false_or, or_false, or_self, true_or, or_true]
      exact e1
    · by_cases hk : k = i
      · subst hk
        rw [e5 k (by omega), wrI_at, if_pos ⟨rfl, rfl⟩]
      · rw [e4 k (by omega) h2, wrI_at, if_neg (by omega)]
    · rw [e5 k (by omega), wrI_at, if_neg (by omega)]
    · rw [e6 q k hq, wrI_at, if_neg (by omega)]
theorem I_shelf_fl {nb : Nat} {C R C' R' : Mm} (h : I_shelf nb C R) (hc : ∀ q i, 60 ≤ q ∧ q < 72 → C'.1 q i = C.1 q i) (hl : ∀ q i, 60 ≤ q ∧ q < 72 → C'.2 q i = C.2 q i) (hr : ∀ q i, q = 99 ∨ q = 100 → R'.1 q i = R.1 q i) (hrl : ∀ i, R'.2 101 i = R.2 101 i) : I_shelf nb C' R' :=
  fun j hj => I_sh_fr hj (h j hj) (fun q i hq => hc q i (by rw [hq]; unfold shc; omega)) (fun i => hl _ i (by unfold she; omega)) (fun q hq => hr q j hq) (fun i _ => hrl _)
/-- a call that touches nothing that lasts -/
theorem Inv_fl {t : Nat} {C R C' R' : Mm} (h : Inv t C R) (hc : ag fScr C C') (hr : ag fScrR R R') : Inv t C' R' := by
  obtain ⟨k, nb, h1, h2, h3, h4, h5, h6, h7, h8, h9, h10⟩ := h
  have zc : ∀ q i, lastC q i → C'.1 q i = C.1 q i := fun q i hq => hc.1 q i (fun z => z.1 hq)
  have zr : ∀ q i, lastR q i → R'.1 q i = R.1 q i := fun q i hq => hr.1 q i (fun z => z.1 hq)
  refine ⟨k, nb, I_tape_fr h1 ?_ ?_, I_head_fr h2 ?_ ?_, I_pair_fr h2.1 h3 ?_ ?_, I_chg_fr h4 ?_ ?_, I_seen_fr h5 ?_ ?_, I_told_fr h6 ?_ ?_, I_body_fr h7 ?_ ?_, I_ran_fr h8 ?_ ?_, I_shelf_fl h9 ?_ (fun q i hq => hc.2 q i (fun z => by unfold fScr at z; omega)) ?_ (fun i => hr.2 101 i (fun z => z.2 rfl)), I_cho_fr h10 ?_ ?_⟩
  all_goals first
    | exact fun q i z => zc q i (by unfold lastC; omega)
    | exact fun q i z => zr q i (by unfold lastR; omega)
theorem op_choice {t n : Nat} (hn : 1000 ≤ n) {C R : Mm} (h : Inv t C R) : ∃ r C' R', fX10_choice n C = some (r, C') ∧ fX11_choice n R = some (r, R') ∧ Inv (t + 1) C' R' := by
  obtain ⟨k, nb, h1, h2, h3, h4, h5, h6, h7, h8, h9, h10⟩ := h
  obtain ⟨b, hb, t1, t2, t3⟩ := h1
  obtain ⟨T, hT⟩ : ∃ T : Nat → Nat, ∀ i, i < b → T i < 256 ∧ C.1 2 i = nI (T i) ∧ R.1 77 i = nI (T i) := by
    refine ⟨fun i => (C.1 2 i).toNatClampNeg, fun i hi => ?_⟩
    obtain ⟨v, v1, v2, v3⟩ := t3 i hi
    show (C.1 2 i).toNatClampNeg < 256 ∧ C.1 2 i = nI (C.1 2 i).toNatClampNeg ∧ R.1 77 i = nI (C.1 2 i).toNatClampNeg
    rw [v2, n_clampS (by omega)]
    exact ⟨v1, rfl, v3⟩
  have hC : BT T b C := ⟨hb, t1, fun i hi => ⟨(hT i hi).1, (hT i hi).2.1⟩⟩
  have hV : ∀ c, isNm c = true → R.1 79 (nmi c) = (fun x : Int32 => R.1 79 (nmi x.toNatClampNeg)) (nI c) := by
    intro c hc
    show R.1 79 (nmi c) = R.1 79 (nmi (nI c).toNatClampNeg)
    rw [n_clampS]
    unfold isNm at hc
    simp only [Bool.or_eq_true, beq_iff_eq] at hc
    omega
  have hc := read_c hn hC
  have hr := workOut_r hn (V := fun x : Int32 => R.1 79 (nmi x.toNatClampNeg)) (b := -nI 1) (R := R) hb (fun i hi => (hT i hi).1) (Or.inl ⟨rfl, fun i hi => (hT i hi).2.2⟩) hV
  have fin : ∀ C' R' : Mm, C'.1 1 1 = nI 0 → R'.1 72 7 = nI 0 → (∀ q i, ¬ (q = 1 ∨ q = 32 ∨ q = 33 ∨ q = 34 ∨ q = 103 ∨ q = 104) → C'.1 q i = C.1 q i) → (∀ q i, 60 ≤ q ∧ q < 72 → C'.2 q i = C.2 q i) → (∀ q i, ¬ (q = 78 ∨ (q = 72 ∧ (i = 7 ∨ i = 9 ∨ (10 ≤ i ∧ i ≤ 14)))) → R'.1 q i = R.1 q i) → (∀ i, R'.2 101 i = R.2 101 i) → I_cho C' R' → Inv (t + 1) C' R' := by
    intro C' R' f1 f2 zc zcl zr zrl f3
    refine ⟨k, nb, ⟨0, by omega, f1, f2, fun i hi => by omega⟩, I_head_fr h2 (fun q i hq => zc q i (by omega)) (fun q i hq => zr q i (by omega)), I_pair_up (Nat.le_succ t) (I_pair_fr h2.1 h3 (fun q i hq => zc q i (by omega)) (fun q i hq => zr q i (by omega))), I_chg_fr h4 (fun q i hq => zc q i (by omega)) (fun q i hq => zr q i (by omega)), I_seen_fr h5 (fun q i hq => zc q i (by omega)) (fun q i hq => zr q i (by omega)), I_told_fr h6 (fun q i hq => zc q i (by omega)) (fun q i hq => zr q i (by omega)), I_body_fr h7 (fun q i hq => zc q i (by omega)) (fun q i hq => zr q i (by omega)), I_ran_fr h8 (fun q i hq => zc q i (by omega)) (fun q i hq => zr q i (by omega)), I_shelf_fl h9 (fun q i hq => zc q i (by omega)) zcl (fun q i hq => zr q i (by omega)) zrl, f3⟩
  unfold fX10_choice fX11_choice fX9_clear
  rcases hc with ⟨q, C3, c1, c2, c3⟩ | ⟨ks, q, C3, c1, c2, c3, c4, c5, c6⟩
  · have fr := read_fr (by omega) c2
    rcases hr with ⟨q2, w, R1, r1, r2, r3, r4⟩ | ⟨ks2, q2, R1, r1, r2, r3⟩
    · have hqq : q2 = q := congrArg Prod.snd (r1.symm.trans c1)
      subst hqq
      have fw := gw_X11_workOut r2
      have r7 : R1.1 72 7 = nI b := by
        rw [fw.1 72 7 (by unfold fWrk; omega)]
        exact t2
      refine ⟨-nI 100 - nI q2, wrI C3 1 1 (nI 0), wrI R1 72 7 (nI 0), ?_, ?_, fin _ _ (by simp (disch := omega) only [↓lt_d, eq_self, lN_add, i_l, wTn, wFa, wFb, wCT, wCF, mNe, mNe2, mLt, mLe, bp_s, bn_s, n_clampS, nI_1, nI_add, pk_sub, nI_mul, wrI_at, wrI_2, wrL_at, wrL_1, true_and, false_and, and_true, and_false, and_self, ↓reduceIte, Nat.reduceEqDiff, Nat.reduceAdd, Nat.reduceMul, Nat.add_zero, Nat.zero_add, reduceCtorEq, l_0, l_1, l_2, l_3, l_4, l_5, l_6, l_7, l_8, l_9, l_10, l_15, l_24, l_32, l_39, l_40, l_47, l_48, l_50, l_57, l_60, l_63, l_80, l_95, l_99, l_100, l_120, l_126, l_128, l_1000, l_9999, l_10000, L_0, L_1, L_2, L_3, L_4, L_5, L_7, L_9, L_15, L_40, L_50, L_99, L_127, L_9999, c_ltT, c_ltF, c_leT, c_leF, c_eqT, c_eqF, n_leF, n_ltF, c_gltT, c_gltF, c_ggtT, c_ggtF, false_or, or_false, or_self, true_or, or_true]) (by simp (disch := omega) only [↓lt_d, eq_self, lN_add, i_l, wTn, wFa, wFb, wCT, wCF, mNe, mNe2, mLt, mLe, bp_s, bn_s, n_clampS, nI_1, nI_add, pk_sub, nI_mul, wrI_at, wrI_2, wrL_at, wrL_1, true_and, false_and, and_true, and_false, and_self, ↓reduceIte, Nat.reduceEqDiff, Nat.reduceAdd, Nat.reduceMul, Nat.add_zero, Nat.zero_add, reduceCtorEq, l_0, l_1, l_2, l_3, l_4, l_5, l_6, l_7, l_8, l_9, l_10, l_15, l_24, l_32, l_39, l_40, l_47, l_48, l_50, l_57, l_60, l_63, l_80, l_95, l_99, l_100, l_120, l_126, l_128, l_1000, l_9999, l_10000, L_0, L_1, L_2, L_3, L_4, L_5, L_7, L_9, L_15, L_40, L_50, L_99, L_127, L_9999, c_ltT, c_ltF, c_leT, c_leF, c_eqT, c_eqF, n_leF, n_ltF, c_gltT, c_gltF, c_ggtT, c_ggtF, false_or, or_false, or_self, true_or, or_true]) (fun q i hq => ?_) (fun q i hq => ?_) (fun q i hq => ?_) (fun i => ?_) (I_cho_fr h10 (fun q i hq => ?_) (fun q i hq => ?_))⟩
      · simp (disch := omega) only [c2, ↓lt_d, eq_self, lN_add, i_l, wTn, wFa, wFb, wCT, wCF, mNe, mNe2, mLt, mLe, bp_s, bn_s, n_clampS, nI_1, nI_add, pk_sub, nI_mul, wrI_at, wrI_2, wrL_at, wrL_1, true_and, false_and, and_true, and_false, and_self, ↓reduceIte, Nat.reduceEqDiff, Nat.reduceAdd, Nat.reduceMul, Nat.add_zero, Nat.zero_add, reduceCtorEq, l_0, l_1, l_2, l_3, l_4, l_5, l_6, l_7, l_8, l_9, l_10, l_15, l_24, l_32, l_39, l_40, l_47, l_48, l_50, l_57, l_60, l_63, l_80, l_95, l_99, l_100, l_120, l_126, l_128, l_1000, l_9999, l_10000, L_0, L_1, L_2, L_3, L_4, L_5, L_7, L_9, L_15, L_40, L_50, L_99, L_127, L_9999, c_ltT, c_ltF, c_leT, c_leF, c_eqT, c_eqF, n_leF, n_ltF, c_gltT, c_gltF, c_ggtT, c_ggtF, false_or, or_false, or_self, true_or, or_true]
      · simp (disch := omega) only [t2, r2, r3, ↓lt_d, eq_self, lN_add, i_l, wTn, wFa, wFb, wCT, wCF, mNe, mNe2, mLt, mLe, bp_s, bn_s, n_clampS, nI_1, nI_add, pk_sub, nI_mul, wrI_at, wrI_2, wrL_at, wrL_1, true_and, false_and, and_true, and_false, and_self, ↓reduceIte, Nat.reduceEqDiff, Nat.reduceAdd, Nat.reduceMul, Nat.add_zero, Nat.zero_add, reduceCtorEq, l_0, l_1, l_2, l_3, l_4, l_5, l_6, l_7, l_8, l_9, l_10, l_15, l_24, l_32, l_39, l_40, l_47, l_48, l_50, l_57, l_60, l_63, l_80, l_95, l_99, l_100, l_120, l_126, l_128, l_1000, l_9999, l_10000, L_0, L_1, L_2, L_3, L_4, L_5, L_7, L_9, L_15, L_40, L_50, L_99, L_127, L_9999, c_ltT, c_ltF, c_leT, c_leF, c_eqT, c_eqF, n_leF, n_ltF, c_gltT, c_gltF, c_ggtT, c_ggtF, false_or, or_false, or_self, true_or, or_true]
      · rw [wrI_at, if_neg (by omega), fr.1 q i (by unfold fPaq; omega)]
      · exact fr.2 q i (by unfold fPaq; omega)
      · rw [wrI_at, if_neg (by omega), fw.1 q i (by unfold fWrk; omega)]
      · exact fw.2 101 i (by unfold fWrk; omega)
      · rw [wrI_at, if_neg (by omega), fr.1 q i (by unfold fPaq; omega)]
      · rw [wrI_at, if_neg (by omega), fw.1 q i (by unfold fWrk; omega)]
    · have hqq := congrArg Prod.fst (r1.symm.trans c1)
      cases hqq
  · have fr := gp_X3_read c2
    rcases hr with ⟨q2, w, R1, r1, r2, r3, r4⟩ | ⟨ks2, q2, R1, r1, r2, r3⟩
    · have hqq := congrArg Prod.fst (r1.symm.trans c1)
      cases hqq
    · have hkk : ks2 = ks := Option.some.inj (congrArg Prod.fst (r1.symm.trans c1))
      subst hkk
      have fw := gw_X11_workOut r2
      have r7 : R1.1 72 7 = nI b := by
        rw [fw.1 72 7 (by unfold fWrk; omega)]
        exact t2
      have hb1 : 1 ≤ b := by
        by_cases hb0 : b = 0
        · subst hb0
          have : pLines T 0 (0 + 1) [] 0 = (none, 0) := rfl
          rw [this] at c1
          have := congrArg Prod.fst c1
          cases this
        · omega
      obtain ⟨R2, y1, y2, y3, y4, y5, y6⟩ := copy_r (n := n) hb b n 0 (wrI R1 72 7 (nI 0)) (by omega) (by omega) (by omega)
      refine ⟨nI 1, wrI C3 1 1 (nI 0), R2, ?_, ?_, fin _ _ (by simp (disch := omega) only [↓lt_d, eq_self, lN_add, i_l, wTn, wFa, wFb, wCT, wCF, mNe, mNe2, mLt, mLe, bp_s, bn_s, n_clampS, nI_1, nI_add, pk_sub, nI_mul, wrI_at, wrI_2, wrL_at, wrL_1, true_and, false_and, and_true, and_false, and_self, ↓reduceIte, Nat.reduceEqDiff, Nat.reduceAdd, Nat.reduceMul, Nat.add_zero, Nat.zero_add, reduceCtorEq, l_0, l_1, l_2, l_3, l_4, l_5, l_6, l_7, l_8, l_9, l_10, l_15, l_24, l_32, l_39, l_40, l_47, l_48, l_50, l_57, l_60, l_63, l_80, l_95, l_99, l_100, l_120, l_126, l_128, l_1000, l_9999, l_10000, L_0, L_1, L_2, L_3, L_4, L_5, L_7, L_9, L_15, L_40, L_50, L_99, L_127, L_9999, c_ltT, c_ltF, c_leT, c_leF, c_eqT, c_eqF, n_leF, n_ltF, c_gltT, c_gltF, c_ggtT, c_ggtF, false_or, or_false, or_self, true_or, or_true]) ?_ (fun q i hq => ?_) (fun q i hq => ?_) (fun q i hq => ?_) (fun i => ?_) (Or.inr ⟨T, b, q, ks2, hb1, hb, y3, fun i hi => ⟨(hT i hi).1, ?_⟩, c1, c3, c4, ?_, fun i hi => ?_⟩)⟩
      · simp (disch := omega) only [c2, ↓lt_d, eq_self, lN_add, i_l, wTn, wFa, wFb, wCT, wCF, mNe, mNe2, mLt, mLe, bp_s, bn_s, n_clampS, nI_1, nI_add, pk_sub, nI_mul, wrI_at, wrI_2, wrL_at, wrL_1, true_and, false_and, and_true, and_false, and_self, ↓reduceIte, Nat.reduceEqDiff, Nat.reduceAdd, Nat.reduceMul, Nat.add_zero, Nat.zero_add, reduceCtorEq, l_0, l_1, l_2, l_3, l_4, l_5, l_6, l_7, l_8, l_9, l_10, l_15, l_24, l_32, l_39, l_40, l_47, l_48, l_50, l_57, l_60, l_63, l_80, l_95, l_99, l_100, l_120, l_126, l_128, l_1000, l_9999, l_10000, L_0, L_1, L_2, L_3, L_4, L_5, L_7, L_9, L_15, L_40, L_50, L_99, L_127, L_9999, c_ltT, c_ltF, c_leT, c_leF, c_eqT, c_eqF, n_leF, n_ltF, c_gltT, c_gltF, c_ggtT, c_ggtF, false_or, or_false, or_self, true_or, or_true]
      · simp (disch := omega) only [t2, r2, r7, r3, y1, ↓lt_d, eq_self, lN_add, i_l, wTn, wFa, wFb, wCT, wCF, mNe, mNe2, mLt, mLe, bp_s, bn_s, n_clampS, nI_1, nI_add, pk_sub, nI_mul, wrI_at, wrI_2, wrL_at, wrL_1, true_and, false_and, and_true, and_false, and_self, ↓reduceIte, Nat.reduceEqDiff, Nat.reduceAdd, Nat.reduceMul, Nat.add_zero, Nat.zero_add, reduceCtorEq, l_0, l_1, l_2, l_3, l_4, l_5, l_6, l_7, l_8, l_9, l_10, l_15, l_24, l_32, l_39, l_40, l_47, l_48, l_50, l_57, l_60, l_63, l_80, l_95, l_99, l_100, l_120, l_126, l_128, l_1000, l_9999, l_10000, L_0, L_1, L_2, L_3, L_4, L_5, L_7, L_9, L_15, L_40, L_50, L_99, L_127, L_9999, c_ltT, c_ltF, c_leT, c_leF, c_eqT, c_eqF, n_leF, n_ltF, c_gltT, c_gltF, c_ggtT, c_ggtF, false_or, or_false, or_self, true_or, or_true]
      · rw [y6 _ _ (by omega)]
        simp (disch := omega) only [↓lt_d, eq_self, lN_add, i_l, wTn, wFa, wFb, wCT, wCF, mNe, mNe2, mLt, mLe, bp_s, bn_s, n_clampS, nI_1, nI_add, pk_sub, nI_mul, wrI_at, wrI_2, wrL_at, wrL_1, true_and, false_and, and_true, and_false, and_self, ↓reduceIte, Nat.reduceEqDiff, Nat.reduceAdd, Nat.reduceMul, Nat.add_zero, Nat.zero_add, reduceCtorEq, l_0, l_1, l_2, l_3, l_4, l_5, l_6, l_7, l_8, l_9, l_10, l_15, l_24, l_32, l_39, l_40, l_47, l_48, l_50, l_57, l_60, l_63, l_80, l_95, l_99, l_100, l_120, l_126, l_128, l_1000, l_9999, l_10000, L_0, L_1, L_2, L_3, L_4, L_5, L_7, L_9, L_15, L_40, L_50, L_99, L_127, L_9999, c_ltT, c_ltF, c_leT, c_leF, c_eqT, c_eqF, n_leF, n_ltF, c_gltT, c_gltF, c_ggtT, c_ggtF, false_or, or_false, or_self, true_or, or_true]
      · rw [wrI_at, if_neg (by omega), fr.1 q i (by unfold fPar; omega)]
      · exact fr.2 q i (by unfold fPar; omega)
      · rw [y6 q i (by omega), wrI_at, if_neg (by omega), fw.1 q i (by unfold fWrk; omega)]
      · rw [y2]
        exact fw.2 101 i (by unfold fWrk; omega)
      · rw [y4 i (by omega) hi, wrI_at, if_neg (by omega), fw.1 77 i (by unfold fWrk; omega)]
        exact (hT i hi).2.2
      · rw [wrI_at, if_neg (by omega)]
        exact c5
      · rw [wrI_at, if_neg (by omega)]
        exact c6 i hi
