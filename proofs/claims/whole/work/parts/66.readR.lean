/-! the reference reads THE CHOICE as pLines says, and works it out -/
def bR (c : Nat) : Int32 := nI (if c < 256 then c else 0)
theorem bR_T {c : Nat} (h : c < 256) : bR c = nI c := by
  unfold bR
  rw [if_pos h]
theorem bR_F {c k : Nat} (h : c ≠ k) (hk1 : 1 ≤ k) (hk : k < 256) : (bR c = nI k) = False := by
  apply eq_false
  unfold bR
  intro z
  have z2 := (nI_eq (by split <;> omega) (by omega)).mp z
  split at z2 <;> omega
def Tx (T : Nat → Nat) (m : Nat) (R : Mm) : Prop := m ≤ 120 ∧ R.1 72 12 = nI m ∧ ((R.1 72 10 = -nI 1 ∧ ∀ i, i < m → R.1 77 i = nI (T i)) ∨ (R.1 72 10 = nI 0 ∧ ∀ i, i < m → R.1 78 i = nI (T i))) ∧ ∀ i, i < m → T i < 256
theorem Tx_w {T : Nat → Nat} {m i : Nat} {v : Int32} {R : Mm} (h : Tx T m R) (hi : i = 11 ∨ i = 13 ∨ i = 14) : Tx T m (wrI R 72 i v) := by
  obtain ⟨h1, h2, h3, h4⟩ := h
  refine ⟨h1, ?_, ?_, h4⟩
  · rw [wrI_at, if_neg (by omega)]
    exact h2
  · rcases h3 with ⟨h5, h6⟩ | ⟨h5, h6⟩
    · refine Or.inl ⟨?_, fun k hk => ?_⟩
      · rw [wrI_at, if_neg (by omega)]
        exact h5
      · rw [wrI_at, if_neg (by omega)]
        exact h6 k hk
    · refine Or.inr ⟨?_, fun k hk => ?_⟩
      · rw [wrI_at, if_neg (by omega)]
        exact h5
      · rw [wrI_at, if_neg (by omega)]
        exact h6 k hk
theorem byte_l {T : Nat → Nat} {m p : Nat} {R : Mm} (h : Tx T m R) (h7 : R.1 72 11 = nI p) (hp : p ≤ m) : fX11_byteAt R = some (bR (tk T m p)) := by
  obtain ⟨h1, h2, h3, h4⟩ := h
  unfold fX11_byteAt tk
  by_cases hpm : p < m
  · have h5 := h4 p hpm
    rw [if_pos hpm, bR_T h5]
    rcases h3 with ⟨h6, h8⟩ | ⟨h6, h8⟩
    · simp (disch := omega) only [h2, h7, h6, h8 p hpm, ↓lt_d, eq_self, lN_add, i_l, wTn, wFa, wFb, wCT, wCF, mNe, mNe2, mLt, mLe, bp_s, bn_s, n_clampS, nI_1, nI_add, pk_sub, nI_mul, wrI_at, wrI_2, wrL_at, wrL_1, true_and, false_and, and_true, and_false, and_self, ↓reduceIte, Nat.reduceEqDiff, Nat.reduceAdd, Nat.reduceMul, Nat.add_zero, Nat.zero_add, reduceCtorEq, l_0, l_1, l_2, l_3, l_4, l_5, l_6, l_7, l_8, l_9, l_10, l_15, l_24, l_32, l_39, l_40, l_47, l_48, l_50, l_57, l_60, l_63, l_80, l_95, l_99, l_100, l_120, l_126, l_128, l_1000, l_9999, l_10000, L_0, L_1, L_2, L_3, L_4, L_5, L_7, L_9, L_15, L_40, L_50, L_99, L_127, L_9999, c_ltT, c_ltF, c_leT, c_leF, c_eqT, c_eqF, n_leF, n_ltF, c_gltT, c_gltF, c_ggtT, c_ggtF, false_or, or_false, or_self, true_or, or_true]
    · simp (disch := omega) only [h2, h7, h6, h8 p hpm, ↓lt_d, eq_self, lN_add, i_l, wTn, wFa, wFb, wCT, wCF, mNe, mNe2, mLt, mLe, bp_s, bn_s, n_clampS, nI_1, nI_add, pk_sub, nI_mul, wrI_at, wrI_2, wrL_at, wrL_1, true_and, false_and, and_true, and_false, and_self, ↓reduceIte, Nat.reduceEqDiff, Nat.reduceAdd, Nat.reduceMul, Nat.add_zero, Nat.zero_add, reduceCtorEq, l_0, l_1, l_2, l_3, l_4, l_5, l_6, l_7, l_8, l_9, l_10, l_15, l_24, l_32, l_39, l_40, l_47, l_48, l_50, l_57, l_60, l_63, l_80, l_95, l_99, l_100, l_120, l_126, l_128, l_1000, l_9999, l_10000, L_0, L_1, L_2, L_3, L_4, L_5, L_7, L_9, L_15, L_40, L_50, L_99, L_127, L_9999, c_ltT, c_ltF, c_leT, c_leF, c_eqT, c_eqF, n_leF, n_ltF, c_gltT, c_gltF, c_ggtT, c_ggtF, false_or, or_false, or_self, true_or, or_true]
  · rw [if_neg hpm, show bR 256 = nI 0 by decide]
    simp (disch := omega) only [h2, h7, ↓lt_d, eq_self, lN_add, i_l, wTn, wFa, wFb, wCT, wCF, mNe, mNe2, mLt, mLe, bp_s, bn_s, n_clampS, nI_1, nI_add, pk_sub, nI_mul, wrI_at, wrI_2, wrL_at, wrL_1, true_and, false_and, and_true, and_false, and_self, ↓reduceIte, Nat.reduceEqDiff, Nat.reduceAdd, Nat.reduceMul, Nat.add_zero, Nat.zero_add, reduceCtorEq, l_0, l_1, l_2, l_3, l_4, l_5, l_6, l_7, l_8, l_9, l_10, l_15, l_24, l_32, l_39, l_40, l_47, l_48, l_50, l_57, l_60, l_63, l_80, l_95, l_99, l_100, l_120, l_126, l_128, l_1000, l_9999, l_10000, L_0, L_1, L_2, L_3, L_4, L_5, L_7, L_9, L_15, L_40, L_50, L_99, L_127, L_9999, c_ltT, c_ltF, c_leT, c_leF, c_eqT, c_eqF, n_leF, n_ltF, c_gltT, c_gltF, c_ggtT, c_ggtF, false_or, or_false, or_self, true_or, or_true]
theorem tkx_le {T : Nat → Nat} {m : Nat} {R : Mm} (h : Tx T m R) (p : Nat) : tk T m p ≤ 256 := by
  unfold tk
  split
  · rename_i hp
    have := h.2.2.2 p hp
    omega
  · omega
def nmi (c : Nat) : Nat := if c = 109 then 0 else if c = 110 then 1 else if c = 120 then 2 else if c = 121 then 3 else if c = 100 then 4 else if c = 122 then 5 else if c = 116 then 6 else 7
def RP (V : Int32 → Int32) (T : Nat → Nat) (m op p : Nat) (R : Mm) : Prop := Tx T m R ∧ R.1 72 11 = nI p ∧ p ≤ m ∧ R.1 72 13 = -nI 1 ∧ R.1 72 14 = nI op ∧ ∀ c, isNm c = true → R.1 79 (nmi c) = V (nI c)
def Dd (T : Nat → Nat) (m q : Nat) (R : Mm) : Prop := Tx T m R ∧ R.1 72 13 = nI q ∧ q ≤ m ∧ ∃ p, p ≤ m ∧ R.1 72 11 = nI p
theorem Dd_b {T : Nat → Nat} {m q : Nat} {R : Mm} (h : Dd T m q R) : ∃ x, fX11_byteAt R = some x := by
  obtain ⟨h1, h2, h3, p, h4, h5⟩ := h
  exact ⟨_, byte_l h1 h5 h4⟩
theorem Dd_t {T : Nat → Nat} {m q : Nat} {R : Mm} (h : Dd T m q R) (x : Int32) : fX11_takes x R = some (nI 0, R) := by
  obtain ⟨h1, h2, h3, p, h4, h5⟩ := h
  have hm := h1.1
  unfold fX11_takes
  simp (disch := omega) only [h2, ↓lt_d, eq_self, lN_add, i_l, wTn, wFa, wFb, wCT, wCF, mNe, mNe2, mLt, mLe, bp_s, bn_s, n_clampS, nI_1, nI_add, pk_sub, nI_mul, wrI_at, wrI_2, wrL_at, wrL_1, true_and, false_and, and_true, and_false, and_self, ↓reduceIte, Nat.reduceEqDiff, Nat.reduceAdd, Nat.reduceMul, Nat.add_zero, Nat.zero_add, reduceCtorEq, l_0, l_1, l_2, l_3, l_4, l_5, l_6, l_7, l_8, l_9, l_10, l_15, l_24, l_32, l_39, l_40, l_47, l_48, l_50, l_57, l_60, l_63, l_80, l_95, l_99, l_100, l_120, l_126, l_128, l_1000, l_9999, l_10000, L_0, L_1, L_2, L_3, L_4, L_5, L_7, L_9, L_15, L_40, L_50, L_99, L_127, L_9999, c_ltT, c_ltF, c_leT, c_leF, c_eqT, c_eqF, n_leF, n_ltF, c_gltT, c_gltF, c_ggtT, c_ggtF, false_or, or_false, or_self, true_or, or_true]
theorem RP_step {V : Int32 → Int32} {T : Nat → Nat} {m op p : Nat} {R : Mm} (h : RP V T m op p R) (hp : p < m) : RP V T m op (p + 1) (wrI R 72 11 (nI (p + 1))) := by
  obtain ⟨h1, h2, h3, h4, h5, h6⟩ := h
  refine ⟨Tx_w h1 (by omega), ?_, hp, ?_, ?_, fun c hc => ?_⟩
  · simp (disch := omega) only [↓lt_d, eq_self, lN_add, i_l, wTn, wFa, wFb, wCT, wCF, mNe, mNe2, mLt, mLe, bp_s, bn_s, n_clampS, nI_1, nI_add, pk_sub, nI_mul, wrI_at, wrI_2, wrL_at, wrL_1, true_and, false_and, and_true, and_false, and_self, ↓reduceIte, Nat.reduceEqDiff, Nat.reduceAdd, Nat.reduceMul, Nat.add_zero, Nat.zero_add, reduceCtorEq, l_0, l_1, l_2, l_3, l_4, l_5, l_6, l_7, l_8, l_9, l_10, l_15, l_24, l_32, l_39, l_40, l_47, l_48, l_50, l_57, l_60, l_63, l_80, l_95, l_99, l_100, l_120, l_126, l_128, l_1000, l_9999, l_10000, L_0, L_1, L_2, L_3, L_4, L_5, L_7, L_9, L_15, L_40, L_50, L_99, L_127, L_9999, c_ltT, c_ltF, c_leT, c_leF, c_eqT, c_eqF, n_leF, n_ltF, c_gltT, c_gltF, c_ggtT, c_ggtF, false_or, or_false, or_self, true_or, or_true]
  · simp (disch := omega) only [h4, ↓lt_d, eq_self, lN_add, i_l, wTn, wFa, wFb, wCT, wCF, mNe, mNe2, mLt, mLe, bp_s, bn_s, n_clampS, nI_1, nI_add, pk_sub, nI_mul, wrI_at, wrI_2, wrL_at, wrL_1, true_and, false_and, and_true, and_false, and_self, ↓reduceIte, Nat.reduceEqDiff, Nat.reduceAdd, Nat.reduceMul, Nat.add_zero, Nat.zero_add, reduceCtorEq, l_0, l_1, l_2, l_3, l_4, l_5, l_6, l_7, l_8, l_9, l_10, l_15, l_24, l_32, l_39, l_40, l_47, l_48, l_50, l_57, l_60, l_63, l_80, l_95, l_99, l_100, l_120, l_126, l_128, l_1000, l_9999, l_10000, L_0, L_1, L_2, L_3, L_4, L_5, L_7, L_9, L_15, L_40, L_50, L_99, L_127, L_9999, c_ltT, c_ltF, c_leT, c_leF, c_eqT, c_eqF, n_leF, n_ltF, c_gltT, c_gltF, c_ggtT, c_ggtF, false_or, or_false, or_self, true_or, or_true]
  · simp (disch := omega) only [h5, ↓lt_d, eq_self, lN_add, i_l, wTn, wFa, wFb, wCT, wCF, mNe, mNe2, mLt, mLe, bp_s, bn_s, n_clampS, nI_1, nI_add, pk_sub, nI_mul, wrI_at, wrI_2, wrL_at, wrL_1, true_and, false_and, and_true, and_false, and_self, ↓reduceIte, Nat.reduceEqDiff, Nat.reduceAdd, Nat.reduceMul, Nat.add_zero, Nat.zero_add, reduceCtorEq, l_0, l_1, l_2, l_3, l_4, l_5, l_6, l_7, l_8, l_9, l_10, l_15, l_24, l_32, l_39, l_40, l_47, l_48, l_50, l_57, l_60, l_63, l_80, l_95, l_99, l_100, l_120, l_126, l_128, l_1000, l_9999, l_10000, L_0, L_1, L_2, L_3, L_4, L_5, L_7, L_9, L_15, L_40, L_50, L_99, L_127, L_9999, c_ltT, c_ltF, c_leT, c_leF, c_eqT, c_eqF, n_leF, n_ltF, c_gltT, c_gltF, c_ggtT, c_ggtF, false_or, or_false, or_self, true_or, or_true]
  · rw [wrI_at, if_neg (by omega)]
    exact h6 c hc
theorem takes_T {V : Int32 → Int32} {T : Nat → Nat} {m op p k : Nat} {R : Mm} (h : RP V T m op p R) (hk : k < 256) (hc : tk T m p = k) : fX11_takes (nI k) R = some (nI 1, wrI R 72 11 (nI (p + 1))) := by
  obtain ⟨h1, h2, h3, h4, h5, h6⟩ := h
  have hm := h1.1
  have hb := byte_l h1 h2 h3
  rw [hc] at hb
  unfold fX11_takes
  simp (disch := omega) only [h2, h4, hb, bR_T, ↓lt_d, eq_self, lN_add, i_l, wTn, wFa, wFb, wCT, wCF, mNe, mNe2, mLt, mLe, bp_s, bn_s, n_clampS, nI_1, nI_add, pk_sub, nI_mul, wrI_at, wrI_2, wrL_at, wrL_1, true_and, false_and, and_true, and_false, and_self, ↓reduceIte, Nat.reduceEqDiff, Nat.reduceAdd, Nat.reduceMul, Nat.add_zero, Nat.zero_add, reduceCtorEq, l_0, l_1, l_2, l_3, l_4, l_5, l_6, l_7, l_8, l_9, l_10, l_15, l_24, l_32, l_39, l_40, l_47, l_48, l_50, l_57, l_60, l_63, l_80, l_95, l_99, l_100, l_120, l_126, l_128, l_1000, l_9999, l_10000, L_0, L_1, L_2, L_3, L_4, L_5, L_7, L_9, L_15, L_40, L_50, L_99, L_127, L_9999, c_ltT, c_ltF, c_leT, c_leF, c_eqT, c_eqF, n_leF, n_ltF, c_gltT, c_gltF, c_ggtT, c_ggtF, false_or, or_false, or_self, true_or, or_true]
theorem takes_F {V : Int32 → Int32} {T : Nat → Nat} {m op p k : Nat} {R : Mm} (h : RP V T m op p R) (hk1 : 1 ≤ k) (hk : k < 256) (hc : tk T m p ≠ k) : fX11_takes (nI k) R = some (nI 0, R) := by
  obtain ⟨h1, h2, h3, h4, h5, h6⟩ := h
  have hm := h1.1
  have hb := byte_l h1 h2 h3
  unfold fX11_takes
  simp (disch := omega) only [h2, h4, hb, bR_F hc hk1 hk, ↓lt_d, eq_self, lN_add, i_l, wTn, wFa, wFb, wCT, wCF, mNe, mNe2, mLt, mLe, bp_s, bn_s, n_clampS, nI_1, nI_add, pk_sub, nI_mul, wrI_at, wrI_2, wrL_at, wrL_1, true_and, false_and, and_true, and_false, and_self, ↓reduceIte, Nat.reduceEqDiff, Nat.reduceAdd, Nat.reduceMul, Nat.add_zero, Nat.zero_add, reduceCtorEq, l_0, l_1, l_2, l_3, l_4, l_5, l_6, l_7, l_8, l_9, l_10, l_15, l_24, l_32, l_39, l_40, l_47, l_48, l_50, l_57, l_60, l_63, l_80, l_95, l_99, l_100, l_120, l_126, l_128, l_1000, l_9999, l_10000, L_0, L_1, L_2, L_3, L_4, L_5, L_7, L_9, L_15, L_40, L_50, L_99, L_127, L_9999, c_ltT, c_ltF, c_leT, c_leF, c_eqT, c_eqF, n_leF, n_ltF, c_gltT, c_gltF, c_ggtT, c_ggtF, false_or, or_false, or_self, true_or, or_true]
def RdR (V : Int32 → Int32) (T : Nat → Nat) (m op : Nat) (F : Mm → Option (Int32 × Mm)) (po : Nat → PR) : Prop := ∀ p R, RP V T m op p R → (∃ q v R', po p = (none, q) ∧ F R = some (v, R') ∧ Dd T m q R') ∨ (∃ k q v R', po p = (some k, q) ∧ F R = some (v, R') ∧ RP V T m op q R' ∧ p ≤ q ∧ Ex V k v)
theorem more_prod_r {n m op : Nat} {V : Int32 → Int32} {T : Nat → Nat} {z : Mm → Option (Int32 × Mm)} {po : Nat → PR} (h : RdR V T m op z po) : ∀ f fu p ks v R, m ≤ p + f → f < fu → RP V T m op p R → Ex V ks v → (∃ q w R', pMore T m isPd po f ks p = (none, q) ∧ fX11_product_h10 n z fu v (bR (tk T m p)) R = some (w, R') ∧ Dd T m q R') ∨ (∃ k q w R', pMore T m isPd po f ks p = (some k, q) ∧ fX11_product_h10 n z fu v (bR (tk T m p)) R = some (w, R') ∧ RP V T m op q R' ∧ p ≤ q ∧ Ex V k w) := by
  intro f
  induction f with
  | zero =>
    intro fu p ks v R hi hf hR hE
    obtain ⟨fu, rfl⟩ : ∃ f, fu = f + 1 := ⟨fu - 1, by omega⟩
    have hm : m ≤ 120 := hR.1.1
    have hp := hR.2.2.1
    have h13 := hR.2.2.2.1
    have hb := byte_l hR.1 hR.2.1 hp
    have hc : tk T m p = 256 := by
      unfold tk
      rw [if_neg (by omega)]
    refine Or.inr ⟨ks, p, v, R, rfl, ?_, hR, Nat.le_refl _, hE⟩
    rw [hc] at hb
    rw [fX11_product_h10.eq_2, hc]
    simp (disch := omega) only [hb, h13, bR_F, l_33, l_37, l_38, l_41, l_42, l_43, l_45, l_59, l_61, l_62, l_124, ↓lt_d, eq_self, lN_add, i_l, wTn, wFa, wFb, wCT, wCF, mNe, mNe2, mLt, mLe, bp_s, bn_s, n_clampS, nI_1, nI_add, pk_sub, nI_mul, wrI_at, wrI_2, wrL_at, wrL_1, true_and, false_and, and_true, and_false, and_self, ↓reduceIte, Nat.reduceEqDiff, Nat.reduceAdd, Nat.reduceMul, Nat.add_zero, Nat.zero_add, reduceCtorEq, l_0, l_1, l_2, l_3, l_4, l_5, l_6, l_7, l_8, l_9, l_10, l_15, l_24, l_32, l_39, l_40, l_47, l_48, l_50, l_57, l_60, l_63, l_80, l_95, l_99, l_100, l_120, l_126, l_128, l_1000, l_9999, l_10000, L_0, L_1, L_2, L_3, L_4, L_5, L_7, L_9, L_15, L_40, L_50, L_99, L_127, L_9999, c_ltT, c_ltF, c_leT, c_leF, c_eqT, c_eqF, n_leF, n_ltF, c_gltT, c_gltF, c_ggtT, c_ggtF, false_or, or_false, or_self, true_or, or_true]
  | succ f ih =>
    intro fu p ks v R hi hf hR hE
    obtain ⟨fu, rfl⟩ : ∃ f, fu = f + 1 := ⟨fu - 1, by omega⟩
    have hm : m ≤ 120 := hR.1.1
    have hp := hR.2.2.1
    have h11 := hR.2.1
    have h13 := hR.2.2.2.1
    have hb := byte_l hR.1 hR.2.1 hp
    have hc256 := tkx_le hR.1 p
    rw [fX11_product_h10.eq_2]
    show (∃ q w R', (if isPd (tk T m p) then (match po (p + 1) with | (none, q) => (none, q) | (some k2, q) => pMore T m isPd po f (ks ++ k2 ++ [sg (tk T m p)]) q) else (some ks, p)) = (none, q) ∧ _) ∨ (∃ k q w R', (if isPd (tk T m p) then (match po (p + 1) with | (none, q) => (none, q) | (some k2, q) => pMore T m isPd po f (ks ++ k2 ++ [sg (tk T m p)]) q) else (some ks, p)) = (some k, q) ∧ _)
    by_cases his : isPd (tk T m p) = true
    · rw [if_pos his]
      have hops : tk T m p = 42 ∨ tk T m p = 47 ∨ tk T m p = 37 := (by unfold isPd at his; simp only [Bool.or_eq_true, beq_iff_eq] at his; omega)
      have hpm : p < m := by
        by_cases hh : p < m
        · exact hh
        · unfold tk at hops
          rw [if_neg hh] at hops
          omega
      have hR1 := RP_step hR hpm
      rcases h (p + 1) _ hR1 with ⟨q, x, R2, e1, e2, e3⟩ | ⟨k2, q, x, R2, e1, e2, e3, e4, e5⟩
      · obtain ⟨fu, rfl⟩ : ∃ f, fu = f + 1 := ⟨fu - 1, by omega⟩
        obtain ⟨y, hy⟩ := Dd_b e3
        have hd := e3.2.1
        have hqm := e3.2.2.1
        have hex : ∀ v y, fX11_product_h10 n z (fu + 1) v y R2 = some (v, R2) := by
          intro v y
          rw [fX11_product_h10.eq_2]
          simp (disch := omega) only [hd, l_33, l_37, l_38, l_41, l_42, l_43, l_45, l_59, l_61, l_62, l_124, ↓lt_d, eq_self, lN_add, i_l, wTn, wFa, wFb, wCT, wCF, mNe, mNe2, mLt, mLe, bp_s, bn_s, n_clampS, nI_1, nI_add, pk_sub, nI_mul, wrI_at, wrI_2, wrL_at, wrL_1, true_and, false_and, and_true, and_false, and_self, ↓reduceIte, Nat.reduceEqDiff, Nat.reduceAdd, Nat.reduceMul, Nat.add_zero, Nat.zero_add, reduceCtorEq, l_0, l_1, l_2, l_3, l_4, l_5, l_6, l_7, l_8, l_9, l_10, l_15, l_24, l_32, l_39, l_40, l_47, l_48, l_50, l_57, l_60, l_63, l_80, l_95, l_99, l_100, l_120, l_126, l_128, l_1000, l_9999, l_10000, L_0, L_1, L_2, L_3, L_4, L_5, L_7, L_9, L_15, L_40, L_50, L_99, L_127, L_9999, c_ltT, c_ltF, c_leT, c_leF, c_eqT, c_eqF, n_leF, n_ltF, c_gltT, c_gltF, c_ggtT, c_ggtF, false_or, or_false, or_self, true_or, or_true]
        rcases hops with hops | hops | hops
        · rw [hops] at hb ⊢
          refine Or.inl ⟨q, v * x, R2, by rw [e1], ?_, e3⟩
          unfold fX11_product_b35 fX11_product_b85
          simp (disch := omega) only [h11, h13, bR_T, e2, hy, hex, l_33, l_37, l_38, l_41, l_42, l_43, l_45, l_59, l_61, l_62, l_124, ↓lt_d, eq_self, lN_add, i_l, wTn, wFa, wFb, wCT, wCF, mNe, mNe2, mLt, mLe, bp_s, bn_s, n_clampS, nI_1, nI_add, pk_sub, nI_mul, wrI_at, wrI_2, wrL_at, wrL_1, true_and, false_and, and_true, and_false, and_self, ↓reduceIte, Nat.reduceEqDiff, Nat.reduceAdd, Nat.reduceMul, Nat.add_zero, Nat.zero_add, reduceCtorEq, l_0, l_1, l_2, l_3, l_4, l_5, l_6, l_7, l_8, l_9, l_10, l_15, l_24, l_32, l_39, l_40, l_47, l_48, l_50, l_57, l_60, l_63, l_80, l_95, l_99, l_100, l_120, l_126, l_128, l_1000, l_9999, l_10000, L_0, L_1, L_2, L_3, L_4, L_5, L_7, L_9, L_15, L_40, L_50, L_99, L_127, L_9999, c_ltT, c_ltF, c_leT, c_leF, c_eqT, c_eqF, n_leF, n_ltF, c_gltT, c_gltF, c_ggtT, c_ggtF, false_or, or_false, or_self, true_or, or_true]
        · rw [hops] at hb ⊢
          by_cases hx : x = 0
          · subst hx
            refine Or.inl ⟨q, nI 0, R2, by rw [e1], ?_, e3⟩
            unfold fX11_product_b35 fX11_product_b85
            simp (disch := omega) only [h11, h13, bR_T, e2, hy, hex, l_33, l_37, l_38, l_41, l_42, l_43, l_45, l_59, l_61, l_62, l_124, ↓lt_d, eq_self, lN_add, i_l, wTn, wFa, wFb, wCT, wCF, mNe, mNe2, mLt, mLe, bp_s, bn_s, n_clampS, nI_1, nI_add, pk_sub, nI_mul, wrI_at, wrI_2, wrL_at, wrL_1, true_and, false_and, and_true, and_false, and_self, ↓reduceIte, Nat.reduceEqDiff, Nat.reduceAdd, Nat.reduceMul, Nat.add_zero, Nat.zero_add, reduceCtorEq, l_0, l_1, l_2, l_3, l_4, l_5, l_6, l_7, l_8, l_9, l_10, l_15, l_24, l_32, l_39, l_40, l_47, l_48, l_50, l_57, l_60, l_63, l_80, l_95, l_99, l_100, l_120, l_126, l_128, l_1000, l_9999, l_10000, L_0, L_1, L_2, L_3, L_4, L_5, L_7, L_9, L_15, L_40, L_50, L_99, L_127, L_9999, c_ltT, c_ltF, c_leT, c_leF, c_eqT, c_eqF, n_leF, n_ltF, c_gltT, c_gltF, c_ggtT, c_ggtF, false_or, or_false, or_self, true_or, or_true]
          · have hx0 : (x = nI 0) = False := eq_false hx
            refine Or.inl ⟨q, v / x, R2, by rw [e1], ?_, e3⟩
            unfold fX11_product_b35 fX11_product_b85
            simp (disch := omega) only [h11, h13, bR_T, e2, hy, hex, hx0, l_33, l_37, l_38, l_41, l_42, l_43, l_45, l_59, l_61, l_62, l_124, ↓lt_d, eq_self, lN_add, i_l, wTn, wFa, wFb, wCT, wCF, mNe, mNe2, mLt, mLe, bp_s, bn_s, n_clampS, nI_1, nI_add, pk_sub, nI_mul, wrI_at, wrI_2, wrL_at, wrL_1, true_and, false_and, and_true, and_false, and_self, ↓reduceIte, Nat.reduceEqDiff, Nat.reduceAdd, Nat.reduceMul, Nat.add_zero, Nat.zero_add, reduceCtorEq, l_0, l_1, l_2, l_3, l_4, l_5, l_6, l_7, l_8, l_9, l_10, l_15, l_24, l_32, l_39, l_40, l_47, l_48, l_50, l_57, l_60, l_63, l_80, l_95, l_99, l_100, l_120, l_126, l_128, l_1000, l_9999, l_10000, L_0, L_1, L_2, L_3, L_4, L_5, L_7, L_9, L_15, L_40, L_50, L_99, L_127, L_9999, c_ltT, c_ltF, c_leT, c_leF, c_eqT, c_eqF, n_leF, n_ltF, c_gltT, c_gltF, c_ggtT, c_ggtF, false_or, or_false, or_self, true_or, or_true]
        · rw [hops] at hb ⊢
          by_cases hx : x = 0
          · subst hx
            refine Or.inl ⟨q, nI 0, R2, by rw [e1], ?_, e3⟩
            unfold fX11_product_b35 fX11_product_b85
            simp (disch := omega) only [h11, h13, bR_T, e2, hy, hex, l_33, l_37, l_38, l_41, l_42, l_43, l_45, l_59, l_61, l_62, l_124, ↓lt_d, eq_self, lN_add, i_l, wTn, wFa, wFb, wCT, wCF, mNe, mNe2, mLt, mLe, bp_s, bn_s, n_clampS, nI_1, nI_add, pk_sub, nI_mul, wrI_at, wrI_2, wrL_at, wrL_1, true_and, false_and, and_true, and_false, and_self, ↓reduceIte, Nat.reduceEqDiff, Nat.reduceAdd, Nat.reduceMul, Nat.add_zero, Nat.zero_add, reduceCtorEq, l_0, l_1, l_2, l_3, l_4, l_5, l_6, l_7, l_8, l_9, l_10, l_15, l_24, l_32, l_39, l_40, l_47, l_48, l_50, l_57, l_60, l_63, l_80, l_95, l_99, l_100, l_120, l_126, l_128, l_1000, l_9999, l_10000, L_0, L_1, L_2, L_3, L_4, L_5, L_7, L_9, L_15, L_40, L_50, L_99, L_127, L_9999, c_ltT, c_ltF, c_leT, c_leF, c_eqT, c_eqF, n_leF, n_ltF, c_gltT, c_gltF, c_ggtT, c_ggtF, false_or, or_false, or_self, true_or, or_true]
          · have hx0 : (x = nI 0) = False := eq_false hx
            refine Or.inl ⟨q, irm v x, R2, by rw [e1], ?_, e3⟩
            unfold fX11_product_b35 fX11_product_b85
            simp (disch := omega) only [h11, h13, bR_T, e2, hy, hex, hx0, l_33, l_37, l_38, l_41, l_42, l_43, l_45, l_59, l_61, l_62, l_124, ↓lt_d, eq_self, lN_add, i_l, wTn, wFa, wFb, wCT, wCF, mNe, mNe2, mLt, mLe, bp_s, bn_s, n_clampS, nI_1, nI_add, pk_sub, nI_mul, wrI_at, wrI_2, wrL_at, wrL_1, true_and, false_and, and_true, and_false, and_self, ↓reduceIte, Nat.reduceEqDiff, Nat.reduceAdd, Nat.reduceMul, Nat.add_zero, Nat.zero_add, reduceCtorEq, l_0, l_1, l_2, l_3, l_4, l_5, l_6, l_7, l_8, l_9, l_10, l_15, l_24, l_32, l_39, l_40, l_47, l_48, l_50, l_57, l_60, l_63, l_80, l_95, l_99, l_100, l_120, l_126, l_128, l_1000, l_9999, l_10000, L_0, L_1, L_2, L_3, L_4, L_5, L_7, L_9, L_15, L_40, L_50, L_99, L_127, L_9999, c_ltT, c_ltF, c_leT, c_leF, c_eqT, c_eqF, n_leF, n_ltF, c_gltT, c_gltF, c_ggtT, c_ggtF, false_or, or_false, or_self, true_or, or_true]
      · have hb2 := byte_l e3.1 e3.2.1 e3.2.2.1
        rcases hops with hops | hops | hops
        · have hE2 := Ex_bin (V := V) (c := 42) (by unfold isOp; omega) hE e5
          rcases ih fu q (ks ++ k2 ++ [sg 42]) _ R2 (by omega) (by omega) e3 hE2 with ⟨q', w, R3, t1, t2, t3⟩ | ⟨k, q', w, R3, t1, t2, t3, t4, t5⟩
          · refine Or.inl ⟨q', w, R3, by rw [e1, hops]; exact t1, ?_, t3⟩
            rw [hops] at hb ⊢
            unfold fX11_product_b35 fX11_product_b85
            rw [jn_42] at t2
            simp (disch := omega) only [h11, h13, bR_T, e2, hb2, l_33, l_37, l_38, l_41, l_42, l_43, l_45, l_59, l_61, l_62, l_124, ↓lt_d, eq_self, lN_add, i_l, wTn, wFa, wFb, wCT, wCF, mNe, mNe2, mLt, mLe, bp_s, bn_s, n_clampS, nI_1, nI_add, pk_sub, nI_mul, wrI_at, wrI_2, wrL_at, wrL_1, true_and, false_and, and_true, and_false, and_self, ↓reduceIte, Nat.reduceEqDiff, Nat.reduceAdd, Nat.reduceMul, Nat.add_zero, Nat.zero_add, reduceCtorEq, l_0, l_1, l_2, l_3, l_4, l_5, l_6, l_7, l_8, l_9, l_10, l_15, l_24, l_32, l_39, l_40, l_47, l_48, l_50, l_57, l_60, l_63, l_80, l_95, l_99, l_100, l_120, l_126, l_128, l_1000, l_9999, l_10000, L_0, L_1, L_2, L_3, L_4, L_5, L_7, L_9, L_15, L_40, L_50, L_99, L_127, L_9999, c_ltT, c_ltF, c_leT, c_leF, c_eqT, c_eqF, n_leF, n_ltF, c_gltT, c_gltF, c_ggtT, c_ggtF, false_or, or_false, or_self, true_or, or_true]
            exact t2
          · refine Or.inr ⟨k, q', w, R3, by rw [e1, hops]; exact t1, ?_, t3, by omega, t5⟩
            rw [hops] at hb ⊢
            unfold fX11_product_b35 fX11_product_b85
            rw [jn_42] at t2
            simp (disch := omega) only [h11, h13, bR_T, e2, hb2, l_33, l_37, l_38, l_41, l_42, l_43, l_45, l_59, l_61, l_62, l_124, ↓lt_d, eq_self, lN_add, i_l, wTn, wFa, wFb, wCT, wCF, mNe, mNe2, mLt, mLe, bp_s, bn_s, n_clampS, nI_1, nI_add, pk_sub, nI_mul, wrI_at, wrI_2, wrL_at, wrL_1, true_and, false_and, and_true, and_false, and_self, ↓reduceIte, Nat.reduceEqDiff, Nat.reduceAdd, Nat.reduceMul, Nat.add_zero, Nat.zero_add, reduceCtorEq, l_0, l_1, l_2, l_3, l_4, l_5, l_6, l_7, l_8, l_9, l_10, l_15, l_24, l_32, l_39, l_40, l_47, l_48, l_50, l_57, l_60, l_63, l_80, l_95, l_99, l_100, l_120, l_126, l_128, l_1000, l_9999, l_10000, L_0, L_1, L_2, L_3, L_4, L_5, L_7, L_9, L_15, L_40, L_50, L_99, L_127, L_9999, c_ltT, c_ltF, c_leT, c_leF, c_eqT, c_eqF, n_leF, n_ltF, c_gltT, c_gltF, c_ggtT, c_ggtF, false_or, or_false, or_self, true_or, or_true]
            exact t2
        · have hE2 := Ex_bin (V := V) (c := 47) (by unfold isOp; omega) hE e5
          rcases ih fu q (ks ++ k2 ++ [sg 47]) _ R2 (by omega) (by omega) e3 hE2 with ⟨q', w, R3, t1, t2, t3⟩ | ⟨k, q', w, R3, t1, t2, t3, t4, t5⟩
          · refine Or.inl ⟨q', w, R3, by rw [e1, hops]; exact t1, ?_, t3⟩
            rw [hops] at hb ⊢
            unfold fX11_product_b35 fX11_product_b85
            by_cases hx : x = 0
            · rw [(jn_z hx).1] at t2
              subst hx
              simp (disch := omega) only [h11, h13, bR_T, e2, hb2, l_33, l_37, l_38, l_41, l_42, l_43, l_45, l_59, l_61, l_62, l_124, ↓lt_d, eq_self, lN_add, i_l, wTn, wFa, wFb, wCT, wCF, mNe, mNe2, mLt, mLe, bp_s, bn_s, n_clampS, nI_1, nI_add, pk_sub, nI_mul, wrI_at, wrI_2, wrL_at, wrL_1, true_and, false_and, and_true, and_false, and_self, ↓reduceIte, Nat.reduceEqDiff, Nat.reduceAdd, Nat.reduceMul, Nat.add_zero, Nat.zero_add, reduceCtorEq, l_0, l_1, l_2, l_3, l_4, l_5, l_6, l_7, l_8, l_9, l_10, l_15, l_24, l_32, l_39, l_40, l_47, l_48, l_50, l_57, l_60, l_63, l_80, l_95, l_99, l_100, l_120, l_126, l_128, l_1000, l_9999, l_10000, L_0, L_1, L_2, L_3, L_4, L_5, L_7, L_9, L_15, L_40, L_50, L_99, L_127, L_9999, c_ltT, c_ltF, c_leT, c_leF, c_eqT, c_eqF, n_leF, n_ltF, c_gltT, c_gltF, c_ggtT, c_ggtF, false_or, or_false, or_self, true_or, or_true]
              exact t2
            · rw [jn_47 hx] at t2
              have hx0 : (x = nI 0) = False := eq_false hx
              simp (disch := omega) only [h11, h13, bR_T, e2, hb2, hx0, l_33, l_37, l_38, l_41, l_42, l_43, l_45, l_59, l_61, l_62, l_124, ↓lt_d, eq_self, lN_add, i_l, wTn, wFa, wFb, wCT, wCF, mNe, mNe2, mLt, mLe, bp_s, bn_s, n_clampS, nI_1, nI_add, pk_sub, nI_mul, wrI_at, wrI_2, wrL_at, wrL_1, true_and, false_and, and_true, and_false, and_self, ↓reduceIte, Nat.reduceEqDiff, Nat.reduceAdd, Nat.reduceMul, Nat.add_zero, Nat.zero_add, reduceCtorEq, l_0, l_1, l_2, l_3, l_4, l_5, l_6, l_7, l_8, l_9, l_10, l_15, l_24, l_32, l_39, l_40, l_47, l_48, l_50, l_57, l_60, l_63, l_80, l_95, l_99, l_100, l_120, l_126, l_128, l_1000, l_9999, l_10000, L_0, L_1, L_2, L_3, L_4, L_5, L_7, L_9, L_15, L_40, L_50, L_99, L_127, L_9999, c_ltT, c_ltF, c_leT, c_leF, c_eqT, c_eqF, n_leF, n_ltF, c_gltT, c_gltF, c_ggtT, c_ggtF, false_or, or_false, or_self, true_or, or_true]
              exact t2
          · refine Or.inr ⟨k, q', w, R3, by rw [e1, hops]; exact t1, ?_, t3, by omega, t5⟩
            rw [hops] at hb ⊢
            unfold fX11_product_b35 fX11_product_b85
            by_cases hx : x = 0
            · rw [(jn_z hx).1] at t2
              subst hx
              simp (disch := omega) only [h11, h13, bR_T, e2, hb2, l_33, l_37, l_38, l_41, l_42, l_43, l_45, l_59, l_61, l_62, l_124, ↓lt_d, eq_self, lN_add, i_l, wTn, wFa, wFb, wCT, wCF, mNe, mNe2, mLt, mLe, bp_s, bn_s, n_clampS, nI_1, nI_add, pk_sub, nI_mul, wrI_at, wrI_2, wrL_at, wrL_1, true_and, false_and, and_true, and_false, and_self, ↓reduceIte, Nat.reduceEqDiff, Nat.reduceAdd, Nat.reduceMul, Nat.add_zero, Nat.zero_add, reduceCtorEq, l_0, l_1, l_2, l_3, l_4, l_5, l_6, l_7, l_8, l_9, l_10, l_15, l_24, l_32, l_39, l_40, l_47, l_48, l_50, l_57, l_60, l_63, l_80, l_95, l_99, l_100, l_120, l_126, l_128, l_1000, l_9999, l_10000, L_0, L_1, L_2, L_3, L_4, L_5, L_7, L_9, L_15, L_40, L_50, L_99, L_127, L_9999, c_ltT, c_ltF, c_leT, c_leF, c_eqT, c_eqF, n_leF, n_ltF, c_gltT, c_gltF, c_ggtT, c_ggtF, false_or, or_false, or_self, true_or, or_true]
              exact t2
            · rw [jn_47 hx] at t2
              have hx0 : (x = nI 0) = False := eq_false hx
              simp (disch := omega) only [h11, h13, bR_T, e2, hb2, hx0, l_33, l_37, l_38, l_41, l_42, l_43, l_45, l_59, l_61, l_62, l_124, ↓lt_d, eq_self, lN_add, i_l, wTn, wFa, wFb, wCT, wCF, mNe, mNe2, mLt, mLe, bp_s, bn_s, n_clampS, nI_1, nI_add, pk_sub, nI_mul, wrI_at, wrI_2, wrL_at, wrL_1, true_and, false_and, and_true, and_false, and_self, ↓reduceIte, Nat.reduceEqDiff, Nat.reduceAdd, Nat.reduceMul, Nat.add_zero, Nat.zero_add, reduceCtorEq, l_0, l_1, l_2, l_3, l_4, l_5, l_6, l_7, l_8, l_9, l_10, l_15, l_24, l_32, l_39, l_40, l_47, l_48, l_50, l_57, l_60, l_63, l_80, l_95, l_99, l_100, l_120, l_126, l_128, l_1000, l_9999, l_10000, L_0, L_1, L_2, L_3, L_4, L_5, L_7, L_9, L_15, L_40, L_50, L_99, L_127, L_9999, c_ltT, c_ltF, c_leT, c_leF, c_eqT, c_eqF, n_leF, n_ltF, c_gltT, c_gltF, c_ggtT, c_ggtF, false_or, or_false, or_self, true_or, or_true]
              exact t2
        · have hE2 := Ex_bin (V := V) (c := 37) (by unfold isOp; omega) hE e5
          rcases ih fu q (ks ++ k2 ++ [sg 37]) _ R2 (by omega) (by omega) e3 hE2 with ⟨q', w, R3, t1, t2, t3⟩ | ⟨k, q', w, R3, t1, t2, t3, t4, t5⟩
          · refine Or.inl ⟨q', w, R3, by rw [e1, hops]; exact t1, ?_, t3⟩
            rw [hops] at hb ⊢
            unfold fX11_product_b35 fX11_product_b85
            by_cases hx : x = 0
            · rw [(jn_z hx).2] at t2
              subst hx
              simp (disch := omega) only [h11, h13, bR_T, e2, hb2, l_33, l_37, l_38, l_41, l_42, l_43, l_45, l_59, l_61, l_62, l_124, ↓lt_d, eq_self, lN_add, i_l, wTn, wFa, wFb, wCT, wCF, mNe, mNe2, mLt, mLe, bp_s, bn_s, n_clampS, nI_1, nI_add, pk_sub, nI_mul, wrI_at, wrI_2, wrL_at, wrL_1, true_and, false_and, and_true, and_false, and_self, ↓reduceIte, Nat.reduceEqDiff, Nat.reduceAdd, Nat.reduceMul, Nat.add_zero, Nat.zero_add, reduceCtorEq, l_0, l_1, l_2, l_3, l_4, l_5, l_6, l_7, l_8, l_9, l_10, l_15, l_24, l_32, l_39, l_40, l_47, l_48, l_50, l_57, l_60, l_63, l_80, l_95, l_99, l_100, l_120, l_126, l_128, l_1000, l_9999, l_10000, L_0, L_1, L_2, L_3, L_4, L_5, L_7, L_9, L_15, L_40, L_50, L_99, L_127, L_9999, c_ltT, c_ltF, c_leT, c_leF, c_eqT, c_eqF, n_leF, n_ltF, c_gltT, c_gltF, c_ggtT, c_ggtF, false_or, or_false, or_self, true_or, or_true]
              exact t2
            · rw [jn_37 hx] at t2
              have hx0 : (x = nI 0) = False := eq_false hx
              simp (disch := omega) only [h11, h13, bR_T, e2, hb2, hx0, l_33, l_37, l_38, l_41, l_42, l_43, l_45, l_59, l_61, l_62, l_124, ↓lt_d, eq_self, lN_add, i_l, wTn, wFa, wFb, wCT, wCF, mNe, mNe2, mLt, mLe, bp_s, bn_s, n_clampS, nI_1, nI_add, pk_sub, nI_mul, wrI_at, wrI_2, wrL_at, wrL_1, true_and, false_and, and_true, and_false, and_self, ↓reduceIte, Nat.reduceEqDiff, Nat.reduceAdd, Nat.reduceMul, Nat.add_zero, Nat.zero_add, reduceCtorEq, l_0, l_1, l_2, l_3, l_4, l_5, l_6, l_7, l_8, l_9, l_10, l_15, l_24, l_32, l_39, l_40, l_47, l_48, l_50, l_57, l_60, l_63, l_80, l_95, l_99, l_100, l_120, l_126, l_128, l_1000, l_9999, l_10000, L_0, L_1, L_2, L_3, L_4, L_5, L_7, L_9, L_15, L_40, L_50, L_99, L_127, L_9999, c_ltT, c_ltF, c_leT, c_leF, c_eqT, c_eqF, n_leF, n_ltF, c_gltT, c_gltF, c_ggtT, c_ggtF, false_or, or_false, or_self, true_or, or_true]
              exact t2
          · refine Or.inr ⟨k, q', w, R3, by rw [e1, hops]; exact t1, ?_, t3, by omega, t5⟩
            rw [hops] at hb ⊢
            unfold fX11_product_b35 fX11_product_b85
            by_cases hx : x = 0
            · rw [(jn_z hx).2] at t2
              subst hx
              simp (disch := omega) only [h11, h13, bR_T, e2, hb2, l_33, l_37, l_38, l_41, l_42, l_43, l_45, l_59, l_61, l_62, l_124, ↓lt_d, eq_self, lN_add, i_l, wTn, wFa, wFb, wCT, wCF, mNe, mNe2, mLt, mLe, bp_s, bn_s, n_clampS, nI_1, nI_add, pk_sub, nI_mul, wrI_at, wrI_2, wrL_at, wrL_1, true_and, false_and, and_true, and_false, and_self, ↓reduceIte, Nat.reduceEqDiff, Nat.reduceAdd, Nat.reduceMul, Nat.add_zero, Nat.zero_add, reduceCtorEq, l_0, l_1, l_2, l_3, l_4, l_5, l_6, l_7, l_8, l_9, l_10, l_15, l_24, l_32, l_39, l_40, l_47, l_48, l_50, l_57, l_60, l_63, l_80, l_95, l_99, l_100, l_120, l_126, l_128, l_1000, l_9999, l_10000, L_0, L_1, L_2, L_3, L_4, L_5, L_7, L_9, L_15, L_40, L_50, L_99, L_127, L_9999, c_ltT, c_ltF, c_leT, c_leF, c_eqT, c_eqF, n_leF, n_ltF, c_gltT, c_gltF, c_ggtT, c_ggtF, false_or, or_false, or_self, true_or, or_true]
              exact t2
            · rw [jn_37 hx] at t2
              have hx0 : (x = nI 0) = False := eq_false hx
              simp (disch := omega) only [h11, h13, bR_T, e2, hb2, hx0, l_33, l_37, l_38, l_41, l_42, l_43, l_45, l_59, l_61, l_62, l_124, ↓lt_d, eq_self, lN_add, i_l, wTn, wFa, wFb, wCT, wCF, mNe, mNe2, mLt, mLe, bp_s, bn_s, n_clampS, nI_1, nI_add, pk_sub, nI_mul, wrI_at, wrI_2, wrL_at, wrL_1, true_and, false_and, and_true, and_false, and_self, ↓reduceIte, Nat.reduceEqDiff, Nat.reduceAdd, Nat.reduceMul, Nat.add_zero, Nat.zero_add, reduceCtorEq, l_0, l_1, l_2, l_3, l_4, l_5, l_6, l_7, l_8, l_9, l_10, l_15, l_24, l_32, l_39, l_40, l_47, l_48, l_50, l_57, l_60, l_63, l_80, l_95, l_99, l_100, l_120, l_126, l_128, l_1000, l_9999, l_10000, L_0, L_1, L_2, L_3, L_4, L_5, L_7, L_9, L_15, L_40, L_50, L_99, L_127, L_9999, c_ltT, c_ltF, c_leT, c_leF, c_eqT, c_eqF, n_leF, n_ltF, c_gltT, c_gltF, c_ggtT, c_ggtF, false_or, or_false, or_self, true_or, or_true]
              exact t2
    · rw [if_neg his]
      refine Or.inr ⟨ks, p, v, R, rfl, ?_, hR, Nat.le_refl _, hE⟩
      have hops : ¬ (tk T m p = 42 ∨ tk T m p = 47 ∨ tk T m p = 37) := (fun z => his (by unfold isPd; simp only [Bool.or_eq_true, beq_iff_eq]; omega))
      generalize tk T m p = c at *
      simp (disch := omega) only [hb, h13, bR_F, l_33, l_37, l_38, l_41, l_42, l_43, l_45, l_59, l_61, l_62, l_124, ↓lt_d, eq_self, lN_add, i_l, wTn, wFa, wFb, wCT, wCF, mNe, mNe2, mLt, mLe, bp_s, bn_s, n_clampS, nI_1, nI_add, pk_sub, nI_mul, wrI_at, wrI_2, wrL_at, wrL_1, true_and, false_and, and_true, and_false, and_self, ↓reduceIte, Nat.reduceEqDiff, Nat.reduceAdd, Nat.reduceMul, Nat.add_zero, Nat.zero_add, reduceCtorEq, l_0, l_1, l_2, l_3, l_4, l_5, l_6, l_7, l_8, l_9, l_10, l_15, l_24, l_32, l_39, l_40, l_47, l_48, l_50, l_57, l_60, l_63, l_80, l_95, l_99, l_100, l_120, l_126, l_128, l_1000, l_9999, l_10000, L_0, L_1, L_2, L_3, L_4, L_5, L_7, L_9, L_15, L_40, L_50, L_99, L_127, L_9999, c_ltT, c_ltF, c_leT, c_leF, c_eqT, c_eqF, n_leF, n_ltF, c_gltT, c_gltF, c_ggtT, c_ggtF, false_or, or_false, or_self, true_or, or_true]
theorem row_prod_r {n m op : Nat} (hn : 1000 ≤ n) {V : Int32 → Int32} {T : Nat → Nat} {z : Mm → Option (Int32 × Mm)} {po : Nat → PR} (h : RdR V T m op z po) : RdR V T m op (fX11_product n z) (pRow T m isPd po) := by
  intro p R hR
  have hm : m ≤ 120 := hR.1.1
  unfold pRow fX11_product
  rcases h p R hR with ⟨q, x, R2, e1, e2, e3⟩ | ⟨k2, q, x, R2, e1, e2, e3, e4, e5⟩
  · obtain ⟨k, rfl⟩ : ∃ k, n = k + 1 := ⟨n - 1, by omega⟩
    obtain ⟨y, hy⟩ := Dd_b e3
    have hd := e3.2.1
    have hqm := e3.2.2.1
    have hex : ∀ v y, fX11_product_h10 (k + 1) z (k + 1) v y R2 = some (v, R2) := by
      intro v y
      rw [fX11_product_h10.eq_2]
      simp (disch := omega) only [hd, l_33, l_37, l_38, l_41, l_42, l_43, l_45, l_59, l_61, l_62, l_124, ↓lt_d, eq_self, lN_add, i_l, wTn, wFa, wFb, wCT, wCF, mNe, mNe2, mLt, mLe, bp_s, bn_s, n_clampS, nI_1, nI_add, pk_sub, nI_mul, wrI_at, wrI_2, wrL_at, wrL_1, true_and, false_and, and_true, and_false, and_self, ↓reduceIte, Nat.reduceEqDiff, Nat.reduceAdd, Nat.reduceMul, Nat.add_zero, Nat.zero_add, reduceCtorEq, l_0, l_1, l_2, l_3, l_4, l_5, l_6, l_7, l_8, l_9, l_10, l_15, l_24, l_32, l_39, l_40, l_47, l_48, l_50, l_57, l_60, l_63, l_80, l_95, l_99, l_100, l_120, l_126, l_128, l_1000, l_9999, l_10000, L_0, L_1, L_2, L_3, L_4, L_5, L_7, L_9, L_15, L_40, L_50, L_99, L_127, L_9999, c_ltT, c_ltF, c_leT, c_leF, c_eqT, c_eqF, n_leF, n_ltF, c_gltT, c_gltF, c_ggtT, c_ggtF, false_or, or_false, or_self, true_or, or_true]
    refine Or.inl ⟨q, x, R2, by rw [e1], ?_, e3⟩
    simp (disch := omega) only [e2, hy, hex, ↓lt_d, eq_self, lN_add, i_l, wTn, wFa, wFb, wCT, wCF, mNe, mNe2, mLt, mLe, bp_s, bn_s, n_clampS, nI_1, nI_add, pk_sub, nI_mul, wrI_at, wrI_2, wrL_at, wrL_1, true_and, false_and, and_true, and_false, and_self, ↓reduceIte, Nat.reduceEqDiff, Nat.reduceAdd, Nat.reduceMul, Nat.add_zero, Nat.zero_add, reduceCtorEq, l_0, l_1, l_2, l_3, l_4, l_5, l_6, l_7, l_8, l_9, l_10, l_15, l_24, l_32, l_39, l_40, l_47, l_48, l_50, l_57, l_60, l_63, l_80, l_95, l_99, l_100, l_120, l_126, l_128, l_1000, l_9999, l_10000, L_0, L_1, L_2, L_3, L_4, L_5, L_7, L_9, L_15, L_40, L_50, L_99, L_127, L_9999, c_ltT, c_ltF, c_leT, c_leF, c_eqT, c_eqF, n_leF, n_ltF, c_gltT, c_gltF, c_ggtT, c_ggtF, false_or, or_false, or_self, true_or, or_true]
  · have hb2 := byte_l e3.1 e3.2.1 e3.2.2.1
    rcases more_prod_r (n := n) h m n q k2 x R2 (by omega) (by omega) e3 e5 with ⟨q', w, R3, t1, t2, t3⟩ | ⟨k, q', w, R3, t1, t2, t3, t4, t5⟩
    · refine Or.inl ⟨q', w, R3, by rw [e1]; exact t1, ?_, t3⟩
      simp (disch := omega) only [e2, hb2, ↓lt_d, eq_self, lN_add, i_l, wTn, wFa, wFb, wCT, wCF, mNe, mNe2, mLt, mLe, bp_s, bn_s, n_clampS, nI_1, nI_add, pk_sub, nI_mul, wrI_at, wrI_2, wrL_at, wrL_1, true_and, false_and, and_true, and_false, and_self, ↓reduceIte, Nat.reduceEqDiff, Nat.reduceAdd, Nat.reduceMul, Nat.add_zero, Nat.zero_add, reduceCtorEq, l_0, l_1, l_2, l_3, l_4, l_5, l_6, l_7, l_8, l_9, l_10, l_15, l_24, l_32, l_39, l_40, l_47, l_48, l_50, l_57, l_60, l_63, l_80, l_95, l_99, l_100, l_120, l_126, l_128, l_1000, l_9999, l_10000, L_0, L_1, L_2, L_3, L_4, L_5, L_7, L_9, L_15, L_40, L_50, L_99, L_127, L_9999, c_ltT, c_ltF, c_leT, c_leF, c_eqT, c_eqF, n_leF, n_ltF, c_gltT, c_gltF, c_ggtT, c_ggtF, false_or, or_false, or_self, true_or, or_true]
      exact t2
    · refine Or.inr ⟨k, q', w, R3, by rw [e1]; exact t1, ?_, t3, by omega, t5⟩
      simp (disch := omega) only [e2, hb2, ↓lt_d, eq_self, lN_add, i_l, wTn, wFa, wFb, wCT, wCF, mNe, mNe2, mLt, mLe, bp_s, bn_s, n_clampS, nI_1, nI_add, pk_sub, nI_mul, wrI_at, wrI_2, wrL_at, wrL_1, true_and, false_and, and_true, and_false, and_self, ↓reduceIte, Nat.reduceEqDiff, Nat.reduceAdd, Nat.reduceMul, Nat.add_zero, Nat.zero_add, reduceCtorEq, l_0, l_1, l_2, l_3, l_4, l_5, l_6, l_7, l_8, l_9, l_10, l_15, l_24, l_32, l_39, l_40, l_47, l_48, l_50, l_57, l_60, l_63, l_80, l_95, l_99, l_100, l_120, l_126, l_128, l_1000, l_9999, l_10000, L_0, L_1, L_2, L_3, L_4, L_5, L_7, L_9, L_15, L_40, L_50, L_99, L_127, L_9999, c_ltT, c_ltF, c_leT, c_leF, c_eqT, c_eqF, n_leF, n_ltF, c_gltT, c_gltF, c_ggtT, c_ggtF, false_or, or_false, or_self, true_or, or_true]
      exact t2
theorem more_sum_r {n m op : Nat} {V : Int32 → Int32} {T : Nat → Nat} {z : Mm → Option (Int32 × Mm)} {po : Nat → PR} (h : RdR V T m op (fX11_product n z) po) : ∀ f fu p ks v R, m ≤ p + f → f < fu → RP V T m op p R → Ex V ks v → (∃ q w R', pMore T m isSm po f ks p = (none, q) ∧ fX11_sums_h5 n z fu v R = some (w, R') ∧ Dd T m q R') ∨ (∃ k q w R', pMore T m isSm po f ks p = (some k, q) ∧ fX11_sums_h5 n z fu v R = some (w, R') ∧ RP V T m op q R' ∧ p ≤ q ∧ Ex V k w) := by
  intro f
  induction f with
  | zero =>
    intro fu p ks v R hi hf hR hE
    obtain ⟨fu, rfl⟩ : ∃ f, fu = f + 1 := ⟨fu - 1, by omega⟩
    have hm : m ≤ 120 := hR.1.1
    have hp := hR.2.2.1
    have h13 := hR.2.2.2.1
    have hb := byte_l hR.1 hR.2.1 hp
    have hc : tk T m p = 256 := by
      unfold tk
      rw [if_neg (by omega)]
    refine Or.inr ⟨ks, p, v, R, rfl, ?_, hR, Nat.le_refl _, hE⟩
    rw [hc] at hb
    rw [fX11_sums_h5.eq_2]
    simp (disch := omega) only [hb, h13, bR_F, l_33, l_37, l_38, l_41, l_42, l_43, l_45, l_59, l_61, l_62, l_124, ↓lt_d, eq_self, lN_add, i_l, wTn, wFa, wFb, wCT, wCF, mNe, mNe2, mLt, mLe, bp_s, bn_s, n_clampS, nI_1, nI_add, pk_sub, nI_mul, wrI_at, wrI_2, wrL_at, wrL_1, true_and, false_and, and_true, and_false, and_self, ↓reduceIte, Nat.reduceEqDiff, Nat.reduceAdd, Nat.reduceMul, Nat.add_zero, Nat.zero_add, reduceCtorEq, l_0, l_1, l_2, l_3, l_4, l_5, l_6, l_7, l_8, l_9, l_10, l_15, l_24, l_32, l_39, l_40, l_47, l_48, l_50, l_57, l_60, l_63, l_80, l_95, l_99, l_100, l_120, l_126, l_128, l_1000, l_9999, l_10000, L_0, L_1, L_2, L_3, L_4, L_5, L_7, L_9, L_15, L_40, L_50, L_99, L_127, L_9999, c_ltT, c_ltF, c_leT, c_leF, c_eqT, c_eqF, n_leF, n_ltF, c_gltT, c_gltF, c_ggtT, c_ggtF, false_or, or_false, or_self, true_or, or_true]
  | succ f ih =>
    intro fu p ks v R hi hf hR hE
    obtain ⟨fu, rfl⟩ : ∃ f, fu = f + 1 := ⟨fu - 1, by omega⟩
    have hm : m ≤ 120 := hR.1.1
    have hp := hR.2.2.1
    have h11 := hR.2.1
    have h13 := hR.2.2.2.1
    have hb := byte_l hR.1 hR.2.1 hp
    have hc256 := tkx_le hR.1 p
    rw [fX11_sums_h5.eq_2]
    show (∃ q w R', (if isSm (tk T m p) then (match po (p + 1) with | (none, q) => (none, q) | (some k2, q) => pMore T m isSm po f (ks ++ k2 ++ [sg (tk T m p)]) q) else (some ks, p)) = (none, q) ∧ _) ∨ (∃ k q w R', (if isSm (tk T m p) then (match po (p + 1) with | (none, q) => (none, q) | (some k2, q) => pMore T m isSm po f (ks ++ k2 ++ [sg (tk T m p)]) q) else (some ks, p)) = (some k, q) ∧ _)
    by_cases his : isSm (tk T m p) = true
    · rw [if_pos his]
      have hops : tk T m p = 43 ∨ tk T m p = 45 := (by unfold isSm at his; simp only [Bool.or_eq_true, beq_iff_eq] at his; omega)
      have hpm : p < m := by
        by_cases hh : p < m
        · exact hh
        · unfold tk at hops
          rw [if_neg hh] at hops
          omega
      have hR1 := RP_step hR hpm
      rcases h (p + 1) _ hR1 with ⟨q, x, R2, e1, e2, e3⟩ | ⟨k2, q, x, R2, e1, e2, e3, e4, e5⟩
      · obtain ⟨fu, rfl⟩ : ∃ f, fu = f + 1 := ⟨fu - 1, by omega⟩
        obtain ⟨y, hy⟩ := Dd_b e3
        have hd := e3.2.1
        have hqm := e3.2.2.1
        have hex : ∀ v, fX11_sums_h5 n z (fu + 1) v R2 = some (v, R2) := by
          intro v
          rw [fX11_sums_h5.eq_2]
          simp (disch := omega) only [hd, l_33, l_37, l_38, l_41, l_42, l_43, l_45, l_59, l_61, l_62, l_124, ↓lt_d, eq_self, lN_add, i_l, wTn, wFa, wFb, wCT, wCF, mNe, mNe2, mLt, mLe, bp_s, bn_s, n_clampS, nI_1, nI_add, pk_sub, nI_mul, wrI_at, wrI_2, wrL_at, wrL_1, true_and, false_and, and_true, and_false, and_self, ↓reduceIte, Nat.reduceEqDiff, Nat.reduceAdd, Nat.reduceMul, Nat.add_zero, Nat.zero_add, reduceCtorEq, l_0, l_1, l_2, l_3, l_4, l_5, l_6, l_7, l_8, l_9, l_10, l_15, l_24, l_32, l_39, l_40, l_47, l_48, l_50, l_57, l_60, l_63, l_80, l_95, l_99, l_100, l_120, l_126, l_128, l_1000, l_9999, l_10000, L_0, L_1, L_2, L_3, L_4, L_5, L_7, L_9, L_15, L_40, L_50, L_99, L_127, L_9999, c_ltT, c_ltF, c_leT, c_leF, c_eqT, c_eqF, n_leF, n_ltF, c_gltT, c_gltF, c_ggtT, c_ggtF, false_or, or_false, or_self, true_or, or_true]
        rcases hops with hops | hops
        · rw [hops] at hb
          refine Or.inl ⟨q, v + x, R2, by rw [e1], ?_, e3⟩
          unfold fX11_sums_b30 fX11_sums_b44 fX11_sums_b73
          simp (disch := omega) only [h11, h13, hb, bR_T, e2, hex, l_33, l_37, l_38, l_41, l_42, l_43, l_45, l_59, l_61, l_62, l_124, ↓lt_d, eq_self, lN_add, i_l, wTn, wFa, wFb, wCT, wCF, mNe, mNe2, mLt, mLe, bp_s, bn_s, n_clampS, nI_1, nI_add, pk_sub, nI_mul, wrI_at, wrI_2, wrL_at, wrL_1, true_and, false_and, and_true, and_false, and_self, ↓reduceIte, Nat.reduceEqDiff, Nat.reduceAdd, Nat.reduceMul, Nat.add_zero, Nat.zero_add, reduceCtorEq, l_0, l_1, l_2, l_3, l_4, l_5, l_6, l_7, l_8, l_9, l_10, l_15, l_24, l_32, l_39, l_40, l_47, l_48, l_50, l_57, l_60, l_63, l_80, l_95, l_99, l_100, l_120, l_126, l_128, l_1000, l_9999, l_10000, L_0, L_1, L_2, L_3, L_4, L_5, L_7, L_9, L_15, L_40, L_50, L_99, L_127, L_9999, c_ltT, c_ltF, c_leT, c_leF, c_eqT, c_eqF, n_leF, n_ltF, c_gltT, c_gltF, c_ggtT, c_ggtF, false_or, or_false, or_self, true_or, or_true]
        · rw [hops] at hb
          refine Or.inl ⟨q, v - x, R2, by rw [e1], ?_, e3⟩
          unfold fX11_sums_b30 fX11_sums_b44 fX11_sums_b73
          simp (disch := omega) only [h11, h13, hb, bR_T, e2, hex, l_33, l_37, l_38, l_41, l_42, l_43, l_45, l_59, l_61, l_62, l_124, ↓lt_d, eq_self, lN_add, i_l, wTn, wFa, wFb, wCT, wCF, mNe, mNe2, mLt, mLe, bp_s, bn_s, n_clampS, nI_1, nI_add, pk_sub, nI_mul, wrI_at, wrI_2, wrL_at, wrL_1, true_and, false_and, and_true, and_false, and_self, ↓reduceIte, Nat.reduceEqDiff, Nat.reduceAdd, Nat.reduceMul, Nat.add_zero, Nat.zero_add, reduceCtorEq, l_0, l_1, l_2, l_3, l_4, l_5, l_6, l_7, l_8, l_9, l_10, l_15, l_24, l_32, l_39, l_40, l_47, l_48, l_50, l_57, l_60, l_63, l_80, l_95, l_99, l_100, l_120, l_126, l_128, l_1000, l_9999, l_10000, L_0, L_1, L_2, L_3, L_4, L_5, L_7, L_9, L_15, L_40, L_50, L_99, L_127, L_9999, c_ltT, c_ltF, c_leT, c_leF, c_eqT, c_eqF, n_leF, n_ltF, c_gltT, c_gltF, c_ggtT, c_ggtF, false_or, or_false, or_self, true_or, or_true]
      · have hb2 := byte_l e3.1 e3.2.1 e3.2.2.1
        rcases hops with hops | hops
        · have hE2 := Ex_bin (V := V) (c := 43) (by unfold isOp; omega) hE e5
          rcases ih fu q (ks ++ k2 ++ [sg 43]) _ R2 (by omega) (by omega) e3 hE2 with ⟨q', w, R3, t1, t2, t3⟩ | ⟨k, q', w, R3, t1, t2, t3, t4, t5⟩
          · refine Or.inl ⟨q', w, R3, by rw [e1, hops]; exact t1, ?_, t3⟩
            rw [hops] at hb
            rw [jn_43] at t2
            unfold fX11_sums_b30 fX11_sums_b44 fX11_sums_b73
            simp (disch := omega) only [h11, h13, hb, bR_T, e2, l_33, l_37, l_38, l_41, l_42, l_43, l_45, l_59, l_61, l_62, l_124, ↓lt_d, eq_self, lN_add, i_l, wTn, wFa, wFb, wCT, wCF, mNe, mNe2, mLt, mLe, bp_s, bn_s, n_clampS, nI_1, nI_add, pk_sub, nI_mul, wrI_at, wrI_2, wrL_at, wrL_1, true_and, false_and, and_true, and_false, and_self, ↓reduceIte, Nat.reduceEqDiff, Nat.reduceAdd, Nat.reduceMul, Nat.add_zero, Nat.zero_add, reduceCtorEq, l_0, l_1, l_2, l_3, l_4, l_5, l_6, l_7, l_8, l_9, l_10, l_15, l_24, l_32, l_39, l_40, l_47, l_48, l_50, l_57, l_60, l_63, l_80, l_95, l_99, l_100, l_120, l_126, l_128, l_1000, l_9999, l_10000, L_0, L_1, L_2, L_3, L_4, L_5, L_7, L_9, L_15, L_40, L_50, L_99, L_127, L_9999, c_ltT, c_ltF, c_leT, c_leF, c_eqT, c_eqF, n_leF, n_ltF, c_gltT, c_gltF, c_ggtT, c_ggtF, false_or, or_false, or_self, true_or, or_true]
            exact t2
          · refine Or.inr ⟨k, q', w, R3, by rw [e1, hops]; exact t1, ?_, t3, by omega, t5⟩
            rw [hops] at hb
            rw [jn_43] at t2
            unfold fX11_sums_b30 fX11_sums_b44 fX11_sums_b73
            simp (disch := omega) only [h11, h13, hb, bR_T, e2, l_33, l_37, l_38, l_41, l_42, l_43, l_45, l_59, l_61, l_62, l_124, ↓lt_d, eq_self, lN_add, i_l, wTn, wFa, wFb, wCT, wCF, mNe, mNe2, mLt, mLe, bp_s, bn_s, n_clampS, nI_1, nI_add, pk_sub, nI_mul, wrI_at, wrI_2, wrL_at, wrL_1, true_and, false_and, and_true, and_false, and_self, ↓reduceIte, Nat.reduceEqDiff, Nat.reduceAdd, Nat.reduceMul, Nat.add_zero, Nat.zero_add, reduceCtorEq, l_0, l_1, l_2, l_3, l_4, l_5, l_6, l_7, l_8, l_9, l_10, l_15, l_24, l_32, l_39, l_40, l_47, l_48, l_50, l_57, l_60, l_63, l_80, l_95, l_99, l_100, l_120, l_126, l_128, l_1000, l_9999, l_10000, L_0, L_1, L_2, L_3, L_4, L_5, L_7, L_9, L_15, L_40, L_50, L_99, L_127, L_9999, c_ltT, c_ltF, c_leT, c_leF, c_eqT, c_eqF, n_leF, n_ltF, c_gltT, c_gltF, c_ggtT, c_ggtF, false_or, or_false, or_self, true_or, or_true]
            exact t2
        · have hE2 := Ex_bin (V := V) (c := 45) (by unfold isOp; omega) hE e5
          rcases ih fu q (ks ++ k2 ++ [sg 45]) _ R2 (by omega) (by omega) e3 hE2 with ⟨q', w, R3, t1, t2, t3⟩ | ⟨k, q', w, R3, t1, t2, t3, t4, t5⟩
          · refine Or.inl ⟨q', w, R3, by rw [e1, hops]; exact t1, ?_, t3⟩
            rw [hops] at hb
            rw [jn_45] at t2
            unfold fX11_sums_b30 fX11_sums_b44 fX11_sums_b73
            simp (disch := omega) only [h11, h13, hb, bR_T, e2, l_33, l_37, l_38, l_41, l_42, l_43, l_45, l_59, l_61, l_62, l_124, ↓lt_d, eq_self, lN_add, i_l, wTn, wFa, wFb, wCT, wCF, mNe, mNe2, mLt, mLe, bp_s, bn_s, n_clampS, nI_1, nI_add, pk_sub, nI_mul, wrI_at, wrI_2, wrL_at, wrL_1, true_and, false_and, and_true, and_false, and_self, ↓reduceIte, Nat.reduceEqDiff, Nat.reduceAdd, Nat.reduceMul, Nat.add_zero, Nat.zero_add, reduceCtorEq, l_0, l_1, l_2, l_3, l_4, l_5, l_6, l_7, l_8, l_9, l_10, l_15, l_24, l_32, l_39, l_40, l_47, l_48, l_50, l_57, l_60, l_63, l_80, l_95, l_99, l_100, l_120, l_126, l_128, l_1000, l_9999, l_10000, L_0, L_1, L_2, L_3, L_4, L_5, L_7, L_9, L_15, L_40, L_50, L_99, L_127, L_9999, c_ltT, c_ltF, c_leT, c_leF, c_eqT, c_eqF, n_leF, n_ltF, c_gltT, c_gltF, c_ggtT, c_ggtF, false_or, or_false, or_self, true_or, or_true]
            exact t2
          · refine Or.inr ⟨k, q', w, R3, by rw [e1, hops]; exact t1, ?_, t3, by omega, t5⟩
            rw [hops] at hb
            rw [jn_45] at t2
            unfold fX11_sums_b30 fX11_sums_b44 fX11_sums_b73
            simp (disch := omega) only [h11, h13, hb, bR_T, e2, l_33, l_37, l_38, l_41, l_42, l_43, l_45, l_59, l_61, l_62, l_124, ↓lt_d, eq_self, lN_add, i_l, wTn, wFa, wFb, wCT, wCF, mNe, mNe2, mLt, mLe, bp_s, bn_s, n_clampS, nI_1, nI_add, pk_sub, nI_mul, wrI_at, wrI_2, wrL_at, wrL_1, true_and, false_and, and_true, and_false, and_self, ↓reduceIte, Nat.reduceEqDiff, Nat.reduceAdd, Nat.reduceMul, Nat.add_zero, Nat.zero_add, reduceCtorEq, l_0, l_1, l_2, l_3, l_4, l_5, l_6, l_7, l_8, l_9, l_10, l_15, l_24, l_32, l_39, l_40, l_47, l_48, l_50, l_57, l_60, l_63, l_80, l_95, l_99, l_100, l_120, l_126, l_128, l_1000, l_9999, l_10000, L_0, L_1, L_2, L_3, L_4, L_5, L_7, L_9, L_15, L_40, L_50, L_99, L_127, L_9999, c_ltT, c_ltF, c_leT, c_leF, c_eqT, c_eqF, n_leF, n_ltF, c_gltT, c_gltF, c_ggtT, c_ggtF, false_or, or_false, or_self, true_or, or_true]
            exact t2
    · rw [if_neg his]
      refine Or.inr ⟨ks, p, v, R, rfl, ?_, hR, Nat.le_refl _, hE⟩
      have hops : ¬ (tk T m p = 43 ∨ tk T m p = 45) := (fun z => his (by unfold isSm; simp only [Bool.or_eq_true, beq_iff_eq]; omega))
      generalize tk T m p = c at *
      simp (disch := omega) only [hb, h13, bR_F, l_33, l_37, l_38, l_41, l_42, l_43, l_45, l_59, l_61, l_62, l_124, ↓lt_d, eq_self, lN_add, i_l, wTn, wFa, wFb, wCT, wCF, mNe, mNe2, mLt, mLe, bp_s, bn_s, n_clampS, nI_1, nI_add, pk_sub, nI_mul, wrI_at, wrI_2, wrL_at, wrL_1, true_and, false_and, and_true, and_false, and_self, ↓reduceIte, Nat.reduceEqDiff, Nat.reduceAdd, Nat.reduceMul, Nat.add_zero, Nat.zero_add, reduceCtorEq, l_0, l_1, l_2, l_3, l_4, l_5, l_6, l_7, l_8, l_9, l_10, l_15, l_24, l_32, l_39, l_40, l_47, l_48, l_50, l_57, l_60, l_63, l_80, l_95, l_99, l_100, l_120, l_126, l_128, l_1000, l_9999, l_10000, L_0, L_1, L_2, L_3, L_4, L_5, L_7, L_9, L_15, L_40, L_50, L_99, L_127, L_9999, c_ltT, c_ltF, c_leT, c_leF, c_eqT, c_eqF, n_leF, n_ltF, c_gltT, c_gltF, c_ggtT, c_ggtF, false_or, or_false, or_self, true_or, or_true]
theorem row_sum_r {n m op : Nat} (hn : 1000 ≤ n) {V : Int32 → Int32} {T : Nat → Nat} {z : Mm → Option (Int32 × Mm)} {po : Nat → PR} (h : RdR V T m op (fX11_product n z) po) : RdR V T m op (fX11_sums n z) (pRow T m isSm po) := by
  intro p R hR
  have hm : m ≤ 120 := hR.1.1
  unfold pRow fX11_sums
  rcases h p R hR with ⟨q, x, R2, e1, e2, e3⟩ | ⟨k2, q, x, R2, e1, e2, e3, e4, e5⟩
  · obtain ⟨k, rfl⟩ : ∃ k, n = k + 1 := ⟨n - 1, by omega⟩
    obtain ⟨y, hy⟩ := Dd_b e3
    have hd := e3.2.1
    have hqm := e3.2.2.1
    have hex : ∀ v, fX11_sums_h5 (k + 1) z (k + 1) v R2 = some (v, R2) := by
      intro v
      rw [fX11_sums_h5.eq_2]
      simp (disch := omega) only [hd, l_33, l_37, l_38, l_41, l_42, l_43, l_45, l_59, l_61, l_62, l_124, ↓lt_d, eq_self, lN_add, i_l, wTn, wFa, wFb, wCT, wCF, mNe, mNe2, mLt, mLe, bp_s, bn_s, n_clampS, nI_1, nI_add, pk_sub, nI_mul, wrI_at, wrI_2, wrL_at, wrL_1, true_and, false_and, and_true, and_false, and_self, ↓reduceIte, Nat.reduceEqDiff, Nat.reduceAdd, Nat.reduceMul, Nat.add_zero, Nat.zero_add, reduceCtorEq, l_0, l_1, l_2, l_3, l_4, l_5, l_6, l_7, l_8, l_9, l_10, l_15, l_24, l_32, l_39, l_40, l_47, l_48, l_50, l_57, l_60, l_63, l_80, l_95, l_99, l_100, l_120, l_126, l_128, l_1000, l_9999, l_10000, L_0, L_1, L_2, L_3, L_4, L_5, L_7, L_9, L_15, L_40, L_50, L_99, L_127, L_9999, c_ltT, c_ltF, c_leT, c_leF, c_eqT, c_eqF, n_leF, n_ltF, c_gltT, c_gltF, c_ggtT, c_ggtF, false_or, or_false, or_self, true_or, or_true]
    refine Or.inl ⟨q, x, R2, by rw [e1], ?_, e3⟩
    simp (disch := omega) only [e2, hy, hex, ↓lt_d, eq_self, lN_add, i_l, wTn, wFa, wFb, wCT, wCF, mNe, mNe2, mLt, mLe, bp_s, bn_s, n_clampS, nI_1, nI_add, pk_sub, nI_mul, wrI_at, wrI_2, wrL_at, wrL_1, true_and, false_and, and_true, and_false, and_self, ↓reduceIte, Nat.reduceEqDiff, Nat.reduceAdd, Nat.reduceMul, Nat.add_zero, Nat.zero_add, reduceCtorEq, l_0, l_1, l_2, l_3, l_4, l_5, l_6, l_7, l_8, l_9, l_10, l_15, l_24, l_32, l_39, l_40, l_47, l_48, l_50, l_57, l_60, l_63, l_80, l_95, l_99, l_100, l_120, l_126, l_128, l_1000, l_9999, l_10000, L_0, L_1, L_2, L_3, L_4, L_5, L_7, L_9, L_15, L_40, L_50, L_99, L_127, L_9999, c_ltT, c_ltF, c_leT, c_leF, c_eqT, c_eqF, n_leF, n_ltF, c_gltT, c_gltF, c_ggtT, c_ggtF, false_or, or_false, or_self, true_or, or_true]
  · have hb2 := byte_l e3.1 e3.2.1 e3.2.2.1
    rcases more_sum_r (n := n) h m n q k2 x R2 (by omega) (by omega) e3 e5 with ⟨q', w, R3, t1, t2, t3⟩ | ⟨k, q', w, R3, t1, t2, t3, t4, t5⟩
    · refine Or.inl ⟨q', w, R3, by rw [e1]; exact t1, ?_, t3⟩
      simp (disch := omega) only [e2, ↓lt_d, eq_self, lN_add, i_l, wTn, wFa, wFb, wCT, wCF, mNe, mNe2, mLt, mLe, bp_s, bn_s, n_clampS, nI_1, nI_add, pk_sub, nI_mul, wrI_at, wrI_2, wrL_at, wrL_1, true_and, false_and, and_true, and_false, and_self, ↓reduceIte, Nat.reduceEqDiff, Nat.reduceAdd, Nat.reduceMul, Nat.add_zero, Nat.zero_add, reduceCtorEq, l_0, l_1, l_2, l_3, l_4, l_5, l_6, l_7, l_8, l_9, l_10, l_15, l_24, l_32, l_39, l_40, l_47, l_48, l_50, l_57, l_60, l_63, l_80, l_95, l_99, l_100, l_120, l_126, l_128, l_1000, l_9999, l_10000, L_0, L_1, L_2, L_3, L_4, L_5, L_7, L_9, L_15, L_40, L_50, L_99, L_127, L_9999, c_ltT, c_ltF, c_leT, c_leF, c_eqT, c_eqF, n_leF, n_ltF, c_gltT, c_gltF, c_ggtT, c_ggtF, false_or, or_false, or_self, true_or, or_true]
      exact t2
    · refine Or.inr ⟨k, q', w, R3, by rw [e1]; exact t1, ?_, t3, by omega, t5⟩
      simp (disch := omega) only [e2, ↓lt_d, eq_self, lN_add, i_l, wTn, wFa, wFb, wCT, wCF, mNe, mNe2, mLt, mLe, bp_s, bn_s, n_clampS, nI_1, nI_add, pk_sub, nI_mul, wrI_at, wrI_2, wrL_at, wrL_1, true_and, false_and, and_true, and_false, and_self, ↓reduceIte, Nat.reduceEqDiff, Nat.reduceAdd, Nat.reduceMul, Nat.add_zero, Nat.zero_add, reduceCtorEq, l_0, l_1, l_2, l_3, l_4, l_5, l_6, l_7, l_8, l_9, l_10, l_15, l_24, l_32, l_39, l_40, l_47, l_48, l_50, l_57, l_60, l_63, l_80, l_95, l_99, l_100, l_120, l_126, l_128, l_1000, l_9999, l_10000, L_0, L_1, L_2, L_3, L_4, L_5, L_7, L_9, L_15, L_40, L_50, L_99, L_127, L_9999, c_ltT, c_ltF, c_leT, c_leF, c_eqT, c_eqF, n_leF, n_ltF, c_gltT, c_gltF, c_ggtT, c_ggtF, false_or, or_false, or_self, true_or, or_true]
      exact t2
theorem more_all_r {n m op : Nat} {V : Int32 → Int32} {T : Nat → Nat} {z : Mm → Option (Int32 × Mm)} {po : Nat → PR} (h : RdR V T m op (fX11_compared n z) po) : ∀ f fu p ks v R, m ≤ p + f → f < fu → RP V T m op p R → Ex V ks v → (∃ q w R', pMore T m (fun c => c == 38) po f ks p = (none, q) ∧ fX11_both_h5 n z fu v R = some (w, R') ∧ Dd T m q R') ∨ (∃ k q w R', pMore T m (fun c => c == 38) po f ks p = (some k, q) ∧ fX11_both_h5 n z fu v R = some (w, R') ∧ RP V T m op q R' ∧ p ≤ q ∧ Ex V k w) := by
  intro f
  induction f with
  | zero =>
    intro fu p ks v R hi hf hR hE
    obtain ⟨fu, rfl⟩ : ∃ f, fu = f + 1 := ⟨fu - 1, by omega⟩
    have hm : m ≤ 120 := hR.1.1
    have hp := hR.2.2.1
    have h13 := hR.2.2.2.1
    have hb := byte_l hR.1 hR.2.1 hp
    have hc : tk T m p = 256 := by
      unfold tk
      rw [if_neg (by omega)]
    refine Or.inr ⟨ks, p, v, R, rfl, ?_, hR, Nat.le_refl _, hE⟩
    have hgo := takes_F hR (k := 38) (by omega) (by omega) (by omega)
    rw [fX11_both_h5.eq_2]
    simp (disch := omega) only [hgo, l_33, l_37, l_38, l_41, l_42, l_43, l_45, l_59, l_61, l_62, l_124, ↓lt_d, eq_self, lN_add, i_l, wTn, wFa, wFb, wCT, wCF, mNe, mNe2, mLt, mLe, bp_s, bn_s, n_clampS, nI_1, nI_add, pk_sub, nI_mul, wrI_at, wrI_2, wrL_at, wrL_1, true_and, false_and, and_true, and_false, and_self, ↓reduceIte, Nat.reduceEqDiff, Nat.reduceAdd, Nat.reduceMul, Nat.add_zero, Nat.zero_add, reduceCtorEq, l_0, l_1, l_2, l_3, l_4, l_5, l_6, l_7, l_8, l_9, l_10, l_15, l_24, l_32, l_39, l_40, l_47, l_48, l_50, l_57, l_60, l_63, l_80, l_95, l_99, l_100, l_120, l_126, l_128, l_1000, l_9999, l_10000, L_0, L_1, L_2, L_3, L_4, L_5, L_7, L_9, L_15, L_40, L_50, L_99, L_127, L_9999, c_ltT, c_ltF, c_leT, c_leF, c_eqT, c_eqF, n_leF, n_ltF, c_gltT, c_gltF, c_ggtT, c_ggtF, false_or, or_false, or_self, true_or, or_true]
  | succ f ih =>
    intro fu p ks v R hi hf hR hE
    obtain ⟨fu, rfl⟩ : ∃ f, fu = f + 1 := ⟨fu - 1, by omega⟩
    have hm : m ≤ 120 := hR.1.1
    have hp := hR.2.2.1
    have h11 := hR.2.1
    have h13 := hR.2.2.2.1
    have hb := byte_l hR.1 hR.2.1 hp
    have hc256 := tkx_le hR.1 p
    rw [fX11_both_h5.eq_2]
    show (∃ q w R', (if (fun c => c == 38) (tk T m p) then (match po (p + 1) with | (none, q) => (none, q) | (some k2, q) => pMore T m (fun c => c == 38) po f (ks ++ k2 ++ [sg (tk T m p)]) q) else (some ks, p)) = (none, q) ∧ _) ∨ (∃ k q w R', (if (fun c => c == 38) (tk T m p) then (match po (p + 1) with | (none, q) => (none, q) | (some k2, q) => pMore T m (fun c => c == 38) po f (ks ++ k2 ++ [sg (tk T m p)]) q) else (some ks, p)) = (some k, q) ∧ _)
    by_cases his : (fun c => c == 38) (tk T m p) = true
    · rw [if_pos his]
      have hops : tk T m p = 38 := (by simpa only [beq_iff_eq] using his)
      have hpm : p < m := by
        by_cases hh : p < m
        · exact hh
        · unfold tk at hops
          rw [if_neg hh] at hops
          omega
      have hR1 := RP_step hR hpm
      have hgo := takes_T hR (k := 38) (by omega) hops
      rcases h (p + 1) _ hR1 with ⟨q, x, R2, e1, e2, e3⟩ | ⟨k2, q, x, R2, e1, e2, e3, e4, e5⟩
      · obtain ⟨fu, rfl⟩ : ∃ f, fu = f + 1 := ⟨fu - 1, by omega⟩
        obtain ⟨y, hy⟩ := Dd_b e3
        have hd := e3.2.1
        have hqm := e3.2.2.1
        have hdt := Dd_t e3 (nI 38)
        have hex : ∀ v, fX11_both_h5 n z (fu + 1) v R2 = some (v, R2) := by
          intro v
          rw [fX11_both_h5.eq_2]
          simp (disch := omega) only [hdt, l_33, l_37, l_38, l_41, l_42, l_43, l_45, l_59, l_61, l_62, l_124, ↓lt_d, eq_self, lN_add, i_l, wTn, wFa, wFb, wCT, wCF, mNe, mNe2, mLt, mLe, bp_s, bn_s, n_clampS, nI_1, nI_add, pk_sub, nI_mul, wrI_at, wrI_2, wrL_at, wrL_1, true_and, false_and, and_true, and_false, and_self, ↓reduceIte, Nat.reduceEqDiff, Nat.reduceAdd, Nat.reduceMul, Nat.add_zero, Nat.zero_add, reduceCtorEq, l_0, l_1, l_2, l_3, l_4, l_5, l_6, l_7, l_8, l_9, l_10, l_15, l_24, l_32, l_39, l_40, l_47, l_48, l_50, l_57, l_60, l_63, l_80, l_95, l_99, l_100, l_120, l_126, l_128, l_1000, l_9999, l_10000, L_0, L_1, L_2, L_3, L_4, L_5, L_7, L_9, L_15, L_40, L_50, L_99, L_127, L_9999, c_ltT, c_ltF, c_leT, c_leF, c_eqT, c_eqF, n_leF, n_ltF, c_gltT, c_gltF, c_ggtT, c_ggtF, false_or, or_false, or_self, true_or, or_true]
        unfold fX11_both_b31 fX11_both_b32
        by_cases hv : v = 0
        · refine Or.inl ⟨q, nI 0, R2, by rw [e1], ?_, e3⟩
          subst hv
          simp (disch := omega) only [hgo, e2, hex, l_33, l_37, l_38, l_41, l_42, l_43, l_45, l_59, l_61, l_62, l_124, ↓lt_d, eq_self, lN_add, i_l, wTn, wFa, wFb, wCT, wCF, mNe, mNe2, mLt, mLe, bp_s, bn_s, n_clampS, nI_1, nI_add, pk_sub, nI_mul, wrI_at, wrI_2, wrL_at, wrL_1, true_and, false_and, and_true, and_false, and_self, ↓reduceIte, Nat.reduceEqDiff, Nat.reduceAdd, Nat.reduceMul, Nat.add_zero, Nat.zero_add, reduceCtorEq, l_0, l_1, l_2, l_3, l_4, l_5, l_6, l_7, l_8, l_9, l_10, l_15, l_24, l_32, l_39, l_40, l_47, l_48, l_50, l_57, l_60, l_63, l_80, l_95, l_99, l_100, l_120, l_126, l_128, l_1000, l_9999, l_10000, L_0, L_1, L_2, L_3, L_4, L_5, L_7, L_9, L_15, L_40, L_50, L_99, L_127, L_9999, c_ltT, c_ltF, c_leT, c_leF, c_eqT, c_eqF, n_leF, n_ltF, c_gltT, c_gltF, c_ggtT, c_ggtF, false_or, or_false, or_self, true_or, or_true]
        · have hv0 : (v = nI 0) = False := eq_false hv
          by_cases hx : x = 0
          · subst hx
            refine Or.inl ⟨q, nI 0, R2, by rw [e1], ?_, e3⟩
            simp (disch := omega) only [hgo, e2, hex, hv0, l_33, l_37, l_38, l_41, l_42, l_43, l_45, l_59, l_61, l_62, l_124, ↓lt_d, eq_self, lN_add, i_l, wTn, wFa, wFb, wCT, wCF, mNe, mNe2, mLt, mLe, bp_s, bn_s, n_clampS, nI_1, nI_add, pk_sub, nI_mul, wrI_at, wrI_2, wrL_at, wrL_1, true_and, false_and, and_true, and_false, and_self, ↓reduceIte, Nat.reduceEqDiff, Nat.reduceAdd, Nat.reduceMul, Nat.add_zero, Nat.zero_add, reduceCtorEq, l_0, l_1, l_2, l_3, l_4, l_5, l_6, l_7, l_8, l_9, l_10, l_15, l_24, l_32, l_39, l_40, l_47, l_48, l_50, l_57, l_60, l_63, l_80, l_95, l_99, l_100, l_120, l_126, l_128, l_1000, l_9999, l_10000, L_0, L_1, L_2, L_3, L_4, L_5, L_7, L_9, L_15, L_40, L_50, L_99, L_127, L_9999, c_ltT, c_ltF, c_leT, c_leF, c_eqT, c_eqF, n_leF, n_ltF, c_gltT, c_gltF, c_ggtT, c_ggtF, false_or, or_false, or_self, true_or, or_true]
          · have hx0 : (x = nI 0) = False := eq_false hx
            refine Or.inl ⟨q, nI 1, R2, by rw [e1], ?_, e3⟩
            simp (disch := omega) only [hgo, e2, hex, hv0, hx0, l_33, l_37, l_38, l_41, l_42, l_43, l_45, l_59, l_61, l_62, l_124, ↓lt_d, eq_self, lN_add, i_l, wTn, wFa, wFb, wCT, wCF, mNe, mNe2, mLt, mLe, bp_s, bn_s, n_clampS, nI_1, nI_add, pk_sub, nI_mul, wrI_at, wrI_2, wrL_at, wrL_1, true_and, false_and, and_true, and_false, and_self, ↓reduceIte, Nat.reduceEqDiff, Nat.reduceAdd, Nat.reduceMul, Nat.add_zero, Nat.zero_add, reduceCtorEq, l_0, l_1, l_2, l_3, l_4, l_5, l_6, l_7, l_8, l_9, l_10, l_15, l_24, l_32, l_39, l_40, l_47, l_48, l_50, l_57, l_60, l_63, l_80, l_95, l_99, l_100, l_120, l_126, l_128, l_1000, l_9999, l_10000, L_0, L_1, L_2, L_3, L_4, L_5, L_7, L_9, L_15, L_40, L_50, L_99, L_127, L_9999, c_ltT, c_ltF, c_leT, c_leF, c_eqT, c_eqF, n_leF, n_ltF, c_gltT, c_gltF, c_ggtT, c_ggtF, false_or, or_false, or_self, true_or, or_true]
      · have hb2 := byte_l e3.1 e3.2.1 e3.2.2.1
        have hE2 := Ex_bin (V := V) (c := 38) (by unfold isOp; omega) hE e5
        rcases ih fu q (ks ++ k2 ++ [sg 38]) _ R2 (by omega) (by omega) e3 hE2 with ⟨q', w, R3, t1, t2, t3⟩ | ⟨k, q', w, R3, t1, t2, t3, t4, t5⟩
        · refine Or.inl ⟨q', w, R3, by rw [e1, hops]; exact t1, ?_, t3⟩
          unfold fX11_both_b31 fX11_both_b32
          rw [jn_38] at t2
          by_cases hv : v = 0
          · subst hv
            rw [if_pos rfl] at t2
            simp (disch := omega) only [hgo, e2, l_33, l_37, l_38, l_41, l_42, l_43, l_45, l_59, l_61, l_62, l_124, ↓lt_d, eq_self, lN_add, i_l, wTn, wFa, wFb, wCT, wCF, mNe, mNe2, mLt, mLe, bp_s, bn_s, n_clampS, nI_1, nI_add, pk_sub, nI_mul, wrI_at, wrI_2, wrL_at, wrL_1, true_and, false_and, and_true, and_false, and_self, ↓reduceIte, Nat.reduceEqDiff, Nat.reduceAdd, Nat.reduceMul, Nat.add_zero, Nat.zero_add, reduceCtorEq, l_0, l_1, l_2, l_3, l_4, l_5, l_6, l_7, l_8, l_9, l_10, l_15, l_24, l_32, l_39, l_40, l_47, l_48, l_50, l_57, l_60, l_63, l_80, l_95, l_99, l_100, l_120, l_126, l_128, l_1000, l_9999, l_10000, L_0, L_1, L_2, L_3, L_4, L_5, L_7, L_9, L_15, L_40, L_50, L_99, L_127, L_9999, c_ltT, c_ltF, c_leT, c_leF, c_eqT, c_eqF, n_leF, n_ltF, c_gltT, c_gltF, c_ggtT, c_ggtF, false_or, or_false, or_self, true_or, or_true]
            exact t2
          · have hv0 : (v = nI 0) = False := eq_false hv
            rw [if_neg hv] at t2
            by_cases hx : x = 0
            · rw [if_pos hx] at t2
              subst hx
              simp (disch := omega) only [hgo, e2, hv0, l_33, l_37, l_38, l_41, l_42, l_43, l_45, l_59, l_61, l_62, l_124, ↓lt_d, eq_self, lN_add, i_l, wTn, wFa, wFb, wCT, wCF, mNe, mNe2, mLt, mLe, bp_s, bn_s, n_clampS, nI_1, nI_add, pk_sub, nI_mul, wrI_at, wrI_2, wrL_at, wrL_1, true_and, false_and, and_true, and_false, and_self, ↓reduceIte, Nat.reduceEqDiff, Nat.reduceAdd, Nat.reduceMul, Nat.add_zero, Nat.zero_add, reduceCtorEq, l_0, l_1, l_2, l_3, l_4, l_5, l_6, l_7, l_8, l_9, l_10, l_15, l_24, l_32, l_39, l_40, l_47, l_48, l_50, l_57, l_60, l_63, l_80, l_95, l_99, l_100, l_120, l_126, l_128, l_1000, l_9999, l_10000, L_0, L_1, L_2, L_3, L_4, L_5, L_7, L_9, L_15, L_40, L_50, L_99, L_127, L_9999, c_ltT, c_ltF, c_leT, c_leF, c_eqT, c_eqF, n_leF, n_ltF, c_gltT, c_gltF, c_ggtT, c_ggtF, false_or, or_false, or_self, true_or, or_true]
              exact t2
            · rw [if_neg hx] at t2
              have hx0 : (x = nI 0) = False := eq_false hx
              simp (disch := omega) only [hgo, e2, hv0, hx0, l_33, l_37, l_38, l_41, l_42, l_43, l_45, l_59, l_61, l_62, l_124, ↓lt_d, eq_self, lN_add, i_l, wTn, wFa, wFb, wCT, wCF, mNe, mNe2, mLt, mLe, bp_s, bn_s, n_clampS, nI_1, nI_add, pk_sub, nI_mul, wrI_at, wrI_2, wrL_at, wrL_1, true_and, false_and, and_true, and_false, and_self, ↓reduceIte, Nat.reduceEqDiff, Nat.reduceAdd, Nat.reduceMul, Nat.add_zero, Nat.zero_add, reduceCtorEq, l_0, l_1, l_2, l_3, l_4, l_5, l_6, l_7, l_8, l_9, l_10, l_15, l_24, l_32, l_39, l_40, l_47, l_48, l_50, l_57, l_60, l_63, l_80, l_95, l_99, l_100, l_120, l_126, l_128, l_1000, l_9999, l_10000, L_0, L_1, L_2, L_3, L_4, L_5, L_7, L_9, L_15, L_40, L_50, L_99, L_127, L_9999, c_ltT, c_ltF, c_leT, c_leF, c_eqT, c_eqF, n_leF, n_ltF, c_gltT, c_gltF, c_ggtT, c_ggtF, false_or, or_false, or_self, true_or, or_true]
              exact t2
        · refine Or.inr ⟨k, q', w, R3, by rw [e1, hops]; exact t1, ?_, t3, by omega, t5⟩
          unfold fX11_both_b31 fX11_both_b32
          rw [jn_38] at t2
          by_cases hv : v = 0
          · subst hv
            rw [if_pos rfl] at t2
            simp (disch := omega) only [hgo, e2, l_33, l_37, l_38, l_41, l_42, l_43, l_45, l_59, l_61, l_62, l_124, ↓lt_d, eq_self, lN_add, i_l, wTn, wFa, wFb, wCT, wCF, mNe, mNe2, mLt, mLe, bp_s, bn_s, n_clampS, nI_1, nI_add, pk_sub, nI_mul, wrI_at, wrI_2, wrL_at, wrL_1, true_and, false_and, and_true, and_false, and_self, ↓reduceIte, Nat.reduceEqDiff, Nat.reduceAdd, Nat.reduceMul, Nat.add_zero, Nat.zero_add, reduceCtorEq, l_0, l_1, l_2, l_3, l_4, l_5, l_6, l_7, l_8, l_9, l_10, l_15, l_24, l_32, l_39, l_40, l_47, l_48, l_50, l_57, l_60, l_63, l_80, l_95, l_99, l_100, l_120, l_126, l_128, l_1000, l_9999, l_10000, L_0, L_1, L_2, L_3, L_4, L_5, L_7, L_9, L_15, L_40, L_50, L_99, L_127, L_9999, c_ltT, c_ltF, c_leT, c_leF, c_eqT, c_eqF, n_leF, n_ltF, c_gltT, c_gltF, c_ggtT, c_ggtF, false_or, or_false, or_self, true_or, or_true]
            exact t2
          · have hv0 : (v = nI 0) = False := eq_false hv
            rw [if_neg hv] at t2
            by_cases hx : x = 0
            · rw [if_pos hx] at t2
              subst hx
              simp (disch := omega) only [hgo, e2, hv0, l_33, l_37, l_38, l_41, l_42, l_43, l_45, l_59, l_61, l_62, l_124, ↓lt_d, eq_self, lN_add, i_l, wTn, wFa, wFb, wCT, wCF, mNe, mNe2, mLt, mLe, bp_s, bn_s, n_clampS, nI_1, nI_add, pk_sub, nI_mul, wrI_at, wrI_2, wrL_at, wrL_1, true_and, false_and, and_true, and_false, and_self, ↓reduceIte, Nat.reduceEqDiff, Nat.reduceAdd, Nat.reduceMul, Nat.add_zero, Nat.zero_add, reduceCtorEq, l_0, l_1, l_2, l_3, l_4, l_5, l_6, l_7, l_8, l_9, l_10, l_15, l_24, l_32, l_39, l_40, l_47, l_48, l_50, l_57, l_60, l_63, l_80, l_95, l_99, l_100, l_120, l_126, l_128, l_1000, l_9999, l_10000, L_0, L_1, L_2, L_3, L_4, L_5, L_7, L_9, L_15, L_40, L_50, L_99, L_127, L_9999, c_ltT, c_ltF, c_leT, c_leF, c_eqT, c_eqF, n_leF, n_ltF, c_gltT, c_gltF, c_ggtT, c_ggtF, false_or, or_false, or_self, true_or, or_true]
              exact t2
            · rw [if_neg hx] at t2
              have hx0 : (x = nI 0) = False := eq_false hx
              simp (disch := omega) only [hgo, e2, hv0, hx0, l_33, l_37, l_38, l_41, l_42, l_43, l_45, l_59, l_61, l_62, l_124, ↓lt_d, eq_self, lN_add, i_l, wTn, wFa, wFb, wCT, wCF, mNe, mNe2, mLt, mLe, bp_s, bn_s, n_clampS, nI_1, nI_add, pk_sub, nI_mul, wrI_at, wrI_2, wrL_at, wrL_1, true_and, false_and, and_true, and_false, and_self, ↓reduceIte, Nat.reduceEqDiff, Nat.reduceAdd, Nat.reduceMul, Nat.add_zero, Nat.zero_add, reduceCtorEq, l_0, l_1, l_2, l_3, l_4, l_5, l_6, l_7, l_8, l_9, l_10, l_15, l_24, l_32, l_39, l_40, l_47, l_48, l_50, l_57, l_60, l_63, l_80, l_95, l_99, l_100, l_120, l_126, l_128, l_1000, l_9999, l_10000, L_0, L_1, L_2, L_3, L_4, L_5, L_7, L_9, L_15, L_40, L_50, L_99, L_127, L_9999, c_ltT, c_ltF, c_leT, c_leF, c_eqT, c_eqF, n_leF, n_ltF, c_gltT, c_gltF, c_ggtT, c_ggtF, false_or, or_false, or_self, true_or, or_true]
              exact t2
    · rw [if_neg his]
      refine Or.inr ⟨ks, p, v, R, rfl, ?_, hR, Nat.le_refl _, hE⟩
      have hops : ¬ (tk T m p = 38) := (fun z => his (by simpa only [beq_iff_eq] using z))
      have hgo := takes_F hR (k := 38) (by omega) (by omega) hops
      simp (disch := omega) only [hgo, l_33, l_37, l_38, l_41, l_42, l_43, l_45, l_59, l_61, l_62, l_124, ↓lt_d, eq_self, lN_add, i_l, wTn, wFa, wFb, wCT, wCF, mNe, mNe2, mLt, mLe, bp_s, bn_s, n_clampS, nI_1, nI_add, pk_sub, nI_mul, wrI_at, wrI_2, wrL_at, wrL_1, true_and, false_and, and_true, and_false, and_self, ↓reduceIte, Nat.reduceEqDiff, Nat.reduceAdd, Nat.reduceMul, Nat.add_zero, Nat.zero_add, reduceCtorEq, l_0, l_1, l_2, l_3, l_4, l_5, l_6, l_7, l_8, l_9, l_10, l_15, l_24, l_32, l_39, l_40, l_47, l_48, l_50, l_57, l_60, l_63, l_80, l_95, l_99, l_100, l_120, l_126, l_128, l_1000, l_9999, l_10000, L_0, L_1, L_2, L_3, L_4, L_5, L_7, L_9, L_15, L_40, L_50, L_99, L_127, L_9999, c_ltT, c_ltF, c_leT, c_leF, c_eqT, c_eqF, n_leF, n_ltF, c_gltT, c_gltF, c_ggtT, c_ggtF, false_or, or_false, or_self, true_or, or_true]
theorem row_all_r {n m op : Nat} (hn : 1000 ≤ n) {V : Int32 → Int32} {T : Nat → Nat} {z : Mm → Option (Int32 × Mm)} {po : Nat → PR} (h : RdR V T m op (fX11_compared n z) po) : RdR V T m op (fX11_both n z) (pRow T m (fun c => c == 38) po) := by
  intro p R hR
  have hm : m ≤ 120 := hR.1.1
  unfold pRow fX11_both
  rcases h p R hR with ⟨q, x, R2, e1, e2, e3⟩ | ⟨k2, q, x, R2, e1, e2, e3, e4, e5⟩
  · obtain ⟨k, rfl⟩ : ∃ k, n = k + 1 := ⟨n - 1, by omega⟩
    obtain ⟨y, hy⟩ := Dd_b e3
    have hd := e3.2.1
    have hqm := e3.2.2.1
    have hdt := Dd_t e3 (nI 38)
    have hex : ∀ v, fX11_both_h5 (k + 1) z (k + 1) v R2 = some (v, R2) := by
      intro v
      rw [fX11_both_h5.eq_2]
      simp (disch := omega) only [hdt, l_33, l_37, l_38, l_41, l_42, l_43, l_45, l_59, l_61, l_62, l_124, ↓lt_d, eq_self, lN_add, i_l, wTn, wFa, wFb, wCT, wCF, mNe, mNe2, mLt, mLe, bp_s, bn_s, n_clampS, nI_1, nI_add, pk_sub, nI_mul, wrI_at, wrI_2, wrL_at, wrL_1, true_and, false_and, and_true, and_false, and_self, ↓reduceIte, Nat.reduceEqDiff, Nat.reduceAdd, Nat.reduceMul, Nat.add_zero, Nat.zero_add, reduceCtorEq, l_0, l_1, l_2, l_3, l_4, l_5, l_6, l_7, l_8, l_9, l_10, l_15, l_24, l_32, l_39, l_40, l_47, l_48, l_50, l_57, l_60, l_63, l_80, l_95, l_99, l_100, l_120, l_126, l_128, l_1000, l_9999, l_10000, L_0, L_1, L_2, L_3, L_4, L_5, L_7, L_9, L_15, L_40, L_50, L_99, L_127, L_9999, c_ltT, c_ltF, c_leT, c_leF, c_eqT, c_eqF, n_leF, n_ltF, c_gltT, c_gltF, c_ggtT, c_ggtF, false_or, or_false, or_self, true_or, or_true]
    refine Or.inl ⟨q, x, R2, by rw [e1], ?_, e3⟩
    simp (disch := omega) only [e2, hy, hex, ↓lt_d, eq_self, lN_add, i_l, wTn, wFa, wFb, wCT, wCF, mNe, mNe2, mLt, mLe, bp_s, bn_s, n_clampS, nI_1, nI_add, pk_sub, nI_mul, wrI_at, wrI_2, wrL_at, wrL_1, true_and, false_and, and_true, and_false, and_self, ↓reduceIte, Nat.reduceEqDiff, Nat.reduceAdd, Nat.reduceMul, Nat.add_zero, Nat.zero_add, reduceCtorEq, l_0, l_1, l_2, l_3, l_4, l_5, l_6, l_7, l_8, l_9, l_10, l_15, l_24, l_32, l_39, l_40, l_47, l_48, l_50, l_57, l_60, l_63, l_80, l_95, l_99, l_100, l_120, l_126, l_128, l_1000, l_9999, l_10000, L_0, L_1, L_2, L_3, L_4, L_5, L_7, L_9, L_15, L_40, L_50, L_99, L_127, L_9999, c_ltT, c_ltF, c_leT, c_leF, c_eqT, c_eqF, n_leF, n_ltF, c_gltT, c_gltF, c_ggtT, c_ggtF, false_or, or_false, or_self, true_or, or_true]
  · have hb2 := byte_l e3.1 e3.2.1 e3.2.2.1
    rcases more_all_r (n := n) h m n q k2 x R2 (by omega) (by omega) e3 e5 with ⟨q', w, R3, t1, t2, t3⟩ | ⟨k, q', w, R3, t1, t2, t3, t4, t5⟩
    · refine Or.inl ⟨q', w, R3, by rw [e1]; exact t1, ?_, t3⟩
      simp (disch := omega) only [e2, ↓lt_d, eq_self, lN_add, i_l, wTn, wFa, wFb, wCT, wCF, mNe, mNe2, mLt, mLe, bp_s, bn_s, n_clampS, nI_1, nI_add, pk_sub, nI_mul, wrI_at, wrI_2, wrL_at, wrL_1, true_and, false_and, and_true, and_false, and_self, ↓reduceIte, Nat.reduceEqDiff, Nat.reduceAdd, Nat.reduceMul, Nat.add_zero, Nat.zero_add, reduceCtorEq, l_0, l_1, l_2, l_3, l_4, l_5, l_6, l_7, l_8, l_9, l_10, l_15, l_24, l_32, l_39, l_40, l_47, l_48, l_50, l_57, l_60, l_63, l_80, l_95, l_99, l_100, l_120, l_126, l_128, l_1000, l_9999, l_10000, L_0, L_1, L_2, L_3, L_4, L_5, L_7, L_9, L_15, L_40, L_50, L_99, L_127, L_9999, c_ltT, c_ltF, c_leT, c_leF, c_eqT, c_eqF, n_leF, n_ltF, c_gltT, c_gltF, c_ggtT, c_ggtF, false_or, or_false, or_self, true_or, or_true]
      exact t2
    · refine Or.inr ⟨k, q', w, R3, by rw [e1]; exact t1, ?_, t3, by omega, t5⟩
      simp (disch := omega) only [e2, ↓lt_d, eq_self, lN_add, i_l, wTn, wFa, wFb, wCT, wCF, mNe, mNe2, mLt, mLe, bp_s, bn_s, n_clampS, nI_1, nI_add, pk_sub, nI_mul, wrI_at, wrI_2, wrL_at, wrL_1, true_and, false_and, and_true, and_false, and_self, ↓reduceIte, Nat.reduceEqDiff, Nat.reduceAdd, Nat.reduceMul, Nat.add_zero, Nat.zero_add, reduceCtorEq, l_0, l_1, l_2, l_3, l_4, l_5, l_6, l_7, l_8, l_9, l_10, l_15, l_24, l_32, l_39, l_40, l_47, l_48, l_50, l_57, l_60, l_63, l_80, l_95, l_99, l_100, l_120, l_126, l_128, l_1000, l_9999, l_10000, L_0, L_1, L_2, L_3, L_4, L_5, L_7, L_9, L_15, L_40, L_50, L_99, L_127, L_9999, c_ltT, c_ltF, c_leT, c_leF, c_eqT, c_eqF, n_leF, n_ltF, c_gltT, c_gltF, c_ggtT, c_ggtF, false_or, or_false, or_self, true_or, or_true]
      exact t2
theorem more_any_r {n m op : Nat} {V : Int32 → Int32} {T : Nat → Nat} {z : Mm → Option (Int32 × Mm)} {po : Nat → PR} (h : RdR V T m op (fX11_both n z) po) : ∀ f fu p ks v R, m ≤ p + f → f < fu → RP V T m op p R → Ex V ks v → (∃ q w R', pMore T m (fun c => c == 124) po f ks p = (none, q) ∧ fX11_either_h5 n z fu v R = some (w, R') ∧ Dd T m q R') ∨ (∃ k q w R', pMore T m (fun c => c == 124) po f ks p = (some k, q) ∧ fX11_either_h5 n z fu v R = some (w, R') ∧ RP V T m op q R' ∧ p ≤ q ∧ Ex V k w) := by
  intro f
  induction f with
  | zero =>
    intro fu p ks v R hi hf hR hE
    obtain ⟨fu, rfl⟩ : ∃ f, fu = f + 1 := ⟨fu - 1, by omega⟩
    have hm : m ≤ 120 := hR.1.1
    have hp := hR.2.2.1
    have h13 := hR.2.2.2.1
    have hb := byte_l hR.1 hR.2.1 hp
    have hc : tk T m p = 256 := by
      unfold tk
      rw [if_neg (by omega)]
    refine Or.inr ⟨ks, p, v, R, rfl, ?_, hR, Nat.le_refl _, hE⟩
    have hgo := takes_F hR (k := 124) (by omega) (by omega) (by omega)
    rw [fX11_either_h5.eq_2]
    simp (disch := omega) only [hgo, l_33, l_37, l_38, l_41, l_42, l_43, l_45, l_59, l_61, l_62, l_124, ↓lt_d, eq_self, lN_add, i_l, wTn, wFa, wFb, wCT, wCF, mNe, mNe2, mLt, mLe, bp_s, bn_s, n_clampS, nI_1, nI_add, pk_sub, nI_mul, wrI_at, wrI_2, wrL_at, wrL_1, true_and, false_and, and_true, and_false, and_self, ↓reduceIte, Nat.reduceEqDiff, Nat.reduceAdd, Nat.reduceMul, Nat.add_zero, Nat.zero_add, reduceCtorEq, l_0, l_1, l_2, l_3, l_4, l_5, l_6, l_7, l_8, l_9, l_10, l_15, l_24, l_32, l_39, l_40, l_47, l_48, l_50, l_57, l_60, l_63, l_80, l_95, l_99, l_100, l_120, l_126, l_128, l_1000, l_9999, l_10000, L_0, L_1, L_2, L_3, L_4, L_5, L_7, L_9, L_15, L_40, L_50, L_99, L_127, L_9999, c_ltT, c_ltF, c_leT, c_leF, c_eqT, c_eqF, n_leF, n_ltF, c_gltT, c_gltF, c_ggtT, c_ggtF, false_or, or_false, or_self, true_or, or_true]
  | succ f ih =>
    intro fu p ks v R hi hf hR hE
    obtain ⟨fu, rfl⟩ : ∃ f, fu = f + 1 := ⟨fu - 1, by omega⟩
    have hm : m ≤ 120 := hR.1.1
    have hp := hR.2.2.1
    have h11 := hR.2.1
    have h13 := hR.2.2.2.1
    have hb := byte_l hR.1 hR.2.1 hp
    have hc256 := tkx_le hR.1 p
    rw [fX11_either_h5.eq_2]
    show (∃ q w R', (if (fun c => c == 124) (tk T m p) then (match po (p + 1) with | (none, q) => (none, q) | (some k2, q) => pMore T m (fun c => c == 124) po f (ks ++ k2 ++ [sg (tk T m p)]) q) else (some ks, p)) = (none, q) ∧ _) ∨ (∃ k q w R', (if (fun c => c == 124) (tk T m p) then (match po (p + 1) with | (none, q) => (none, q) | (some k2, q) => pMore T m (fun c => c == 124) po f (ks ++ k2 ++ [sg (tk T m p)]) q) else (some ks, p)) = (some k, q) ∧ _)
    by_cases his : (fun c => c == 124) (tk T m p) = true
    · rw [if_pos his]
      have hops : tk T m p = 124 := (by simpa only [beq_iff_eq] using his)
      have hpm : p < m := by
        by_cases hh : p < m
        · exact hh
        · unfold tk at hops
          rw [if_neg hh] at hops
          omega
      have hR1 := RP_step hR hpm
      have hgo := takes_T hR (k := 124) (by omega) hops
      rcases h (p + 1) _ hR1 with ⟨q, x, R2, e1, e2, e3⟩ | ⟨k2, q, x, R2, e1, e2, e3, e4, e5⟩
      · obtain ⟨fu, rfl⟩ : ∃ f, fu = f + 1 := ⟨fu - 1, by omega⟩
        obtain ⟨y, hy⟩ := Dd_b e3
        have hd := e3.2.1
        have hqm := e3.2.2.1
        have hdt := Dd_t e3 (nI 124)
        have hex : ∀ v, fX11_either_h5 n z (fu + 1) v R2 = some (v, R2) := by
          intro v
          rw [fX11_either_h5.eq_2]
          simp (disch := omega) only [hdt, l_33, l_37, l_38, l_41, l_42, l_43, l_45, l_59, l_61, l_62, l_124, ↓lt_d, eq_self, lN_add, i_l, wTn, wFa, wFb, wCT, wCF, mNe, mNe2, mLt, mLe, bp_s, bn_s, n_clampS, nI_1, nI_add, pk_sub, nI_mul, wrI_at, wrI_2, wrL_at, wrL_1, true_and, false_and, and_true, and_false, and_self, ↓reduceIte, Nat.reduceEqDiff, Nat.reduceAdd, Nat.reduceMul, Nat.add_zero, Nat.zero_add, reduceCtorEq, l_0, l_1, l_2, l_3, l_4, l_5, l_6, l_7, l_8, l_9, l_10, l_15, l_24, l_32, l_39, l_40, l_47, l_48, l_50, l_57, l_60, l_63, l_80, l_95, l_99, l_100, l_120, l_126, l_128, l_1000, l_9999, l_10000, L_0, L_1, L_2, L_3, L_4, L_5, L_7, L_9, L_15, L_40, L_50, L_99, L_127, L_9999, c_ltT, c_ltF, c_leT, c_leF, c_eqT, c_eqF, n_leF, n_ltF, c_gltT, c_gltF, c_ggtT, c_ggtF, false_or, or_false, or_self, true_or, or_true]
        unfold fX11_either_b27 fX11_either_b32
        by_cases hv : v = 0
        · subst hv
          by_cases hx : x = 0
          · subst hx
            refine Or.inl ⟨q, nI 0, R2, by rw [e1], ?_, e3⟩
            simp (disch := omega) only [hgo, e2, hex, l_33, l_37, l_38, l_41, l_42, l_43, l_45, l_59, l_61, l_62, l_124, ↓lt_d, eq_self, lN_add, i_l, wTn, wFa, wFb, wCT, wCF, mNe, mNe2, mLt, mLe, bp_s, bn_s, n_clampS, nI_1, nI_add, pk_sub, nI_mul, wrI_at, wrI_2, wrL_at, wrL_1, true_and, false_and, and_true, and_false, and_self, ↓reduceIte, Nat.reduceEqDiff, Nat.reduceAdd, Nat.reduceMul, Nat.add_zero, Nat.zero_add, reduceCtorEq, l_0, l_1, l_2, l_3, l_4, l_5, l_6, l_7, l_8, l_9, l_10, l_15, l_24, l_32, l_39, l_40, l_47, l_48, l_50, l_57, l_60, l_63, l_80, l_95, l_99, l_100, l_120, l_126, l_128, l_1000, l_9999, l_10000, L_0, L_1, L_2, L_3, L_4, L_5, L_7, L_9, L_15, L_40, L_50, L_99, L_127, L_9999, c_ltT, c_ltF, c_leT, c_leF, c_eqT, c_eqF, n_leF, n_ltF, c_gltT, c_gltF, c_ggtT, c_ggtF, false_or, or_false, or_self, true_or, or_true]
          · have hx0 : (x = nI 0) = False := eq_false hx
            refine Or.inl ⟨q, nI 1, R2, by rw [e1], ?_, e3⟩
            simp (disch := omega) only [hgo, e2, hex, hx0, l_33, l_37, l_38, l_41, l_42, l_43, l_45, l_59, l_61, l_62, l_124, ↓lt_d, eq_self, lN_add, i_l, wTn, wFa, wFb, wCT, wCF, mNe, mNe2, mLt, mLe, bp_s, bn_s, n_clampS, nI_1, nI_add, pk_sub, nI_mul, wrI_at, wrI_2, wrL_at, wrL_1, true_and, false_and, and_true, and_false, and_self, ↓reduceIte, Nat.reduceEqDiff, Nat.reduceAdd, Nat.reduceMul, Nat.add_zero, Nat.zero_add, reduceCtorEq, l_0, l_1, l_2, l_3, l_4, l_5, l_6, l_7, l_8, l_9, l_10, l_15, l_24, l_32, l_39, l_40, l_47, l_48, l_50, l_57, l_60, l_63, l_80, l_95, l_99, l_100, l_120, l_126, l_128, l_1000, l_9999, l_10000, L_0, L_1, L_2, L_3, L_4, L_5, L_7, L_9, L_15, L_40, L_50, L_99, L_127, L_9999, c_ltT, c_ltF, c_leT, c_leF, c_eqT, c_eqF, n_leF, n_ltF, c_gltT, c_gltF, c_ggtT, c_ggtF, false_or, or_false, or_self, true_or, or_true]
        · have hv0 : (v = nI 0) = False := eq_false hv
          refine Or.inl ⟨q, nI 1, R2, by rw [e1], ?_, e3⟩
          simp (disch := omega) only [hgo, e2, hex, hv0, l_33, l_37, l_38, l_41, l_42, l_43, l_45, l_59, l_61, l_62, l_124, ↓lt_d, eq_self, lN_add, i_l, wTn, wFa, wFb, wCT, wCF, mNe, mNe2, mLt, mLe, bp_s, bn_s, n_clampS, nI_1, nI_add, pk_sub, nI_mul, wrI_at, wrI_2, wrL_at, wrL_1, true_and, false_and, and_true, and_false, and_self, ↓reduceIte, Nat.reduceEqDiff, Nat.reduceAdd, Nat.reduceMul, Nat.add_zero, Nat.zero_add, reduceCtorEq, l_0, l_1, l_2, l_3, l_4, l_5, l_6, l_7, l_8, l_9, l_10, l_15, l_24, l_32, l_39, l_40, l_47, l_48, l_50, l_57, l_60, l_63, l_80, l_95, l_99, l_100, l_120, l_126, l_128, l_1000, l_9999, l_10000, L_0, L_1, L_2, L_3, L_4, L_5, L_7, L_9, L_15, L_40, L_50, L_99, L_127, L_9999, c_ltT, c_ltF, c_leT, c_leF, c_eqT, c_eqF, n_leF, n_ltF, c_gltT, c_gltF, c_ggtT, c_ggtF, false_or, or_false, or_self, true_or, or_true]
      · have hb2 := byte_l e3.1 e3.2.1 e3.2.2.1
        have hE2 := Ex_bin (V := V) (c := 124) (by unfold isOp; omega) hE e5
        rcases ih fu q (ks ++ k2 ++ [sg 124]) _ R2 (by omega) (by omega) e3 hE2 with ⟨q', w, R3, t1, t2, t3⟩ | ⟨k, q', w, R3, t1, t2, t3, t4, t5⟩
        · refine Or.inl ⟨q', w, R3, by rw [e1, hops]; exact t1, ?_, t3⟩
          unfold fX11_either_b27 fX11_either_b32
          rw [jn_124] at t2
          by_cases hv : v = 0
          · subst hv
            rw [if_pos rfl] at t2
            by_cases hx : x = 0
            · rw [if_pos hx] at t2
              subst hx
              simp (disch := omega) only [hgo, e2, l_33, l_37, l_38, l_41, l_42, l_43, l_45, l_59, l_61, l_62, l_124, ↓lt_d, eq_self, lN_add, i_l, wTn, wFa, wFb, wCT, wCF, mNe, mNe2, mLt, mLe, bp_s, bn_s, n_clampS, nI_1, nI_add, pk_sub, nI_mul, wrI_at, wrI_2, wrL_at, wrL_1, true_and, false_and, and_true, and_false, and_self, ↓reduceIte, Nat.reduceEqDiff, Nat.reduceAdd, Nat.reduceMul, Nat.add_zero, Nat.zero_add, reduceCtorEq, l_0, l_1, l_2, l_3, l_4, l_5, l_6, l_7, l_8, l_9, l_10, l_15, l_24, l_32, l_39, l_40, l_47, l_48, l_50, l_57, l_60, l_63, l_80, l_95, l_99, l_100, l_120, l_126, l_128, l_1000, l_9999, l_10000, L_0, L_1, L_2, L_3, L_4, L_5, L_7, L_9, L_15, L_40, L_50, L_99, L_127, L_9999, c_ltT, c_ltF, c_leT, c_leF, c_eqT, c_eqF, n_leF, n_ltF, c_gltT, c_gltF, c_ggtT, c_ggtF, false_or, or_false, or_self, true_or, or_true]
              exact t2
            · rw [if_neg hx] at t2
              have hx0 : (x = nI 0) = False := eq_false hx
              simp (disch := omega) only [hgo, e2, hx0, l_33, l_37, l_38, l_41, l_42, l_43, l_45, l_59, l_61, l_62, l_124, ↓lt_d, eq_self, lN_add, i_l, wTn, wFa, wFb, wCT, wCF, mNe, mNe2, mLt, mLe, bp_s, bn_s, n_clampS, nI_1, nI_add, pk_sub, nI_mul, wrI_at, wrI_2, wrL_at, wrL_1, true_and, false_and, and_true, and_false, and_self, ↓reduceIte, Nat.reduceEqDiff, Nat.reduceAdd, Nat.reduceMul, Nat.add_zero, Nat.zero_add, reduceCtorEq, l_0, l_1, l_2, l_3, l_4, l_5, l_6, l_7, l_8, l_9, l_10, l_15, l_24, l_32, l_39, l_40, l_47, l_48, l_50, l_57, l_60, l_63, l_80, l_95, l_99, l_100, l_120, l_126, l_128, l_1000, l_9999, l_10000, L_0, L_1, L_2, L_3, L_4, L_5, L_7, L_9, L_15, L_40, L_50, L_99, L_127, L_9999, c_ltT, c_ltF, c_leT, c_leF, c_eqT, c_eqF, n_leF, n_ltF, c_gltT, c_gltF, c_ggtT, c_ggtF, false_or, or_false, or_self, true_or, or_true]
              exact t2
          · have hv0 : (v = nI 0) = False := eq_false hv
            rw [if_neg hv] at t2
            simp (disch := omega) only [hgo, e2, hv0, l_33, l_37, l_38, l_41, l_42, l_43, l_45, l_59, l_61, l_62, l_124, ↓lt_d, eq_self, lN_add, i_l, wTn, wFa, wFb, wCT, wCF, mNe, mNe2, mLt, mLe, bp_s, bn_s, n_clampS, nI_1, nI_add, pk_sub, nI_mul, wrI_at, wrI_2, wrL_at, wrL_1, true_and, false_and, and_true, and_false, and_self, ↓reduceIte, Nat.reduceEqDiff, Nat.reduceAdd, Nat.reduceMul, Nat.add_zero, Nat.zero_add, reduceCtorEq, l_0, l_1, l_2, l_3, l_4, l_5, l_6, l_7, l_8, l_9, l_10, l_15, l_24, l_32, l_39, l_40, l_47, l_48, l_50, l_57, l_60, l_63, l_80, l_95, l_99, l_100, l_120, l_126, l_128, l_1000, l_9999, l_10000, L_0, L_1, L_2, L_3, L_4, L_5, L_7, L_9, L_15, L_40, L_50, L_99, L_127, L_9999, c_ltT, c_ltF, c_leT, c_leF, c_eqT, c_eqF, n_leF, n_ltF, c_gltT, c_gltF, c_ggtT, c_ggtF, false_or, or_false, or_self, true_or, or_true]
            exact t2
        · refine Or.inr ⟨k, q', w, R3, by rw [e1, hops]; exact t1, ?_, t3, by omega, t5⟩
          unfold fX11_either_b27 fX11_either_b32
          rw [jn_124] at t2
          by_cases hv : v = 0
          · subst hv
            rw [if_pos rfl] at t2
            by_cases hx : x = 0
            · rw [if_pos hx] at t2
              subst hx
              simp (disch := omega) only [hgo, e2, l_33, l_37, l_38, l_41, l_42, l_43, l_45, l_59, l_61, l_62, l_124, ↓lt_d, eq_self, lN_add, i_l, wTn, wFa, wFb, wCT, wCF, mNe, mNe2, mLt, mLe, bp_s, bn_s, n_clampS, nI_1, nI_add, pk_sub, nI_mul, wrI_at, wrI_2, wrL_at, wrL_1, true_and, false_and, and_true, and_false, and_self, ↓reduceIte, Nat.reduceEqDiff, Nat.reduceAdd, Nat.reduceMul, Nat.add_zero, Nat.zero_add, reduceCtorEq, l_0, l_1, l_2, l_3, l_4, l_5, l_6, l_7, l_8, l_9, l_10, l_15, l_24, l_32, l_39, l_40, l_47, l_48, l_50, l_57, l_60, l_63, l_80, l_95, l_99, l_100, l_120, l_126, l_128, l_1000, l_9999, l_10000, L_0, L_1, L_2, L_3, L_4, L_5, L_7, L_9, L_15, L_40, L_50, L_99, L_127, L_9999, c_ltT, c_ltF, c_leT, c_leF, c_eqT, c_eqF, n_leF, n_ltF, c_gltT, c_gltF, c_ggtT, c_ggtF, false_or, or_false, or_self, true_or, or_true]
              exact t2
            · rw [if_neg hx] at t2
              have hx0 : (x = nI 0) = False := eq_false hx
              simp (disch := omega) only [hgo, e2, hx0, l_33, l_37, l_38, l_41, l_42, l_43, l_45, l_59, l_61, l_62, l_124, ↓lt_d, eq_self, lN_add, i_l, wTn, wFa, wFb, wCT, wCF, mNe, mNe2, mLt, mLe, bp_s, bn_s, n_clampS, nI_1, nI_add, pk_sub, nI_mul, wrI_at, wrI_2, wrL_at, wrL_1, true_and, false_and, and_true, and_false, and_self, ↓reduceIte, Nat.reduceEqDiff, Nat.reduceAdd, Nat.reduceMul, Nat.add_zero, Nat.zero_add, reduceCtorEq, l_0, l_1, l_2, l_3, l_4, l_5, l_6, l_7, l_8, l_9, l_10, l_15, l_24, l_32, l_39, l_40, l_47, l_48, l_50, l_57, l_60, l_63, l_80, l_95, l_99, l_100, l_120, l_126, l_128, l_1000, l_9999, l_10000, L_0, L_1, L_2, L_3, L_4, L_5, L_7, L_9, L_15, L_40, L_50, L_99, L_127, L_9999, c_ltT, c_ltF, c_leT, c_leF, c_eqT, c_eqF, n_leF, n_ltF, c_gltT, c_gltF, c_ggtT, c_ggtF, false_or, or_false, or_self, true_or, or_true]
              exact t2
          · have hv0 : (v = nI 0) = False := eq_false hv
            rw [if_neg hv] at t2
            simp (disch := omega) only [hgo, e2, hv0, l_33, l_37, l_38, l_41, l_42, l_43, l_45, l_59, l_61, l_62, l_124, ↓lt_d, eq_self, lN_add, i_l, wTn, wFa, wFb, wCT, wCF, mNe, mNe2, mLt, mLe, bp_s, bn_s, n_clampS, nI_1, nI_add, pk_sub, nI_mul, wrI_at, wrI_2, wrL_at, wrL_1, true_and, false_and, and_true, and_false, and_self, ↓reduceIte, Nat.reduceEqDiff, Nat.reduceAdd, Nat.reduceMul, Nat.add_zero, Nat.zero_add, reduceCtorEq, l_0, l_1, l_2, l_3, l_4, l_5, l_6, l_7, l_8, l_9, l_10, l_15, l_24, l_32, l_39, l_40, l_47, l_48, l_50, l_57, l_60, l_63, l_80, l_95, l_99, l_100, l_120, l_126, l_128, l_1000, l_9999, l_10000, L_0, L_1, L_2, L_3, L_4, L_5, L_7, L_9, L_15, L_40, L_50, L_99, L_127, L_9999, c_ltT, c_ltF, c_leT, c_leF, c_eqT, c_eqF, n_leF, n_ltF, c_gltT, c_gltF, c_ggtT, c_ggtF, false_or, or_false, or_self, true_or, or_true]
            exact t2
    · rw [if_neg his]
      refine Or.inr ⟨ks, p, v, R, rfl, ?_, hR, Nat.le_refl _, hE⟩
      have hops : ¬ (tk T m p = 124) := (fun z => his (by simpa only [beq_iff_eq] using z))
      have hgo := takes_F hR (k := 124) (by omega) (by omega) hops
      simp (disch := omega) only [hgo, l_33, l_37, l_38, l_41, l_42, l_43, l_45, l_59, l_61, l_62, l_124, ↓lt_d, eq_self, lN_add, i_l, wTn, wFa, wFb, wCT, wCF, mNe, mNe2, mLt, mLe, bp_s, bn_s, n_clampS, nI_1, nI_add, pk_sub, nI_mul, wrI_at, wrI_2, wrL_at, wrL_1, true_and, false_and, and_true, and_false, and_self, ↓reduceIte, Nat.reduceEqDiff, Nat.reduceAdd, Nat.reduceMul, Nat.add_zero, Nat.zero_add, reduceCtorEq, l_0, l_1, l_2, l_3, l_4, l_5, l_6, l_7, l_8, l_9, l_10, l_15, l_24, l_32, l_39, l_40, l_47, l_48, l_50, l_57, l_60, l_63, l_80, l_95, l_99, l_100, l_120, l_126, l_128, l_1000, l_9999, l_10000, L_0, L_1, L_2, L_3, L_4, L_5, L_7, L_9, L_15, L_40, L_50, L_99, L_127, L_9999, c_ltT, c_ltF, c_leT, c_leF, c_eqT, c_eqF, n_leF, n_ltF, c_gltT, c_gltF, c_ggtT, c_ggtF, false_or, or_false, or_self, true_or, or_true]
theorem row_any_r {n m op : Nat} (hn : 1000 ≤ n) {V : Int32 → Int32} {T : Nat → Nat} {z : Mm → Option (Int32 × Mm)} {po : Nat → PR} (h : RdR V T m op (fX11_both n z) po) : RdR V T m op (fX11_either n z) (pRow T m (fun c => c == 124) po) := by
  intro p R hR
  have hm : m ≤ 120 := hR.1.1
  unfold pRow fX11_either
  rcases h p R hR with ⟨q, x, R2, e1, e2, e3⟩ | ⟨k2, q, x, R2, e1, e2, e3, e4, e5⟩
  · obtain ⟨k, rfl⟩ : ∃ k, n = k + 1 := ⟨n - 1, by omega⟩
    obtain ⟨y, hy⟩ := Dd_b e3
    have hd := e3.2.1
    have hqm := e3.2.2.1
    have hdt := Dd_t e3 (nI 124)
    have hex : ∀ v, fX11_either_h5 (k + 1) z (k + 1) v R2 = some (v, R2) := by
      intro v
      rw [fX11_either_h5.eq_2]
      simp (disch := omega) only [hdt, l_33, l_37, l_38, l_41, l_42, l_43, l_45, l_59, l_61, l_62, l_124, ↓lt_d, eq_self, lN_add, i_l, wTn, wFa, wFb, wCT, wCF, mNe, mNe2, mLt, mLe, bp_s, bn_s, n_clampS, nI_1, nI_add, pk_sub, nI_mul, wrI_at, wrI_2, wrL_at, wrL_1, true_and, false_and, and_true, and_false, and_self, ↓reduceIte, Nat.reduceEqDiff, Nat.reduceAdd, Nat.reduceMul, Nat.add_zero, Nat.zero_add, reduceCtorEq, l_0, l_1, l_2, l_3, l_4, l_5, l_6, l_7, l_8, l_9, l_10, l_15, l_24, l_32, l_39, l_40, l_47, l_48, l_50, l_57, l_60, l_63, l_80, l_95, l_99, l_100, l_120, l_126, l_128, l_1000, l_9999, l_10000, L_0, L_1, L_2, L_3, L_4, L_5, L_7, L_9, L_15, L_40, L_50, L_99, L_127, L_9999, c_ltT, c_ltF, c_leT, c_leF, c_eqT, c_eqF, n_leF, n_ltF, c_gltT, c_gltF, c_ggtT, c_ggtF, false_or, or_false, or_self, true_or, or_true]
    refine Or.inl ⟨q, x, R2, by rw [e1], ?_, e3⟩
    simp (disch := omega) only [e2, hy, hex, ↓lt_d, eq_self, lN_add, i_l, wTn, wFa, wFb, wCT, wCF, mNe, mNe2, mLt, mLe, bp_s, bn_s, n_clampS, nI_1, nI_add, pk_sub, nI_mul, wrI_at, wrI_2, wrL_at, wrL_1, true_and, false_and, and_true, and_false, and_self, ↓reduceIte, Nat.reduceEqDiff, Nat.reduceAdd, Nat.reduceMul, Nat.add_zero, Nat.zero_add, reduceCtorEq, l_0, l_1, l_2, l_3, l_4, l_5, l_6, l_7, l_8, l_9, l_10, l_15, l_24, l_32, l_39, l_40, l_47, l_48, l_50, l_57, l_60, l_63, l_80, l_95, l_99, l_100, l_120, l_126, l_128, l_1000, l_9999, l_10000, L_0, L_1, L_2, L_3, L_4, L_5, L_7, L_9, L_15, L_40, L_50, L_99, L_127, L_9999, c_ltT, c_ltF, c_leT, c_leF, c_eqT, c_eqF, n_leF, n_ltF, c_gltT, c_gltF, c_ggtT, c_ggtF, false_or, or_false, or_self, true_or, or_true]
  · have hb2 := byte_l e3.1 e3.2.1 e3.2.2.1
    rcases more_any_r (n := n) h m n q k2 x R2 (by omega) (by omega) e3 e5 with ⟨q', w, R3, t1, t2, t3⟩ | ⟨k, q', w, R3, t1, t2, t3, t4, t5⟩
    · refine Or.inl ⟨q', w, R3, by rw [e1]; exact t1, ?_, t3⟩
      simp (disch := omega) only [e2, ↓lt_d, eq_self, lN_add, i_l, wTn, wFa, wFb, wCT, wCF, mNe, mNe2, mLt, mLe, bp_s, bn_s, n_clampS, nI_1, nI_add, pk_sub, nI_mul, wrI_at, wrI_2, wrL_at, wrL_1, true_and, false_and, and_true, and_false, and_self, ↓reduceIte, Nat.reduceEqDiff, Nat.reduceAdd, Nat.reduceMul, Nat.add_zero, Nat.zero_add, reduceCtorEq, l_0, l_1, l_2, l_3, l_4, l_5, l_6, l_7, l_8, l_9, l_10, l_15, l_24, l_32, l_39, l_40, l_47, l_48, l_50, l_57, l_60, l_63, l_80, l_95, l_99, l_100, l_120, l_126, l_128, l_1000, l_9999, l_10000, L_0, L_1, L_2, L_3, L_4, L_5, L_7, L_9, L_15, L_40, L_50, L_99, L_127, L_9999, c_ltT, c_ltF, c_leT, c_leF, c_eqT, c_eqF, n_leF, n_ltF, c_gltT, c_gltF, c_ggtT, c_ggtF, false_or, or_false, or_self, true_or, or_true]
      exact t2
    · refine Or.inr ⟨k, q', w, R3, by rw [e1]; exact t1, ?_, t3, by omega, t5⟩
      simp (disch := omega) only [e2, ↓lt_d, eq_self, lN_add, i_l, wTn, wFa, wFb, wCT, wCF, mNe, mNe2, mLt, mLe, bp_s, bn_s, n_clampS, nI_1, nI_add, pk_sub, nI_mul, wrI_at, wrI_2, wrL_at, wrL_1, true_and, false_and, and_true, and_false, and_self, ↓reduceIte, Nat.reduceEqDiff, Nat.reduceAdd, Nat.reduceMul, Nat.add_zero, Nat.zero_add, reduceCtorEq, l_0, l_1, l_2, l_3, l_4, l_5, l_6, l_7, l_8, l_9, l_10, l_15, l_24, l_32, l_39, l_40, l_47, l_48, l_50, l_57, l_60, l_63, l_80, l_95, l_99, l_100, l_120, l_126, l_128, l_1000, l_9999, l_10000, L_0, L_1, L_2, L_3, L_4, L_5, L_7, L_9, L_15, L_40, L_50, L_99, L_127, L_9999, c_ltT, c_ltF, c_leT, c_leF, c_eqT, c_eqF, n_leF, n_ltF, c_gltT, c_gltF, c_ggtT, c_ggtF, false_or, or_false, or_self, true_or, or_true]
      exact t2
