/-! the class reads THE CHOICE as pLines says -/
theorem l_33 : (33 : Int32) = nI 33 := by decide
theorem l_37 : (37 : Int32) = nI 37 := by decide
theorem l_38 : (38 : Int32) = nI 38 := by decide
theorem l_41 : (41 : Int32) = nI 41 := by decide
theorem l_42 : (42 : Int32) = nI 42 := by decide
theorem l_43 : (43 : Int32) = nI 43 := by decide
theorem l_45 : (45 : Int32) = nI 45 := by decide
theorem l_59 : (59 : Int32) = nI 59 := by decide
theorem l_62 : (62 : Int32) = nI 62 := by decide
theorem l_109 : (109 : Int32) = nI 109 := by decide
theorem l_110 : (110 : Int32) = nI 110 := by decide
theorem l_116 : (116 : Int32) = nI 116 := by decide
theorem l_121 : (121 : Int32) = nI 121 := by decide
theorem l_122 : (122 : Int32) = nI 122 := by decide
theorem l_124 : (124 : Int32) = nI 124 := by decide
def bC (c : Nat) : Int32 := if c < 256 then nI c else -nI 1
theorem bC_T {c : Nat} (h : c < 256) : bC c = nI c := if_pos h
theorem bC_F {c k : Nat} (h : c ≠ k) (hk : k < 256) : (bC c = nI k) = False := by
  apply eq_false
  unfold bC
  by_cases h1 : c < 256
  · rw [if_pos h1]
    exact fun z => h ((nI_eq (by omega) (by omega)).mp z)
  · rw [if_neg h1]
    exact fun z => ng_eq (show -nI 1 < 0 by decide) (by omega) z
/-- the chooser's own tape holds the text T, m bytes -/
def BX (T : Nat → Nat) (m : Nat) (C : Mm) : Prop := m ≤ 120 ∧ C.1 103 1 = nI m ∧ ∀ i, i < m → T i < 256 ∧ C.1 104 i = nI (T i)
theorem at_c {T : Nat → Nat} {m p : Nat} {C : Mm} (h : BX T m C) (hp : p ≤ m) : fX9t_at (nI p) C = some (bC (tk T m p)) := by
  obtain ⟨h1, h2, h3⟩ := h
  unfold fX9t_at tk
  by_cases hpm : p < m
  · obtain ⟨h4, h5⟩ := h3 p hpm
    rw [if_pos hpm, bC_T h4]
    simp (disch := omega) only [h2, h5, ↓lt_d, eq_self, lN_add, i_l, wTn, wFa, wFb, wCT, wCF, mNe, mNe2, mLt, mLe, bp_s, bn_s, n_clampS, nI_1, nI_add, pk_sub, nI_mul, wrI_at, wrI_2, wrL_at, wrL_1, true_and, false_and, and_true, and_false, and_self, ↓reduceIte, Nat.reduceEqDiff, Nat.reduceAdd, Nat.reduceMul, Nat.add_zero, Nat.zero_add, reduceCtorEq, l_0, l_1, l_2, l_3, l_4, l_5, l_6, l_7, l_8, l_9, l_10, l_15, l_24, l_32, l_39, l_40, l_47, l_48, l_50, l_57, l_60, l_63, l_80, l_95, l_99, l_100, l_120, l_126, l_128, l_1000, l_9999, l_10000, L_0, L_1, L_2, L_3, L_4, L_5, L_7, L_9, L_15, L_40, L_50, L_99, L_127, L_9999, c_ltT, c_ltF, c_leT, c_leF, c_eqT, c_eqF, n_leF, n_ltF, c_gltT, c_gltF, c_ggtT, c_ggtF, false_or, or_false, or_self, true_or, or_true]
  · rw [if_neg hpm, show bC 256 = -nI 1 by decide]
    simp (disch := omega) only [h2, ↓lt_d, eq_self, lN_add, i_l, wTn, wFa, wFb, wCT, wCF, mNe, mNe2, mLt, mLe, bp_s, bn_s, n_clampS, nI_1, nI_add, pk_sub, nI_mul, wrI_at, wrI_2, wrL_at, wrL_1, true_and, false_and, and_true, and_false, and_self, ↓reduceIte, Nat.reduceEqDiff, Nat.reduceAdd, Nat.reduceMul, Nat.add_zero, Nat.zero_add, reduceCtorEq, l_0, l_1, l_2, l_3, l_4, l_5, l_6, l_7, l_8, l_9, l_10, l_15, l_24, l_32, l_39, l_40, l_47, l_48, l_50, l_57, l_60, l_63, l_80, l_95, l_99, l_100, l_120, l_126, l_128, l_1000, l_9999, l_10000, L_0, L_1, L_2, L_3, L_4, L_5, L_7, L_9, L_15, L_40, L_50, L_99, L_127, L_9999, c_ltT, c_ltF, c_leT, c_leF, c_eqT, c_eqF, n_leF, n_ltF, c_gltT, c_gltF, c_ggtT, c_ggtF, false_or, or_false, or_self, true_or, or_true]
theorem tk_le {T : Nat → Nat} {m : Nat} {C : Mm} (h : BX T m C) (p : Nat) : tk T m p ≤ 256 := by
  unfold tk
  split
  · rename_i hp
    have := (h.2.2 p hp).1
    omega
  · omega
/-- reading so far: at place p, codes ks in the draft -/
def CP (T : Nat → Nat) (m e p : Nat) (ks : List Int32) (C : Mm) : Prop := BX T m C ∧ C.1 32 7 = nI p ∧ p ≤ m ∧ C.1 32 3 = nI ks.length ∧ ks.length ≤ p + e ∧ ∀ i, i < ks.length → C.1 34 i = ks.getD i 0
theorem BX_w {T : Nat → Nat} {m q i : Nat} {v : Int32} {C : Mm} (h : BX T m C) (hq : q = 32 ∨ q = 34) : BX T m (wrI C q i v) := by
  obtain ⟨h1, h2, h3⟩ := h
  refine ⟨h1, ?_, fun k hk => ⟨(h3 k hk).1, ?_⟩⟩
  · rw [wrI_at, if_neg (by omega)]
    exact h2
  · rw [wrI_at, if_neg (by omega)]
    exact (h3 k hk).2
theorem CP_step {T : Nat → Nat} {m e p : Nat} {ks : List Int32} {C : Mm} (h : CP T m e p ks C) (hp : p < m) : CP T m e (p + 1) ks (wrI C 32 7 (nI (p + 1))) := by
  obtain ⟨h1, h2, h3, h4, h5, h6⟩ := h
  refine ⟨BX_w h1 (by omega), ?_, hp, ?_, by omega, fun i hi => ?_⟩
  · simp (disch := omega) only [↓lt_d, eq_self, lN_add, i_l, wTn, wFa, wFb, wCT, wCF, mNe, mNe2, mLt, mLe, bp_s, bn_s, n_clampS, nI_1, nI_add, pk_sub, nI_mul, wrI_at, wrI_2, wrL_at, wrL_1, true_and, false_and, and_true, and_false, and_self, ↓reduceIte, Nat.reduceEqDiff, Nat.reduceAdd, Nat.reduceMul, Nat.add_zero, Nat.zero_add, reduceCtorEq, l_0, l_1, l_2, l_3, l_4, l_5, l_6, l_7, l_8, l_9, l_10, l_15, l_24, l_32, l_39, l_40, l_47, l_48, l_50, l_57, l_60, l_63, l_80, l_95, l_99, l_100, l_120, l_126, l_128, l_1000, l_9999, l_10000, L_0, L_1, L_2, L_3, L_4, L_5, L_7, L_9, L_15, L_40, L_50, L_99, L_127, L_9999, c_ltT, c_ltF, c_leT, c_leF, c_eqT, c_eqF, n_leF, n_ltF, c_gltT, c_gltF, c_ggtT, c_ggtF, false_or, or_false, or_self, true_or, or_true]
  · simp (disch := omega) only [h4, ↓lt_d, eq_self, lN_add, i_l, wTn, wFa, wFb, wCT, wCF, mNe, mNe2, mLt, mLe, bp_s, bn_s, n_clampS, nI_1, nI_add, pk_sub, nI_mul, wrI_at, wrI_2, wrL_at, wrL_1, true_and, false_and, and_true, and_false, and_self, ↓reduceIte, Nat.reduceEqDiff, Nat.reduceAdd, Nat.reduceMul, Nat.add_zero, Nat.zero_add, reduceCtorEq, l_0, l_1, l_2, l_3, l_4, l_5, l_6, l_7, l_8, l_9, l_10, l_15, l_24, l_32, l_39, l_40, l_47, l_48, l_50, l_57, l_60, l_63, l_80, l_95, l_99, l_100, l_120, l_126, l_128, l_1000, l_9999, l_10000, L_0, L_1, L_2, L_3, L_4, L_5, L_7, L_9, L_15, L_40, L_50, L_99, L_127, L_9999, c_ltT, c_ltF, c_leT, c_leF, c_eqT, c_eqF, n_leF, n_ltF, c_gltT, c_gltF, c_ggtT, c_ggtF, false_or, or_false, or_self, true_or, or_true]
  · rw [wrI_at, if_neg (by omega)]
    exact h6 i hi
theorem code_c {T : Nat → Nat} {m e p : Nat} {ks : List Int32} {C : Mm} {k : Int32} (hl : ks.length + 1 ≤ p + e) (hl2 : ks.length < 128) (h : CP T m e p ks C) : ∃ C', fX3_writeCode k C = some C' ∧ CP T m e p (ks ++ [k]) C' := by
  obtain ⟨h1, h2, h3, h4, h5, h6⟩ := h
  refine ⟨wrI (wrI C 34 ks.length k) 32 3 (nI (ks.length + 1)), ?_, BX_w (BX_w h1 (by omega)) (by omega), ?_, h3, ?_, ?_, fun i hi => ?_⟩
  · unfold fX3_writeCode
    simp (disch := omega) only [h4, ↓lt_d, eq_self, lN_add, i_l, wTn, wFa, wFb, wCT, wCF, mNe, mNe2, mLt, mLe, bp_s, bn_s, n_clampS, nI_1, nI_add, pk_sub, nI_mul, wrI_at, wrI_2, wrL_at, wrL_1, true_and, false_and, and_true, and_false, and_self, ↓reduceIte, Nat.reduceEqDiff, Nat.reduceAdd, Nat.reduceMul, Nat.add_zero, Nat.zero_add, reduceCtorEq, l_0, l_1, l_2, l_3, l_4, l_5, l_6, l_7, l_8, l_9, l_10, l_15, l_24, l_32, l_39, l_40, l_47, l_48, l_50, l_57, l_60, l_63, l_80, l_95, l_99, l_100, l_120, l_126, l_128, l_1000, l_9999, l_10000, L_0, L_1, L_2, L_3, L_4, L_5, L_7, L_9, L_15, L_40, L_50, L_99, L_127, L_9999, c_ltT, c_ltF, c_leT, c_leF, c_eqT, c_eqF, n_leF, n_ltF, c_gltT, c_gltF, c_ggtT, c_ggtF, false_or, or_false, or_self, true_or, or_true]
  · simp (disch := omega) only [h2, ↓lt_d, eq_self, lN_add, i_l, wTn, wFa, wFb, wCT, wCF, mNe, mNe2, mLt, mLe, bp_s, bn_s, n_clampS, nI_1, nI_add, pk_sub, nI_mul, wrI_at, wrI_2, wrL_at, wrL_1, true_and, false_and, and_true, and_false, and_self, ↓reduceIte, Nat.reduceEqDiff, Nat.reduceAdd, Nat.reduceMul, Nat.add_zero, Nat.zero_add, reduceCtorEq, l_0, l_1, l_2, l_3, l_4, l_5, l_6, l_7, l_8, l_9, l_10, l_15, l_24, l_32, l_39, l_40, l_47, l_48, l_50, l_57, l_60, l_63, l_80, l_95, l_99, l_100, l_120, l_126, l_128, l_1000, l_9999, l_10000, L_0, L_1, L_2, L_3, L_4, L_5, L_7, L_9, L_15, L_40, L_50, L_99, L_127, L_9999, c_ltT, c_ltF, c_leT, c_leF, c_eqT, c_eqF, n_leF, n_ltF, c_gltT, c_gltF, c_ggtT, c_ggtF, false_or, or_false, or_self, true_or, or_true]
  · rw [List.length_append]
    simp (disch := omega) only [↓lt_d, eq_self, lN_add, i_l, wTn, wFa, wFb, wCT, wCF, mNe, mNe2, mLt, mLe, bp_s, bn_s, n_clampS, nI_1, nI_add, pk_sub, nI_mul, wrI_at, wrI_2, wrL_at, wrL_1, true_and, false_and, and_true, and_false, and_self, ↓reduceIte, Nat.reduceEqDiff, Nat.reduceAdd, Nat.reduceMul, Nat.add_zero, Nat.zero_add, reduceCtorEq, l_0, l_1, l_2, l_3, l_4, l_5, l_6, l_7, l_8, l_9, l_10, l_15, l_24, l_32, l_39, l_40, l_47, l_48, l_50, l_57, l_60, l_63, l_80, l_95, l_99, l_100, l_120, l_126, l_128, l_1000, l_9999, l_10000, L_0, L_1, L_2, L_3, L_4, L_5, L_7, L_9, L_15, L_40, L_50, L_99, L_127, L_9999, c_ltT, c_ltF, c_leT, c_leF, c_eqT, c_eqF, n_leF, n_ltF, c_gltT, c_gltF, c_ggtT, c_ggtF, false_or, or_false, or_self, true_or, or_true]
    rfl
  · rw [List.length_append]
    exact hl
  · rw [List.length_append] at hi
    have hi2 : i < ks.length + 1 := hi
    rw [wrI_at, if_neg (by omega), wrI_at]
    by_cases hik : i = ks.length
    · subst hik
      rw [if_pos ⟨rfl, rfl⟩, List.getD_eq_getElem?_getD, List.getElem?_append_right (Nat.le_refl _), Nat.sub_self]
      rfl
    · rw [if_neg (by omega), h6 i (by omega), List.getD_eq_getElem?_getD, List.getD_eq_getElem?_getD, List.getElem?_append_left (by omega)]
theorem write_c {T : Nat → Nat} {m e p c : Nat} {ks : List Int32} {C : Mm} (hl2 : c < 2 ^ 31) (hl : ks.length + 1 ≤ p + e ∧ ks.length < 128) (h : CP T m e p ks C) : ∃ C', fX3_write (nI c) C = some C' ∧ CP T m e p (ks ++ [sg c]) C' := by
  obtain ⟨C', w1, w2⟩ := code_c (k := sg c) hl.1 hl.2 h
  refine ⟨C', ?_, w2⟩
  unfold fX3_write
  rw [show -nI c = sg c from rfl, w1]
  rfl
/-- a reader of the class against a pure one -/
def RdC (T : Nat → Nat) (m : Nat) (F : Mm → Option (Int32 × Mm)) (po : Nat → PR) : Prop := ∀ p ks C, CP T m 0 p ks C → (∃ q C', po p = (none, q) ∧ F C = some (nI 0, C') ∧ C'.1 32 7 = nI q ∧ q ≤ m) ∨ (∃ k q C', po p = (some k, q) ∧ F C = some (nI 1, C') ∧ CP T m 0 q (ks ++ k) C' ∧ p + k.length ≤ q)
theorem goes_T {T : Nat → Nat} {m e p k : Nat} {ks : List Int32} {C : Mm} (h : CP T m e p ks C) (hk : k < 256) (hc : tk T m p = k) : fX3_goesOnWith (nI k) C = some (nI 1, wrI C 32 7 (nI (p + 1))) := by
  obtain ⟨h1, h2, h3, h4, h5, h6⟩ := h
  have hat := at_c h1 h3
  have hm : m ≤ 120 := h1.1
  rw [hc] at hat
  unfold fX3_goesOnWith
  simp (disch := omega) only [h2, hat, bC_T, ↓lt_d, eq_self, lN_add, i_l, wTn, wFa, wFb, wCT, wCF, mNe, mNe2, mLt, mLe, bp_s, bn_s, n_clampS, nI_1, nI_add, pk_sub, nI_mul, wrI_at, wrI_2, wrL_at, wrL_1, true_and, false_and, and_true, and_false, and_self, ↓reduceIte, Nat.reduceEqDiff, Nat.reduceAdd, Nat.reduceMul, Nat.add_zero, Nat.zero_add, reduceCtorEq, l_0, l_1, l_2, l_3, l_4, l_5, l_6, l_7, l_8, l_9, l_10, l_15, l_24, l_32, l_39, l_40, l_47, l_48, l_50, l_57, l_60, l_63, l_80, l_95, l_99, l_100, l_120, l_126, l_128, l_1000, l_9999, l_10000, L_0, L_1, L_2, L_3, L_4, L_5, L_7, L_9, L_15, L_40, L_50, L_99, L_127, L_9999, c_ltT, c_ltF, c_leT, c_leF, c_eqT, c_eqF, n_leF, n_ltF, c_gltT, c_gltF, c_ggtT, c_ggtF, false_or, or_false, or_self, true_or, or_true]
theorem goes_F {T : Nat → Nat} {m e p k : Nat} {ks : List Int32} {C : Mm} (h : CP T m e p ks C) (hk : k < 256) (hc : tk T m p ≠ k) : fX3_goesOnWith (nI k) C = some (nI 0, C) := by
  obtain ⟨h1, h2, h3, h4, h5, h6⟩ := h
  have hat := at_c h1 h3
  unfold fX3_goesOnWith
  simp (disch := omega) only [h2, hat, bC_F hc hk, ↓lt_d, eq_self, lN_add, i_l, wTn, wFa, wFb, wCT, wCF, mNe, mNe2, mLt, mLe, bp_s, bn_s, n_clampS, nI_1, nI_add, pk_sub, nI_mul, wrI_at, wrI_2, wrL_at, wrL_1, true_and, false_and, and_true, and_false, and_self, ↓reduceIte, Nat.reduceEqDiff, Nat.reduceAdd, Nat.reduceMul, Nat.add_zero, Nat.zero_add, reduceCtorEq, l_0, l_1, l_2, l_3, l_4, l_5, l_6, l_7, l_8, l_9, l_10, l_15, l_24, l_32, l_39, l_40, l_47, l_48, l_50, l_57, l_60, l_63, l_80, l_95, l_99, l_100, l_120, l_126, l_128, l_1000, l_9999, l_10000, L_0, L_1, L_2, L_3, L_4, L_5, L_7, L_9, L_15, L_40, L_50, L_99, L_127, L_9999, c_ltT, c_ltF, c_leT, c_leF, c_eqT, c_eqF, n_leF, n_ltF, c_gltT, c_gltF, c_ggtT, c_ggtF, false_or, or_false, or_self, true_or, or_true]
theorem goes_lt {T : Nat → Nat} {m p k : Nat} (hk : k < 256) (hc : tk T m p = k) : p < m := by
  unfold tk at hc
  by_cases h : p < m
  · exact h
  · rw [if_neg h] at hc
    omega
theorem more_prod_c {n m : Nat} {T : Nat → Nat} {z : Int32 → Mm → Option (Int32 × Mm)} {y : Int32} {po : Nat → PR} (h : RdC T m (fX3_readOperand n z y) po) : ∀ f i fu s p ks0 ks C, i + f = m → f < fu → s + ks.length ≤ p → CP T m 0 p (ks0 ++ ks) C → (∃ q C', pMore T m isPd po f ks p = (none, q) ∧ fX3_readProduct_h12 n z fu y (nI i) C = some (nI 0, C') ∧ C'.1 32 7 = nI q ∧ q ≤ m) ∨ (∃ k q C', pMore T m isPd po f ks p = (some k, q) ∧ fX3_readProduct_h12 n z fu y (nI i) C = some (nI 1, C') ∧ CP T m 0 q (ks0 ++ k) C' ∧ s + k.length ≤ q) := by
  intro f
  induction f with
  | zero =>
    intro i fu s p ks0 ks C hi hf hs hC
    obtain ⟨fu, rfl⟩ : ∃ f, fu = f + 1 := ⟨fu - 1, by omega⟩
    refine Or.inr ⟨ks, p, C, rfl, ?_, hC, hs⟩
    have hm : m ≤ 120 := hC.1.1
    have hlen := hC.1.2.1
    rw [fX3_readProduct_h12.eq_2]
    unfold fX9t_length
    simp (disch := omega) only [hlen, ↓lt_d, eq_self, lN_add, i_l, wTn, wFa, wFb, wCT, wCF, mNe, mNe2, mLt, mLe, bp_s, bn_s, n_clampS, nI_1, nI_add, pk_sub, nI_mul, wrI_at, wrI_2, wrL_at, wrL_1, true_and, false_and, and_true, and_false, and_self, ↓reduceIte, Nat.reduceEqDiff, Nat.reduceAdd, Nat.reduceMul, Nat.add_zero, Nat.zero_add, reduceCtorEq, l_0, l_1, l_2, l_3, l_4, l_5, l_6, l_7, l_8, l_9, l_10, l_15, l_24, l_32, l_39, l_40, l_47, l_48, l_50, l_57, l_60, l_63, l_80, l_95, l_99, l_100, l_120, l_126, l_128, l_1000, l_9999, l_10000, L_0, L_1, L_2, L_3, L_4, L_5, L_7, L_9, L_15, L_40, L_50, L_99, L_127, L_9999, c_ltT, c_ltF, c_leT, c_leF, c_eqT, c_eqF, n_leF, n_ltF, c_gltT, c_gltF, c_ggtT, c_ggtF, false_or, or_false, or_self, true_or, or_true]
  | succ f ih =>
    intro i fu s p ks0 ks C hi hf hs hC
    obtain ⟨fu, rfl⟩ : ∃ f, fu = f + 1 := ⟨fu - 1, by omega⟩
    have hm : m ≤ 120 := hC.1.1
    have hlen := hC.1.2.1
    have hp := hC.2.2.1
    have h7 := hC.2.1
    have hat := at_c hC.1 hp
    have hc256 := tk_le hC.1 p
    rw [fX3_readProduct_h12.eq_2]
    show (∃ q C', (if isPd (tk T m p) then (match po (p + 1) with | (none, q) => (none, q) | (some k2, q) => pMore T m isPd po f (ks ++ k2 ++ [sg (tk T m p)]) q) else (some ks, p)) = (none, q) ∧ _) ∨ (∃ k q C', (if isPd (tk T m p) then (match po (p + 1) with | (none, q) => (none, q) | (some k2, q) => pMore T m isPd po f (ks ++ k2 ++ [sg (tk T m p)]) q) else (some ks, p)) = (some k, q) ∧ _)
    by_cases his : isPd (tk T m p) = true
    · rw [if_pos his]
      have hops : tk T m p = 42 ∨ tk T m p = 47 ∨ tk T m p = 37 := (by unfold isPd at his; simp only [Bool.or_eq_true, beq_iff_eq] at his; omega)
      have hpm : p < m := by
        by_cases hh : p < m
        · exact hh
        · unfold tk at hops
          rw [if_neg hh] at hops
          omega
      have hC1 := CP_step hC hpm
      have hlen0 := hC.2.2.2.2.1
      rcases h (p + 1) (ks0 ++ ks) _ hC1 with ⟨q, C2, e1, e2, e3, e4⟩ | ⟨k2, q, C2, e1, e2, e3, e4⟩
      · refine Or.inl ⟨q, C2, by rw [e1], ?_, e3, e4⟩
        unfold fX9t_length fX3_readProduct_b55
        rcases hops with hops | hops | hops
        · rw [hops] at hat
          simp (disch := omega) only [hlen, h7, hat, bC_T, e2, l_33, l_37, l_38, l_41, l_42, l_43, l_45, l_59, l_61, l_62, l_124, ↓lt_d, eq_self, lN_add, i_l, wTn, wFa, wFb, wCT, wCF, mNe, mNe2, mLt, mLe, bp_s, bn_s, n_clampS, nI_1, nI_add, pk_sub, nI_mul, wrI_at, wrI_2, wrL_at, wrL_1, true_and, false_and, and_true, and_false, and_self, ↓reduceIte, Nat.reduceEqDiff, Nat.reduceAdd, Nat.reduceMul, Nat.add_zero, Nat.zero_add, reduceCtorEq, l_0, l_1, l_2, l_3, l_4, l_5, l_6, l_7, l_8, l_9, l_10, l_15, l_24, l_32, l_39, l_40, l_47, l_48, l_50, l_57, l_60, l_63, l_80, l_95, l_99, l_100, l_120, l_126, l_128, l_1000, l_9999, l_10000, L_0, L_1, L_2, L_3, L_4, L_5, L_7, L_9, L_15, L_40, L_50, L_99, L_127, L_9999, c_ltT, c_ltF, c_leT, c_leF, c_eqT, c_eqF, n_leF, n_ltF, c_gltT, c_gltF, c_ggtT, c_ggtF, false_or, or_false, or_self, true_or, or_true]
        · rw [hops] at hat
          simp (disch := omega) only [hlen, h7, hat, bC_T, e2, l_33, l_37, l_38, l_41, l_42, l_43, l_45, l_59, l_61, l_62, l_124, ↓lt_d, eq_self, lN_add, i_l, wTn, wFa, wFb, wCT, wCF, mNe, mNe2, mLt, mLe, bp_s, bn_s, n_clampS, nI_1, nI_add, pk_sub, nI_mul, wrI_at, wrI_2, wrL_at, wrL_1, true_and, false_and, and_true, and_false, and_self, ↓reduceIte, Nat.reduceEqDiff, Nat.reduceAdd, Nat.reduceMul, Nat.add_zero, Nat.zero_add, reduceCtorEq, l_0, l_1, l_2, l_3, l_4, l_5, l_6, l_7, l_8, l_9, l_10, l_15, l_24, l_32, l_39, l_40, l_47, l_48, l_50, l_57, l_60, l_63, l_80, l_95, l_99, l_100, l_120, l_126, l_128, l_1000, l_9999, l_10000, L_0, L_1, L_2, L_3, L_4, L_5, L_7, L_9, L_15, L_40, L_50, L_99, L_127, L_9999, c_ltT, c_ltF, c_leT, c_leF, c_eqT, c_eqF, n_leF, n_ltF, c_gltT, c_gltF, c_ggtT, c_ggtF, false_or, or_false, or_self, true_or, or_true]
        · rw [hops] at hat
          simp (disch := omega) only [hlen, h7, hat, bC_T, e2, l_33, l_37, l_38, l_41, l_42, l_43, l_45, l_59, l_61, l_62, l_124, ↓lt_d, eq_self, lN_add, i_l, wTn, wFa, wFb, wCT, wCF, mNe, mNe2, mLt, mLe, bp_s, bn_s, n_clampS, nI_1, nI_add, pk_sub, nI_mul, wrI_at, wrI_2, wrL_at, wrL_1, true_and, false_and, and_true, and_false, and_self, ↓reduceIte, Nat.reduceEqDiff, Nat.reduceAdd, Nat.reduceMul, Nat.add_zero, Nat.zero_add, reduceCtorEq, l_0, l_1, l_2, l_3, l_4, l_5, l_6, l_7, l_8, l_9, l_10, l_15, l_24, l_32, l_39, l_40, l_47, l_48, l_50, l_57, l_60, l_63, l_80, l_95, l_99, l_100, l_120, l_126, l_128, l_1000, l_9999, l_10000, L_0, L_1, L_2, L_3, L_4, L_5, L_7, L_9, L_15, L_40, L_50, L_99, L_127, L_9999, c_ltT, c_ltF, c_leT, c_leF, c_eqT, c_eqF, n_leF, n_ltF, c_gltT, c_gltF, c_ggtT, c_ggtF, false_or, or_false, or_self, true_or, or_true]
      · have hq := e3.2.2.1
        have hl3 : (ks0 ++ ks ++ k2).length + 1 ≤ q := by
          simp only [List.length_append] at hlen0 ⊢
          omega
        obtain ⟨C3, w1, w2⟩ := write_c (c := tk T m p) (by omega) ⟨hl3, by omega⟩ e3
        rcases ih (i + 1) fu s q ks0 (ks ++ k2 ++ [sg (tk T m p)]) C3 (by omega) (by omega) (by simp only [List.length_append, List.length_cons, List.length_nil]; omega) (by rw [← List.append_assoc, ← List.append_assoc]; exact w2) with ⟨q', C', t1, t2, t3⟩ | ⟨k, q', C', t1, t2, t3⟩
        · refine Or.inl ⟨q', C', by rw [e1]; exact t1, ?_, t3⟩
          unfold fX9t_length fX3_readProduct_b55
          rcases hops with hops | hops | hops
          · rw [hops] at hat w1
            simp (disch := omega) only [hlen, h7, hat, bC_T, e2, w1, l_33, l_37, l_38, l_41, l_42, l_43, l_45, l_59, l_61, l_62, l_124, ↓lt_d, eq_self, lN_add, i_l, wTn, wFa, wFb, wCT, wCF, mNe, mNe2, mLt, mLe, bp_s, bn_s, n_clampS, nI_1, nI_add, pk_sub, nI_mul, wrI_at, wrI_2, wrL_at, wrL_1, true_and, false_and, and_true, and_false, and_self, ↓reduceIte, Nat.reduceEqDiff, Nat.reduceAdd, Nat.reduceMul, Nat.add_zero, Nat.zero_add, reduceCtorEq, l_0, l_1, l_2, l_3, l_4, l_5, l_6, l_7, l_8, l_9, l_10, l_15, l_24, l_32, l_39, l_40, l_47, l_48, l_50, l_57, l_60, l_63, l_80, l_95, l_99, l_100, l_120, l_126, l_128, l_1000, l_9999, l_10000, L_0, L_1, L_2, L_3, L_4, L_5, L_7, L_9, L_15, L_40, L_50, L_99, L_127, L_9999, c_ltT, c_ltF, c_leT, c_leF, c_eqT, c_eqF, n_leF, n_ltF, c_gltT, c_gltF, c_ggtT, c_ggtF, false_or, or_false, or_self, true_or, or_true]
            exact t2
          · rw [hops] at hat w1
            simp (disch := omega) only [hlen, h7, hat, bC_T, e2, w1, l_33, l_37, l_38, l_41, l_42, l_43, l_45, l_59, l_61, l_62, l_124, ↓lt_d, eq_self, lN_add, i_l, wTn, wFa, wFb, wCT, wCF, mNe, mNe2, mLt, mLe, bp_s, bn_s, n_clampS, nI_1, nI_add, pk_sub, nI_mul, wrI_at, wrI_2, wrL_at, wrL_1, true_and, false_and, and_true, and_false, and_self, ↓reduceIte, Nat.reduceEqDiff, Nat.reduceAdd, Nat.reduceMul, Nat.add_zero, Nat.zero_add, reduceCtorEq, l_0, l_1, l_2, l_3, l_4, l_5, l_6, l_7, l_8, l_9, l_10, l_15, l_24, l_32, l_39, l_40, l_47, l_48, l_50, l_57, l_60, l_63, l_80, l_95, l_99, l_100, l_120, l_126, l_128, l_1000, l_9999, l_10000, L_0, L_1, L_2, L_3, L_4, L_5, L_7, L_9, L_15, L_40, L_50, L_99, L_127, L_9999, c_ltT, c_ltF, c_leT, c_leF, c_eqT, c_eqF, n_leF, n_ltF, c_gltT, c_gltF, c_ggtT, c_ggtF, false_or, or_false, or_self, true_or, or_true]
            exact t2
          · rw [hops] at hat w1
            simp (disch := omega) only [hlen, h7, hat, bC_T, e2, w1, l_33, l_37, l_38, l_41, l_42, l_43, l_45, l_59, l_61, l_62, l_124, ↓lt_d, eq_self, lN_add, i_l, wTn, wFa, wFb, wCT, wCF, mNe, mNe2, mLt, mLe, bp_s, bn_s, n_clampS, nI_1, nI_add, pk_sub, nI_mul, wrI_at, wrI_2, wrL_at, wrL_1, true_and, false_and, and_true, and_false, and_self, ↓reduceIte, Nat.reduceEqDiff, Nat.reduceAdd, Nat.reduceMul, Nat.add_zero, Nat.zero_add, reduceCtorEq, l_0, l_1, l_2, l_3, l_4, l_5, l_6, l_7, l_8, l_9, l_10, l_15, l_24, l_32, l_39, l_40, l_47, l_48, l_50, l_57, l_60, l_63, l_80, l_95, l_99, l_100, l_120, l_126, l_128, l_1000, l_9999, l_10000, L_0, L_1, L_2, L_3, L_4, L_5, L_7, L_9, L_15, L_40, L_50, L_99, L_127, L_9999, c_ltT, c_ltF, c_leT, c_leF, c_eqT, c_eqF, n_leF, n_ltF, c_gltT, c_gltF, c_ggtT, c_ggtF, false_or, or_false, or_self, true_or, or_true]
            exact t2
        · refine Or.inr ⟨k, q', C', by rw [e1]; exact t1, ?_, t3⟩
          unfold fX9t_length fX3_readProduct_b55
          rcases hops with hops | hops | hops
          · rw [hops] at hat w1
            simp (disch := omega) only [hlen, h7, hat, bC_T, e2, w1, l_33, l_37, l_38, l_41, l_42, l_43, l_45, l_59, l_61, l_62, l_124, ↓lt_d, eq_self, lN_add, i_l, wTn, wFa, wFb, wCT, wCF, mNe, mNe2, mLt, mLe, bp_s, bn_s, n_clampS, nI_1, nI_add, pk_sub, nI_mul, wrI_at, wrI_2, wrL_at, wrL_1, true_and, false_and, and_true, and_false, and_self, ↓reduceIte, Nat.reduceEqDiff, Nat.reduceAdd, Nat.reduceMul, Nat.add_zero, Nat.zero_add, reduceCtorEq, l_0, l_1, l_2, l_3, l_4, l_5, l_6, l_7, l_8, l_9, l_10, l_15, l_24, l_32, l_39, l_40, l_47, l_48, l_50, l_57, l_60, l_63, l_80, l_95, l_99, l_100, l_120, l_126, l_128, l_1000, l_9999, l_10000, L_0, L_1, L_2, L_3, L_4, L_5, L_7, L_9, L_15, L_40, L_50, L_99, L_127, L_9999, c_ltT, c_ltF, c_leT, c_leF, c_eqT, c_eqF, n_leF, n_ltF, c_gltT, c_gltF, c_ggtT, c_ggtF, false_or, or_false, or_self, true_or, or_true]
            exact t2
          · rw [hops] at hat w1
            simp (disch := omega) only [hlen, h7, hat, bC_T, e2, w1, l_33, l_37, l_38, l_41, l_42, l_43, l_45, l_59, l_61, l_62, l_124, ↓lt_d, eq_self, lN_add, i_l, wTn, wFa, wFb, wCT, wCF, mNe, mNe2, mLt, mLe, bp_s, bn_s, n_clampS, nI_1, nI_add, pk_sub, nI_mul, wrI_at, wrI_2, wrL_at, wrL_1, true_and, false_and, and_true, and_false, and_self, ↓reduceIte, Nat.reduceEqDiff, Nat.reduceAdd, Nat.reduceMul, Nat.add_zero, Nat.zero_add, reduceCtorEq, l_0, l_1, l_2, l_3, l_4, l_5, l_6, l_7, l_8, l_9, l_10, l_15, l_24, l_32, l_39, l_40, l_47, l_48, l_50, l_57, l_60, l_63, l_80, l_95, l_99, l_100, l_120, l_126, l_128, l_1000, l_9999, l_10000, L_0, L_1, L_2, L_3, L_4, L_5, L_7, L_9, L_15, L_40, L_50, L_99, L_127, L_9999, c_ltT, c_ltF, c_leT, c_leF, c_eqT, c_eqF, n_leF, n_ltF, c_gltT, c_gltF, c_ggtT, c_ggtF, false_or, or_false, or_self, true_or, or_true]
            exact t2
          · rw [hops] at hat w1
            simp (disch := omega) only [hlen, h7, hat, bC_T, e2, w1, l_33, l_37, l_38, l_41, l_42, l_43, l_45, l_59, l_61, l_62, l_124, ↓lt_d, eq_self, lN_add, i_l, wTn, wFa, wFb, wCT, wCF, mNe, mNe2, mLt, mLe, bp_s, bn_s, n_clampS, nI_1, nI_add, pk_sub, nI_mul, wrI_at, wrI_2, wrL_at, wrL_1, true_and, false_and, and_true, and_false, and_self, ↓reduceIte, Nat.reduceEqDiff, Nat.reduceAdd, Nat.reduceMul, Nat.add_zero, Nat.zero_add, reduceCtorEq, l_0, l_1, l_2, l_3, l_4, l_5, l_6, l_7, l_8, l_9, l_10, l_15, l_24, l_32, l_39, l_40, l_47, l_48, l_50, l_57, l_60, l_63, l_80, l_95, l_99, l_100, l_120, l_126, l_128, l_1000, l_9999, l_10000, L_0, L_1, L_2, L_3, L_4, L_5, L_7, L_9, L_15, L_40, L_50, L_99, L_127, L_9999, c_ltT, c_ltF, c_leT, c_leF, c_eqT, c_eqF, n_leF, n_ltF, c_gltT, c_gltF, c_ggtT, c_ggtF, false_or, or_false, or_self, true_or, or_true]
            exact t2
    · rw [if_neg his]
      refine Or.inr ⟨ks, p, C, rfl, ?_, hC, hs⟩
      have hops : ¬ (tk T m p = 42 ∨ tk T m p = 47 ∨ tk T m p = 37) := (fun z => his (by unfold isPd; simp only [Bool.or_eq_true, beq_iff_eq]; omega))
      unfold fX9t_length
      simp (disch := omega) only [hlen, h7, hat, bC_F, l_33, l_37, l_38, l_41, l_42, l_43, l_45, l_59, l_61, l_62, l_124, ↓lt_d, eq_self, lN_add, i_l, wTn, wFa, wFb, wCT, wCF, mNe, mNe2, mLt, mLe, bp_s, bn_s, n_clampS, nI_1, nI_add, pk_sub, nI_mul, wrI_at, wrI_2, wrL_at, wrL_1, true_and, false_and, and_true, and_false, and_self, ↓reduceIte, Nat.reduceEqDiff, Nat.reduceAdd, Nat.reduceMul, Nat.add_zero, Nat.zero_add, reduceCtorEq, l_0, l_1, l_2, l_3, l_4, l_5, l_6, l_7, l_8, l_9, l_10, l_15, l_24, l_32, l_39, l_40, l_47, l_48, l_50, l_57, l_60, l_63, l_80, l_95, l_99, l_100, l_120, l_126, l_128, l_1000, l_9999, l_10000, L_0, L_1, L_2, L_3, L_4, L_5, L_7, L_9, L_15, L_40, L_50, L_99, L_127, L_9999, c_ltT, c_ltF, c_leT, c_leF, c_eqT, c_eqF, n_leF, n_ltF, c_gltT, c_gltF, c_ggtT, c_ggtF, false_or, or_false, or_self, true_or, or_true]
theorem row_prod_c {n m : Nat} (hn : 1000 ≤ n) {T : Nat → Nat} {z : Int32 → Mm → Option (Int32 × Mm)} {y : Int32} {po : Nat → PR} (h : RdC T m (fX3_readOperand n z y) po) : RdC T m (fX3_readProduct n z y) (pRow T m isPd po) := by
  intro p ks C hC
  have hm : m ≤ 120 := hC.1.1
  unfold pRow fX3_readProduct
  rcases h p ks C hC with ⟨q, C2, e1, e2, e3, e4⟩ | ⟨k2, q, C2, e1, e2, e3, e4⟩
  · refine Or.inl ⟨q, C2, by rw [e1], ?_, e3, e4⟩
    simp (disch := omega) only [e2, ↓lt_d, eq_self, lN_add, i_l, wTn, wFa, wFb, wCT, wCF, mNe, mNe2, mLt, mLe, bp_s, bn_s, n_clampS, nI_1, nI_add, pk_sub, nI_mul, wrI_at, wrI_2, wrL_at, wrL_1, true_and, false_and, and_true, and_false, and_self, ↓reduceIte, Nat.reduceEqDiff, Nat.reduceAdd, Nat.reduceMul, Nat.add_zero, Nat.zero_add, reduceCtorEq, l_0, l_1, l_2, l_3, l_4, l_5, l_6, l_7, l_8, l_9, l_10, l_15, l_24, l_32, l_39, l_40, l_47, l_48, l_50, l_57, l_60, l_63, l_80, l_95, l_99, l_100, l_120, l_126, l_128, l_1000, l_9999, l_10000, L_0, L_1, L_2, L_3, L_4, L_5, L_7, L_9, L_15, L_40, L_50, L_99, L_127, L_9999, c_ltT, c_ltF, c_leT, c_leF, c_eqT, c_eqF, n_leF, n_ltF, c_gltT, c_gltF, c_ggtT, c_ggtF, false_or, or_false, or_self, true_or, or_true]
  · rcases more_prod_c h m 0 n p q ks k2 C2 (by omega) (by omega) e4 e3 with ⟨q', C', t1, t2, t3⟩ | ⟨k, q', C', t1, t2, t3⟩
    · refine Or.inl ⟨q', C', by rw [e1]; exact t1, ?_, t3⟩
      simp (disch := omega) only [e2, ↓lt_d, eq_self, lN_add, i_l, wTn, wFa, wFb, wCT, wCF, mNe, mNe2, mLt, mLe, bp_s, bn_s, n_clampS, nI_1, nI_add, pk_sub, nI_mul, wrI_at, wrI_2, wrL_at, wrL_1, true_and, false_and, and_true, and_false, and_self, ↓reduceIte, Nat.reduceEqDiff, Nat.reduceAdd, Nat.reduceMul, Nat.add_zero, Nat.zero_add, reduceCtorEq, l_0, l_1, l_2, l_3, l_4, l_5, l_6, l_7, l_8, l_9, l_10, l_15, l_24, l_32, l_39, l_40, l_47, l_48, l_50, l_57, l_60, l_63, l_80, l_95, l_99, l_100, l_120, l_126, l_128, l_1000, l_9999, l_10000, L_0, L_1, L_2, L_3, L_4, L_5, L_7, L_9, L_15, L_40, L_50, L_99, L_127, L_9999, c_ltT, c_ltF, c_leT, c_leF, c_eqT, c_eqF, n_leF, n_ltF, c_gltT, c_gltF, c_ggtT, c_ggtF, false_or, or_false, or_self, true_or, or_true]
      exact t2
    · refine Or.inr ⟨k, q', C', by rw [e1]; exact t1, ?_, t3⟩
      simp (disch := omega) only [e2, ↓lt_d, eq_self, lN_add, i_l, wTn, wFa, wFb, wCT, wCF, mNe, mNe2, mLt, mLe, bp_s, bn_s, n_clampS, nI_1, nI_add, pk_sub, nI_mul, wrI_at, wrI_2, wrL_at, wrL_1, true_and, false_and, and_true, and_false, and_self, ↓reduceIte, Nat.reduceEqDiff, Nat.reduceAdd, Nat.reduceMul, Nat.add_zero, Nat.zero_add, reduceCtorEq, l_0, l_1, l_2, l_3, l_4, l_5, l_6, l_7, l_8, l_9, l_10, l_15, l_24, l_32, l_39, l_40, l_47, l_48, l_50, l_57, l_60, l_63, l_80, l_95, l_99, l_100, l_120, l_126, l_128, l_1000, l_9999, l_10000, L_0, L_1, L_2, L_3, L_4, L_5, L_7, L_9, L_15, L_40, L_50, L_99, L_127, L_9999, c_ltT, c_ltF, c_leT, c_leF, c_eqT, c_eqF, n_leF, n_ltF, c_gltT, c_gltF, c_ggtT, c_ggtF, false_or, or_false, or_self, true_or, or_true]
      exact t2
theorem more_sum_c {n m : Nat} {T : Nat → Nat} {z : Int32 → Mm → Option (Int32 × Mm)} {y : Int32} {po : Nat → PR} (h : RdC T m (fX3_readProduct n z y) po) : ∀ f i fu s p ks0 ks C, i + f = m → f < fu → s + ks.length ≤ p → CP T m 0 p (ks0 ++ ks) C → (∃ q C', pMore T m isSm po f ks p = (none, q) ∧ fX3_readSum_h12 n z fu y (nI i) C = some (nI 0, C') ∧ C'.1 32 7 = nI q ∧ q ≤ m) ∨ (∃ k q C', pMore T m isSm po f ks p = (some k, q) ∧ fX3_readSum_h12 n z fu y (nI i) C = some (nI 1, C') ∧ CP T m 0 q (ks0 ++ k) C' ∧ s + k.length ≤ q) := by
  intro f
  induction f with
  | zero =>
    intro i fu s p ks0 ks C hi hf hs hC
    obtain ⟨fu, rfl⟩ : ∃ f, fu = f + 1 := ⟨fu - 1, by omega⟩
    refine Or.inr ⟨ks, p, C, rfl, ?_, hC, hs⟩
    have hm : m ≤ 120 := hC.1.1
    have hlen := hC.1.2.1
    rw [fX3_readSum_h12.eq_2]
    unfold fX9t_length
    simp (disch := omega) only [hlen, ↓lt_d, eq_self, lN_add, i_l, wTn, wFa, wFb, wCT, wCF, mNe, mNe2, mLt, mLe, bp_s, bn_s, n_clampS, nI_1, nI_add, pk_sub, nI_mul, wrI_at, wrI_2, wrL_at, wrL_1, true_and, false_and, and_true, and_false, and_self, ↓reduceIte, Nat.reduceEqDiff, Nat.reduceAdd, Nat.reduceMul, Nat.add_zero, Nat.zero_add, reduceCtorEq, l_0, l_1, l_2, l_3, l_4, l_5, l_6, l_7, l_8, l_9, l_10, l_15, l_24, l_32, l_39, l_40, l_47, l_48, l_50, l_57, l_60, l_63, l_80, l_95, l_99, l_100, l_120, l_126, l_128, l_1000, l_9999, l_10000, L_0, L_1, L_2, L_3, L_4, L_5, L_7, L_9, L_15, L_40, L_50, L_99, L_127, L_9999, c_ltT, c_ltF, c_leT, c_leF, c_eqT, c_eqF, n_leF, n_ltF, c_gltT, c_gltF, c_ggtT, c_ggtF, false_or, or_false, or_self, true_or, or_true]
  | succ f ih =>
    intro i fu s p ks0 ks C hi hf hs hC
    obtain ⟨fu, rfl⟩ : ∃ f, fu = f + 1 := ⟨fu - 1, by omega⟩
    have hm : m ≤ 120 := hC.1.1
    have hlen := hC.1.2.1
    have hp := hC.2.2.1
    have h7 := hC.2.1
    have hat := at_c hC.1 hp
    have hc256 := tk_le hC.1 p
    rw [fX3_readSum_h12.eq_2]
    show (∃ q C', (if isSm (tk T m p) then (match po (p + 1) with | (none, q) => (none, q) | (some k2, q) => pMore T m isSm po f (ks ++ k2 ++ [sg (tk T m p)]) q) else (some ks, p)) = (none, q) ∧ _) ∨ (∃ k q C', (if isSm (tk T m p) then (match po (p + 1) with | (none, q) => (none, q) | (some k2, q) => pMore T m isSm po f (ks ++ k2 ++ [sg (tk T m p)]) q) else (some ks, p)) = (some k, q) ∧ _)
    by_cases his : isSm (tk T m p) = true
    · rw [if_pos his]
      have hops : tk T m p = 43 ∨ tk T m p = 45 := (by unfold isSm at his; simp only [Bool.or_eq_true, beq_iff_eq] at his; omega)
      have hpm : p < m := by
        by_cases hh : p < m
        · exact hh
        · unfold tk at hops
          rw [if_neg hh] at hops
          omega
      have hC1 := CP_step hC hpm
      have hlen0 := hC.2.2.2.2.1
      rcases h (p + 1) (ks0 ++ ks) _ hC1 with ⟨q, C2, e1, e2, e3, e4⟩ | ⟨k2, q, C2, e1, e2, e3, e4⟩
      · refine Or.inl ⟨q, C2, by rw [e1], ?_, e3, e4⟩
        unfold fX9t_length fX3_readSum_b49
        rcases hops with hops | hops
        · rw [hops] at hat
          simp (disch := omega) only [hlen, h7, hat, bC_T, e2, l_33, l_37, l_38, l_41, l_42, l_43, l_45, l_59, l_61, l_62, l_124, ↓lt_d, eq_self, lN_add, i_l, wTn, wFa, wFb, wCT, wCF, mNe, mNe2, mLt, mLe, bp_s, bn_s, n_clampS, nI_1, nI_add, pk_sub, nI_mul, wrI_at, wrI_2, wrL_at, wrL_1, true_and, false_and, and_true, and_false, and_self, ↓reduceIte, Nat.reduceEqDiff, Nat.reduceAdd, Nat.reduceMul, Nat.add_zero, Nat.zero_add, reduceCtorEq, l_0, l_1, l_2, l_3, l_4, l_5, l_6, l_7, l_8, l_9, l_10, l_15, l_24, l_32, l_39, l_40, l_47, l_48, l_50, l_57, l_60, l_63, l_80, l_95, l_99, l_100, l_120, l_126, l_128, l_1000, l_9999, l_10000, L_0, L_1, L_2, L_3, L_4, L_5, L_7, L_9, L_15, L_40, L_50, L_99, L_127, L_9999, c_ltT, c_ltF, c_leT, c_leF, c_eqT, c_eqF, n_leF, n_ltF, c_gltT, c_gltF, c_ggtT, c_ggtF, false_or, or_false, or_self, true_or, or_true]
        · rw [hops] at hat
          simp (disch := omega) only [hlen, h7, hat, bC_T, e2, l_33, l_37, l_38, l_41, l_42, l_43, l_45, l_59, l_61, l_62, l_124, ↓lt_d, eq_self, lN_add, i_l, wTn, wFa, wFb, wCT, wCF, mNe, mNe2, mLt, mLe, bp_s, bn_s, n_clampS, nI_1, nI_add, pk_sub, nI_mul, wrI_at, wrI_2, wrL_at, wrL_1, true_and, false_and, and_true, and_false, and_self, ↓reduceIte, Nat.reduceEqDiff, Nat.reduceAdd, Nat.reduceMul, Nat.add_zero, Nat.zero_add, reduceCtorEq, l_0, l_1, l_2, l_3, l_4, l_5, l_6, l_7, l_8, l_9, l_10, l_15, l_24, l_32, l_39, l_40, l_47, l_48, l_50, l_57, l_60, l_63, l_80, l_95, l_99, l_100, l_120, l_126, l_128, l_1000, l_9999, l_10000, L_0, L_1, L_2, L_3, L_4, L_5, L_7, L_9, L_15, L_40, L_50, L_99, L_127, L_9999, c_ltT, c_ltF, c_leT, c_leF, c_eqT, c_eqF, n_leF, n_ltF, c_gltT, c_gltF, c_ggtT, c_ggtF, false_or, or_false, or_self, true_or, or_true]
      · have hq := e3.2.2.1
        have hl3 : (ks0 ++ ks ++ k2).length + 1 ≤ q := by
          simp only [List.length_append] at hlen0 ⊢
          omega
        obtain ⟨C3, w1, w2⟩ := write_c (c := tk T m p) (by omega) ⟨hl3, by omega⟩ e3
        rcases ih (i + 1) fu s q ks0 (ks ++ k2 ++ [sg (tk T m p)]) C3 (by omega) (by omega) (by simp only [List.length_append, List.length_cons, List.length_nil]; omega) (by rw [← List.append_assoc, ← List.append_assoc]; exact w2) with ⟨q', C', t1, t2, t3⟩ | ⟨k, q', C', t1, t2, t3⟩
        · refine Or.inl ⟨q', C', by rw [e1]; exact t1, ?_, t3⟩
          unfold fX9t_length fX3_readSum_b49
          rcases hops with hops | hops
          · rw [hops] at hat w1
            simp (disch := omega) only [hlen, h7, hat, bC_T, e2, w1, l_33, l_37, l_38, l_41, l_42, l_43, l_45, l_59, l_61, l_62, l_124, ↓lt_d, eq_self, lN_add, i_l, wTn, wFa, wFb, wCT, wCF, mNe, mNe2, mLt, mLe, bp_s, bn_s, n_clampS, nI_1, nI_add, pk_sub, nI_mul, wrI_at, wrI_2, wrL_at, wrL_1, true_and, false_and, and_true, and_false, and_self, ↓reduceIte, Nat.reduceEqDiff, Nat.reduceAdd, Nat.reduceMul, Nat.add_zero, Nat.zero_add, reduceCtorEq, l_0, l_1, l_2, l_3, l_4, l_5, l_6, l_7, l_8, l_9, l_10, l_15, l_24, l_32, l_39, l_40, l_47, l_48, l_50, l_57, l_60, l_63, l_80, l_95, l_99, l_100, l_120, l_126, l_128, l_1000, l_9999, l_10000, L_0, L_1, L_2, L_3, L_4, L_5, L_7, L_9, L_15, L_40, L_50, L_99, L_127, L_9999, c_ltT, c_ltF, c_leT, c_leF, c_eqT, c_eqF, n_leF, n_ltF, c_gltT, c_gltF, c_ggtT, c_ggtF, false_or, or_false, or_self, true_or, or_true]
            exact t2
          · rw [hops] at hat w1
            simp (disch := omega) only [hlen, h7, hat, bC_T, e2, w1, l_33, l_37, l_38, l_41, l_42, l_43, l_45, l_59, l_61, l_62, l_124, ↓lt_d, eq_self, lN_add, i_l, wTn, wFa, wFb, wCT, wCF, mNe, mNe2, mLt, mLe, bp_s, bn_s, n_clampS, nI_1, nI_add, pk_sub, nI_mul, wrI_at, wrI_2, wrL_at, wrL_1, true_and, false_and, and_true, and_false, and_self, ↓reduceIte, Nat.reduceEqDiff, Nat.reduceAdd, Nat.reduceMul, Nat.add_zero, Nat.zero_add, reduceCtorEq, l_0, l_1, l_2, l_3, l_4, l_5, l_6, l_7, l_8, l_9, l_10, l_15, l_24, l_32, l_39, l_40, l_47, l_48, l_50, l_57, l_60, l_63, l_80, l_95, l_99, l_100, l_120, l_126, l_128, l_1000, l_9999, l_10000, L_0, L_1, L_2, L_3, L_4, L_5, L_7, L_9, L_15, L_40, L_50, L_99, L_127, L_9999, c_ltT, c_ltF, c_leT, c_leF, c_eqT, c_eqF, n_leF, n_ltF, c_gltT, c_gltF, c_ggtT, c_ggtF, false_or, or_false, or_self, true_or, or_true]
            exact t2
        · refine Or.inr ⟨k, q', C', by rw [e1]; exact t1, ?_, t3⟩
          unfold fX9t_length fX3_readSum_b49
          rcases hops with hops | hops
          · rw [hops] at hat w1
            simp (disch := omega) only [hlen, h7, hat, bC_T, e2, w1, l_33, l_37, l_38, l_41, l_42, l_43, l_45, l_59, l_61, l_62, l_124, ↓lt_d, eq_self, lN_add, i_l, wTn, wFa, wFb, wCT, wCF, mNe, mNe2, mLt, mLe, bp_s, bn_s, n_clampS, nI_1, nI_add, pk_sub, nI_mul, wrI_at, wrI_2, wrL_at, wrL_1, true_and, false_and, and_true, and_false, and_self, ↓reduceIte, Nat.reduceEqDiff, Nat.reduceAdd, Nat.reduceMul, Nat.add_zero, Nat.zero_add, reduceCtorEq, l_0, l_1, l_2, l_3, l_4, l_5, l_6, l_7, l_8, l_9, l_10, l_15, l_24, l_32, l_39, l_40, l_47, l_48, l_50, l_57, l_60, l_63, l_80, l_95, l_99, l_100, l_120, l_126, l_128, l_1000, l_9999, l_10000, L_0, L_1, L_2, L_3, L_4, L_5, L_7, L_9, L_15, L_40, L_50, L_99, L_127, L_9999, c_ltT, c_ltF, c_leT, c_leF, c_eqT, c_eqF, n_leF, n_ltF, c_gltT, c_gltF, c_ggtT, c_ggtF, false_or, or_false, or_self, true_or, or_true]
            exact t2
          · rw [hops] at hat w1
            simp (disch := omega) only [hlen, h7, hat, bC_T, e2, w1, l_33, l_37, l_38, l_41, l_42, l_43, l_45, l_59, l_61, l_62, l_124, ↓lt_d, eq_self, lN_add, i_l, wTn, wFa, wFb, wCT, wCF, mNe, mNe2, mLt, mLe, bp_s, bn_s, n_clampS, nI_1, nI_add, pk_sub, nI_mul, wrI_at, wrI_2, wrL_at, wrL_1, true_and, false_and, and_true, and_false, and_self, ↓reduceIte, Nat.reduceEqDiff, Nat.reduceAdd, Nat.reduceMul, Nat.add_zero, Nat.zero_add, reduceCtorEq, l_0, l_1, l_2, l_3, l_4, l_5, l_6, l_7, l_8, l_9, l_10, l_15, l_24, l_32, l_39, l_40, l_47, l_48, l_50, l_57, l_60, l_63, l_80, l_95, l_99, l_100, l_120, l_126, l_128, l_1000, l_9999, l_10000, L_0, L_1, L_2, L_3, L_4, L_5, L_7, L_9, L_15, L_40, L_50, L_99, L_127, L_9999, c_ltT, c_ltF, c_leT, c_leF, c_eqT, c_eqF, n_leF, n_ltF, c_gltT, c_gltF, c_ggtT, c_ggtF, false_or, or_false, or_self, true_or, or_true]
            exact t2
    · rw [if_neg his]
      refine Or.inr ⟨ks, p, C, rfl, ?_, hC, hs⟩
      have hops : ¬ (tk T m p = 43 ∨ tk T m p = 45) := (fun z => his (by unfold isSm; simp only [Bool.or_eq_true, beq_iff_eq]; omega))
      unfold fX9t_length
      simp (disch := omega) only [hlen, h7, hat, bC_F, l_33, l_37, l_38, l_41, l_42, l_43, l_45, l_59, l_61, l_62, l_124, ↓lt_d, eq_self, lN_add, i_l, wTn, wFa, wFb, wCT, wCF, mNe, mNe2, mLt, mLe, bp_s, bn_s, n_clampS, nI_1, nI_add, pk_sub, nI_mul, wrI_at, wrI_2, wrL_at, wrL_1, true_and, false_and, and_true, and_false, and_self, ↓reduceIte, Nat.reduceEqDiff, Nat.reduceAdd, Nat.reduceMul, Nat.add_zero, Nat.zero_add, reduceCtorEq, l_0, l_1, l_2, l_3, l_4, l_5, l_6, l_7, l_8, l_9, l_10, l_15, l_24, l_32, l_39, l_40, l_47, l_48, l_50, l_57, l_60, l_63, l_80, l_95, l_99, l_100, l_120, l_126, l_128, l_1000, l_9999, l_10000, L_0, L_1, L_2, L_3, L_4, L_5, L_7, L_9, L_15, L_40, L_50, L_99, L_127, L_9999, c_ltT, c_ltF, c_leT, c_leF, c_eqT, c_eqF, n_leF, n_ltF, c_gltT, c_gltF, c_ggtT, c_ggtF, false_or, or_false, or_self, true_or, or_true]
theorem row_sum_c {n m : Nat} (hn : 1000 ≤ n) {T : Nat → Nat} {z : Int32 → Mm → Option (Int32 × Mm)} {y : Int32} {po : Nat → PR} (h : RdC T m (fX3_readProduct n z y) po) : RdC T m (fX3_readSum n z y) (pRow T m isSm po) := by
  intro p ks C hC
  have hm : m ≤ 120 := hC.1.1
  unfold pRow fX3_readSum
  rcases h p ks C hC with ⟨q, C2, e1, e2, e3, e4⟩ | ⟨k2, q, C2, e1, e2, e3, e4⟩
  · refine Or.inl ⟨q, C2, by rw [e1], ?_, e3, e4⟩
    simp (disch := omega) only [e2, ↓lt_d, eq_self, lN_add, i_l, wTn, wFa, wFb, wCT, wCF, mNe, mNe2, mLt, mLe, bp_s, bn_s, n_clampS, nI_1, nI_add, pk_sub, nI_mul, wrI_at, wrI_2, wrL_at, wrL_1, true_and, false_and, and_true, and_false, and_self, ↓reduceIte, Nat.reduceEqDiff, Nat.reduceAdd, Nat.reduceMul, Nat.add_zero, Nat.zero_add, reduceCtorEq, l_0, l_1, l_2, l_3, l_4, l_5, l_6, l_7, l_8, l_9, l_10, l_15, l_24, l_32, l_39, l_40, l_47, l_48, l_50, l_57, l_60, l_63, l_80, l_95, l_99, l_100, l_120, l_126, l_128, l_1000, l_9999, l_10000, L_0, L_1, L_2, L_3, L_4, L_5, L_7, L_9, L_15, L_40, L_50, L_99, L_127, L_9999, c_ltT, c_ltF, c_leT, c_leF, c_eqT, c_eqF, n_leF, n_ltF, c_gltT, c_gltF, c_ggtT, c_ggtF, false_or, or_false, or_self, true_or, or_true]
  · rcases more_sum_c h m 0 n p q ks k2 C2 (by omega) (by omega) e4 e3 with ⟨q', C', t1, t2, t3⟩ | ⟨k, q', C', t1, t2, t3⟩
    · refine Or.inl ⟨q', C', by rw [e1]; exact t1, ?_, t3⟩
      simp (disch := omega) only [e2, ↓lt_d, eq_self, lN_add, i_l, wTn, wFa, wFb, wCT, wCF, mNe, mNe2, mLt, mLe, bp_s, bn_s, n_clampS, nI_1, nI_add, pk_sub, nI_mul, wrI_at, wrI_2, wrL_at, wrL_1, true_and, false_and, and_true, and_false, and_self, ↓reduceIte, Nat.reduceEqDiff, Nat.reduceAdd, Nat.reduceMul, Nat.add_zero, Nat.zero_add, reduceCtorEq, l_0, l_1, l_2, l_3, l_4, l_5, l_6, l_7, l_8, l_9, l_10, l_15, l_24, l_32, l_39, l_40, l_47, l_48, l_50, l_57, l_60, l_63, l_80, l_95, l_99, l_100, l_120, l_126, l_128, l_1000, l_9999, l_10000, L_0, L_1, L_2, L_3, L_4, L_5, L_7, L_9, L_15, L_40, L_50, L_99, L_127, L_9999, c_ltT, c_ltF, c_leT, c_leF, c_eqT, c_eqF, n_leF, n_ltF, c_gltT, c_gltF, c_ggtT, c_ggtF, false_or, or_false, or_self, true_or, or_true]
      exact t2
    · refine Or.inr ⟨k, q', C', by rw [e1]; exact t1, ?_, t3⟩
      simp (disch := omega) only [e2, ↓lt_d, eq_self, lN_add, i_l, wTn, wFa, wFb, wCT, wCF, mNe, mNe2, mLt, mLe, bp_s, bn_s, n_clampS, nI_1, nI_add, pk_sub, nI_mul, wrI_at, wrI_2, wrL_at, wrL_1, true_and, false_and, and_true, and_false, and_self, ↓reduceIte, Nat.reduceEqDiff, Nat.reduceAdd, Nat.reduceMul, Nat.add_zero, Nat.zero_add, reduceCtorEq, l_0, l_1, l_2, l_3, l_4, l_5, l_6, l_7, l_8, l_9, l_10, l_15, l_24, l_32, l_39, l_40, l_47, l_48, l_50, l_57, l_60, l_63, l_80, l_95, l_99, l_100, l_120, l_126, l_128, l_1000, l_9999, l_10000, L_0, L_1, L_2, L_3, L_4, L_5, L_7, L_9, L_15, L_40, L_50, L_99, L_127, L_9999, c_ltT, c_ltF, c_leT, c_leF, c_eqT, c_eqF, n_leF, n_ltF, c_gltT, c_gltF, c_ggtT, c_ggtF, false_or, or_false, or_self, true_or, or_true]
      exact t2
theorem cmp_c {n m : Nat} (hn : 1000 ≤ n) {T : Nat → Nat} {z : Int32 → Mm → Option (Int32 × Mm)} {y : Int32} {po : Nat → PR} (h : RdC T m (fX3_readSum n z y) po) : RdC T m (fX3_readCompared n z y) (pCmp T m po) := by
  intro p ks C hC
  have hm : m ≤ 120 := hC.1.1
  unfold pCmp fX3_readCompared
  rcases h p ks C hC with ⟨q, C2, e1, e2, e3, e4⟩ | ⟨k2, q, C2, e1, e2, e3, e4⟩
  · refine Or.inl ⟨q, C2, by rw [e1], ?_, e3, e4⟩
    simp (disch := omega) only [e2, ↓lt_d, eq_self, lN_add, i_l, wTn, wFa, wFb, wCT, wCF, mNe, mNe2, mLt, mLe, bp_s, bn_s, n_clampS, nI_1, nI_add, pk_sub, nI_mul, wrI_at, wrI_2, wrL_at, wrL_1, true_and, false_and, and_true, and_false, and_self, ↓reduceIte, Nat.reduceEqDiff, Nat.reduceAdd, Nat.reduceMul, Nat.add_zero, Nat.zero_add, reduceCtorEq, l_0, l_1, l_2, l_3, l_4, l_5, l_6, l_7, l_8, l_9, l_10, l_15, l_24, l_32, l_39, l_40, l_47, l_48, l_50, l_57, l_60, l_63, l_80, l_95, l_99, l_100, l_120, l_126, l_128, l_1000, l_9999, l_10000, L_0, L_1, L_2, L_3, L_4, L_5, L_7, L_9, L_15, L_40, L_50, L_99, L_127, L_9999, c_ltT, c_ltF, c_leT, c_leF, c_eqT, c_eqF, n_leF, n_ltF, c_gltT, c_gltF, c_ggtT, c_ggtF, false_or, or_false, or_self, true_or, or_true]
  · rw [e1]
    show (∃ q' C', (if isCp (tk T m q) then (match po (q + 1) with | (none, r) => (none, r) | (some k3, r) => (some (k2 ++ k3 ++ [sg (tk T m q)]), r)) else (some k2, q)) = (none, q') ∧ _) ∨ (∃ k q' C', (if isCp (tk T m q) then (match po (q + 1) with | (none, r) => (none, r) | (some k3, r) => (some (k2 ++ k3 ++ [sg (tk T m q)]), r)) else (some k2, q)) = (some k, q') ∧ _)
    have hp := e3.2.2.1
    have h7 := e3.2.1
    have hat := at_c e3.1 hp
    have hc256 := tk_le e3.1 q
    by_cases his : isCp (tk T m q) = true
    · rw [if_pos his]
      have hops : tk T m q = 60 ∨ tk T m q = 61 ∨ tk T m q = 62 := (by unfold isCp at his; simp only [Bool.or_eq_true, beq_iff_eq] at his; omega)
      have hpm : q < m := by
        by_cases hh : q < m
        · exact hh
        · unfold tk at hops
          rw [if_neg hh] at hops
          omega
      have hC1 := CP_step e3 hpm
      have hlen0 := e3.2.2.2.2.1
      rcases h (q + 1) (ks ++ k2) _ hC1 with ⟨r, C3, f1, f2, f3, f4⟩ | ⟨k3, r, C3, f1, f2, f3, f4⟩
      · refine Or.inl ⟨r, C3, by rw [f1], ?_, f3, f4⟩
        unfold fX3_readCompared_b42
        rcases hops with hops | hops | hops
        · rw [hops] at hat
          simp (disch := omega) only [e2, h7, hat, bC_T, f2, l_33, l_37, l_38, l_41, l_42, l_43, l_45, l_59, l_61, l_62, l_124, ↓lt_d, eq_self, lN_add, i_l, wTn, wFa, wFb, wCT, wCF, mNe, mNe2, mLt, mLe, bp_s, bn_s, n_clampS, nI_1, nI_add, pk_sub, nI_mul, wrI_at, wrI_2, wrL_at, wrL_1, true_and, false_and, and_true, and_false, and_self, ↓reduceIte, Nat.reduceEqDiff, Nat.reduceAdd, Nat.reduceMul, Nat.add_zero, Nat.zero_add, reduceCtorEq, l_0, l_1, l_2, l_3, l_4, l_5, l_6, l_7, l_8, l_9, l_10, l_15, l_24, l_32, l_39, l_40, l_47, l_48, l_50, l_57, l_60, l_63, l_80, l_95, l_99, l_100, l_120, l_126, l_128, l_1000, l_9999, l_10000, L_0, L_1, L_2, L_3, L_4, L_5, L_7, L_9, L_15, L_40, L_50, L_99, L_127, L_9999, c_ltT, c_ltF, c_leT, c_leF, c_eqT, c_eqF, n_leF, n_ltF, c_gltT, c_gltF, c_ggtT, c_ggtF, false_or, or_false, or_self, true_or, or_true]
        · rw [hops] at hat
          simp (disch := omega) only [e2, h7, hat, bC_T, f2, l_33, l_37, l_38, l_41, l_42, l_43, l_45, l_59, l_61, l_62, l_124, ↓lt_d, eq_self, lN_add, i_l, wTn, wFa, wFb, wCT, wCF, mNe, mNe2, mLt, mLe, bp_s, bn_s, n_clampS, nI_1, nI_add, pk_sub, nI_mul, wrI_at, wrI_2, wrL_at, wrL_1, true_and, false_and, and_true, and_false, and_self, ↓reduceIte, Nat.reduceEqDiff, Nat.reduceAdd, Nat.reduceMul, Nat.add_zero, Nat.zero_add, reduceCtorEq, l_0, l_1, l_2, l_3, l_4, l_5, l_6, l_7, l_8, l_9, l_10, l_15, l_24, l_32, l_39, l_40, l_47, l_48, l_50, l_57, l_60, l_63, l_80, l_95, l_99, l_100, l_120, l_126, l_128, l_1000, l_9999, l_10000, L_0, L_1, L_2, L_3, L_4, L_5, L_7, L_9, L_15, L_40, L_50, L_99, L_127, L_9999, c_ltT, c_ltF, c_leT, c_leF, c_eqT, c_eqF, n_leF, n_ltF, c_gltT, c_gltF, c_ggtT, c_ggtF, false_or, or_false, or_self, true_or, or_true]
        · rw [hops] at hat
          simp (disch := omega) only [e2, h7, hat, bC_T, f2, l_33, l_37, l_38, l_41, l_42, l_43, l_45, l_59, l_61, l_62, l_124, ↓lt_d, eq_self, lN_add, i_l, wTn, wFa, wFb, wCT, wCF, mNe, mNe2, mLt, mLe, bp_s, bn_s, n_clampS, nI_1, nI_add, pk_sub, nI_mul, wrI_at, wrI_2, wrL_at, wrL_1, true_and, false_and, and_true, and_false, and_self, ↓reduceIte, Nat.reduceEqDiff, Nat.reduceAdd, Nat.reduceMul, Nat.add_zero, Nat.zero_add, reduceCtorEq, l_0, l_1, l_2, l_3, l_4, l_5, l_6, l_7, l_8, l_9, l_10, l_15, l_24, l_32, l_39, l_40, l_47, l_48, l_50, l_57, l_60, l_63, l_80, l_95, l_99, l_100, l_120, l_126, l_128, l_1000, l_9999, l_10000, L_0, L_1, L_2, L_3, L_4, L_5, L_7, L_9, L_15, L_40, L_50, L_99, L_127, L_9999, c_ltT, c_ltF, c_leT, c_leF, c_eqT, c_eqF, n_leF, n_ltF, c_gltT, c_gltF, c_ggtT, c_ggtF, false_or, or_false, or_self, true_or, or_true]
      · have hq := f3.2.2.1
        have hl3 : (ks ++ k2 ++ k3).length + 1 ≤ r := by
          simp only [List.length_append] at hlen0 ⊢
          omega
        obtain ⟨C4, w1, w2⟩ := write_c (c := tk T m q) (by omega) ⟨hl3, by omega⟩ f3
        refine Or.inr ⟨k2 ++ k3 ++ [sg (tk T m q)], r, C4, by rw [f1], ?_, by rw [← List.append_assoc, ← List.append_assoc]; exact w2, by simp only [List.length_append, List.length_cons, List.length_nil]; omega⟩
        unfold fX3_readCompared_b42
        rcases hops with hops | hops | hops
        · rw [hops] at hat w1
          simp (disch := omega) only [e2, h7, hat, bC_T, f2, w1, l_33, l_37, l_38, l_41, l_42, l_43, l_45, l_59, l_61, l_62, l_124, ↓lt_d, eq_self, lN_add, i_l, wTn, wFa, wFb, wCT, wCF, mNe, mNe2, mLt, mLe, bp_s, bn_s, n_clampS, nI_1, nI_add, pk_sub, nI_mul, wrI_at, wrI_2, wrL_at, wrL_1, true_and, false_and, and_true, and_false, and_self, ↓reduceIte, Nat.reduceEqDiff, Nat.reduceAdd, Nat.reduceMul, Nat.add_zero, Nat.zero_add, reduceCtorEq, l_0, l_1, l_2, l_3, l_4, l_5, l_6, l_7, l_8, l_9, l_10, l_15, l_24, l_32, l_39, l_40, l_47, l_48, l_50, l_57, l_60, l_63, l_80, l_95, l_99, l_100, l_120, l_126, l_128, l_1000, l_9999, l_10000, L_0, L_1, L_2, L_3, L_4, L_5, L_7, L_9, L_15, L_40, L_50, L_99, L_127, L_9999, c_ltT, c_ltF, c_leT, c_leF, c_eqT, c_eqF, n_leF, n_ltF, c_gltT, c_gltF, c_ggtT, c_ggtF, false_or, or_false, or_self, true_or, or_true]
        · rw [hops] at hat w1
          simp (disch := omega) only [e2, h7, hat, bC_T, f2, w1, l_33, l_37, l_38, l_41, l_42, l_43, l_45, l_59, l_61, l_62, l_124, ↓lt_d, eq_self, lN_add, i_l, wTn, wFa, wFb, wCT, wCF, mNe, mNe2, mLt, mLe, bp_s, bn_s, n_clampS, nI_1, nI_add, pk_sub, nI_mul, wrI_at, wrI_2, wrL_at, wrL_1, true_and, false_and, and_true, and_false, and_self, ↓reduceIte, Nat.reduceEqDiff, Nat.reduceAdd, Nat.reduceMul, Nat.add_zero, Nat.zero_add, reduceCtorEq, l_0, l_1, l_2, l_3, l_4, l_5, l_6, l_7, l_8, l_9, l_10, l_15, l_24, l_32, l_39, l_40, l_47, l_48, l_50, l_57, l_60, l_63, l_80, l_95, l_99, l_100, l_120, l_126, l_128, l_1000, l_9999, l_10000, L_0, L_1, L_2, L_3, L_4, L_5, L_7, L_9, L_15, L_40, L_50, L_99, L_127, L_9999, c_ltT, c_ltF, c_leT, c_leF, c_eqT, c_eqF, n_leF, n_ltF, c_gltT, c_gltF, c_ggtT, c_ggtF, false_or, or_false, or_self, true_or, or_true]
        · rw [hops] at hat w1
          simp (disch := omega) only [e2, h7, hat, bC_T, f2, w1, l_33, l_37, l_38, l_41, l_42, l_43, l_45, l_59, l_61, l_62, l_124, ↓lt_d, eq_self, lN_add, i_l, wTn, wFa, wFb, wCT, wCF, mNe, mNe2, mLt, mLe, bp_s, bn_s, n_clampS, nI_1, nI_add, pk_sub, nI_mul, wrI_at, wrI_2, wrL_at, wrL_1, true_and, false_and, and_true, and_false, and_self, ↓reduceIte, Nat.reduceEqDiff, Nat.reduceAdd, Nat.reduceMul, Nat.add_zero, Nat.zero_add, reduceCtorEq, l_0, l_1, l_2, l_3, l_4, l_5, l_6, l_7, l_8, l_9, l_10, l_15, l_24, l_32, l_39, l_40, l_47, l_48, l_50, l_57, l_60, l_63, l_80, l_95, l_99, l_100, l_120, l_126, l_128, l_1000, l_9999, l_10000, L_0, L_1, L_2, L_3, L_4, L_5, L_7, L_9, L_15, L_40, L_50, L_99, L_127, L_9999, c_ltT, c_ltF, c_leT, c_leF, c_eqT, c_eqF, n_leF, n_ltF, c_gltT, c_gltF, c_ggtT, c_ggtF, false_or, or_false, or_self, true_or, or_true]
    · rw [if_neg his]
      refine Or.inr ⟨k2, q, C2, rfl, ?_, e3, e4⟩
      have hops : ¬ (tk T m q = 60 ∨ tk T m q = 61 ∨ tk T m q = 62) := (fun z => his (by unfold isCp; simp only [Bool.or_eq_true, beq_iff_eq]; omega))
      simp (disch := omega) only [e2, h7, hat, bC_F, l_33, l_37, l_38, l_41, l_42, l_43, l_45, l_59, l_61, l_62, l_124, ↓lt_d, eq_self, lN_add, i_l, wTn, wFa, wFb, wCT, wCF, mNe, mNe2, mLt, mLe, bp_s, bn_s, n_clampS, nI_1, nI_add, pk_sub, nI_mul, wrI_at, wrI_2, wrL_at, wrL_1, true_and, false_and, and_true, and_false, and_self, ↓reduceIte, Nat.reduceEqDiff, Nat.reduceAdd, Nat.reduceMul, Nat.add_zero, Nat.zero_add, reduceCtorEq, l_0, l_1, l_2, l_3, l_4, l_5, l_6, l_7, l_8, l_9, l_10, l_15, l_24, l_32, l_39, l_40, l_47, l_48, l_50, l_57, l_60, l_63, l_80, l_95, l_99, l_100, l_120, l_126, l_128, l_1000, l_9999, l_10000, L_0, L_1, L_2, L_3, L_4, L_5, L_7, L_9, L_15, L_40, L_50, L_99, L_127, L_9999, c_ltT, c_ltF, c_leT, c_leF, c_eqT, c_eqF, n_leF, n_ltF, c_gltT, c_gltF, c_ggtT, c_ggtF, false_or, or_false, or_self, true_or, or_true]
theorem more_all_c {n m : Nat} {T : Nat → Nat} {z : Int32 → Mm → Option (Int32 × Mm)} {y : Int32} {po : Nat → PR} (h : RdC T m (fX3_readCompared n z y) po) : ∀ f i fu s p ks0 ks C, i + f = m → f < fu → s + ks.length ≤ p → CP T m 0 p (ks0 ++ ks) C → (∃ q C', pMore T m (fun c => c == 38) po f ks p = (none, q) ∧ fX3_readAll_h12 n z fu y (nI i) C = some (nI 0, C') ∧ C'.1 32 7 = nI q ∧ q ≤ m) ∨ (∃ k q C', pMore T m (fun c => c == 38) po f ks p = (some k, q) ∧ fX3_readAll_h12 n z fu y (nI i) C = some (nI 1, C') ∧ CP T m 0 q (ks0 ++ k) C' ∧ s + k.length ≤ q) := by
  intro f
  induction f with
  | zero =>
    intro i fu s p ks0 ks C hi hf hs hC
    obtain ⟨fu, rfl⟩ : ∃ f, fu = f + 1 := ⟨fu - 1, by omega⟩
    refine Or.inr ⟨ks, p, C, rfl, ?_, hC, hs⟩
    have hm : m ≤ 120 := hC.1.1
    have hlen := hC.1.2.1
    rw [fX3_readAll_h12.eq_2]
    unfold fX9t_length
    simp (disch := omega) only [hlen, ↓lt_d, eq_self, lN_add, i_l, wTn, wFa, wFb, wCT, wCF, mNe, mNe2, mLt, mLe, bp_s, bn_s, n_clampS, nI_1, nI_add, pk_sub, nI_mul, wrI_at, wrI_2, wrL_at, wrL_1, true_and, false_and, and_true, and_false, and_self, ↓reduceIte, Nat.reduceEqDiff, Nat.reduceAdd, Nat.reduceMul, Nat.add_zero, Nat.zero_add, reduceCtorEq, l_0, l_1, l_2, l_3, l_4, l_5, l_6, l_7, l_8, l_9, l_10, l_15, l_24, l_32, l_39, l_40, l_47, l_48, l_50, l_57, l_60, l_63, l_80, l_95, l_99, l_100, l_120, l_126, l_128, l_1000, l_9999, l_10000, L_0, L_1, L_2, L_3, L_4, L_5, L_7, L_9, L_15, L_40, L_50, L_99, L_127, L_9999, c_ltT, c_ltF, c_leT, c_leF, c_eqT, c_eqF, n_leF, n_ltF, c_gltT, c_gltF, c_ggtT, c_ggtF, false_or, or_false, or_self, true_or, or_true]
  | succ f ih =>
    intro i fu s p ks0 ks C hi hf hs hC
    obtain ⟨fu, rfl⟩ : ∃ f, fu = f + 1 := ⟨fu - 1, by omega⟩
    have hm : m ≤ 120 := hC.1.1
    have hlen := hC.1.2.1
    have hp := hC.2.2.1
    have h7 := hC.2.1
    have hat := at_c hC.1 hp
    have hc256 := tk_le hC.1 p
    rw [fX3_readAll_h12.eq_2]
    show (∃ q C', (if (fun c => c == 38) (tk T m p) then (match po (p + 1) with | (none, q) => (none, q) | (some k2, q) => pMore T m (fun c => c == 38) po f (ks ++ k2 ++ [sg (tk T m p)]) q) else (some ks, p)) = (none, q) ∧ _) ∨ (∃ k q C', (if (fun c => c == 38) (tk T m p) then (match po (p + 1) with | (none, q) => (none, q) | (some k2, q) => pMore T m (fun c => c == 38) po f (ks ++ k2 ++ [sg (tk T m p)]) q) else (some ks, p)) = (some k, q) ∧ _)
    by_cases his : (fun c => c == 38) (tk T m p) = true
    · rw [if_pos his]
      have hops : tk T m p = 38 := (by simpa only [beq_iff_eq] using his)
      have hpm : p < m := by
        by_cases hh : p < m
        · exact hh
        · unfold tk at hops
          rw [if_neg hh] at hops
          omega
      have hC1 := CP_step hC hpm
      have hlen0 := hC.2.2.2.2.1
      have hgo := goes_T hC (k := 38) (by omega) hops
      rcases h (p + 1) (ks0 ++ ks) _ hC1 with ⟨q, C2, e1, e2, e3, e4⟩ | ⟨k2, q, C2, e1, e2, e3, e4⟩
      · refine Or.inl ⟨q, C2, by rw [e1], ?_, e3, e4⟩
        unfold fX9t_length
        simp (disch := omega) only [hlen, hgo, e2, l_33, l_37, l_38, l_41, l_42, l_43, l_45, l_59, l_61, l_62, l_124, ↓lt_d, eq_self, lN_add, i_l, wTn, wFa, wFb, wCT, wCF, mNe, mNe2, mLt, mLe, bp_s, bn_s, n_clampS, nI_1, nI_add, pk_sub, nI_mul, wrI_at, wrI_2, wrL_at, wrL_1, true_and, false_and, and_true, and_false, and_self, ↓reduceIte, Nat.reduceEqDiff, Nat.reduceAdd, Nat.reduceMul, Nat.add_zero, Nat.zero_add, reduceCtorEq, l_0, l_1, l_2, l_3, l_4, l_5, l_6, l_7, l_8, l_9, l_10, l_15, l_24, l_32, l_39, l_40, l_47, l_48, l_50, l_57, l_60, l_63, l_80, l_95, l_99, l_100, l_120, l_126, l_128, l_1000, l_9999, l_10000, L_0, L_1, L_2, L_3, L_4, L_5, L_7, L_9, L_15, L_40, L_50, L_99, L_127, L_9999, c_ltT, c_ltF, c_leT, c_leF, c_eqT, c_eqF, n_leF, n_ltF, c_gltT, c_gltF, c_ggtT, c_ggtF, false_or, or_false, or_self, true_or, or_true]
      · have hq := e3.2.2.1
        have hl3 : (ks0 ++ ks ++ k2).length + 1 ≤ q := by
          simp only [List.length_append] at hlen0 ⊢
          omega
        obtain ⟨C3, w1, w2⟩ := write_c (c := tk T m p) (by omega) ⟨hl3, by omega⟩ e3
        rcases ih (i + 1) fu s q ks0 (ks ++ k2 ++ [sg (tk T m p)]) C3 (by omega) (by omega) (by simp only [List.length_append, List.length_cons, List.length_nil]; omega) (by rw [← List.append_assoc, ← List.append_assoc]; exact w2) with ⟨q', C', t1, t2, t3⟩ | ⟨k, q', C', t1, t2, t3⟩
        · refine Or.inl ⟨q', C', by rw [e1]; exact t1, ?_, t3⟩
          unfold fX9t_length
          rw [hops] at w1
          simp (disch := omega) only [hlen, hgo, e2, w1, l_33, l_37, l_38, l_41, l_42, l_43, l_45, l_59, l_61, l_62, l_124, ↓lt_d, eq_self, lN_add, i_l, wTn, wFa, wFb, wCT, wCF, mNe, mNe2, mLt, mLe, bp_s, bn_s, n_clampS, nI_1, nI_add, pk_sub, nI_mul, wrI_at, wrI_2, wrL_at, wrL_1, true_and, false_and, and_true, and_false, and_self, ↓reduceIte, Nat.reduceEqDiff, Nat.reduceAdd, Nat.reduceMul, Nat.add_zero, Nat.zero_add, reduceCtorEq, l_0, l_1, l_2, l_3, l_4, l_5, l_6, l_7, l_8, l_9, l_10, l_15, l_24, l_32, l_39, l_40, l_47, l_48, l_50, l_57, l_60, l_63, l_80, l_95, l_99, l_100, l_120, l_126, l_128, l_1000, l_9999, l_10000, L_0, L_1, L_2, L_3, L_4, L_5, L_7, L_9, L_15, L_40, L_50, L_99, L_127, L_9999, c_ltT, c_ltF, c_leT, c_leF, c_eqT, c_eqF, n_leF, n_ltF, c_gltT, c_gltF, c_ggtT, c_ggtF, false_or, or_false, or_self, true_or, or_true]
          exact t2
        · refine Or.inr ⟨k, q', C', by rw [e1]; exact t1, ?_, t3⟩
          unfold fX9t_length
          rw [hops] at w1
          simp (disch := omega) only [hlen, hgo, e2, w1, l_33, l_37, l_38, l_41, l_42, l_43, l_45, l_59, l_61, l_62, l_124, ↓lt_d, eq_self, lN_add, i_l, wTn, wFa, wFb, wCT, wCF, mNe, mNe2, mLt, mLe, bp_s, bn_s, n_clampS, nI_1, nI_add, pk_sub, nI_mul, wrI_at, wrI_2, wrL_at, wrL_1, true_and, false_and, and_true, and_false, and_self, ↓reduceIte, Nat.reduceEqDiff, Nat.reduceAdd, Nat.reduceMul, Nat.add_zero, Nat.zero_add, reduceCtorEq, l_0, l_1, l_2, l_3, l_4, l_5, l_6, l_7, l_8, l_9, l_10, l_15, l_24, l_32, l_39, l_40, l_47, l_48, l_50, l_57, l_60, l_63, l_80, l_95, l_99, l_100, l_120, l_126, l_128, l_1000, l_9999, l_10000, L_0, L_1, L_2, L_3, L_4, L_5, L_7, L_9, L_15, L_40, L_50, L_99, L_127, L_9999, c_ltT, c_ltF, c_leT, c_leF, c_eqT, c_eqF, n_leF, n_ltF, c_gltT, c_gltF, c_ggtT, c_ggtF, false_or, or_false, or_self, true_or, or_true]
          exact t2
    · rw [if_neg his]
      refine Or.inr ⟨ks, p, C, rfl, ?_, hC, hs⟩
      have hops : ¬ (tk T m p = 38) := (fun z => his (by simpa only [beq_iff_eq] using z))
      have hgo := goes_F hC (k := 38) (by omega) hops
      unfold fX9t_length
      simp (disch := omega) only [hlen, hgo, l_33, l_37, l_38, l_41, l_42, l_43, l_45, l_59, l_61, l_62, l_124, ↓lt_d, eq_self, lN_add, i_l, wTn, wFa, wFb, wCT, wCF, mNe, mNe2, mLt, mLe, bp_s, bn_s, n_clampS, nI_1, nI_add, pk_sub, nI_mul, wrI_at, wrI_2, wrL_at, wrL_1, true_and, false_and, and_true, and_false, and_self, ↓reduceIte, Nat.reduceEqDiff, Nat.reduceAdd, Nat.reduceMul, Nat.add_zero, Nat.zero_add, reduceCtorEq, l_0, l_1, l_2, l_3, l_4, l_5, l_6, l_7, l_8, l_9, l_10, l_15, l_24, l_32, l_39, l_40, l_47, l_48, l_50, l_57, l_60, l_63, l_80, l_95, l_99, l_100, l_120, l_126, l_128, l_1000, l_9999, l_10000, L_0, L_1, L_2, L_3, L_4, L_5, L_7, L_9, L_15, L_40, L_50, L_99, L_127, L_9999, c_ltT, c_ltF, c_leT, c_leF, c_eqT, c_eqF, n_leF, n_ltF, c_gltT, c_gltF, c_ggtT, c_ggtF, false_or, or_false, or_self, true_or, or_true]
theorem row_all_c {n m : Nat} (hn : 1000 ≤ n) {T : Nat → Nat} {z : Int32 → Mm → Option (Int32 × Mm)} {y : Int32} {po : Nat → PR} (h : RdC T m (fX3_readCompared n z y) po) : RdC T m (fX3_readAll n z y) (pRow T m (fun c => c == 38) po) := by
  intro p ks C hC
  have hm : m ≤ 120 := hC.1.1
  unfold pRow fX3_readAll
  rcases h p ks C hC with ⟨q, C2, e1, e2, e3, e4⟩ | ⟨k2, q, C2, e1, e2, e3, e4⟩
  · refine Or.inl ⟨q, C2, by rw [e1], ?_, e3, e4⟩
    simp (disch := omega) only [e2, ↓lt_d, eq_self, lN_add, i_l, wTn, wFa, wFb, wCT, wCF, mNe, mNe2, mLt, mLe, bp_s, bn_s, n_clampS, nI_1, nI_add, pk_sub, nI_mul, wrI_at, wrI_2, wrL_at, wrL_1, true_and, false_and, and_true, and_false, and_self, ↓reduceIte, Nat.reduceEqDiff, Nat.reduceAdd, Nat.reduceMul, Nat.add_zero, Nat.zero_add, reduceCtorEq, l_0, l_1, l_2, l_3, l_4, l_5, l_6, l_7, l_8, l_9, l_10, l_15, l_24, l_32, l_39, l_40, l_47, l_48, l_50, l_57, l_60, l_63, l_80, l_95, l_99, l_100, l_120, l_126, l_128, l_1000, l_9999, l_10000, L_0, L_1, L_2, L_3, L_4, L_5, L_7, L_9, L_15, L_40, L_50, L_99, L_127, L_9999, c_ltT, c_ltF, c_leT, c_leF, c_eqT, c_eqF, n_leF, n_ltF, c_gltT, c_gltF, c_ggtT, c_ggtF, false_or, or_false, or_self, true_or, or_true]
  · rcases more_all_c h m 0 n p q ks k2 C2 (by omega) (by omega) e4 e3 with ⟨q', C', t1, t2, t3⟩ | ⟨k, q', C', t1, t2, t3⟩
    · refine Or.inl ⟨q', C', by rw [e1]; exact t1, ?_, t3⟩
      simp (disch := omega) only [e2, ↓lt_d, eq_self, lN_add, i_l, wTn, wFa, wFb, wCT, wCF, mNe, mNe2, mLt, mLe, bp_s, bn_s, n_clampS, nI_1, nI_add, pk_sub, nI_mul, wrI_at, wrI_2, wrL_at, wrL_1, true_and, false_and, and_true, and_false, and_self, ↓reduceIte, Nat.reduceEqDiff, Nat.reduceAdd, Nat.reduceMul, Nat.add_zero, Nat.zero_add, reduceCtorEq, l_0, l_1, l_2, l_3, l_4, l_5, l_6, l_7, l_8, l_9, l_10, l_15, l_24, l_32, l_39, l_40, l_47, l_48, l_50, l_57, l_60, l_63, l_80, l_95, l_99, l_100, l_120, l_126, l_128, l_1000, l_9999, l_10000, L_0, L_1, L_2, L_3, L_4, L_5, L_7, L_9, L_15, L_40, L_50, L_99, L_127, L_9999, c_ltT, c_ltF, c_leT, c_leF, c_eqT, c_eqF, n_leF, n_ltF, c_gltT, c_gltF, c_ggtT, c_ggtF, false_or, or_false, or_self, true_or, or_true]
      exact t2
    · refine Or.inr ⟨k, q', C', by rw [e1]; exact t1, ?_, t3⟩
      simp (disch := omega) only [e2, ↓lt_d, eq_self, lN_add, i_l, wTn, wFa, wFb, wCT, wCF, mNe, mNe2, mLt, mLe, bp_s, bn_s, n_clampS, nI_1, nI_add, pk_sub, nI_mul, wrI_at, wrI_2, wrL_at, wrL_1, true_and, false_and, and_true, and_false, and_self, ↓reduceIte, Nat.reduceEqDiff, Nat.reduceAdd, Nat.reduceMul, Nat.add_zero, Nat.zero_add, reduceCtorEq, l_0, l_1, l_2, l_3, l_4, l_5, l_6, l_7, l_8, l_9, l_10, l_15, l_24, l_32, l_39, l_40, l_47, l_48, l_50, l_57, l_60, l_63, l_80, l_95, l_99, l_100, l_120, l_126, l_128, l_1000, l_9999, l_10000, L_0, L_1, L_2, L_3, L_4, L_5, L_7, L_9, L_15, L_40, L_50, L_99, L_127, L_9999, c_ltT, c_ltF, c_leT, c_leF, c_eqT, c_eqF, n_leF, n_ltF, c_gltT, c_gltF, c_ggtT, c_ggtF, false_or, or_false, or_self, true_or, or_true]
      exact t2
theorem more_any_c {n m : Nat} {T : Nat → Nat} {z : Int32 → Mm → Option (Int32 × Mm)} {y : Int32} {po : Nat → PR} (h : RdC T m (fX3_readAll n z y) po) : ∀ f i fu s p ks0 ks C, i + f = m → f < fu → s + ks.length ≤ p → CP T m 0 p (ks0 ++ ks) C → (∃ q C', pMore T m (fun c => c == 124) po f ks p = (none, q) ∧ fX3_readAny_h12 n z fu y (nI i) C = some (nI 0, C') ∧ C'.1 32 7 = nI q ∧ q ≤ m) ∨ (∃ k q C', pMore T m (fun c => c == 124) po f ks p = (some k, q) ∧ fX3_readAny_h12 n z fu y (nI i) C = some (nI 1, C') ∧ CP T m 0 q (ks0 ++ k) C' ∧ s + k.length ≤ q) := by
  intro f
  induction f with
  | zero =>
    intro i fu s p ks0 ks C hi hf hs hC
    obtain ⟨fu, rfl⟩ : ∃ f, fu = f + 1 := ⟨fu - 1, by omega⟩
    refine Or.inr ⟨ks, p, C, rfl, ?_, hC, hs⟩
    have hm : m ≤ 120 := hC.1.1
    have hlen := hC.1.2.1
    rw [fX3_readAny_h12.eq_2]
    unfold fX9t_length
    simp (disch := omega) only [hlen, ↓lt_d, eq_self, lN_add, i_l, wTn, wFa, wFb, wCT, wCF, mNe, mNe2, mLt, mLe, bp_s, bn_s, n_clampS, nI_1, nI_add, pk_sub, nI_mul, wrI_at, wrI_2, wrL_at, wrL_1, true_and, false_and, and_true, and_false, and_self, ↓reduceIte, Nat.reduceEqDiff, Nat.reduceAdd, Nat.reduceMul, Nat.add_zero, Nat.zero_add, reduceCtorEq, l_0, l_1, l_2, l_3, l_4, l_5, l_6, l_7, l_8, l_9, l_10, l_15, l_24, l_32, l_39, l_40, l_47, l_48, l_50, l_57, l_60, l_63, l_80, l_95, l_99, l_100, l_120, l_126, l_128, l_1000, l_9999, l_10000, L_0, L_1, L_2, L_3, L_4, L_5, L_7, L_9, L_15, L_40, L_50, L_99, L_127, L_9999, c_ltT, c_ltF, c_leT, c_leF, c_eqT, c_eqF, n_leF, n_ltF, c_gltT, c_gltF, c_ggtT, c_ggtF, false_or, or_false, or_self, true_or, or_true]
  | succ f ih =>
    intro i fu s p ks0 ks C hi hf hs hC
    obtain ⟨fu, rfl⟩ : ∃ f, fu = f + 1 := ⟨fu - 1, by omega⟩
    have hm : m ≤ 120 := hC.1.1
    have hlen := hC.1.2.1
    have hp := hC.2.2.1
    have h7 := hC.2.1
    have hat := at_c hC.1 hp
    have hc256 := tk_le hC.1 p
    rw [fX3_readAny_h12.eq_2]
    show (∃ q C', (if (fun c => c == 124) (tk T m p) then (match po (p + 1) with | (none, q) => (none, q) | (some k2, q) => pMore T m (fun c => c == 124) po f (ks ++ k2 ++ [sg (tk T m p)]) q) else (some ks, p)) = (none, q) ∧ _) ∨ (∃ k q C', (if (fun c => c == 124) (tk T m p) then (match po (p + 1) with | (none, q) => (none, q) | (some k2, q) => pMore T m (fun c => c == 124) po f (ks ++ k2 ++ [sg (tk T m p)]) q) else (some ks, p)) = (some k, q) ∧ _)
    by_cases his : (fun c => c == 124) (tk T m p) = true
    · rw [if_pos his]
      have hops : tk T m p = 124 := (by simpa only [beq_iff_eq] using his)
      have hpm : p < m := by
        by_cases hh : p < m
        · exact hh
        · unfold tk at hops
          rw [if_neg hh] at hops
          omega
      have hC1 := CP_step hC hpm
      have hlen0 := hC.2.2.2.2.1
      have hgo := goes_T hC (k := 124) (by omega) hops
      rcases h (p + 1) (ks0 ++ ks) _ hC1 with ⟨q, C2, e1, e2, e3, e4⟩ | ⟨k2, q, C2, e1, e2, e3, e4⟩
      · refine Or.inl ⟨q, C2, by rw [e1], ?_, e3, e4⟩
        unfold fX9t_length
        simp (disch := omega) only [hlen, hgo, e2, l_33, l_37, l_38, l_41, l_42, l_43, l_45, l_59, l_61, l_62, l_124, ↓lt_d, eq_self, lN_add, i_l, wTn, wFa, wFb, wCT, wCF, mNe, mNe2, mLt, mLe, bp_s, bn_s, n_clampS, nI_1, nI_add, pk_sub, nI_mul, wrI_at, wrI_2, wrL_at, wrL_1, true_and, false_and, and_true, and_false, and_self, ↓reduceIte, Nat.reduceEqDiff, Nat.reduceAdd, Nat.reduceMul, Nat.add_zero, Nat.zero_add, reduceCtorEq, l_0, l_1, l_2, l_3, l_4, l_5, l_6, l_7, l_8, l_9, l_10, l_15, l_24, l_32, l_39, l_40, l_47, l_48, l_50, l_57, l_60, l_63, l_80, l_95, l_99, l_100, l_120, l_126, l_128, l_1000, l_9999, l_10000, L_0, L_1, L_2, L_3, L_4, L_5, L_7, L_9, L_15, L_40, L_50, L_99, L_127, L_9999, c_ltT, c_ltF, c_leT, c_leF, c_eqT, c_eqF, n_leF, n_ltF, c_gltT, c_gltF, c_ggtT, c_ggtF, false_or, or_false, or_self, true_or, or_true]
      · have hq := e3.2.2.1
        have hl3 : (ks0 ++ ks ++ k2).length + 1 ≤ q := by
          simp only [List.length_append] at hlen0 ⊢
          omega
        obtain ⟨C3, w1, w2⟩ := write_c (c := tk T m p) (by omega) ⟨hl3, by omega⟩ e3
        rcases ih (i + 1) fu s q ks0 (ks ++ k2 ++ [sg (tk T m p)]) C3 (by omega) (by omega) (by simp only [List.length_append, List.length_cons, List.length_nil]; omega) (by rw [← List.append_assoc, ← List.append_assoc]; exact w2) with ⟨q', C', t1, t2, t3⟩ | ⟨k, q', C', t1, t2, t3⟩
        · refine Or.inl ⟨q', C', by rw [e1]; exact t1, ?_, t3⟩
          unfold fX9t_length
          rw [hops] at w1
          simp (disch := omega) only [hlen, hgo, e2, w1, l_33, l_37, l_38, l_41, l_42, l_43, l_45, l_59, l_61, l_62, l_124, ↓lt_d, eq_self, lN_add, i_l, wTn, wFa, wFb, wCT, wCF, mNe, mNe2, mLt, mLe, bp_s, bn_s, n_clampS, nI_1, nI_add, pk_sub, nI_mul, wrI_at, wrI_2, wrL_at, wrL_1, true_and, false_and, and_true, and_false, and_self, ↓reduceIte, Nat.reduceEqDiff, Nat.reduceAdd, Nat.reduceMul, Nat.add_zero, Nat.zero_add, reduceCtorEq, l_0, l_1, l_2, l_3, l_4, l_5, l_6, l_7, l_8, l_9, l_10, l_15, l_24, l_32, l_39, l_40, l_47, l_48, l_50, l_57, l_60, l_63, l_80, l_95, l_99, l_100, l_120, l_126, l_128, l_1000, l_9999, l_10000, L_0, L_1, L_2, L_3, L_4, L_5, L_7, L_9, L_15, L_40, L_50, L_99, L_127, L_9999, c_ltT, c_ltF, c_leT, c_leF, c_eqT, c_eqF, n_leF, n_ltF, c_gltT, c_gltF, c_ggtT, c_ggtF, false_or, or_false, or_self, true_or, or_true]
          exact t2
        · refine Or.inr ⟨k, q', C', by rw [e1]; exact t1, ?_, t3⟩
          unfold fX9t_length
          rw [hops] at w1
          simp (disch := omega) only [hlen, hgo, e2, w1, l_33, l_37, l_38, l_41, l_42, l_43, l_45, l_59, l_61, l_62, l_124, ↓lt_d, eq_self, lN_add, i_l, wTn, wFa, wFb, wCT, wCF, mNe, mNe2, mLt, mLe, bp_s, bn_s, n_clampS, nI_1, nI_add, pk_sub, nI_mul, wrI_at, wrI_2, wrL_at, wrL_1, true_and, false_and, and_true, and_false, and_self, ↓reduceIte, Nat.reduceEqDiff, Nat.reduceAdd, Nat.reduceMul, Nat.add_zero, Nat.zero_add, reduceCtorEq, l_0, l_1, l_2, l_3, l_4, l_5, l_6, l_7, l_8, l_9, l_10, l_15, l_24, l_32, l_39, l_40, l_47, l_48, l_50, l_57, l_60, l_63, l_80, l_95, l_99, l_100, l_120, l_126, l_128, l_1000, l_9999, l_10000, L_0, L_1, L_2, L_3, L_4, L_5, L_7, L_9, L_15, L_40, L_50, L_99, L_127, L_9999, c_ltT, c_ltF, c_leT, c_leF, c_eqT, c_eqF, n_leF, n_ltF, c_gltT, c_gltF, c_ggtT, c_ggtF, false_or, or_false, or_self, true_or, or_true]
          exact t2
    · rw [if_neg his]
      refine Or.inr ⟨ks, p, C, rfl, ?_, hC, hs⟩
      have hops : ¬ (tk T m p = 124) := (fun z => his (by simpa only [beq_iff_eq] using z))
      have hgo := goes_F hC (k := 124) (by omega) hops
      unfold fX9t_length
      simp (disch := omega) only [hlen, hgo, l_33, l_37, l_38, l_41, l_42, l_43, l_45, l_59, l_61, l_62, l_124, ↓lt_d, eq_self, lN_add, i_l, wTn, wFa, wFb, wCT, wCF, mNe, mNe2, mLt, mLe, bp_s, bn_s, n_clampS, nI_1, nI_add, pk_sub, nI_mul, wrI_at, wrI_2, wrL_at, wrL_1, true_and, false_and, and_true, and_false, and_self, ↓reduceIte, Nat.reduceEqDiff, Nat.reduceAdd, Nat.reduceMul, Nat.add_zero, Nat.zero_add, reduceCtorEq, l_0, l_1, l_2, l_3, l_4, l_5, l_6, l_7, l_8, l_9, l_10, l_15, l_24, l_32, l_39, l_40, l_47, l_48, l_50, l_57, l_60, l_63, l_80, l_95, l_99, l_100, l_120, l_126, l_128, l_1000, l_9999, l_10000, L_0, L_1, L_2, L_3, L_4, L_5, L_7, L_9, L_15, L_40, L_50, L_99, L_127, L_9999, c_ltT, c_ltF, c_leT, c_leF, c_eqT, c_eqF, n_leF, n_ltF, c_gltT, c_gltF, c_ggtT, c_ggtF, false_or, or_false, or_self, true_or, or_true]
theorem row_any_c {n m : Nat} (hn : 1000 ≤ n) {T : Nat → Nat} {z : Int32 → Mm → Option (Int32 × Mm)} {y : Int32} {po : Nat → PR} (h : RdC T m (fX3_readAll n z y) po) : RdC T m (fX3_readAny n z y) (pRow T m (fun c => c == 124) po) := by
  intro p ks C hC
  have hm : m ≤ 120 := hC.1.1
  unfold pRow fX3_readAny
  rcases h p ks C hC with ⟨q, C2, e1, e2, e3, e4⟩ | ⟨k2, q, C2, e1, e2, e3, e4⟩
  · refine Or.inl ⟨q, C2, by rw [e1], ?_, e3, e4⟩
    simp (disch := omega) only [e2, ↓lt_d, eq_self, lN_add, i_l, wTn, wFa, wFb, wCT, wCF, mNe, mNe2, mLt, mLe, bp_s, bn_s, n_clampS, nI_1, nI_add, pk_sub, nI_mul, wrI_at, wrI_2, wrL_at, wrL_1, true_and, false_and, and_true, and_false, and_self, ↓reduceIte, Nat.reduceEqDiff, Nat.reduceAdd, Nat.reduceMul, Nat.add_zero, Nat.zero_add, reduceCtorEq, l_0, l_1, l_2, l_3, l_4, l_5, l_6, l_7, l_8, l_9, l_10, l_15, l_24, l_32, l_39, l_40, l_47, l_48, l_50, l_57, l_60, l_63, l_80, l_95, l_99, l_100, l_120, l_126, l_128, l_1000, l_9999, l_10000, L_0, L_1, L_2, L_3, L_4, L_5, L_7, L_9, L_15, L_40, L_50, L_99, L_127, L_9999, c_ltT, c_ltF, c_leT, c_leF, c_eqT, c_eqF, n_leF, n_ltF, c_gltT, c_gltF, c_ggtT, c_ggtF, false_or, or_false, or_self, true_or, or_true]
  · rcases more_any_c h m 0 n p q ks k2 C2 (by omega) (by omega) e4 e3 with ⟨q', C', t1, t2, t3⟩ | ⟨k, q', C', t1, t2, t3⟩
    · refine Or.inl ⟨q', C', by rw [e1]; exact t1, ?_, t3⟩
      simp (disch := omega) only [e2, ↓lt_d, eq_self, lN_add, i_l, wTn, wFa, wFb, wCT, wCF, mNe, mNe2, mLt, mLe, bp_s, bn_s, n_clampS, nI_1, nI_add, pk_sub, nI_mul, wrI_at, wrI_2, wrL_at, wrL_1, true_and, false_and, and_true, and_false, and_self, ↓reduceIte, Nat.reduceEqDiff, Nat.reduceAdd, Nat.reduceMul, Nat.add_zero, Nat.zero_add, reduceCtorEq, l_0, l_1, l_2, l_3, l_4, l_5, l_6, l_7, l_8, l_9, l_10, l_15, l_24, l_32, l_39, l_40, l_47, l_48, l_50, l_57, l_60, l_63, l_80, l_95, l_99, l_100, l_120, l_126, l_128, l_1000, l_9999, l_10000, L_0, L_1, L_2, L_3, L_4, L_5, L_7, L_9, L_15, L_40, L_50, L_99, L_127, L_9999, c_ltT, c_ltF, c_leT, c_leF, c_eqT, c_eqF, n_leF, n_ltF, c_gltT, c_gltF, c_ggtT, c_ggtF, false_or, or_false, or_self, true_or, or_true]
      exact t2
    · refine Or.inr ⟨k, q', C', by rw [e1]; exact t1, ?_, t3⟩
      simp (disch := omega) only [e2, ↓lt_d, eq_self, lN_add, i_l, wTn, wFa, wFb, wCT, wCF, mNe, mNe2, mLt, mLe, bp_s, bn_s, n_clampS, nI_1, nI_add, pk_sub, nI_mul, wrI_at, wrI_2, wrL_at, wrL_1, true_and, false_and, and_true, and_false, and_self, ↓reduceIte, Nat.reduceEqDiff, Nat.reduceAdd, Nat.reduceMul, Nat.add_zero, Nat.zero_add, reduceCtorEq, l_0, l_1, l_2, l_3, l_4, l_5, l_6, l_7, l_8, l_9, l_10, l_15, l_24, l_32, l_39, l_40, l_47, l_48, l_50, l_57, l_60, l_63, l_80, l_95, l_99, l_100, l_120, l_126, l_128, l_1000, l_9999, l_10000, L_0, L_1, L_2, L_3, L_4, L_5, L_7, L_9, L_15, L_40, L_50, L_99, L_127, L_9999, c_ltT, c_ltF, c_leT, c_leF, c_eqT, c_eqF, n_leF, n_ltF, c_gltT, c_gltF, c_ggtT, c_ggtF, false_or, or_false, or_self, true_or, or_true]
      exact t2
