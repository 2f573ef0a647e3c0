/-! FIRST order: the reference goes through all orders -/
abbrev BT2 : Type := Option (Nat × Nat)
def updb (bst : BT2) (dg s : Nat) : BT2 :=
  match bst with
  | none => some (s, dg)
  | some (s0, d0) => if s0 ≤ s then some (s0, d0) else some (s, dg)
def Bes (bst : BT2) (R : Mm) : Prop := (bst = none ∧ R.1 72 42 = -nI 1) ∨ ∃ s d, bst = some (s, d) ∧ s < 2 ^ 31 ∧ R.1 72 42 = nI s ∧ R.1 72 43 = nI d
def fFr (j q i : Nat) : Prop := fTau j q i ∨ q = 96 ∨ (q = 72 ∧ (i = 42 ∨ i = 43))
def RB (j : Nat) (P0 : TB) (R0 R : Mm) : Prop := RepR j P0 R ∧ (∀ k, k < 60 → R.1 83 (60 * j + k) = R0.1 83 (60 * j + k)) ∧ ag (fFr j) R0 R
def Kept (j : Nat) (P0 : TB) (R0 : Mm) : Prop := j < 6 ∧ P0.1 ≤ 60 ∧ RepR j P0 R0 ∧ R0.1 72 40 = nI P0.1 ∧ ∀ k, k < 60 → R0.1 95 k = R0.1 83 (60 * j + k)
def fl (l : List Nat) : Nat → Nat := fun i => l.getD i 0
theorem leaf_l {n t j m5 dg : Nat} (hn : 1000 ≤ n) (ht : t ≤ 200000) (hm : m5 ≤ 5) {v a b SF SL o : Nat → Nat} {P0 : TB} {R0 R : Mm} (hK : Kept j P0 R0) (hP : Bd t P0) (hv : Vs m5 v a b) (hS : ∀ p, p < m5 → Sec n j R0 P0 (v p) (asP (a p) (b p)) (SF p) (SL p)) (hSb : ∀ p, SF p ≤ 79200 ∧ SL p ≤ 79200) (h94 : ∀ p, p < m5 → R0.1 94 p = nI (v p)) {z : Int32 → Int32 → Int32 → Int32 → Int32 → Mm → Option Mm} {bst : BT2} (hR : RB j P0 R0 R) (hb : Bes bst R) (ho : ∀ i, i < m5 → R.1 96 i = nI (o i) ∧ o i < m5) : ∃ R', fX11_ordersFrom_h11 n z n (nI j) (nI m5) (nI dg) (nI 0) (nI 0) R = some R' ∧ RB j P0 R0 R' ∧ Bes (updb bst dg (FF (fun p => asP (a p) (b p)) SF SL P0 m5 o)) R' ∧ ∀ i, R'.1 96 i = R.1 96 i := by
  obtain ⟨hj, hP60, hRP, h40, h95⟩ := hK
  obtain ⟨hR1, hR2, hR3⟩ := hR
  obtain ⟨R1, P1, e1, e2, e3, e4⟩ := leaf_h (n := n) (j := j) hn hj hm hv hS (z := z) (nI dg) (3 * m5) 0 n t (P0, 0) R (by omega) (by omega) (by omega) (by omega) hP (Ext_rf hP60) hR1 (fun q i hq => hR3.1 q i (by unfold fFr fTau fChs fAsk; omega)) (fun p hp => by rw [hR3.1 94 p (by unfold fFr fTau fChs fAsk; omega)]; exact h94 p hp) ho
  have hF : (runG (fun p => asP (a p) (b p)) SF SL o (3 * m5) 0 (P0, 0)).2 = FF (fun p => asP (a p) (b p)) SF SL P0 m5 o := by
    have := runG_F (fun p => asP (a p) (b p)) SF SL o m5 0 (P0, 0)
    rw [Nat.mul_zero] at this
    rw [this]
    rfl
  have hle := runG_le (fun p => asP (a p) (b p)) SF SL o hSb (3 * m5) 0 (P0, 0)
  rw [hF] at e1 hle
  have hs31 : FF (fun p => asP (a p) (b p)) SF SL P0 m5 o < 2 ^ 31 := by
    have h3 : 3 * m5 * 79200 ≤ 15 * 79200 := Nat.mul_le_mul_right _ (by omega)
    have h4 : ((P0, 0) : TB × Nat).2 = 0 := rfl
    omega
  generalize FF (fun p => asP (a p) (b p)) SF SL P0 m5 o = s at *
  obtain ⟨R2, v1, v2, v3, v4⟩ := puts_l (n := n) hn hj R1
  have hRB : RB j P0 R0 R2 := by
    refine ⟨⟨?_, fun i hi => ⟨(hR1.2 i hi).1, ?_, ?_⟩⟩, fun k hk => ?_, ?_⟩
    · rw [v2, e4.1 72 40 (by unfold fTau fChs fAsk; omega), hR3.1 72 40 (by unfold fFr fTau fChs fAsk; omega)]
      exact h40
    · rw [v4.1 82 _ (by unfold fPut; omega), (e2.2 i (by have := e3.1; omega)).2.1, (e3.2.2 i hi).1]
    · rw [v3 i (by omega), e4.1 95 i (by unfold fTau fChs fAsk; omega), hR3.1 95 i (by unfold fFr fTau fChs fAsk; omega), h95 i (by omega)]
      exact (hRP.2 i hi).2.2
    · rw [v3 k hk, e4.1 95 k (by unfold fTau fChs fAsk; omega), hR3.1 95 k (by unfold fFr fTau fChs fAsk; omega), h95 k hk]
    · exact ag_tr hR3 (ag_tr (ag_mono (fun q i z => Or.inl z) e4) (ag_mono (fun q i z => Or.inl (Or.inr (by unfold fPut at z; unfold fAsk; omega))) v4))
  have h42 : R2.1 72 42 = R.1 72 42 := by rw [v4.1 _ _ (by unfold fPut; omega), e4.1 _ _ (by unfold fTau fChs fAsk; omega)]
  have h43 : R2.1 72 43 = R.1 72 43 := by rw [v4.1 _ _ (by unfold fPut; omega), e4.1 _ _ (by unfold fTau fChs fAsk; omega)]
  have h96 : ∀ i, R2.1 96 i = R.1 96 i := fun i => by rw [v4.1 _ _ (by unfold fPut; omega), e4.1 _ _ (by unfold fTau fChs fAsk; omega)]
  have hset : RB j P0 R0 (wrI (wrI R2 72 42 (nI s)) 72 43 (nI dg)) := by
    obtain ⟨x1, x2, x3⟩ := hRB
    refine ⟨RepR_fr x1 (fun q i hq => by rw [wrI_at, if_neg (by omega), wrI_at, if_neg (by omega)]), fun k hk => ?_, ag_tr x3 (ag_tr (ag_wrI (Or.inr (Or.inr ⟨rfl, Or.inl rfl⟩))) (ag_wrI (Or.inr (Or.inr ⟨rfl, Or.inr rfl⟩))))⟩
    rw [wrI_at, if_neg (by omega), wrI_at, if_neg (by omega)]
    exact x2 k hk
  have hbset : Bes (some (s, dg)) (wrI (wrI R2 72 42 (nI s)) 72 43 (nI dg)) := Or.inr ⟨s, dg, rfl, hs31, by simp (disch := omega) only [↓lt_d, eq_self, lN_add, i_l, wTn, wFa, wFb, wCT, wCF, mNe, mNe2, mLt, mLe, bp_s, bn_s, n_clampS, nI_1, nI_add, pk_sub, nI_mul, wrI_at, wrI_2, wrL_at, wrL_1, true_and, false_and, and_true, and_false, and_self, ↓reduceIte, Nat.reduceEqDiff, Nat.reduceAdd, Nat.reduceMul, Nat.add_zero, Nat.zero_add, reduceCtorEq, l_0, l_1, l_2, l_3, l_4, l_5, l_6, l_7, l_8, l_9, l_10, l_15, l_24, l_32, l_39, l_40, l_47, l_48, l_50, l_57, l_60, l_63, l_80, l_95, l_99, l_100, l_120, l_126, l_128, l_1000, l_9999, l_10000, L_0, L_1, L_2, L_3, L_4, L_5, L_7, L_9, L_15, L_40, L_50, L_99, L_127, L_9999, c_ltT, c_ltF, c_leT, c_leF, c_eqT, c_eqF, n_leF, n_ltF, c_gltT, c_gltF, c_ggtT, c_ggtF, false_or, or_false, or_self, true_or, or_true], by simp (disch := omega) only [↓lt_d, eq_self, lN_add, i_l, wTn, wFa, wFb, wCT, wCF, mNe, mNe2, mLt, mLe, bp_s, bn_s, n_clampS, nI_1, nI_add, pk_sub, nI_mul, wrI_at, wrI_2, wrL_at, wrL_1, true_and, false_and, and_true, and_false, and_self, ↓reduceIte, Nat.reduceEqDiff, Nat.reduceAdd, Nat.reduceMul, Nat.add_zero, Nat.zero_add, reduceCtorEq, l_0, l_1, l_2, l_3, l_4, l_5, l_6, l_7, l_8, l_9, l_10, l_15, l_24, l_32, l_39, l_40, l_47, l_48, l_50, l_57, l_60, l_63, l_80, l_95, l_99, l_100, l_120, l_126, l_128, l_1000, l_9999, l_10000, L_0, L_1, L_2, L_3, L_4, L_5, L_7, L_9, L_15, L_40, L_50, L_99, L_127, L_9999, c_ltT, c_ltF, c_leT, c_leF, c_eqT, c_eqF, n_leF, n_ltF, c_gltT, c_gltF, c_ggtT, c_ggtF, false_or, or_false, or_self, true_or, or_true]⟩
  have h96set : ∀ i, (wrI (wrI R2 72 42 (nI s)) 72 43 (nI dg)).1 96 i = R.1 96 i := fun i => by
    rw [wrI_at, if_neg (by omega), wrI_at, if_neg (by omega)]
    exact h96 i
  have eq1 : fX11_ordersFrom_h11 n z n (nI j) (nI m5) (nI dg) (nI 0) (nI 0) R = lend n z j (nI dg) (nI s) R1 := e1
  rw [eq1]
  unfold lend fX11_ordersFrom_b70
  rcases hb with ⟨rfl, hb⟩ | ⟨s0, d0, rfl, hb1, hb2, hb3⟩
  · refine ⟨_, ?_, hset, hbset, h96set⟩
    have hlt : (-nI 1 < nI 0) = True := eq_true (by decide)
    simp (disch := omega) only [v1, h42, hb, hlt, ↓lt_d, eq_self, lN_add, i_l, wTn, wFa, wFb, wCT, wCF, mNe, mNe2, mLt, mLe, bp_s, bn_s, n_clampS, nI_1, nI_add, pk_sub, nI_mul, wrI_at, wrI_2, wrL_at, wrL_1, true_and, false_and, and_true, and_false, and_self, ↓reduceIte, Nat.reduceEqDiff, Nat.reduceAdd, Nat.reduceMul, Nat.add_zero, Nat.zero_add, reduceCtorEq, l_0, l_1, l_2, l_3, l_4, l_5, l_6, l_7, l_8, l_9, l_10, l_15, l_24, l_32, l_39, l_40, l_47, l_48, l_50, l_57, l_60, l_63, l_80, l_95, l_99, l_100, l_120, l_126, l_128, l_1000, l_9999, l_10000, L_0, L_1, L_2, L_3, L_4, L_5, L_7, L_9, L_15, L_40, L_50, L_99, L_127, L_9999, c_ltT, c_ltF, c_leT, c_leF, c_eqT, c_eqF, n_leF, n_ltF, c_gltT, c_gltF, c_ggtT, c_ggtF, false_or, or_false, or_self, true_or, or_true]
  · by_cases hss : s0 ≤ s
    · refine ⟨R2, ?_, hRB, ?_, h96⟩
      · simp (disch := omega) only [v1, h42, hb2, ↓lt_d, eq_self, lN_add, i_l, wTn, wFa, wFb, wCT, wCF, mNe, mNe2, mLt, mLe, bp_s, bn_s, n_clampS, nI_1, nI_add, pk_sub, nI_mul, wrI_at, wrI_2, wrL_at, wrL_1, true_and, false_and, and_true, and_false, and_self, ↓reduceIte, Nat.reduceEqDiff, Nat.reduceAdd, Nat.reduceMul, Nat.add_zero, Nat.zero_add, reduceCtorEq, l_0, l_1, l_2, l_3, l_4, l_5, l_6, l_7, l_8, l_9, l_10, l_15, l_24, l_32, l_39, l_40, l_47, l_48, l_50, l_57, l_60, l_63, l_80, l_95, l_99, l_100, l_120, l_126, l_128, l_1000, l_9999, l_10000, L_0, L_1, L_2, L_3, L_4, L_5, L_7, L_9, L_15, L_40, L_50, L_99, L_127, L_9999, c_ltT, c_ltF, c_leT, c_leF, c_eqT, c_eqF, n_leF, n_ltF, c_gltT, c_gltF, c_ggtT, c_ggtF, false_or, or_false, or_self, true_or, or_true]
      · unfold updb
        show Bes (if s0 ≤ s then some (s0, d0) else some (s, dg)) R2
        rw [if_pos hss]
        exact Or.inr ⟨s0, d0, rfl, hb1, by rw [h42]; exact hb2, by rw [h43]; exact hb3⟩
    · refine ⟨_, ?_, hset, ?_, h96set⟩
      · simp (disch := omega) only [v1, h42, hb2, ↓lt_d, eq_self, lN_add, i_l, wTn, wFa, wFb, wCT, wCF, mNe, mNe2, mLt, mLe, bp_s, bn_s, n_clampS, nI_1, nI_add, pk_sub, nI_mul, wrI_at, wrI_2, wrL_at, wrL_1, true_and, false_and, and_true, and_false, and_self, ↓reduceIte, Nat.reduceEqDiff, Nat.reduceAdd, Nat.reduceMul, Nat.add_zero, Nat.zero_add, reduceCtorEq, l_0, l_1, l_2, l_3, l_4, l_5, l_6, l_7, l_8, l_9, l_10, l_15, l_24, l_32, l_39, l_40, l_47, l_48, l_50, l_57, l_60, l_63, l_80, l_95, l_99, l_100, l_120, l_126, l_128, l_1000, l_9999, l_10000, L_0, L_1, L_2, L_3, L_4, L_5, L_7, L_9, L_15, L_40, L_50, L_99, L_127, L_9999, c_ltT, c_ltF, c_leT, c_leF, c_eqT, c_eqF, n_leF, n_ltF, c_gltT, c_gltF, c_ggtT, c_ggtF, false_or, or_false, or_self, true_or, or_true]
      · unfold updb
        show Bes (if s0 ≤ s then some (s0, d0) else some (s, dg)) _
        rw [if_neg hss]
        exact hbset
def enI (f : Nat → List (List Nat × Nat)) : Nat → Nat → List (List Nat × Nat)
  | 0, _ => []
  | d + 1, i => f i ++ enI f d (i + 1)
def en (m5 : Nat) : Nat → List Nat → Nat → Nat → List (List Nat × Nat)
  | 0, pre, _, dg => [(pre, dg)]
  | r + 1, pre, used, dg => enI (fun i => if used / 2 ^ i % 2 = 0 then en m5 r (pre ++ [i]) (used + 2 ^ i) (10 * dg + i + 1) else []) m5 0
def fol (F : (Nat → Nat) → Nat) (bst : BT2) (L : List (List Nat × Nat)) : BT2 := L.foldl (fun bst e => updb bst e.2 (F (fl e.1))) bst
theorem bits_l : ∀ u, u < 32 → ∀ i, i < 5 → (u / 2 ^ i % 2 = 0 → ((nI u >>> (nI i &&& 31)) &&& nI 1 = nI 0) ∧ nI u ||| (nI 1 <<< (nI i &&& 31)) = nI (u + 2 ^ i) ∧ u + 2 ^ i < 32) ∧ (¬ u / 2 ^ i % 2 = 0 → ¬ ((nI u >>> (nI i &&& 31)) &&& nI 1 = nI 0)) := by decide
theorem getD_app {l : List Nat} {i x : Nat} : (l ++ [x]).getD i 0 = if i < l.length then l.getD i 0 else if i = l.length then x else 0 := by
  by_cases h : i < l.length
  · rw [if_pos h, List.getD_eq_getElem?_getD, List.getD_eq_getElem?_getD, List.getElem?_append_left h]
  · rw [if_neg h]
    by_cases h2 : i = l.length
    · rw [if_pos h2, List.getD_eq_getElem?_getD, List.getElem?_append_right (by omega), h2, Nat.sub_self]
      rfl
    · rw [if_neg h2, List.getD_eq_getElem?_getD, List.getElem?_eq_none (by simp only [List.length_append, List.length_cons, List.length_nil]; omega)]
      rfl
theorem dfs_h {n t j m5 : Nat} (hn : 1000 ≤ n) (ht : t ≤ 200000) (hm : m5 ≤ 5) {v a b SF SL : Nat → Nat} {P0 : TB} {R0 : Mm} (hK : Kept j P0 R0) (hP : Bd t P0) (hv : Vs m5 v a b) (hS : ∀ p, p < m5 → Sec n j R0 P0 (v p) (asP (a p) (b p)) (SF p) (SL p)) (hSb : ∀ p, SF p ≤ 79200 ∧ SL p ≤ 79200) (h94 : ∀ p, p < m5 → R0.1 94 p = nI (v p)) : ∀ r pre used dg bst D R, pre.length + r = m5 → r < D → (∀ i, i < pre.length → pre.getD i 0 < m5) → used < 32 → RB j P0 R0 R → Bes bst R → (∀ i, i < pre.length → R.1 96 i = nI (pre.getD i 0)) → ∃ R', fX11_ordersFrom n D (nI j) (nI m5) (nI pre.length) (nI used) (nI dg) R = some R' ∧ RB j P0 R0 R' ∧ Bes (fol (FF (fun p => asP (a p) (b p)) SF SL P0 m5) bst (en m5 r pre used dg)) R' ∧ ∀ i, i < pre.length → R'.1 96 i = R.1 96 i := by
  intro r
  induction r with
  | zero =>
    intro pre used dg bst D R hr hD hpre hu hR hb ho
    obtain ⟨D, rfl⟩ : ∃ d, D = d + 1 := ⟨D - 1, by omega⟩
    have hl : pre.length = m5 := by omega
    obtain ⟨R', e1, e2, e3, e4⟩ := leaf_l (n := n) (dg := dg) (o := fl pre) (z := fX11_ordersFrom n D) hn ht hm hK hP hv hS hSb h94 hR hb (fun i hi => ⟨ho i (by omega), hpre i (by omega)⟩)
    refine ⟨R', ?_, e2, e3, fun i _ => e4 i⟩
    show fX11_ordersFrom_w n (fX11_ordersFrom n D) (nI j) (nI m5) (nI pre.length) (nI used) (nI dg) R = some R'
    unfold fX11_ordersFrom_w
    rw [if_pos (by rw [hl]), l_0]
    exact e1
  | succ r ih =>
    intro pre used dg bst D R hr hD hpre hu hR hb ho
    obtain ⟨D, rfl⟩ : ∃ d, D = d + 1 := ⟨D - 1, by omega⟩
    have loop : ∀ d i fu bst R, m5 - i = d → i ≤ m5 → d < fu → RB j P0 R0 R → Bes bst R → (∀ i, i < pre.length → R.1 96 i = nI (pre.getD i 0)) → ∃ R', fX11_ordersFrom_h86 n (fX11_ordersFrom n D) fu (nI j) (nI m5) (nI pre.length) (nI used) (nI dg) (nI i) R = some R' ∧ RB j P0 R0 R' ∧ Bes (fol (FF (fun p => asP (a p) (b p)) SF SL P0 m5) bst (enI (fun i => if used / 2 ^ i % 2 = 0 then en m5 r (pre ++ [i]) (used + 2 ^ i) (10 * dg + i + 1) else []) d i)) R' ∧ ∀ i, i < pre.length → R'.1 96 i = R.1 96 i := by
      intro d
      induction d with
      | zero =>
        intro i fu bst R hd hi hf hR hb ho
        obtain ⟨fu, rfl⟩ : ∃ f, fu = f + 1 := ⟨fu - 1, by omega⟩
        refine ⟨R, ?_, hR, hb, fun _ _ => rfl⟩
        rw [fX11_ordersFrom_h86.eq_2]
        simp (disch := omega) only [↓lt_d, eq_self, lN_add, i_l, wTn, wFa, wFb, wCT, wCF, mNe, mNe2, mLt, mLe, bp_s, bn_s, n_clampS, nI_1, nI_add, pk_sub, nI_mul, wrI_at, wrI_2, wrL_at, wrL_1, true_and, false_and, and_true, and_false, and_self, ↓reduceIte, Nat.reduceEqDiff, Nat.reduceAdd, Nat.reduceMul, Nat.add_zero, Nat.zero_add, reduceCtorEq, l_0, l_1, l_2, l_3, l_4, l_5, l_6, l_7, l_8, l_9, l_10, l_15, l_24, l_32, l_39, l_40, l_47, l_48, l_50, l_57, l_60, l_63, l_80, l_95, l_99, l_100, l_120, l_126, l_128, l_1000, l_9999, l_10000, L_0, L_1, L_2, L_3, L_4, L_5, L_7, L_9, L_15, L_40, L_50, L_99, L_127, L_9999, c_ltT, c_ltF, c_leT, c_leF, c_eqT, c_eqF, n_leF, n_ltF, c_gltT, c_gltF, c_ggtT, c_ggtF, false_or, or_false, or_self, true_or, or_true]
      | succ d ihd =>
        intro i fu bst R hd hi hf hR hb ho
        obtain ⟨fu, rfl⟩ : ∃ f, fu = f + 1 := ⟨fu - 1, by omega⟩
        obtain ⟨bt, bf⟩ := bits_l used hu i (by omega)
        rw [fX11_ordersFrom_h86.eq_2]
        unfold fX11_ordersFrom_b136
        by_cases hbit : used / 2 ^ i % 2 = 0
        · obtain ⟨b1, b2, b3⟩ := bt hbit
          have hlen : (pre ++ [i]).length = pre.length + 1 := by simp only [List.length_append, List.length_cons, List.length_nil]
          have hR' : RB j P0 R0 (wrI R 96 pre.length (nI i)) := by
            obtain ⟨x1, x2, x3⟩ := hR
            refine ⟨RepR_fr x1 (fun q k hq => by rw [wrI_at, if_neg (by omega)]), fun k hk => ?_, ag_tr x3 (ag_wrI (Or.inr (Or.inl rfl)))⟩
            rw [wrI_at, if_neg (by omega)]
            exact x2 k hk
          have hb' : Bes bst (wrI R 96 pre.length (nI i)) := by
            rcases hb with ⟨y1, y2⟩ | ⟨s, d', y1, y2, y3, y4⟩
            · exact Or.inl ⟨y1, by simp (disch := omega) only [y2, ↓lt_d, eq_self, lN_add, i_l, wTn, wFa, wFb, wCT, wCF, mNe, mNe2, mLt, mLe, bp_s, bn_s, n_clampS, nI_1, nI_add, pk_sub, nI_mul, wrI_at, wrI_2, wrL_at, wrL_1, true_and, false_and, and_true, and_false, and_self, ↓reduceIte, Nat.reduceEqDiff, Nat.reduceAdd, Nat.reduceMul, Nat.add_zero, Nat.zero_add, reduceCtorEq, l_0, l_1, l_2, l_3, l_4, l_5, l_6, l_7, l_8, l_9, l_10, l_15, l_24, l_32, l_39, l_40, l_47, l_48, l_50, l_57, l_60, l_63, l_80, l_95, l_99, l_100, l_120, l_126, l_128, l_1000, l_9999, l_10000, L_0, L_1, L_2, L_3, L_4, L_5, L_7, L_9, L_15, L_40, L_50, L_99, L_127, L_9999, c_ltT, c_ltF, c_leT, c_leF, c_eqT, c_eqF, n_leF, n_ltF, c_gltT, c_gltF, c_ggtT, c_ggtF, false_or, or_false, or_self, true_or, or_true]⟩
            · exact Or.inr ⟨s, d', y1, y2, by simp (disch := omega) only [y3, ↓lt_d, eq_self, lN_add, i_l, wTn, wFa, wFb, wCT, wCF, mNe, mNe2, mLt, mLe, bp_s, bn_s, n_clampS, nI_1, nI_add, pk_sub, nI_mul, wrI_at, wrI_2, wrL_at, wrL_1, true_and, false_and, and_true, and_false, and_self, ↓reduceIte, Nat.reduceEqDiff, Nat.reduceAdd, Nat.reduceMul, Nat.add_zero, Nat.zero_add, reduceCtorEq, l_0, l_1, l_2, l_3, l_4, l_5, l_6, l_7, l_8, l_9, l_10, l_15, l_24, l_32, l_39, l_40, l_47, l_48, l_50, l_57, l_60, l_63, l_80, l_95, l_99, l_100, l_120, l_126, l_128, l_1000, l_9999, l_10000, L_0, L_1, L_2, L_3, L_4, L_5, L_7, L_9, L_15, L_40, L_50, L_99, L_127, L_9999, c_ltT, c_ltF, c_leT, c_leF, c_eqT, c_eqF, n_leF, n_ltF, c_gltT, c_gltF, c_ggtT, c_ggtF, false_or, or_false, or_self, true_or, or_true], by simp (disch := omega) only [y4, ↓lt_d, eq_self, lN_add, i_l, wTn, wFa, wFb, wCT, wCF, mNe, mNe2, mLt, mLe, bp_s, bn_s, n_clampS, nI_1, nI_add, pk_sub, nI_mul, wrI_at, wrI_2, wrL_at, wrL_1, true_and, false_and, and_true, and_false, and_self, ↓reduceIte, Nat.reduceEqDiff, Nat.reduceAdd, Nat.reduceMul, Nat.add_zero, Nat.zero_add, reduceCtorEq, l_0, l_1, l_2, l_3, l_4, l_5, l_6, l_7, l_8, l_9, l_10, l_15, l_24, l_32, l_39, l_40, l_47, l_48, l_50, l_57, l_60, l_63, l_80, l_95, l_99, l_100, l_120, l_126, l_128, l_1000, l_9999, l_10000, L_0, L_1, L_2, L_3, L_4, L_5, L_7, L_9, L_15, L_40, L_50, L_99, L_127, L_9999, c_ltT, c_ltF, c_leT, c_leF, c_eqT, c_eqF, n_leF, n_ltF, c_gltT, c_gltF, c_ggtT, c_ggtF, false_or, or_false, or_self, true_or, or_true]⟩
          obtain ⟨R1, e1, e2, e3, e4⟩ := ih (pre ++ [i]) (used + 2 ^ i) (10 * dg + i + 1) bst D (wrI R 96 pre.length (nI i)) (by rw [hlen]; omega) (by omega) (fun k hk => by
            rw [hlen] at hk
            rw [getD_app]
            by_cases hk2 : k < pre.length
            · rw [if_pos hk2]
              exact hpre k hk2
            · rw [if_neg hk2, if_pos (by omega)]
              omega) b3 hR' hb' (fun k hk => by
            rw [hlen] at hk
            rw [getD_app, wrI_at]
            by_cases hk2 : k < pre.length
            · rw [if_pos hk2, if_neg (by omega)]
              exact ho k hk2
            · rw [if_neg hk2, if_pos (show k = pre.length by omega), if_pos ⟨rfl, by omega⟩])
          rw [hlen] at e1
          obtain ⟨R2, u1, u2, u3, u4⟩ := ihd (i + 1) fu _ R1 (by omega) (by omega) (by omega) e2 e3 (fun k hk => by
            rw [e4 k (by omega), wrI_at, if_neg (by omega)]
            exact ho k hk)
          refine ⟨R2, ?_, u2, ?_, fun k hk => by rw [u4 k hk, e4 k (by omega), wrI_at, if_neg (by omega)]⟩
          · simp (disch := omega) only [↓b1, ↓b2, e1, ↓lt_d, eq_self, lN_add, i_l, wTn, wFa, wFb, wCT, wCF, mNe, mNe2, mLt, mLe, bp_s, bn_s, n_clampS, nI_1, nI_add, pk_sub, nI_mul, wrI_at, wrI_2, wrL_at, wrL_1, true_and, false_and, and_true, and_false, and_self, ↓reduceIte, Nat.reduceEqDiff, Nat.reduceAdd, Nat.reduceMul, Nat.add_zero, Nat.zero_add, reduceCtorEq, l_0, l_1, l_2, l_3, l_4, l_5, l_6, l_7, l_8, l_9, l_10, l_15, l_24, l_32, l_39, l_40, l_47, l_48, l_50, l_57, l_60, l_63, l_80, l_95, l_99, l_100, l_120, l_126, l_128, l_1000, l_9999, l_10000, L_0, L_1, L_2, L_3, L_4, L_5, L_7, L_9, L_15, L_40, L_50, L_99, L_127, L_9999, c_ltT, c_ltF, c_leT, c_leF, c_eqT, c_eqF, n_leF, n_ltF, c_gltT, c_gltF, c_ggtT, c_ggtF, false_or, or_false, or_self, true_or, or_true]
            exact u1
          · show Bes (fol _ bst ((if used / 2 ^ i % 2 = 0 then en m5 r (pre ++ [i]) (used + 2 ^ i) (10 * dg + i + 1) else []) ++ _)) R2
            rw [if_pos hbit]
            unfold fol at u3 ⊢
            rw [List.foldl_append]
            exact u3
        · have b1 : ((nI used >>> (nI i &&& 31)) &&& nI 1 = nI 0) = False := eq_false (bf hbit)
          obtain ⟨R2, u1, u2, u3, u4⟩ := ihd (i + 1) fu bst R (by omega) (by omega) (by omega) hR hb ho
          refine ⟨R2, ?_, u2, ?_, u4⟩
          · simp (disch := omega) only [b1, ↓lt_d, eq_self, lN_add, i_l, wTn, wFa, wFb, wCT, wCF, mNe, mNe2, mLt, mLe, bp_s, bn_s, n_clampS, nI_1, nI_add, pk_sub, nI_mul, wrI_at, wrI_2, wrL_at, wrL_1, true_and, false_and, and_true, and_false, and_self, ↓reduceIte, Nat.reduceEqDiff, Nat.reduceAdd, Nat.reduceMul, Nat.add_zero, Nat.zero_add, reduceCtorEq, l_0, l_1, l_2, l_3, l_4, l_5, l_6, l_7, l_8, l_9, l_10, l_15, l_24, l_32, l_39, l_40, l_47, l_48, l_50, l_57, l_60, l_63, l_80, l_95, l_99, l_100, l_120, l_126, l_128, l_1000, l_9999, l_10000, L_0, L_1, L_2, L_3, L_4, L_5, L_7, L_9, L_15, L_40, L_50, L_99, L_127, L_9999, c_ltT, c_ltF, c_leT, c_leF, c_eqT, c_eqF, n_leF, n_ltF, c_gltT, c_gltF, c_ggtT, c_ggtF, false_or, or_false, or_self, true_or, or_true]
            exact u1
          · show Bes (fol _ bst ((if used / 2 ^ i % 2 = 0 then en m5 r (pre ++ [i]) (used + 2 ^ i) (10 * dg + i + 1) else []) ++ _)) R2
            rw [if_neg hbit]
            exact u3
    obtain ⟨R', e1, e2, e3, e4⟩ := loop m5 0 n bst R (by omega) (by omega) (by omega) hR hb ho
    refine ⟨R', ?_, e2, e3, e4⟩
    show fX11_ordersFrom_w n (fX11_ordersFrom n D) (nI j) (nI m5) (nI pre.length) (nI used) (nI dg) R = some R'
    unfold fX11_ordersFrom_w
    rw [if_neg (fun z => by
      have := (nI_eq (a := pre.length) (b := m5) (by omega) (by omega)).mp z
      omega), l_0]
    exact e1
