/-! FIRST order: an order's seconds, on both sides -/
def one (x SF SL : Nat → Nat) (p : Nat) (st : TB × Nat) : TB × Nat := ((hr st.1 (x p)).2, st.2 + (if 3 < (hr st.1 (x p)).1 then SL p else SF p))
def itS (x SF SL : Nat → Nat) (p : Nat) : Nat → TB × Nat → TB × Nat
  | 0, st => st
  | d + 1, st => itS x SF SL p d (one x SF SL p st)
def runF (x SF SL o : Nat → Nat) : Nat → Nat → TB × Nat → TB × Nat
  | 0, _, st => st
  | d + 1, i, st => runF x SF SL o d (i + 1) (itS x SF SL (o i) 3 st)
def runG (x SF SL o : Nat → Nat) : Nat → Nat → TB × Nat → TB × Nat
  | 0, _, st => st
  | d + 1, y, st => runG x SF SL o d (y + 1) (one x SF SL (o (y / 3)) st)
theorem runG_F (x SF SL o : Nat → Nat) : ∀ d i st, runG x SF SL o (3 * d) (3 * i) st = runF x SF SL o d i st := by
  intro d
  induction d with
  | zero => exact fun _ _ => rfl
  | succ d ih =>
    intro i st
    show runG x SF SL o (3 * d + 3) (3 * i) st = runF x SF SL o d (i + 1) (itS x SF SL (o i) 3 st)
    rw [← ih (i + 1)]
    show runG x SF SL o (3 * d) (3 * i + 1 + 1 + 1) (one x SF SL (o ((3 * i + 1 + 1) / 3)) (one x SF SL (o ((3 * i + 1) / 3)) (one x SF SL (o (3 * i / 3)) st))) = _
    rw [show (3 * i + 1 + 1) / 3 = i by omega, show (3 * i + 1) / 3 = i by omega, show 3 * i / 3 = i by omega, show 3 * i + 1 + 1 + 1 = 3 * (i + 1) by omega]
    rfl
def FF (x SF SL : Nat → Nat) (P0 : TB) (m5 : Nat) (o : Nat → Nat) : Nat := (runF x SF SL o m5 0 (P0, 0)).2
theorem hr_b {t x : Nat} {P : TB} (h : Bd t P) : (hr P x).1 ≤ t + 1 := by
  obtain ⟨h1, h2⟩ := h
  obtain ⟨g1, g2, g3⟩ := fnd_sp P x
  unfold hr
  split
  · exact Nat.zero_le _
  · split
    · exact Nat.succ_le_succ (Nat.zero_le _)
    · exact Nat.succ_le_succ (h2 _ (by omega))
/-- the class's cells of orders -/
def OC (m5 : Nat) (v SF SL o : Nat → Nat) (C : Mm) : Prop := ∀ p, p < m5 → C.1 47 p = nI (v p) ∧ C.1 48 p = nI (SF p) ∧ C.1 49 p = nI (SL p) ∧ C.1 50 p = nI (o p) ∧ o p < m5
theorem OC_fr {m5 : Nat} {v SF SL o : Nat → Nat} {C C' : Mm} (h : OC m5 v SF SL o C) (hc : ∀ q i, 47 ≤ q ∧ q ≤ 50 → C'.1 q i = C.1 q i) : OC m5 v SF SL o C' := by
  intro p hp
  rw [hc 47 p (by omega), hc 48 p (by omega), hc 49 p (by omega), hc 50 p (by omega)]
  exact h p hp
def Vs (m5 : Nat) (v a b : Nat → Nat) : Prop := ∀ p, p < m5 → isAB (v p) (a p) (b p) ∧ a p ≤ 99 ∧ b p ≤ 99
theorem soI {n j m5 p y4 : Nat} (hn : 1000 ≤ n) (hm : m5 ≤ 5) (hp : p < m5) {v a b SF SL o : Nat → Nat} (hv : Vs m5 v a b) {k13 : Int32 → Int32 → Int32 → Mm → Option (Int32 × Mm)} (M : Int32) : ∀ d k fu t st C, 3 - k = d → k ≤ 3 → d < fu → t + d ≤ 1000000 → Bd t st.1 → RepC 6 st.1 C → OC m5 v SF SL o C → ∃ C', fX10_secondsOfOrder_h31 n j k13 fu M (nI st.2) (nI y4) (nI p) (nI k) C = k13 M (nI (itS (fun p => asP (a p) (b p)) SF SL p d st).2) (nI (y4 + 1)) C' ∧ RepC 6 (itS (fun p => asP (a p) (b p)) SF SL p d st).1 C' ∧ Bd (t + d) (itS (fun p => asP (a p) (b p)) SF SL p d st).1 ∧ ∀ q i, ¬ (28 ≤ q ∧ q < 32) → C'.1 q i = C.1 q i := by
  intro d
  induction d with
  | zero =>
    intro k fu t st C hd hk hf ht hB hC hO
    obtain ⟨fu, rfl⟩ : ∃ f, fu = f + 1 := ⟨fu - 1, by omega⟩
    refine ⟨C, ?_, hC, hB, fun _ _ _ => rfl⟩
    rw [fX10_secondsOfOrder_h31.eq_2]
    simp (disch := omega) only [↓lt_d, eq_self, lN_add, i_l, wTn, wFa, wFb, wCT, wCF, mNe, mNe2, mLt, mLe, bp_s, bn_s, n_clampS, nI_1, nI_add, pk_sub, nI_mul, wrI_at, wrI_2, wrL_at, wrL_1, true_and, false_and, and_true, and_false, and_self, ↓reduceIte, Nat.reduceEqDiff, Nat.reduceAdd, Nat.reduceMul, Nat.add_zero, Nat.zero_add, reduceCtorEq, l_0, l_1, l_2, l_3, l_4, l_5, l_6, l_7, l_8, l_9, l_10, l_15, l_24, l_32, l_39, l_40, l_47, l_48, l_50, l_57, l_60, l_63, l_80, l_95, l_99, l_100, l_120, l_126, l_128, l_1000, l_9999, l_10000, L_0, L_1, L_2, L_3, L_4, L_5, L_7, L_9, L_15, L_40, L_50, L_99, L_127, L_9999, c_ltT, c_ltF, c_leT, c_leF, c_eqT, c_eqF, n_leF, n_ltF, c_gltT, c_gltF, c_ggtT, c_ggtF, false_or, or_false, or_self, true_or, or_true]
    rfl
  | succ d ih =>
    intro k fu t st C hd hk hf ht hB hC hO
    obtain ⟨fu, rfl⟩ : ∃ f, fu = f + 1 := ⟨fu - 1, by omega⟩
    obtain ⟨hv1, hv2, hv3⟩ := hv p hp
    obtain ⟨C1, c1, c2, c3⟩ := hearC (n := n) (t := t) hn (by omega) hv1 hv2 hv3 hB hC
    obtain ⟨o1, o2, o3, o4, o5⟩ := hO p hp
    have hrb := hr_b (x := asP (a p) (b p)) hB
    have f1 := hear_fst c3
    have hO1 : OC m5 v SF SL o C1 := OC_fr hO (fun q i hq => f1 q i (by omega))
    obtain ⟨q1, q2, q3, q4, q5⟩ := hO1 p hp
    obtain ⟨C', e1, e2, e3, e4⟩ := ih (k + 1) fu (t + 1) (one (fun p => asP (a p) (b p)) SF SL p st) C1 (by omega) (by omega) (by omega) (by omega) (Bd_hr hB) c2 hO1
    refine ⟨C', ?_, e2, by rw [show t + (d + 1) = t + 1 + d by omega]; exact e3, fun q i hq => by rw [e4 q i hq, f1 q i hq]⟩
    rw [fX10_secondsOfOrder_h31.eq_2]
    unfold fX10_secondsOfOrder_b60 fX10_secondsOfOrder_b85
    by_cases h3 : 3 < (hr st.1 (asP (a p) (b p))).1
    · have ho : (one (fun p => asP (a p) (b p)) SF SL p st).2 = st.2 + SL p := by
        unfold one
        show st.2 + (if 3 < (hr st.1 (asP (a p) (b p))).1 then SL p else SF p) = _
        rw [if_pos h3]
      rw [ho] at e1
      simp (disch := omega) only [o1, c1, q3, ↓lt_d, eq_self, lN_add, i_l, wTn, wFa, wFb, wCT, wCF, mNe, mNe2, mLt, mLe, bp_s, bn_s, n_clampS, nI_1, nI_add, pk_sub, nI_mul, wrI_at, wrI_2, wrL_at, wrL_1, true_and, false_and, and_true, and_false, and_self, ↓reduceIte, Nat.reduceEqDiff, Nat.reduceAdd, Nat.reduceMul, Nat.add_zero, Nat.zero_add, reduceCtorEq, l_0, l_1, l_2, l_3, l_4, l_5, l_6, l_7, l_8, l_9, l_10, l_15, l_24, l_32, l_39, l_40, l_47, l_48, l_50, l_57, l_60, l_63, l_80, l_95, l_99, l_100, l_120, l_126, l_128, l_1000, l_9999, l_10000, L_0, L_1, L_2, L_3, L_4, L_5, L_7, L_9, L_15, L_40, L_50, L_99, L_127, L_9999, c_ltT, c_ltF, c_leT, c_leF, c_eqT, c_eqF, n_leF, n_ltF, c_gltT, c_gltF, c_ggtT, c_ggtF, false_or, or_false, or_self, true_or, or_true]
      exact e1
    · have ho : (one (fun p => asP (a p) (b p)) SF SL p st).2 = st.2 + SF p := by
        unfold one
        show st.2 + (if 3 < (hr st.1 (asP (a p) (b p))).1 then SL p else SF p) = _
        rw [if_neg h3]
      rw [ho] at e1
      simp (disch := omega) only [o1, c1, q2, ↓lt_d, eq_self, lN_add, i_l, wTn, wFa, wFb, wCT, wCF, mNe, mNe2, mLt, mLe, bp_s, bn_s, n_clampS, nI_1, nI_add, pk_sub, nI_mul, wrI_at, wrI_2, wrL_at, wrL_1, true_and, false_and, and_true, and_false, and_self, ↓reduceIte, Nat.reduceEqDiff, Nat.reduceAdd, Nat.reduceMul, Nat.add_zero, Nat.zero_add, reduceCtorEq, l_0, l_1, l_2, l_3, l_4, l_5, l_6, l_7, l_8, l_9, l_10, l_15, l_24, l_32, l_39, l_40, l_47, l_48, l_50, l_57, l_60, l_63, l_80, l_95, l_99, l_100, l_120, l_126, l_128, l_1000, l_9999, l_10000, L_0, L_1, L_2, L_3, L_4, L_5, L_7, L_9, L_15, L_40, L_50, L_99, L_127, L_9999, c_ltT, c_ltF, c_leT, c_leF, c_eqT, c_eqF, n_leF, n_ltF, c_gltT, c_gltF, c_ggtT, c_ggtF, false_or, or_false, or_self, true_or, or_true]
      exact e1
theorem soO {n j m5 : Nat} (hn : 1000 ≤ n) (hm : m5 ≤ 5) {v a b SF SL o : Nat → Nat} (hv : Vs m5 v a b) : ∀ d i fu t st C, m5 - i = d → i ≤ m5 → d < fu → t + 3 * d ≤ 1000000 → Bd t st.1 → RepC 6 st.1 C → OC m5 v SF SL o C → ∃ C', fX10_secondsOfOrder_h13 n j fu (nI m5) (nI st.2) (nI i) C = some (nI (runF (fun p => asP (a p) (b p)) SF SL o d i st).2, C') ∧ ∀ q i, ¬ (28 ≤ q ∧ q < 32) → C'.1 q i = C.1 q i := by
  intro d
  induction d with
  | zero =>
    intro i fu t st C hd hi hf ht hB hC hO
    obtain ⟨fu, rfl⟩ : ∃ f, fu = f + 1 := ⟨fu - 1, by omega⟩
    refine ⟨C, ?_, fun _ _ _ => rfl⟩
    rw [fX10_secondsOfOrder_h13.eq_2]
    simp (disch := omega) only [↓lt_d, eq_self, lN_add, i_l, wTn, wFa, wFb, wCT, wCF, mNe, mNe2, mLt, mLe, bp_s, bn_s, n_clampS, nI_1, nI_add, pk_sub, nI_mul, wrI_at, wrI_2, wrL_at, wrL_1, true_and, false_and, and_true, and_false, and_self, ↓reduceIte, Nat.reduceEqDiff, Nat.reduceAdd, Nat.reduceMul, Nat.add_zero, Nat.zero_add, reduceCtorEq, l_0, l_1, l_2, l_3, l_4, l_5, l_6, l_7, l_8, l_9, l_10, l_15, l_24, l_32, l_39, l_40, l_47, l_48, l_50, l_57, l_60, l_63, l_80, l_95, l_99, l_100, l_120, l_126, l_128, l_1000, l_9999, l_10000, L_0, L_1, L_2, L_3, L_4, L_5, L_7, L_9, L_15, L_40, L_50, L_99, L_127, L_9999, c_ltT, c_ltF, c_leT, c_leF, c_eqT, c_eqF, n_leF, n_ltF, c_gltT, c_gltF, c_ggtT, c_ggtF, false_or, or_false, or_self, true_or, or_true]
    rfl
  | succ d ih =>
    intro i fu t st C hd hi hf ht hB hC hO
    obtain ⟨fu, rfl⟩ : ∃ f, fu = f + 1 := ⟨fu - 1, by omega⟩
    obtain ⟨o1, o2, o3, o4, o5⟩ := hO i (by omega)
    obtain ⟨C1, e1, e2, e3, e4⟩ := soI (n := n) (j := j) (y4 := i) hn hm o5 hv (k13 := fX10_secondsOfOrder_h13 n j fu) (nI m5) 3 0 n t st C rfl (by omega) (by omega) (by omega) hB hC hO
    obtain ⟨C', u1, u2⟩ := ih (i + 1) fu (t + 3) _ C1 (by omega) (by omega) (by omega) (by omega) e3 e2 (OC_fr hO (fun q k hq => e4 q k (by omega)))
    refine ⟨C', ?_, fun q k hq => by rw [u2 q k hq, e4 q k hq]⟩
    rw [fX10_secondsOfOrder_h13.eq_2]
    simp (disch := omega) only [o4, e1, ↓lt_d, eq_self, lN_add, i_l, wTn, wFa, wFb, wCT, wCF, mNe, mNe2, mLt, mLe, bp_s, bn_s, n_clampS, nI_1, nI_add, pk_sub, nI_mul, wrI_at, wrI_2, wrL_at, wrL_1, true_and, false_and, and_true, and_false, and_self, ↓reduceIte, Nat.reduceEqDiff, Nat.reduceAdd, Nat.reduceMul, Nat.add_zero, Nat.zero_add, reduceCtorEq, l_0, l_1, l_2, l_3, l_4, l_5, l_6, l_7, l_8, l_9, l_10, l_15, l_24, l_32, l_39, l_40, l_47, l_48, l_50, l_57, l_60, l_63, l_80, l_95, l_99, l_100, l_120, l_126, l_128, l_1000, l_9999, l_10000, L_0, L_1, L_2, L_3, L_4, L_5, L_7, L_9, L_15, L_40, L_50, L_99, L_127, L_9999, c_ltT, c_ltF, c_leT, c_leF, c_eqT, c_eqF, n_leF, n_ltF, c_gltT, c_gltF, c_ggtT, c_ggtF, false_or, or_false, or_self, true_or, or_true]
    exact u1
theorem secO {n t j tb cp m5 : Nat} (hn : 1000 ≤ n) (ht : t ≤ 200000) (hm : m5 ≤ 5) {T v a b SF SL o : Nat → Nat} {C R0 : Mm} {P0 : TB} (hv : Vs m5 v a b) (h : Bh j tb cp T P0 C R0) (hP : Bd t P0) (hO : OC m5 v SF SL o C) : ∃ C', fX10_secondsOfOrder n j (nI m5) C = some (nI (FF (fun p => asP (a p) (b p)) SF SL P0 m5 o), C') ∧ ∀ q i, ¬ (28 ≤ q ∧ q < 32) → C'.1 q i = C.1 q i := by
  obtain ⟨C1, b1, b2, b3, -, b5⟩ := think2 h
  obtain ⟨C', e1, e2⟩ := soO (n := n) (j := j) hn hm hv m5 0 n t (P0, 0) C1 (by omega) (by omega) (by omega) (by omega) hP b3 (OC_fr hO (fun q i hq => b5 q i (by omega)))
  refine ⟨C', ?_, fun q i hq => by rw [e2 q i hq, b5 q i hq]⟩
  unfold fX10_secondsOfOrder
  simp (disch := omega) only [b1, ↓lt_d, eq_self, lN_add, i_l, wTn, wFa, wFb, wCT, wCF, mNe, mNe2, mLt, mLe, bp_s, bn_s, n_clampS, nI_1, nI_add, pk_sub, nI_mul, wrI_at, wrI_2, wrL_at, wrL_1, true_and, false_and, and_true, and_false, and_self, ↓reduceIte, Nat.reduceEqDiff, Nat.reduceAdd, Nat.reduceMul, Nat.add_zero, Nat.zero_add, reduceCtorEq, l_0, l_1, l_2, l_3, l_4, l_5, l_6, l_7, l_8, l_9, l_10, l_15, l_24, l_32, l_39, l_40, l_47, l_48, l_50, l_57, l_60, l_63, l_80, l_95, l_99, l_100, l_120, l_126, l_128, l_1000, l_9999, l_10000, L_0, L_1, L_2, L_3, L_4, L_5, L_7, L_9, L_15, L_40, L_50, L_99, L_127, L_9999, c_ltT, c_ltF, c_leT, c_leF, c_eqT, c_eqF, n_leF, n_ltF, c_gltT, c_gltF, c_ggtT, c_ggtF, false_or, or_false, or_self, true_or, or_true]
  exact e1
/-! the reference's leaf -/
theorem runG_le (x SF SL o : Nat → Nat) {B : Nat} (h : ∀ p, SF p ≤ B ∧ SL p ≤ B) : ∀ d y st, (runG x SF SL o d y st).2 ≤ st.2 + d * B := by
  intro d
  induction d with
  | zero =>
    intro y st
    exact Nat.le_add_right _ _
  | succ d ih =>
    intro y st
    have e := ih (y + 1) (one x SF SL (o (y / 3)) st)
    have e2 : (one x SF SL (o (y / 3)) st).2 ≤ st.2 + B := by
      unfold one
      obtain ⟨h1, h2⟩ := h (o (y / 3))
      show st.2 + (if 3 < (hr st.1 (x (o (y / 3)))).1 then SL (o (y / 3)) else SF (o (y / 3))) ≤ st.2 + B
      split <;> omega
    rw [Nat.add_mul, Nat.one_mul]
    show (runG x SF SL o d (y + 1) (one x SF SL (o (y / 3)) st)).2 ≤ _
    omega
def lend (n : Nat) (z : Int32 → Int32 → Int32 → Int32 → Int32 → Mm → Option Mm) (j : Nat) (dg s : Int32) (R : Mm) : Option Mm := Option.bind (fX11_putsBack n (nI j) R) fun C12 => if C12.1 72 42 < nI 0 then fX11_ordersFrom_b70 n z dg s C12 else if C12.1 72 42 ≤ s then some C12 else fX11_ordersFrom_b70 n z dg s C12
theorem leaf_h {n j m5 : Nat} (hn : 1000 ≤ n) (hj : j < 6) (hm : m5 ≤ 5) {v a b SF SL o : Nat → Nat} {P0 : TB} {R0 : Mm} (hv : Vs m5 v a b) (hS : ∀ p, p < m5 → Sec n j R0 P0 (v p) (asP (a p) (b p)) (SF p) (SL p)) {z : Int32 → Int32 → Int32 → Int32 → Int32 → Mm → Option Mm} (dg : Int32) : ∀ d y fu t st R, 3 * m5 - y = d → y ≤ 3 * m5 → d < fu → t + d ≤ 1000000 → Bd t st.1 → Ext P0 st.1 → RepR j st.1 R → RA R0 R → (∀ p, p < m5 → R.1 94 p = nI (v p)) → (∀ i, i < m5 → R.1 96 i = nI (o i) ∧ o i < m5) → ∃ R1 P1, fX11_ordersFrom_h11 n z fu (nI j) (nI m5) dg (nI st.2) (nI y) R = lend n z j dg (nI (runG (fun p => asP (a p) (b p)) SF SL o d y st).2) R1 ∧ RepR j P1 R1 ∧ Ext P0 P1 ∧ ag (fTau j) R R1 := by
  intro d
  induction d with
  | zero =>
    intro y fu t st R hd hy hf ht hB hE hR hRA h94 h96
    obtain ⟨fu, rfl⟩ : ∃ f, fu = f + 1 := ⟨fu - 1, by omega⟩
    refine ⟨R, st.1, ?_, hR, hE, ag_rf⟩
    rw [fX11_ordersFrom_h11.eq_2]
    unfold lend
    simp (disch := omega) only [↓lt_d, eq_self, lN_add, i_l, wTn, wFa, wFb, wCT, wCF, mNe, mNe2, mLt, mLe, bp_s, bn_s, n_clampS, nI_1, nI_add, pk_sub, nI_mul, wrI_at, wrI_2, wrL_at, wrL_1, true_and, false_and, and_true, and_false, and_self, ↓reduceIte, Nat.reduceEqDiff, Nat.reduceAdd, Nat.reduceMul, Nat.add_zero, Nat.zero_add, reduceCtorEq, l_0, l_1, l_2, l_3, l_4, l_5, l_6, l_7, l_8, l_9, l_10, l_15, l_24, l_32, l_39, l_40, l_47, l_48, l_50, l_57, l_60, l_63, l_80, l_95, l_99, l_100, l_120, l_126, l_128, l_1000, l_9999, l_10000, L_0, L_1, L_2, L_3, L_4, L_5, L_7, L_9, L_15, L_40, L_50, L_99, L_127, L_9999, c_ltT, c_ltF, c_leT, c_leF, c_eqT, c_eqF, n_leF, n_ltF, c_gltT, c_gltF, c_ggtT, c_ggtF, false_or, or_false, or_self, true_or, or_true]
    rfl
  | succ d ih =>
    intro y fu t st R hd hy hf ht hB hE hR hRA h94 h96
    obtain ⟨fu, rfl⟩ : ∃ f, fu = f + 1 := ⟨fu - 1, by omega⟩
    obtain ⟨o1, o2⟩ := h96 (y / 3) (by omega)
    obtain ⟨hv1, hv2, hv3⟩ := hv (o (y / 3)) o2
    obtain ⟨w, R1, s1, s2, s3⟩ := hS (o (y / 3)) o2 st.1 R hR (Bd_up (by omega) hB) hE hRA
    obtain ⟨R2, r1, r2, r3⟩ := askR (n := n) (t := t) hn (by omega) hj hv1 hv2 hv3 hB (RepR_fr hR (fun q i hq => s3.1 q i (by unfold fChs; omega)))
    have ft : ag (fTau j) R R2 := ag_tr (ag_mono (fun q i z => Or.inl z) s3) (ag_mono (fun q i z => Or.inr z) r3)
    obtain ⟨R3, P1, e1, e2, e3, e4⟩ := ih (y + 1) fu (t + 1) (one (fun p => asP (a p) (b p)) SF SL (o (y / 3)) st) R2 (by omega) (by omega) (by omega) (by omega) (Bd_hr hB) (Ext_hr _ hE) r2 (RA_tr hRA (fun q i hq => ft.1 q i (by unfold fTau fChs fAsk; omega))) (fun p hp => by rw [ft.1 94 p (by unfold fTau fChs fAsk; omega)]; exact h94 p hp) (fun i hi => by rw [ft.1 96 i (by unfold fTau fChs fAsk; omega)]; exact h96 i hi)
    have hdv : nI y / nI 3 = nI (y / 3) := dv (by omega) (by omega) (by omega)
    have ha1 : fX11_asksOne n (nI j) (nI (v (o (y / 3)))) R = some (nI (if 3 < (hr st.1 (asP (a (o (y / 3))) (b (o (y / 3))))).1 then SL (o (y / 3)) else SF (o (y / 3))), R2) := by
      unfold fX11_asksOne
      simp (disch := omega) only [s1, s2, r1, ↓lt_d, eq_self, lN_add, i_l, wTn, wFa, wFb, wCT, wCF, mNe, mNe2, mLt, mLe, bp_s, bn_s, n_clampS, nI_1, nI_add, pk_sub, nI_mul, wrI_at, wrI_2, wrL_at, wrL_1, true_and, false_and, and_true, and_false, and_self, ↓reduceIte, Nat.reduceEqDiff, Nat.reduceAdd, Nat.reduceMul, Nat.add_zero, Nat.zero_add, reduceCtorEq, l_0, l_1, l_2, l_3, l_4, l_5, l_6, l_7, l_8, l_9, l_10, l_15, l_24, l_32, l_39, l_40, l_47, l_48, l_50, l_57, l_60, l_63, l_80, l_95, l_99, l_100, l_120, l_126, l_128, l_1000, l_9999, l_10000, L_0, L_1, L_2, L_3, L_4, L_5, L_7, L_9, L_15, L_40, L_50, L_99, L_127, L_9999, c_ltT, c_ltF, c_leT, c_leF, c_eqT, c_eqF, n_leF, n_ltF, c_gltT, c_gltF, c_ggtT, c_ggtF, false_or, or_false, or_self, true_or, or_true]
    have h4 := h94 (o (y / 3)) o2
    refine ⟨R3, P1, ?_, e2, e3, ag_tr ft e4⟩
    rw [fX11_ordersFrom_h11.eq_2]
    unfold one at e1
    simp (disch := omega) only [↓hdv, o1, h4, ha1, ↓lt_d, eq_self, lN_add, i_l, wTn, wFa, wFb, wCT, wCF, mNe, mNe2, mLt, mLe, bp_s, bn_s, n_clampS, nI_1, nI_add, pk_sub, nI_mul, wrI_at, wrI_2, wrL_at, wrL_1, true_and, false_and, and_true, and_false, and_self, ↓reduceIte, Nat.reduceEqDiff, Nat.reduceAdd, Nat.reduceMul, Nat.add_zero, Nat.zero_add, reduceCtorEq, l_0, l_1, l_2, l_3, l_4, l_5, l_6, l_7, l_8, l_9, l_10, l_15, l_24, l_32, l_39, l_40, l_47, l_48, l_50, l_57, l_60, l_63, l_80, l_95, l_99, l_100, l_120, l_126, l_128, l_1000, l_9999, l_10000, L_0, L_1, L_2, L_3, L_4, L_5, L_7, L_9, L_15, L_40, L_50, L_99, L_127, L_9999, c_ltT, c_ltF, c_leT, c_leF, c_eqT, c_eqF, n_leF, n_ltF, c_gltT, c_gltF, c_ggtT, c_ggtF, false_or, or_false, or_self, true_or, or_true]
    exact e1
