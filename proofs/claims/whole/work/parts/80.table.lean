/-! the pairs asked, as a plain table: how many, their keys, their counts -/
abbrev TB : Type := Nat × (Nat → Nat) × (Nat → Nat)
def udn (g : Nat → Nat) (i v : Nat) : Nat → Nat := fun k => if k = i then v else g k
theorem udn_s (g : Nat → Nat) (i v : Nat) : udn g i v i = v := if_pos rfl
theorem udn_n (g : Nat → Nat) {i k : Nat} (v : Nat) (h : k ≠ i) : udn g i v k = g k := if_neg h
def fndA (ky : Nat → Nat) (x : Nat) : Nat → Nat → Nat
  | 0, i => i
  | d + 1, i => if ky i = x then i else fndA ky x d (i + 1)
def fnd (P : TB) (x : Nat) : Nat := fndA P.2.1 x P.1 0
theorem fndA_sp (ky : Nat → Nat) (x : Nat) : ∀ d i, i ≤ fndA ky x d i ∧ fndA ky x d i ≤ i + d ∧ (∀ k, i ≤ k → k < fndA ky x d i → ky k ≠ x) ∧ (fndA ky x d i < i + d → ky (fndA ky x d i) = x) := by
  intro d
  induction d with
  | zero =>
    intro i
    unfold fndA
    exact ⟨Nat.le_refl _, Nat.le_refl _, fun k h1 h2 => by omega, fun h => by omega⟩
  | succ d ih =>
    intro i
    unfold fndA
    by_cases h : ky i = x
    · rw [if_pos h]
      exact ⟨Nat.le_refl _, by omega, fun k h1 h2 => by omega, fun _ => h⟩
    · rw [if_neg h]
      obtain ⟨h1, h2, h3, h4⟩ := ih (i + 1)
      refine ⟨by omega, by omega, fun k h5 h6 => ?_, fun h5 => h4 (by omega)⟩
      by_cases hk : k = i
      · subst hk
        exact h
      · exact h3 k (by omega) h6
theorem fnd_sp (P : TB) (x : Nat) : fnd P x ≤ P.1 ∧ (∀ k, k < fnd P x → P.2.1 k ≠ x) ∧ (fnd P x < P.1 → P.2.1 (fnd P x) = x) := by
  obtain ⟨h1, h2, h3, h4⟩ := fndA_sp P.2.1 x P.1 0
  rw [Nat.zero_add] at h2 h4
  exact ⟨h2, fun k hk => h3 k (Nat.zero_le _) hk, h4⟩
theorem fnd_eq {P : TB} {x f : Nat} (h1 : f ≤ P.1) (h2 : ∀ k, k < f → P.2.1 k ≠ x) (h3 : f < P.1 → P.2.1 f = x) : fnd P x = f := by
  obtain ⟨g1, g2, g3⟩ := fnd_sp P x
  by_cases z1 : fnd P x < f
  · exact absurd (g3 (by omega)) (h2 _ z1)
  · by_cases z2 : f < fnd P x
    · exact absurd (h3 (by omega)) (g2 _ z2)
    · omega
/-- one asking more: the count, and the table then -/
def hr (P : TB) (x : Nat) : Nat × TB :=
  if 60 ≤ fnd P x then (0, P)
  else if fnd P x = P.1 then (1, (P.1 + 1, udn P.2.1 (fnd P x) x, udn P.2.2 (fnd P x) 1))
  else (P.2.2 (fnd P x) + 1, (P.1, P.2.1, udn P.2.2 (fnd P x) (P.2.2 (fnd P x) + 1)))
def lrn (P : TB) (x : Nat) : Prop := fnd P x < P.1 ∧ 3 ≤ P.2.2 (fnd P x)
def Ext (P0 P : TB) : Prop := P0.1 ≤ P.1 ∧ P.1 ≤ 60 ∧ ∀ i, i < P0.1 → P.2.1 i = P0.2.1 i ∧ P0.2.2 i ≤ P.2.2 i
theorem Ext_rf {P : TB} (h : P.1 ≤ 60) : Ext P P := ⟨Nat.le_refl _, h, fun _ _ => ⟨rfl, Nat.le_refl _⟩⟩
theorem Ext_hr {P0 P : TB} (x : Nat) (h : Ext P0 P) : Ext P0 (hr P x).2 := by
  obtain ⟨h1, h2, h3⟩ := h
  obtain ⟨g1, g2, g3⟩ := fnd_sp P x
  unfold hr
  by_cases z1 : 60 ≤ fnd P x
  · rw [if_pos z1]
    exact ⟨h1, h2, h3⟩
  · rw [if_neg z1]
    by_cases z2 : fnd P x = P.1
    · rw [if_pos z2]
      refine ⟨Nat.le_succ_of_le h1, by show P.1 + 1 ≤ 60; omega, fun i hi => ?_⟩
      show udn P.2.1 (fnd P x) x i = _ ∧ _ ≤ udn P.2.2 (fnd P x) 1 i
      rw [udn_n _ _ (by omega), udn_n _ _ (by omega)]
      exact h3 i hi
    · rw [if_neg z2]
      refine ⟨h1, h2, fun i hi => ⟨(h3 i hi).1, ?_⟩⟩
      show _ ≤ udn P.2.2 (fnd P x) (P.2.2 (fnd P x) + 1) i
      have := (h3 i hi).2
      by_cases hif : i = fnd P x
      · rw [← hif, udn_s]
        omega
      · rw [udn_n _ _ hif]
        exact this
theorem hr_gt {P : TB} {x : Nat} (h : P.1 ≤ 60) : 3 < (hr P x).1 ↔ lrn P x := by
  obtain ⟨g1, g2, g3⟩ := fnd_sp P x
  unfold hr lrn
  by_cases z1 : 60 ≤ fnd P x
  · rw [if_pos z1]
    exact ⟨fun z => absurd z (show ¬ 3 < 0 by decide), fun z => by omega⟩
  · rw [if_neg z1]
    by_cases z2 : fnd P x = P.1
    · rw [if_pos z2]
      exact ⟨fun z => absurd z (show ¬ 3 < 1 by decide), fun z => by omega⟩
    · rw [if_neg z2]
      show 3 < P.2.2 (fnd P x) + 1 ↔ _
      omega
theorem lrn_up {P0 P : TB} {x : Nat} (h : Ext P0 P) (hl : lrn P0 x) : lrn P x := by
  obtain ⟨h1, h2, h3⟩ := h
  obtain ⟨g1, g2, g3⟩ := fnd_sp P0 x
  have e : fnd P x = fnd P0 x := fnd_eq (by omega) (fun k hk => by rw [(h3 k (by omega)).1]; exact g2 k hk) (fun _ => by rw [(h3 _ hl.1).1]; exact g3 hl.1)
  refine ⟨by rw [e]; have := hl.1; omega, ?_⟩
  rw [e]
  have := (h3 _ hl.1).2
  have := hl.2
  omega
/-- an asking of what is in the table already -/
theorem hr_in {P : TB} {x : Nat} (h : P.1 ≤ 60) (hf : fnd P x < P.1) : hr P x = (P.2.2 (fnd P x) + 1, (P.1, P.2.1, udn P.2.2 (fnd P x) (P.2.2 (fnd P x) + 1))) := by
  unfold hr
  rw [if_neg (by omega), if_neg (by omega)]
theorem lrn_3 {P0 P : TB} {x : Nat} (h0 : P0.1 ≤ 60) (h : Ext P0 P) (hl : lrn P x) : lrn (hr (hr (hr P0 x).2 x).2 x).2 x := by
  obtain ⟨h1, h2, h3⟩ := h
  obtain ⟨g1, g2, g3⟩ := fnd_sp P0 x
  obtain ⟨k1, k2, k3⟩ := fnd_sp P x
  -- the first asking: in the table then, with a count of 1 and more
  have step : ∀ Q : TB, Q.1 ≤ 60 → fnd Q x < Q.1 → (hr Q x).2.1 ≤ 60 ∧ fnd (hr Q x).2 x < (hr Q x).2.1 ∧ (hr Q x).2.2.2 (fnd (hr Q x).2 x) = Q.2.2 (fnd Q x) + 1 := by
    intro Q hQ hq
    obtain ⟨q1, q2, q3⟩ := fnd_sp Q x
    rw [hr_in hQ hq]
    have e : fnd (Q.1, Q.2.1, udn Q.2.2 (fnd Q x) (Q.2.2 (fnd Q x) + 1)) x = fnd Q x := rfl
    refine ⟨hQ, hq, ?_⟩
    show udn Q.2.2 (fnd Q x) (Q.2.2 (fnd Q x) + 1) (fnd (Q.1, Q.2.1, udn Q.2.2 (fnd Q x) (Q.2.2 (fnd Q x) + 1)) x) = _
    rw [e, udn_s]
  have first : (hr P0 x).2.1 ≤ 60 ∧ fnd (hr P0 x).2 x < (hr P0 x).2.1 ∧ 1 ≤ (hr P0 x).2.2.2 (fnd (hr P0 x).2 x) := by
    by_cases z : fnd P0 x < P0.1
    · obtain ⟨s1, s2, s3⟩ := step P0 h0 z
      exact ⟨s1, s2, by omega⟩
    · have hz : fnd P0 x = P0.1 := by omega
      have hlt : P0.1 < 60 := by
        have hk : P0.1 ≤ fnd P x := by
          apply Nat.le_of_not_lt
          intro w
          have := k3 hl.1
          rw [(h3 _ w).1] at this
          exact g2 _ (by omega) this
        have := hl.1
        omega
      have e : hr P0 x = (1, (P0.1 + 1, udn P0.2.1 P0.1 x, udn P0.2.2 P0.1 1)) := by
        unfold hr
        rw [if_neg (by omega), if_pos hz, hz]
      rw [e]
      have e2 : fnd (P0.1 + 1, udn P0.2.1 P0.1 x, udn P0.2.2 P0.1 1) x = P0.1 := by
        refine fnd_eq (Nat.le_succ _) (fun k hk => ?_) (fun _ => udn_s _ _ _)
        show udn P0.2.1 P0.1 x k ≠ x
        rw [udn_n _ _ (by omega)]
        exact g2 k (by omega)
      show P0.1 + 1 ≤ 60 ∧ fnd (P0.1 + 1, udn P0.2.1 P0.1 x, udn P0.2.2 P0.1 1) x < P0.1 + 1 ∧ 1 ≤ udn P0.2.2 P0.1 1 (fnd (P0.1 + 1, udn P0.2.1 P0.1 x, udn P0.2.2 P0.1 1) x)
      rw [e2, udn_s]
      omega
  obtain ⟨a1, a2, a3⟩ := first
  obtain ⟨b1, b2, b3⟩ := step _ a1 a2
  obtain ⟨c1, c2, c3⟩ := step _ b1 b2
  exact ⟨c2, by omega⟩
def Bd (t : Nat) (P : TB) : Prop := P.1 ≤ 60 ∧ ∀ i, i < P.1 → P.2.2 i ≤ t
theorem Bd_hr {t x : Nat} {P : TB} (h : Bd t P) : Bd (t + 1) (hr P x).2 := by
  obtain ⟨h1, h2⟩ := h
  obtain ⟨g1, g2, g3⟩ := fnd_sp P x
  unfold hr
  by_cases z1 : 60 ≤ fnd P x
  · rw [if_pos z1]
    exact ⟨h1, fun i hi => Nat.le_succ_of_le (h2 i hi)⟩
  · rw [if_neg z1]
    by_cases z2 : fnd P x = P.1
    · rw [if_pos z2]
      refine ⟨by show P.1 + 1 ≤ 60; omega, fun i hi => ?_⟩
      show udn P.2.2 (fnd P x) 1 i ≤ t + 1
      have hi : i < P.1 + 1 := hi
      by_cases hif : i = fnd P x
      · rw [hif, udn_s]
        omega
      · rw [udn_n _ _ hif]
        have := h2 i (by omega)
        omega
    · rw [if_neg z2]
      refine ⟨h1, fun i hi => ?_⟩
      show udn P.2.2 (fnd P x) (P.2.2 (fnd P x) + 1) i ≤ t + 1
      have hi : i < P.1 := hi
      have := h2 i hi
      by_cases hif : i = fnd P x
      · rw [← hif, udn_s]
        omega
      · rw [udn_n _ _ hif]
        omega
/-! the table on both sides -/
def RepC (jc : Nat) (P : TB) (C : Mm) : Prop := C.1 (hdc jc) 3 = nI P.1 ∧ ∀ i, i < P.1 → ∃ a b, 1 ≤ a ∧ a ≤ 99 ∧ 1 ≤ b ∧ b ≤ 99 ∧ P.2.1 i = asP a b ∧ C.1 (hdp jc) i = nI (a * 10000 + b) ∧ C.1 (hdk jc) i = nI (P.2.2 i)
def RepR (jr : Nat) (P : TB) (R : Mm) : Prop := R.1 81 jr = nI P.1 ∧ ∀ i, i < P.1 → P.2.1 i ≤ 9999 ∧ R.1 82 (60 * jr + i) = nI (P.2.1 i) ∧ R.1 83 (60 * jr + i) = nI (P.2.2 i)
theorem RepC_fr {jc : Nat} {P : TB} {C C' : Mm} (h : RepC jc P C) (hc : ∀ q i, q = hdc jc ∨ q = hdp jc ∨ q = hdk jc → C'.1 q i = C.1 q i) : RepC jc P C' := by
  refine ⟨by rw [hc _ _ (by omega)]; exact h.1, fun i hi => ?_⟩
  rw [hc (hdp jc) i (by omega), hc (hdk jc) i (by omega)]
  exact h.2 i hi
theorem RepR_fr {jr : Nat} {P : TB} {R R' : Mm} (h : RepR jr P R) (hr : ∀ q i, q = 81 ∨ q = 82 ∨ q = 83 → R'.1 q i = R.1 q i) : RepR jr P R' := by
  refine ⟨by rw [hr _ _ (by omega)]; exact h.1, fun i hi => ?_⟩
  rw [hr 82 _ (by omega), hr 83 _ (by omega)]
  exact h.2 i hi
theorem asP_i {a b a' b' : Nat} (ha : a ≤ 99) (hb : b ≤ 99) (ha' : a' ≤ 99) (hb' : b' ≤ 99) : asP a' b' = asP a b ↔ (a' = a ∧ b' = b) ∨ (a' = b ∧ b' = a) := by
  unfold asP
  split <;> split <;> omega
theorem asP_le {a b : Nat} (ha : a ≤ 99) (hb : b ≤ 99) : asP a b ≤ 9999 := by
  unfold asP
  split <;> omega
theorem placeC_h {n jc v a b : Nat} {P : TB} {C : Mm} (hv : isAB v a b) (ha : a ≤ 99) (hb : b ≤ 99) (hp : P.1 ≤ 60) (h : RepC jc P C) : ∀ d i fu, P.1 - i = d → i ≤ P.1 → d < fu → fX5_placeOf_h18 n jc fu (nI v) (nI (b * 10000 + a)) (nI i) C = some (nI (fndA P.2.1 (asP a b) d i)) := by
  obtain ⟨v1, v2, v3⟩ := ab_div hv
  have hvv := hv
  unfold isAB at hvv
  obtain ⟨e1, e3⟩ := h
  intro d
  induction d with
  | zero =>
    intro i fu hd hi hf
    obtain ⟨fu, rfl⟩ : ∃ f, fu = f + 1 := ⟨fu - 1, by omega⟩
    rw [fX5_placeOf_h18.eq_2]
    have hiP : i = P.1 := by omega
    show _ = some (nI i)
    rw [hiP]
    simp (disch := omega) only [e1, ↓lt_d, eq_self, lN_add, i_l, wTn, wFa, wFb, wCT, wCF, mNe, mNe2, mLt, mLe, bp_s, bn_s, n_clampS, nI_1, nI_add, pk_sub, nI_mul, wrI_at, wrI_2, wrL_at, wrL_1, true_and, false_and, and_true, and_false, and_self, ↓reduceIte, Nat.reduceEqDiff, Nat.reduceAdd, Nat.reduceMul, Nat.add_zero, Nat.zero_add, reduceCtorEq, l_0, l_1, l_2, l_3, l_4, l_5, l_6, l_7, l_8, l_9, l_10, l_15, l_24, l_32, l_39, l_40, l_47, l_48, l_50, l_57, l_60, l_63, l_80, l_95, l_99, l_100, l_120, l_126, l_128, l_1000, l_9999, l_10000, L_0, L_1, L_2, L_3, L_4, L_5, L_7, L_9, L_15, L_40, L_50, L_99, L_127, L_9999, c_ltT, c_ltF, c_leT, c_leF, c_eqT, c_eqF, n_leF, n_ltF, c_gltT, c_gltF, c_ggtT, c_ggtF, false_or, or_false, or_self, true_or, or_true]
  | succ d ih =>
    intro i fu hd hi hf
    obtain ⟨fu, rfl⟩ : ∃ f, fu = f + 1 := ⟨fu - 1, by omega⟩
    rw [fX5_placeOf_h18.eq_2]
    obtain ⟨a', b', p1, p2, p3, p4, p5, p6, p7⟩ := e3 i (by omega)
    have hi2 := asP_i ha hb p2 p4
    show _ = some (nI (if P.2.1 i = asP a b then i else fndA P.2.1 (asP a b) d (i + 1)))
    by_cases g1 : a' = a ∧ b' = b
    · rw [if_pos (show P.2.1 i = asP a b by rw [p5]; exact hi2.mpr (Or.inl g1))]
      obtain ⟨rfl, rfl⟩ := g1
      simp (disch := omega) only [e1, p6, ↓lt_d, eq_self, lN_add, i_l, wTn, wFa, wFb, wCT, wCF, mNe, mNe2, mLt, mLe, bp_s, bn_s, n_clampS, nI_1, nI_add, pk_sub, nI_mul, wrI_at, wrI_2, wrL_at, wrL_1, true_and, false_and, and_true, and_false, and_self, ↓reduceIte, Nat.reduceEqDiff, Nat.reduceAdd, Nat.reduceMul, Nat.add_zero, Nat.zero_add, reduceCtorEq, l_0, l_1, l_2, l_3, l_4, l_5, l_6, l_7, l_8, l_9, l_10, l_15, l_24, l_32, l_39, l_40, l_47, l_48, l_50, l_57, l_60, l_63, l_80, l_95, l_99, l_100, l_120, l_126, l_128, l_1000, l_9999, l_10000, L_0, L_1, L_2, L_3, L_4, L_5, L_7, L_9, L_15, L_40, L_50, L_99, L_127, L_9999, c_ltT, c_ltF, c_leT, c_leF, c_eqT, c_eqF, n_leF, n_ltF, c_gltT, c_gltF, c_ggtT, c_ggtF, false_or, or_false, or_self, true_or, or_true]
    · by_cases g2 : a' = b ∧ b' = a
      · rw [if_pos (show P.2.1 i = asP a b by rw [p5]; exact hi2.mpr (Or.inr g2))]
        obtain ⟨rfl, rfl⟩ := g2
        simp (disch := omega) only [e1, p6, ↓lt_d, eq_self, lN_add, i_l, wTn, wFa, wFb, wCT, wCF, mNe, mNe2, mLt, mLe, bp_s, bn_s, n_clampS, nI_1, nI_add, pk_sub, nI_mul, wrI_at, wrI_2, wrL_at, wrL_1, true_and, false_and, and_true, and_false, and_self, ↓reduceIte, Nat.reduceEqDiff, Nat.reduceAdd, Nat.reduceMul, Nat.add_zero, Nat.zero_add, reduceCtorEq, l_0, l_1, l_2, l_3, l_4, l_5, l_6, l_7, l_8, l_9, l_10, l_15, l_24, l_32, l_39, l_40, l_47, l_48, l_50, l_57, l_60, l_63, l_80, l_95, l_99, l_100, l_120, l_126, l_128, l_1000, l_9999, l_10000, L_0, L_1, L_2, L_3, L_4, L_5, L_7, L_9, L_15, L_40, L_50, L_99, L_127, L_9999, c_ltT, c_ltF, c_leT, c_leF, c_eqT, c_eqF, n_leF, n_ltF, c_gltT, c_gltF, c_ggtT, c_ggtF, false_or, or_false, or_self, true_or, or_true]
      · rw [if_neg (show ¬ P.2.1 i = asP a b by rw [p5]; exact fun z => (hi2.mp z).elim g1 g2)]
        have e := ih (i + 1) fu (by omega) (by omega) (by omega)
        simp (disch := omega) only [e1, p6, ↓lt_d, eq_self, lN_add, i_l, wTn, wFa, wFb, wCT, wCF, mNe, mNe2, mLt, mLe, bp_s, bn_s, n_clampS, nI_1, nI_add, pk_sub, nI_mul, wrI_at, wrI_2, wrL_at, wrL_1, true_and, false_and, and_true, and_false, and_self, ↓reduceIte, Nat.reduceEqDiff, Nat.reduceAdd, Nat.reduceMul, Nat.add_zero, Nat.zero_add, reduceCtorEq, l_0, l_1, l_2, l_3, l_4, l_5, l_6, l_7, l_8, l_9, l_10, l_15, l_24, l_32, l_39, l_40, l_47, l_48, l_50, l_57, l_60, l_63, l_80, l_95, l_99, l_100, l_120, l_126, l_128, l_1000, l_9999, l_10000, L_0, L_1, L_2, L_3, L_4, L_5, L_7, L_9, L_15, L_40, L_50, L_99, L_127, L_9999, c_ltT, c_ltF, c_leT, c_leF, c_eqT, c_eqF, n_leF, n_ltF, c_gltT, c_gltF, c_ggtT, c_ggtF, false_or, or_false, or_self, true_or, or_true]
        exact e
theorem placeC {n jc v a b : Nat} {P : TB} {C : Mm} (hn : 1000 ≤ n) (hv : isAB v a b) (ha : a ≤ 99) (hb : b ≤ 99) (hp : P.1 ≤ 60) (h : RepC jc P C) : fX5_placeOf n jc (nI v) C = some (nI (fnd P (asP a b))) := by
  obtain ⟨v1, v2, v3⟩ := ab_div hv
  have e := placeC_h (n := n) hv ha hb hp h P.1 0 n (by omega) (by omega) (by omega)
  unfold fX5_placeOf
  rw [div_1e4 v3, rem_1e4 v3, v1, v2, lt_d, l_10000, nI_mul, nI_add]
  exact e
theorem pairR_h {n jr v a b : Nat} {P : TB} {R : Mm} (hj : jr < 6) (hv : isAB v a b) (ha : a ≤ 99) (hb : b ≤ 99) (hp : P.1 ≤ 60) (h : RepR jr P R) : ∀ d i fu, P.1 - i = d → i ≤ P.1 → d < fu → fX11_pairAt_h2 n fu (nI jr) (nI v) (nI i) R = some (if fndA P.2.1 (asP a b) d i < P.1 then nI (fndA P.2.1 (asP a b) d i) else -nI 1) := by
  obtain ⟨e1, e3⟩ := h
  have hx := asP_le ha hb
  intro d
  induction d with
  | zero =>
    intro i fu hd hi hf
    obtain ⟨fu, rfl⟩ : ∃ f, fu = f + 1 := ⟨fu - 1, by omega⟩
    rw [fX11_pairAt_h2.eq_2]
    have hiP : i = P.1 := by omega
    show _ = some (if i < P.1 then nI i else -nI 1)
    rw [if_neg (show ¬ i < P.1 by omega), hiP]
    simp (disch := omega) only [e1, ↓lt_d, eq_self, lN_add, i_l, wTn, wFa, wFb, wCT, wCF, mNe, mNe2, mLt, mLe, bp_s, bn_s, n_clampS, nI_1, nI_add, pk_sub, nI_mul, wrI_at, wrI_2, wrL_at, wrL_1, true_and, false_and, and_true, and_false, and_self, ↓reduceIte, Nat.reduceEqDiff, Nat.reduceAdd, Nat.reduceMul, Nat.add_zero, Nat.zero_add, reduceCtorEq, l_0, l_1, l_2, l_3, l_4, l_5, l_6, l_7, l_8, l_9, l_10, l_15, l_24, l_32, l_39, l_40, l_47, l_48, l_50, l_57, l_60, l_63, l_80, l_95, l_99, l_100, l_120, l_126, l_128, l_1000, l_9999, l_10000, L_0, L_1, L_2, L_3, L_4, L_5, L_7, L_9, L_15, L_40, L_50, L_99, L_127, L_9999, c_ltT, c_ltF, c_leT, c_leF, c_eqT, c_eqF, n_leF, n_ltF, c_gltT, c_gltF, c_ggtT, c_ggtF, false_or, or_false, or_self, true_or, or_true]
  | succ d ih =>
    intro i fu hd hi hf
    obtain ⟨fu, rfl⟩ : ∃ f, fu = f + 1 := ⟨fu - 1, by omega⟩
    rw [fX11_pairAt_h2.eq_2]
    obtain ⟨p1, p2, p3⟩ := e3 i (by omega)
    have l_360 : (360 : Int32) = nI 360 := by decide
    show _ = some (if (if P.2.1 i = asP a b then i else fndA P.2.1 (asP a b) d (i + 1)) < P.1 then nI (if P.2.1 i = asP a b then i else fndA P.2.1 (asP a b) d (i + 1)) else -nI 1)
    by_cases g1 : P.2.1 i = asP a b
    · rw [if_pos g1, if_pos (show i < P.1 by omega)]
      simp (disch := omega) only [e1, p2, asPair_l hv, g1, ↓lt_d, eq_self, lN_add, i_l, wTn, wFa, wFb, wCT, wCF, mNe, mNe2, mLt, mLe, bp_s, bn_s, n_clampS, nI_1, nI_add, pk_sub, nI_mul, wrI_at, wrI_2, wrL_at, wrL_1, true_and, false_and, and_true, and_false, and_self, ↓reduceIte, Nat.reduceEqDiff, Nat.reduceAdd, Nat.reduceMul, Nat.add_zero, Nat.zero_add, reduceCtorEq, l_0, l_1, l_2, l_3, l_4, l_5, l_6, l_7, l_8, l_9, l_10, l_15, l_24, l_32, l_39, l_40, l_47, l_48, l_50, l_57, l_60, l_63, l_80, l_95, l_99, l_100, l_120, l_126, l_128, l_1000, l_9999, l_10000, L_0, L_1, L_2, L_3, L_4, L_5, L_7, L_9, L_15, L_40, L_50, L_99, L_127, L_9999, c_ltT, c_ltF, c_leT, c_leF, c_eqT, c_eqF, n_leF, n_ltF, c_gltT, c_gltF, c_ggtT, c_ggtF, false_or, or_false, or_self, true_or, or_true]
    · rw [if_neg g1]
      have e := ih (i + 1) fu (by omega) (by omega) (by omega)
      simp (disch := omega) only [e1, p2, asPair_l hv, ↓lt_d, eq_self, lN_add, i_l, wTn, wFa, wFb, wCT, wCF, mNe, mNe2, mLt, mLe, bp_s, bn_s, n_clampS, nI_1, nI_add, pk_sub, nI_mul, wrI_at, wrI_2, wrL_at, wrL_1, true_and, false_and, and_true, and_false, and_self, ↓reduceIte, Nat.reduceEqDiff, Nat.reduceAdd, Nat.reduceMul, Nat.add_zero, Nat.zero_add, reduceCtorEq, l_0, l_1, l_2, l_3, l_4, l_5, l_6, l_7, l_8, l_9, l_10, l_15, l_24, l_32, l_39, l_40, l_47, l_48, l_50, l_57, l_60, l_63, l_80, l_95, l_99, l_100, l_120, l_126, l_128, l_1000, l_9999, l_10000, L_0, L_1, L_2, L_3, L_4, L_5, L_7, L_9, L_15, L_40, L_50, L_99, L_127, L_9999, c_ltT, c_ltF, c_leT, c_leF, c_eqT, c_eqF, n_leF, n_ltF, c_gltT, c_gltF, c_ggtT, c_ggtF, false_or, or_false, or_self, true_or, or_true]
      exact e
theorem pairR {n jr v a b : Nat} {P : TB} {R : Mm} (hn : 1000 ≤ n) (hj : jr < 6) (hv : isAB v a b) (ha : a ≤ 99) (hb : b ≤ 99) (hp : P.1 ≤ 60) (h : RepR jr P R) : fX11_pairAt n (nI jr) (nI v) R = some (if fnd P (asP a b) < P.1 then nI (fnd P (asP a b)) else -nI 1) := pairR_h hj hv ha hb hp h P.1 0 n (by omega) (by omega) (by omega)
theorem small_T {v a b : Nat} (hv : isAB v a b) (ha : a ≤ 99) (hb : b ≤ 99) : fX10_canBeTaught (nI v) = nI 1 ∧ fX11_isSmall (nI v) = nI 1 := by
  rcases small_l hv with ⟨s1, s2, s3, s4⟩ | ⟨s1, -⟩
  · exact ⟨s3, s4⟩
  · exact absurd ⟨ha, hb⟩ s1
def kbit (a b tb : Nat) (P : TB) : Nat := if a ≤ tb ∧ b ≤ tb then 1 else if fnd P (asP a b) < P.1 then (if 3 ≤ P.2.2 (fnd P (asP a b)) then 1 else 0) else 0
theorem kbit_01 (a b tb : Nat) (P : TB) : kbit a b tb P = 0 ∨ kbit a b tb P = 1 := by
  unfold kbit
  split
  · exact Or.inr rfl
  · split
    · split
      · exact Or.inr rfl
      · exact Or.inl rfl
    · exact Or.inl rfl
theorem kbit_e {a b tb : Nat} {P Q : TB} (h : lrn P (asP a b) ↔ lrn Q (asP a b)) : kbit a b tb P = kbit a b tb Q := by
  unfold kbit
  unfold lrn at h
  by_cases g : a ≤ tb ∧ b ≤ tb
  · rw [if_pos g, if_pos g]
  · rw [if_neg g, if_neg g]
    split <;> split <;> (repeat' split) <;> first | rfl | omega
theorem knownC {t n jc v a b tb : Nat} {P : TB} {C : Mm} (hn : 1000 ≤ n) (ht : t < 2 ^ 30) (hv : isAB v a b) (ha : a ≤ 99) (hb : b ≤ 99) (hB : Bd t P) (h : RepC jc P C) (e3 : C.1 (hdn jc) 3 = nI tb) (htb : tb ≤ 99) : fX5_looksUp n jc (nI v) C = some (nI (kbit a b tb P)) := by
  obtain ⟨v1, v2, v3⟩ := ab_div hv
  have hda : nI v / nI 10000 = nI a := by rw [dv v3 (by decide) (by decide), v1]
  have hdb : irm (nI v) (nI 10000) = nI b := by rw [rm v3 (by decide) (by decide), v2]
  have hp := hB.1
  have hpl := placeC hn hv ha hb hp h
  obtain ⟨g1, g2, g3⟩ := fnd_sp P (asP a b)
  obtain ⟨e1, e2⟩ := h
  have b30 : ¬ (a ≤ tb ∧ b ≤ tb) → fX5_looksUp_b30 n jc (nI v) C = some (nI (kbit a b tb P)) := by
    intro hab
    unfold fX5_looksUp_b30 kbit
    rw [if_neg hab]
    by_cases hf : fnd P (asP a b) < P.1
    · rw [if_pos hf]
      obtain ⟨a', b', -, -, -, -, -, -, p7⟩ := e2 _ hf
      have hct := hB.2 _ hf
      by_cases h3 : 3 ≤ P.2.2 (fnd P (asP a b))
      · rw [if_pos h3]
        simp (disch := omega) only [hpl, e1, p7, ↓lt_d, eq_self, lN_add, i_l, wTn, wFa, wFb, wCT, wCF, mNe, mNe2, mLt, mLe, bp_s, bn_s, n_clampS, nI_1, nI_add, pk_sub, nI_mul, wrI_at, wrI_2, wrL_at, wrL_1, true_and, false_and, and_true, and_false, and_self, ↓reduceIte, Nat.reduceEqDiff, Nat.reduceAdd, Nat.reduceMul, Nat.add_zero, Nat.zero_add, reduceCtorEq, l_0, l_1, l_2, l_3, l_4, l_5, l_6, l_7, l_8, l_9, l_10, l_15, l_24, l_32, l_39, l_40, l_47, l_48, l_50, l_57, l_60, l_63, l_80, l_95, l_99, l_100, l_120, l_126, l_128, l_1000, l_9999, l_10000, L_0, L_1, L_2, L_3, L_4, L_5, L_7, L_9, L_15, L_40, L_50, L_99, L_127, L_9999, c_ltT, c_ltF, c_leT, c_leF, c_eqT, c_eqF, n_leF, n_ltF, c_gltT, c_gltF, c_ggtT, c_ggtF, false_or, or_false, or_self, true_or, or_true]
      · rw [if_neg h3]
        simp (disch := omega) only [hpl, e1, p7, ↓lt_d, eq_self, lN_add, i_l, wTn, wFa, wFb, wCT, wCF, mNe, mNe2, mLt, mLe, bp_s, bn_s, n_clampS, nI_1, nI_add, pk_sub, nI_mul, wrI_at, wrI_2, wrL_at, wrL_1, true_and, false_and, and_true, and_false, and_self, ↓reduceIte, Nat.reduceEqDiff, Nat.reduceAdd, Nat.reduceMul, Nat.add_zero, Nat.zero_add, reduceCtorEq, l_0, l_1, l_2, l_3, l_4, l_5, l_6, l_7, l_8, l_9, l_10, l_15, l_24, l_32, l_39, l_40, l_47, l_48, l_50, l_57, l_60, l_63, l_80, l_95, l_99, l_100, l_120, l_126, l_128, l_1000, l_9999, l_10000, L_0, L_1, L_2, L_3, L_4, L_5, L_7, L_9, L_15, L_40, L_50, L_99, L_127, L_9999, c_ltT, c_ltF, c_leT, c_leF, c_eqT, c_eqF, n_leF, n_ltF, c_gltT, c_gltF, c_ggtT, c_ggtF, false_or, or_false, or_self, true_or, or_true]
    · rw [if_neg hf]
      simp (disch := omega) only [hpl, e1, ↓lt_d, eq_self, lN_add, i_l, wTn, wFa, wFb, wCT, wCF, mNe, mNe2, mLt, mLe, bp_s, bn_s, n_clampS, nI_1, nI_add, pk_sub, nI_mul, wrI_at, wrI_2, wrL_at, wrL_1, true_and, false_and, and_true, and_false, and_self, ↓reduceIte, Nat.reduceEqDiff, Nat.reduceAdd, Nat.reduceMul, Nat.add_zero, Nat.zero_add, reduceCtorEq, l_0, l_1, l_2, l_3, l_4, l_5, l_6, l_7, l_8, l_9, l_10, l_15, l_24, l_32, l_39, l_40, l_47, l_48, l_50, l_57, l_60, l_63, l_80, l_95, l_99, l_100, l_120, l_126, l_128, l_1000, l_9999, l_10000, L_0, L_1, L_2, L_3, L_4, L_5, L_7, L_9, L_15, L_40, L_50, L_99, L_127, L_9999, c_ltT, c_ltF, c_leT, c_leF, c_eqT, c_eqF, n_leF, n_ltF, c_gltT, c_gltF, c_ggtT, c_ggtF, false_or, or_false, or_self, true_or, or_true]
  unfold fX5_looksUp
  by_cases h1 : tb < a
  · simp (disch := omega) only [e3, hda, ↓lt_d, eq_self, lN_add, i_l, wTn, wFa, wFb, wCT, wCF, mNe, mNe2, mLt, mLe, bp_s, bn_s, n_clampS, nI_1, nI_add, pk_sub, nI_mul, wrI_at, wrI_2, wrL_at, wrL_1, true_and, false_and, and_true, and_false, and_self, ↓reduceIte, Nat.reduceEqDiff, Nat.reduceAdd, Nat.reduceMul, Nat.add_zero, Nat.zero_add, reduceCtorEq, l_0, l_1, l_2, l_3, l_4, l_5, l_6, l_7, l_8, l_9, l_10, l_15, l_24, l_32, l_39, l_40, l_47, l_48, l_50, l_57, l_60, l_63, l_80, l_95, l_99, l_100, l_120, l_126, l_128, l_1000, l_9999, l_10000, L_0, L_1, L_2, L_3, L_4, L_5, L_7, L_9, L_15, L_40, L_50, L_99, L_127, L_9999, c_ltT, c_ltF, c_leT, c_leF, c_eqT, c_eqF, n_leF, n_ltF, c_gltT, c_gltF, c_ggtT, c_ggtF, false_or, or_false, or_self, true_or, or_true]
    exact b30 (by omega)
  · by_cases h2 : tb < b
    · simp (disch := omega) only [e3, hda, hdb, ↓lt_d, eq_self, lN_add, i_l, wTn, wFa, wFb, wCT, wCF, mNe, mNe2, mLt, mLe, bp_s, bn_s, n_clampS, nI_1, nI_add, pk_sub, nI_mul, wrI_at, wrI_2, wrL_at, wrL_1, true_and, false_and, and_true, and_false, and_self, ↓reduceIte, Nat.reduceEqDiff, Nat.reduceAdd, Nat.reduceMul, Nat.add_zero, Nat.zero_add, reduceCtorEq, l_0, l_1, l_2, l_3, l_4, l_5, l_6, l_7, l_8, l_9, l_10, l_15, l_24, l_32, l_39, l_40, l_47, l_48, l_50, l_57, l_60, l_63, l_80, l_95, l_99, l_100, l_120, l_126, l_128, l_1000, l_9999, l_10000, L_0, L_1, L_2, L_3, L_4, L_5, L_7, L_9, L_15, L_40, L_50, L_99, L_127, L_9999, c_ltT, c_ltF, c_leT, c_leF, c_eqT, c_eqF, n_leF, n_ltF, c_gltT, c_gltF, c_ggtT, c_ggtF, false_or, or_false, or_self, true_or, or_true]
      exact b30 (by omega)
    · unfold kbit
      rw [if_pos (show a ≤ tb ∧ b ≤ tb by omega)]
      simp (disch := omega) only [e3, hda, hdb, ↓lt_d, eq_self, lN_add, i_l, wTn, wFa, wFb, wCT, wCF, mNe, mNe2, mLt, mLe, bp_s, bn_s, n_clampS, nI_1, nI_add, pk_sub, nI_mul, wrI_at, wrI_2, wrL_at, wrL_1, true_and, false_and, and_true, and_false, and_self, ↓reduceIte, Nat.reduceEqDiff, Nat.reduceAdd, Nat.reduceMul, Nat.add_zero, Nat.zero_add, reduceCtorEq, l_0, l_1, l_2, l_3, l_4, l_5, l_6, l_7, l_8, l_9, l_10, l_15, l_24, l_32, l_39, l_40, l_47, l_48, l_50, l_57, l_60, l_63, l_80, l_95, l_99, l_100, l_120, l_126, l_128, l_1000, l_9999, l_10000, L_0, L_1, L_2, L_3, L_4, L_5, L_7, L_9, L_15, L_40, L_50, L_99, L_127, L_9999, c_ltT, c_ltF, c_leT, c_leF, c_eqT, c_eqF, n_leF, n_ltF, c_gltT, c_gltF, c_ggtT, c_ggtF, false_or, or_false, or_self, true_or, or_true]
theorem knownR {t n jr v a b tb : Nat} {P : TB} {R : Mm} (hn : 1000 ≤ n) (ht : t < 2 ^ 30) (hj : jr < 6) (hv : isAB v a b) (ha : a ≤ 99) (hb : b ≤ 99) (hB : Bd t P) (h : RepR jr P R) (htb : tb ≤ 99) : fX11_isKnown n (nI a) (nI b) (lay jr tb R) = some (nI (kbit a b tb P)) := by
  have hvv := hv
  unfold isAB at hvv
  have hv' : 10000 * a + b = v := by omega
  have hp := hB.1
  have h' : RepR jr P (lay jr tb R) := RepR_fr h (fun q i hq => lay_fr (by omega))
  have hpl := pairR hn hj hv ha hb hp h'
  have r30 : (lay jr tb R).1 72 30 = nI jr := by unfold lay; simp (disch := omega) only [↓lt_d, eq_self, lN_add, i_l, wTn, wFa, wFb, wCT, wCF, mNe, mNe2, mLt, mLe, bp_s, bn_s, n_clampS, nI_1, nI_add, pk_sub, nI_mul, wrI_at, wrI_2, wrL_at, wrL_1, true_and, false_and, and_true, and_false, and_self, ↓reduceIte, Nat.reduceEqDiff, Nat.reduceAdd, Nat.reduceMul, Nat.add_zero, Nat.zero_add, reduceCtorEq, l_0, l_1, l_2, l_3, l_4, l_5, l_6, l_7, l_8, l_9, l_10, l_15, l_24, l_32, l_39, l_40, l_47, l_48, l_50, l_57, l_60, l_63, l_80, l_95, l_99, l_100, l_120, l_126, l_128, l_1000, l_9999, l_10000, L_0, L_1, L_2, L_3, L_4, L_5, L_7, L_9, L_15, L_40, L_50, L_99, L_127, L_9999, c_ltT, c_ltF, c_leT, c_leF, c_eqT, c_eqF, n_leF, n_ltF, c_gltT, c_gltF, c_ggtT, c_ggtF, false_or, or_false, or_self, true_or, or_true]
  have r31 : (lay jr tb R).1 72 31 = nI tb := by unfold lay; simp (disch := omega) only [↓lt_d, eq_self, lN_add, i_l, wTn, wFa, wFb, wCT, wCF, mNe, mNe2, mLt, mLe, bp_s, bn_s, n_clampS, nI_1, nI_add, pk_sub, nI_mul, wrI_at, wrI_2, wrL_at, wrL_1, true_and, false_and, and_true, and_false, and_self, ↓reduceIte, Nat.reduceEqDiff, Nat.reduceAdd, Nat.reduceMul, Nat.add_zero, Nat.zero_add, reduceCtorEq, l_0, l_1, l_2, l_3, l_4, l_5, l_6, l_7, l_8, l_9, l_10, l_15, l_24, l_32, l_39, l_40, l_47, l_48, l_50, l_57, l_60, l_63, l_80, l_95, l_99, l_100, l_120, l_126, l_128, l_1000, l_9999, l_10000, L_0, L_1, L_2, L_3, L_4, L_5, L_7, L_9, L_15, L_40, L_50, L_99, L_127, L_9999, c_ltT, c_ltF, c_leT, c_leF, c_eqT, c_eqF, n_leF, n_ltF, c_gltT, c_gltF, c_ggtT, c_ggtF, false_or, or_false, or_self, true_or, or_true]
  have hs := (small_T hv ha hb).2
  obtain ⟨g1, g2, g3⟩ := fnd_sp P (asP a b)
  have b16 : ¬ (a ≤ tb ∧ b ≤ tb) → fX11_isKnown_b16 n (nI a) (nI b) (lay jr tb R) = some (nI (kbit a b tb P)) := by
    intro hab
    have l_360 : (360 : Int32) = nI 360 := by decide
    unfold fX11_isKnown_b16 fX11_isLearnt fX11_isLearnt_b17 kbit
    rw [if_neg hab]
    by_cases hf : fnd P (asP a b) < P.1
    · rw [if_pos hf] at hpl
      rw [if_pos hf]
      obtain ⟨-, -, p7⟩ := h'.2 _ hf
      have hct := hB.2 _ hf
      by_cases h3 : 3 ≤ P.2.2 (fnd P (asP a b))
      · rw [if_pos h3]
        simp (disch := omega) only [r30, hv', hs, hpl, p7, ↓lt_d, eq_self, lN_add, i_l, wTn, wFa, wFb, wCT, wCF, mNe, mNe2, mLt, mLe, bp_s, bn_s, n_clampS, nI_1, nI_add, pk_sub, nI_mul, wrI_at, wrI_2, wrL_at, wrL_1, true_and, false_and, and_true, and_false, and_self, ↓reduceIte, Nat.reduceEqDiff, Nat.reduceAdd, Nat.reduceMul, Nat.add_zero, Nat.zero_add, reduceCtorEq, l_0, l_1, l_2, l_3, l_4, l_5, l_6, l_7, l_8, l_9, l_10, l_15, l_24, l_32, l_39, l_40, l_47, l_48, l_50, l_57, l_60, l_63, l_80, l_95, l_99, l_100, l_120, l_126, l_128, l_1000, l_9999, l_10000, L_0, L_1, L_2, L_3, L_4, L_5, L_7, L_9, L_15, L_40, L_50, L_99, L_127, L_9999, c_ltT, c_ltF, c_leT, c_leF, c_eqT, c_eqF, n_leF, n_ltF, c_gltT, c_gltF, c_ggtT, c_ggtF, false_or, or_false, or_self, true_or, or_true]
      · rw [if_neg h3]
        simp (disch := omega) only [r30, hv', hs, hpl, p7, ↓lt_d, eq_self, lN_add, i_l, wTn, wFa, wFb, wCT, wCF, mNe, mNe2, mLt, mLe, bp_s, bn_s, n_clampS, nI_1, nI_add, pk_sub, nI_mul, wrI_at, wrI_2, wrL_at, wrL_1, true_and, false_and, and_true, and_false, and_self, ↓reduceIte, Nat.reduceEqDiff, Nat.reduceAdd, Nat.reduceMul, Nat.add_zero, Nat.zero_add, reduceCtorEq, l_0, l_1, l_2, l_3, l_4, l_5, l_6, l_7, l_8, l_9, l_10, l_15, l_24, l_32, l_39, l_40, l_47, l_48, l_50, l_57, l_60, l_63, l_80, l_95, l_99, l_100, l_120, l_126, l_128, l_1000, l_9999, l_10000, L_0, L_1, L_2, L_3, L_4, L_5, L_7, L_9, L_15, L_40, L_50, L_99, L_127, L_9999, c_ltT, c_ltF, c_leT, c_leF, c_eqT, c_eqF, n_leF, n_ltF, c_gltT, c_gltF, c_ggtT, c_ggtF, false_or, or_false, or_self, true_or, or_true]
    · rw [if_neg hf] at hpl
      rw [if_neg hf]
      simp (disch := omega) only [r30, hv', hs, hpl, ↓lt_d, eq_self, lN_add, i_l, wTn, wFa, wFb, wCT, wCF, mNe, mNe2, mLt, mLe, bp_s, bn_s, n_clampS, nI_1, nI_add, pk_sub, nI_mul, wrI_at, wrI_2, wrL_at, wrL_1, true_and, false_and, and_true, and_false, and_self, ↓reduceIte, Nat.reduceEqDiff, Nat.reduceAdd, Nat.reduceMul, Nat.add_zero, Nat.zero_add, reduceCtorEq, l_0, l_1, l_2, l_3, l_4, l_5, l_6, l_7, l_8, l_9, l_10, l_15, l_24, l_32, l_39, l_40, l_47, l_48, l_50, l_57, l_60, l_63, l_80, l_95, l_99, l_100, l_120, l_126, l_128, l_1000, l_9999, l_10000, L_0, L_1, L_2, L_3, L_4, L_5, L_7, L_9, L_15, L_40, L_50, L_99, L_127, L_9999, c_ltT, c_ltF, c_leT, c_leF, c_eqT, c_eqF, n_leF, n_ltF, c_gltT, c_gltF, c_ggtT, c_ggtF, false_or, or_false, or_self, true_or, or_true]
  unfold fX11_isKnown
  by_cases h1 : tb < a
  · simp (disch := omega) only [r31, ↓lt_d, eq_self, lN_add, i_l, wTn, wFa, wFb, wCT, wCF, mNe, mNe2, mLt, mLe, bp_s, bn_s, n_clampS, nI_1, nI_add, pk_sub, nI_mul, wrI_at, wrI_2, wrL_at, wrL_1, true_and, false_and, and_true, and_false, and_self, ↓reduceIte, Nat.reduceEqDiff, Nat.reduceAdd, Nat.reduceMul, Nat.add_zero, Nat.zero_add, reduceCtorEq, l_0, l_1, l_2, l_3, l_4, l_5, l_6, l_7, l_8, l_9, l_10, l_15, l_24, l_32, l_39, l_40, l_47, l_48, l_50, l_57, l_60, l_63, l_80, l_95, l_99, l_100, l_120, l_126, l_128, l_1000, l_9999, l_10000, L_0, L_1, L_2, L_3, L_4, L_5, L_7, L_9, L_15, L_40, L_50, L_99, L_127, L_9999, c_ltT, c_ltF, c_leT, c_leF, c_eqT, c_eqF, n_leF, n_ltF, c_gltT, c_gltF, c_ggtT, c_ggtF, false_or, or_false, or_self, true_or, or_true]
    exact b16 (by omega)
  · by_cases h2 : tb < b
    · simp (disch := omega) only [r31, ↓lt_d, eq_self, lN_add, i_l, wTn, wFa, wFb, wCT, wCF, mNe, mNe2, mLt, mLe, bp_s, bn_s, n_clampS, nI_1, nI_add, pk_sub, nI_mul, wrI_at, wrI_2, wrL_at, wrL_1, true_and, false_and, and_true, and_false, and_self, ↓reduceIte, Nat.reduceEqDiff, Nat.reduceAdd, Nat.reduceMul, Nat.add_zero, Nat.zero_add, reduceCtorEq, l_0, l_1, l_2, l_3, l_4, l_5, l_6, l_7, l_8, l_9, l_10, l_15, l_24, l_32, l_39, l_40, l_47, l_48, l_50, l_57, l_60, l_63, l_80, l_95, l_99, l_100, l_120, l_126, l_128, l_1000, l_9999, l_10000, L_0, L_1, L_2, L_3, L_4, L_5, L_7, L_9, L_15, L_40, L_50, L_99, L_127, L_9999, c_ltT, c_ltF, c_leT, c_leF, c_eqT, c_eqF, n_leF, n_ltF, c_gltT, c_gltF, c_ggtT, c_ggtF, false_or, or_false, or_self, true_or, or_true]
      exact b16 (by omega)
    · unfold kbit
      rw [if_pos (show a ≤ tb ∧ b ≤ tb by omega)]
      simp (disch := omega) only [r31, ↓lt_d, eq_self, lN_add, i_l, wTn, wFa, wFb, wCT, wCF, mNe, mNe2, mLt, mLe, bp_s, bn_s, n_clampS, nI_1, nI_add, pk_sub, nI_mul, wrI_at, wrI_2, wrL_at, wrL_1, true_and, false_and, and_true, and_false, and_self, ↓reduceIte, Nat.reduceEqDiff, Nat.reduceAdd, Nat.reduceMul, Nat.add_zero, Nat.zero_add, reduceCtorEq, l_0, l_1, l_2, l_3, l_4, l_5, l_6, l_7, l_8, l_9, l_10, l_15, l_24, l_32, l_39, l_40, l_47, l_48, l_50, l_57, l_60, l_63, l_80, l_95, l_99, l_100, l_120, l_126, l_128, l_1000, l_9999, l_10000, L_0, L_1, L_2, L_3, L_4, L_5, L_7, L_9, L_15, L_40, L_50, L_99, L_127, L_9999, c_ltT, c_ltF, c_leT, c_leF, c_eqT, c_eqF, n_leF, n_ltF, c_gltT, c_gltF, c_ggtT, c_ggtF, false_or, or_false, or_self, true_or, or_true]
