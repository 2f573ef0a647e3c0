/-! plain numbers: ints that are small, by nI -/
theorem l_0 : (0 : Int32) = nI 0 := by decide
theorem l_1 : (1 : Int32) = nI 1 := by decide
theorem l_2 : (2 : Int32) = nI 2 := by decide
theorem l_3 : (3 : Int32) = nI 3 := by decide
theorem l_4 : (4 : Int32) = nI 4 := by decide
theorem l_5 : (5 : Int32) = nI 5 := by decide
theorem l_6 : (6 : Int32) = nI 6 := by decide
theorem l_7 : (7 : Int32) = nI 7 := by decide
theorem l_8 : (8 : Int32) = nI 8 := by decide
theorem l_9 : (9 : Int32) = nI 9 := by decide
theorem l_10 : (10 : Int32) = nI 10 := by decide
theorem l_15 : (15 : Int32) = nI 15 := by decide
theorem l_24 : (24 : Int32) = nI 24 := by decide
theorem l_32 : (32 : Int32) = nI 32 := by decide
theorem l_39 : (39 : Int32) = nI 39 := by decide
theorem l_40 : (40 : Int32) = nI 40 := by decide
theorem l_47 : (47 : Int32) = nI 47 := by decide
theorem l_48 : (48 : Int32) = nI 48 := by decide
theorem l_50 : (50 : Int32) = nI 50 := by decide
theorem l_57 : (57 : Int32) = nI 57 := by decide
theorem l_60 : (60 : Int32) = nI 60 := by decide
theorem l_63 : (63 : Int32) = nI 63 := by decide
theorem l_80 : (80 : Int32) = nI 80 := by decide
theorem l_95 : (95 : Int32) = nI 95 := by decide
theorem l_99 : (99 : Int32) = nI 99 := by decide
theorem l_100 : (100 : Int32) = nI 100 := by decide
theorem l_120 : (120 : Int32) = nI 120 := by decide
theorem l_126 : (126 : Int32) = nI 126 := by decide
theorem l_128 : (128 : Int32) = nI 128 := by decide
theorem l_1000 : (1000 : Int32) = nI 1000 := by decide
theorem l_9999 : (9999 : Int32) = nI 9999 := by decide
theorem l_10000 : (10000 : Int32) = nI 10000 := by decide
/-- an index within: the check falls away -/
theorem ic {α : Type} {k N : Nat} {a b : α} {hd : Decidable (nI k < nI 0 ∨ N ≤ k)} (h : k < N) (hN : N < 2 ^ 31) : (if nI k < nI 0 ∨ N ≤ k then a else b) = b := if_neg (fun z => z.elim (fun z => by rw [nI_ltI (by omega) (by omega)] at z; omega) (fun z => by omega))
theorem n_clampS {n : Nat} (h : n < 2 ^ 31) : Int32.toNatClampNeg (nI n) = n := nI_clamp h
theorem i_leT {α : Type} {a b : Nat} {x y : α} {hd : Decidable (nI a ≤ nI b)} (h : a ≤ b) (hb : b < 2 ^ 31) : (if nI a ≤ nI b then x else y) = x := if_pos ((nI_leI (by omega) hb).mpr h)
theorem i_leF {α : Type} {a b : Nat} {x y : α} {hd : Decidable (nI a ≤ nI b)} (h : b < a) (ha : a < 2 ^ 31) : (if nI a ≤ nI b then x else y) = y := if_neg (fun z => by rw [nI_leI ha (by omega)] at z; omega)
theorem i_ltT {α : Type} {a b : Nat} {x y : α} {hd : Decidable (nI a < nI b)} (h : a < b) (hb : b < 2 ^ 31) : (if nI a < nI b then x else y) = x := if_pos ((nI_ltI (by omega) hb).mpr h)
theorem i_ltF {α : Type} {a b : Nat} {x y : α} {hd : Decidable (nI a < nI b)} (h : b ≤ a) (ha : a < 2 ^ 31) : (if nI a < nI b then x else y) = y := if_neg (fun z => by rw [nI_ltI ha (by omega)] at z; omega)
theorem i_eqT {α : Type} {a b : Nat} {x y : α} {hd : Decidable (nI a = nI b)} (h : a = b) : (if nI a = nI b then x else y) = x := by subst h; exact if_pos rfl
theorem i_eqF {α : Type} {a b : Nat} {x y : α} {hd : Decidable (nI a = nI b)} (h : a ≠ b) (ha : a < 2 ^ 31) (hb : b < 2 ^ 31) : (if nI a = nI b then x else y) = y := if_neg (fun z => by rw [nI_eq ha hb] at z; omega)
theorem nI_mul (a b : Nat) : nI a * nI b = nI (a * b) := pk_mul a b
theorem wrI_at {C : Mm} {q i : Nat} {v : Int32} {q' i' : Nat} : (wrI C q i v).1 q' i' = if q' = q ∧ i' = i then v else C.1 q' i' := rfl
theorem wrL_at {C : Mm} {q i : Nat} {v : Int64} {q' i' : Nat} : (wrL C q i v).2 q' i' = if q' = q ∧ i' = i then v else C.2 q' i' := rfl
theorem wrI_2 {C : Mm} {q i : Nat} {v : Int32} : (wrI C q i v).2 = C.2 := rfl
theorem wrL_1 {C : Mm} {q i : Nat} {v : Int64} : (wrL C q i v).1 = C.1 := rfl
theorem lt_d {α β : Type} (a : α) (f : α → β) : lt' a f = f a := rfl
theorem bp_s {α β γ : Type} (a : α) (b : β) (f : α → β → Option γ) : bp' (some (a, b)) f = f a b := rfl
theorem bn_s {α β : Type} (a : α) (f : α → Option β) : Option.bind (some a) f = f a := rfl
/-- any int: below 0, or a small one -/
theorem i_cases (x : Int32) : x < 0 ∨ ∃ a : Nat, a < 2 ^ 31 ∧ x = nI a := by
  by_cases h : x < 0
  · exact Or.inl h
  · exact Or.inr (nI_of h)
theorem neg_lt {x : Int32} (h : x < 0) : x.toInt < 0 := by
  have := Int32.lt_iff_toInt_lt.mp h
  simpa using this
/-- what is below 0 is below every small one -/
theorem ng_le {x : Int32} {a : Nat} (h : x < 0) (ha : a < 2 ^ 31) : ¬ nI a ≤ x := by
  intro z
  have h1 := neg_lt h
  have h2 := Int32.le_iff_toInt_le.mp z
  rw [nI_toInt ha] at h2
  omega
theorem ng_eq {x : Int32} {a : Nat} (h : x < 0) (ha : a < 2 ^ 31) : ¬ x = nI a := by
  intro z
  subst z
  exact ng_le h ha (Int32.le_refl _)
/-! the reference's within, over longs -/
theorem lgc_lt (x y : Int64) : lg_cmp x y < 0 ↔ x < y := by
  unfold lg_cmp
  by_cases h : x > y
  · rw [if_pos h]
    exact ⟨fun z => absurd z (by decide), fun z => absurd z (fun w => by have := Int64.lt_iff_toInt_lt.mp w; have := Int64.lt_iff_toInt_lt.mp h; omega)⟩
  · rw [if_neg h]
    by_cases h2 : x = y
    · subst h2
      rw [if_pos rfl]
      exact ⟨fun z => absurd z (by decide), fun z => absurd z h⟩
    · rw [if_neg h2]
      refine ⟨fun _ => ?_, fun _ => by decide⟩
      apply Int64.lt_iff_toInt_lt.mpr
      have h3 : ¬ y.toInt < x.toInt := fun z => h (Int64.lt_iff_toInt_lt.mpr z)
      have h4 : x.toInt ≠ y.toInt := fun z => h2 (Int64.toInt_inj.mp z)
      omega
theorem lgc_gt (x y : Int64) : 0 < lg_cmp x y ↔ y < x := by
  unfold lg_cmp
  by_cases h : x > y
  · rw [if_pos h]
    exact ⟨fun _ => h, fun _ => by decide⟩
  · rw [if_neg h]
    by_cases h2 : x = y
    · rw [if_pos h2]
      exact ⟨fun z => absurd z (by decide), fun z => absurd z h⟩
    · rw [if_neg h2]
      exact ⟨fun z => absurd z (by decide), fun z => absurd z h⟩
theorem lgc_eq (x y : Int64) : lg_cmp x y = 0 ↔ x = y := by
  unfold lg_cmp
  by_cases h : x > y
  · rw [if_pos h]
    refine ⟨fun z => absurd z (by decide), fun z => ?_⟩
    subst z
    exact absurd (Int64.lt_iff_toInt_lt.mp h) (by omega)
  · rw [if_neg h]
    by_cases h2 : x = y
    · rw [if_pos h2]
      exact ⟨fun _ => h2, fun _ => rfl⟩
    · rw [if_neg h2]
      exact ⟨fun z => absurd z (by decide), fun z => absurd z h2⟩
theorem wi (x y z : Int64) : fX11_within x y z = if y ≤ x ∧ x ≤ z then 1 else 0 := by
  unfold fX11_within
  have e1 := lgc_lt x y
  have e2 := lgc_gt x z
  have f1 : y ≤ x ↔ ¬ x < y := by
    rw [Int64.le_iff_toInt_le, Int64.lt_iff_toInt_lt]
    omega
  have f2 : x ≤ z ↔ ¬ z < x := by
    rw [Int64.le_iff_toInt_le, Int64.lt_iff_toInt_lt]
    omega
  by_cases h : x < y
  · rw [if_pos (e1.mpr h), if_neg (fun w => f1.mp w.1 h)]
  · rw [if_neg (fun w => h (e1.mp w))]
    by_cases h2 : z < x
    · rw [if_pos (e2.mpr h2), if_neg (fun w => f2.mp w.2 h2)]
    · rw [if_neg (fun w => h2 (e2.mp w)), if_pos ⟨f1.mpr h, f2.mpr h2⟩]
theorem i64_toInt (x : Int32) : (Int32.toInt64 x).toInt = x.toInt := Int32.toInt_toInt64 x
/-- within, of an int, by whole numbers -/
theorem wz (x : Int32) (y z : Int64) : fX11_within (Int32.toInt64 x) y z = if y.toInt ≤ x.toInt ∧ x.toInt ≤ z.toInt then 1 else 0 := by
  rw [wi]
  have e : (y ≤ Int32.toInt64 x ∧ Int32.toInt64 x ≤ z) ↔ (y.toInt ≤ x.toInt ∧ x.toInt ≤ z.toInt) := by
    rw [Int64.le_iff_toInt_le, Int64.le_iff_toInt_le, i64_toInt]
  by_cases h : y.toInt ≤ x.toInt ∧ x.toInt ≤ z.toInt
  · rw [if_pos h, if_pos (e.mpr h)]
  · rw [if_neg h, if_neg (fun w => h (e.mp w))]
theorem L_0 : (0 : Int64) = lN 0 := by decide
theorem L_1 : (1 : Int64) = lN 1 := by decide
theorem L_2 : (2 : Int64) = lN 2 := by decide
theorem L_3 : (3 : Int64) = lN 3 := by decide
theorem L_4 : (4 : Int64) = lN 4 := by decide
theorem L_5 : (5 : Int64) = lN 5 := by decide
theorem L_7 : (7 : Int64) = lN 7 := by decide
theorem L_9 : (9 : Int64) = lN 9 := by decide
theorem L_15 : (15 : Int64) = lN 15 := by decide
theorem L_40 : (40 : Int64) = lN 40 := by decide
theorem L_50 : (50 : Int64) = lN 50 := by decide
theorem L_99 : (99 : Int64) = lN 99 := by decide
theorem L_127 : (127 : Int64) = lN 127 := by decide
theorem L_9999 : (9999 : Int64) = lN 9999 := by decide
theorem lN_ti {a : Nat} (h : a < 2 ^ 31) : (lN a).toInt = a := lN_toInt h
theorem wTn {a lo hi : Nat} (h1 : lo ≤ a) (h2 : a ≤ hi) (hh : hi < 2 ^ 31) : fX11_within (lN a) (lN lo) (lN hi) = nI 1 := by
  rw [← nI_l (show a < 2 ^ 31 by omega), wz, nI_toInt (by omega), lN_toInt (by omega), lN_toInt (by omega), if_pos (by omega)]
  rfl
theorem wFa {a lo hi : Nat} (h1 : a < lo) (hl : lo < 2 ^ 31) (hh : hi < 2 ^ 31) : fX11_within (lN a) (lN lo) (lN hi) = nI 0 := by
  rw [← nI_l (show a < 2 ^ 31 by omega), wz, nI_toInt (by omega), lN_toInt (by omega), lN_toInt (by omega), if_neg (by omega)]
  rfl
theorem wFb {a lo hi : Nat} (h1 : hi < a) (ha : a < 2 ^ 31) (hl : lo < 2 ^ 31) : fX11_within (lN a) (lN lo) (lN hi) = nI 0 := by
  rw [← nI_l (show a < 2 ^ 31 by omega), wz, nI_toInt (by omega), lN_toInt (by omega), lN_toInt (by omega), if_neg (by omega)]
  rfl
theorem wFn {x : Int32} {lo : Nat} {z : Int64} (hx : x < 0) (hl : lo < 2 ^ 31) : fX11_within (Int32.toInt64 x) (lN lo) z = nI 0 := by
  have := neg_lt hx
  rw [wz, lN_toInt hl, if_neg (fun w => by omega)]
  rfl
theorem pm1 {m : Nat} (hm : m < 2 ^ 31) : (Int32.toInt64 (nI m - nI 1)).toInt = (m : Int) - 1 := by
  rw [i64_toInt]
  cases m with
  | zero => rfl
  | succ m =>
    rw [show nI (m + 1) - nI 1 = nI m from nI_pred m, nI_toInt (by omega)]
    omega
theorem wCT {a m : Nat} (h : a < m) (hm : m < 2 ^ 31) : fX11_within (lN a) (lN 0) (Int32.toInt64 (nI m - nI 1)) = nI 1 := by
  rw [← nI_l (show a < 2 ^ 31 by omega), wz, pm1 hm, nI_toInt (by omega), lN_toInt (by decide), if_pos (by omega)]
  rfl
theorem wCF {a m : Nat} (h : m ≤ a) (ha : a < 2 ^ 31) : fX11_within (lN a) (lN 0) (Int32.toInt64 (nI m - nI 1)) = nI 0 := by
  rw [← nI_l (show a < 2 ^ 31 by omega), wz, pm1 (by omega), nI_toInt (by omega), lN_toInt (by decide), if_neg (by omega)]
  rfl
theorem i_l {n : Nat} (h : n < 2 ^ 31) : Int32.toInt64 (nI n) = lN n := nI_l h
theorem lt0 {x : Int32} (h : x < 0) : x < nI 0 := h
theorem nNe {x : Int32} (h : x < 0) {a : Nat} (ha : a < 2 ^ 31) : (x = nI a) = False := eq_false (ng_eq h ha)
theorem nLe {x : Int32} (h : x < 0) {a : Nat} (ha : a < 2 ^ 31) : (nI a ≤ x) = False := eq_false (ng_le h ha)
theorem mNe {a : Nat} (ha : a < 2 ^ 31) : (nI a = -nI 1) = False := eq_false (fun z => ng_eq (show -nI 1 < 0 by decide) ha z.symm)
theorem mNe2 {a : Nat} (ha : a < 2 ^ 31) : (-nI 1 = nI a) = False := eq_false (fun z => ng_eq (show -nI 1 < 0 by decide) ha z)
theorem mLt {a : Nat} (ha : a < 2 ^ 31) : (-nI 1 < nI a) = True := eq_true (by
  apply Int32.lt_iff_toInt_lt.mpr
  rw [nI_toInt ha, show (-nI 1).toInt = -1 from rfl]
  omega)
theorem mLe {a : Nat} (ha : a < 2 ^ 31) : (nI a ≤ -nI 1) = False := eq_false (ng_le (show -nI 1 < 0 by decide) ha)
theorem ze {x : Int32} : (nI 0 = x) = (x = nI 0) := propext ⟨Eq.symm, Eq.symm⟩
theorem g_gtT {α : Type} {x y : Nat} {a b : α} {hd : Decidable (nI 0 < lg_cmp (lN x) (lN y))} (h : y < x) (hx : x < 2 ^ 62) : (if nI 0 < lg_cmp (lN x) (lN y) then a else b) = a := if_pos ((lgc_gt _ _).mpr ((pk_lLT (by omega) (by omega)).mpr h))
theorem g_gtF {α : Type} {x y : Nat} {a b : α} {hd : Decidable (nI 0 < lg_cmp (lN x) (lN y))} (h : x ≤ y) (hy : y < 2 ^ 62) : (if nI 0 < lg_cmp (lN x) (lN y) then a else b) = b := if_neg (fun z => by
  have := (pk_lLT (by omega) (by omega)).mp ((lgc_gt _ _).mp z)
  omega)
