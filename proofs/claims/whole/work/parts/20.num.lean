/-! plain numbers: ints that are small, by nI -/
theorem l_0 : (0 : Int32) = nI 0 := rfl
theorem l_1 : (1 : Int32) = nI 1 := rfl
theorem l_2 : (2 : Int32) = nI 2 := rfl
theorem l_3 : (3 : Int32) = nI 3 := rfl
theorem l_4 : (4 : Int32) = nI 4 := rfl
theorem l_5 : (5 : Int32) = nI 5 := rfl
theorem l_6 : (6 : Int32) = nI 6 := rfl
theorem l_7 : (7 : Int32) = nI 7 := rfl
theorem l_8 : (8 : Int32) = nI 8 := rfl
theorem l_9 : (9 : Int32) = nI 9 := rfl
theorem l_10 : (10 : Int32) = nI 10 := rfl
theorem l_15 : (15 : Int32) = nI 15 := rfl
theorem l_24 : (24 : Int32) = nI 24 := rfl
theorem l_39 : (39 : Int32) = nI 39 := rfl
theorem l_40 : (40 : Int32) = nI 40 := rfl
theorem l_50 : (50 : Int32) = nI 50 := rfl
theorem l_60 : (60 : Int32) = nI 60 := rfl
theorem l_80 : (80 : Int32) = nI 80 := rfl
theorem l_99 : (99 : Int32) = nI 99 := rfl
theorem l_100 : (100 : Int32) = nI 100 := rfl
theorem l_120 : (120 : Int32) = nI 120 := rfl
theorem l_128 : (128 : Int32) = nI 128 := rfl
theorem l_1000 : (1000 : Int32) = nI 1000 := rfl
theorem l_9999 : (9999 : Int32) = nI 9999 := rfl
theorem l_10000 : (10000 : Int32) = nI 10000 := rfl
/-- an index within: the check falls away -/
theorem ic {α : Type} {k N : Nat} {a b : α} (h : k < N) (hN : N < 2 ^ 31) : (if nI k < (0 : Int32) ∨ N ≤ Int32.toNatClampNeg (nI k) then a else b) = b := if_neg (nI_in h hN)
theorem i_le {α : Type} {a b : Nat} {x y : α} (ha : a < 2 ^ 31) (hb : b < 2 ^ 31) : (if nI a ≤ nI b then x else y) = if a ≤ b then x else y := by
  by_cases h : a ≤ b
  · rw [if_pos ((nI_leI ha hb).mpr h), if_pos h]
  · rw [if_neg (fun z => h ((nI_leI ha hb).mp z)), if_neg h]
theorem i_lt {α : Type} {a b : Nat} {x y : α} (ha : a < 2 ^ 31) (hb : b < 2 ^ 31) : (if nI a < nI b then x else y) = if a < b then x else y := by
  by_cases h : a < b
  · rw [if_pos ((nI_ltI ha hb).mpr h), if_pos h]
  · rw [if_neg (fun z => h ((nI_ltI ha hb).mp z)), if_neg h]
theorem i_eq {α : Type} {a b : Nat} {x y : α} (ha : a < 2 ^ 31) (hb : b < 2 ^ 31) : (if nI a = nI b then x else y) = if a = b then x else y := by
  by_cases h : a = b
  · rw [if_pos ((nI_eq ha hb).mpr h), if_pos h]
  · rw [if_neg (fun z => h ((nI_eq ha hb).mp z)), if_neg h]
theorem wrI_at {C : Mm} {q i : Nat} {v : Int32} {q' i' : Nat} : (wrI C q i v).1 q' i' = if q' = q ∧ i' = i then v else C.1 q' i' := rfl
theorem wrL_at {C : Mm} {q i : Nat} {v : Int64} {q' i' : Nat} : (wrL C q i v).2 q' i' = if q' = q ∧ i' = i then v else C.2 q' i' := rfl
theorem wrI_2 {C : Mm} {q i : Nat} {v : Int32} : (wrI C q i v).2 = C.2 := rfl
theorem wrL_1 {C : Mm} {q i : Nat} {v : Int64} : (wrL C q i v).1 = C.1 := rfl
theorem lt_d {α β : Type} (a : α) (f : α → β) : lt' a f = f a := rfl
theorem bp_s {α β γ : Type} (a : α) (b : β) (f : α → β → Option γ) : bp' (some (a, b)) f = f a b := rfl
theorem bn_s {α β : Type} (a : α) (f : α → Option β) : Option.bind (some a) f = f a := rfl
/-- any int: below 0, or a small one -/
theorem i_cases (x : Int32) : x < 0 ∨ ∃ a : Nat, a < 2 ^ 31 ∧ x = nI a := by
  by_cases h : x < 0
  · exact Or.inl h
  · exact Or.inr (nI_of h)
/-- a byte of v: by >> and by >>> -/
theorem byte_of (v : Int32) {k : Nat} (hk : k < 4) : (iush v (8 * nI k)) &&& 255 = (v >>> ((8 * nI k) &&& 31)) &&& 255 := by
  apply Int32.toBitVec_inj.mp
  rcases (show k = 0 ∨ k = 1 ∨ k = 2 ∨ k = 3 by omega) with rfl | rfl | rfl | rfl
  all_goals
    unfold iush
    ext i hi
    simp
    sorry
theorem test_feed (n : Nat) (hn : 1000 ≤ n) (C R : Mm) (b a : Nat) (v : Int32) (h1 : C.1 1 1 = nI b) (h2 : b ≤ 120) (ha : b + a ≤ 120) : ∀ d k fu : Nat, a - k = d → k ≤ a → d < fu → C.1 1 1 = nI (b + k) → (fX9_takes_h15 n fu (nI a) v (nI k) C).isSome = true := by
  intro d
  induction d generalizing C with
  | zero =>
    intro k fu hd hk hf hc
    obtain ⟨fu, rfl⟩ : ∃ f, fu = f + 1 := ⟨fu - 1, by omega⟩
    rw [fX9_takes_h15.eq_2]
    simp (disch := omega) only [i_le]
    rw [if_pos (by omega)]
    rfl
  | succ d ih =>
    intro k fu hd hk hf hc
    obtain ⟨fu, rfl⟩ : ∃ f, fu = f + 1 := ⟨fu - 1, by omega⟩
    rw [fX9_takes_h15.eq_2]
    simp (disch := omega) only [i_le, hc, ic, lt_d]
    rw [if_neg (by omega)]
    sorry
