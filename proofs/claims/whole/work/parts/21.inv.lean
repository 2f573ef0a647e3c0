/-! what ties the class's memory C to the reference's R between calls -/
def hlo (i : Nat) : Nat := if i = 3 then 9 else if i = 4 then 1 else 0
def hhi (i : Nat) : Nat := if i = 4 then 40 else 99
/-- a pair of numbers in one int -/
def isAB (v a b : Nat) : Prop := v = a * 10000 + b ∧ 1 ≤ a ∧ a ≤ 9999 ∧ 1 ≤ b ∧ b ≤ 9999
def asP (a b : Nat) : Nat := if a < b then 100 * a + b else 100 * b + a
def I_tape (C R : Mm) : Prop := ∃ b, b ≤ 120 ∧ C.1 1 1 = nI b ∧ R.1 72 7 = nI b ∧ ∀ i, i < b → ∃ v, v < 256 ∧ C.1 2 i = nI v ∧ R.1 77 i = nI v
def I_head (k : Nat) (C R : Mm) : Prop := k ≤ 6 ∧ C.1 0 2 = nI k ∧ R.1 72 16 = nI k ∧ ∀ j, j < k → ∀ i, i < 5 → ∃ v, C.1 (hdn j) i = nI v ∧ R.1 73 (5 * j + i) = nI v ∧ hlo i ≤ v ∧ v ≤ hhi i
def I_pr (t j : Nat) (C R : Mm) : Prop := ∃ pc, pc ≤ 60 ∧ C.1 (hdc j) 3 = nI pc ∧ R.1 81 j = nI pc ∧ ∀ i, i < pc → ∃ a b c, 1 ≤ a ∧ a ≤ 99 ∧ 1 ≤ b ∧ b ≤ 99 ∧ c ≤ t ∧ C.1 (hdp j) i = nI (a * 10000 + b) ∧ C.1 (hdk j) i = nI c ∧ R.1 82 (60 * j + i) = nI (asP a b) ∧ R.1 83 (60 * j + i) = nI c
def I_pair (k t : Nat) (C R : Mm) : Prop := (∀ j, j < k → I_pr t j C R) ∧ ∀ j, k ≤ j → j < 6 → R.1 81 j = nI 0
def I_chg (k : Nat) (C R : Mm) : Prop := ∃ s kp, s ≤ kp ∧ kp ≤ 40 ∧ C.1 51 4 = nI s ∧ C.1 51 5 = nI kp ∧ R.1 72 5 = nI s ∧ R.1 72 4 = nI kp ∧ ∀ i, i < kp → ∃ h w u v, h < k ∧ w < 5 ∧ hlo w ≤ u ∧ u ≤ hhi w ∧ hlo w ≤ v ∧ v ≤ hhi w ∧ C.1 52 i = nI h ∧ C.1 53 i = nI w ∧ C.1 54 i = nI u ∧ C.1 55 i = nI v ∧ R.1 74 i = nI (5 * h + w) ∧ R.1 75 i = nI u ∧ R.1 76 i = nI v
def I_seen (C R : Mm) : Prop := ∃ m, m ≤ 40 ∧ C.1 43 3 = nI m ∧ R.1 72 33 = nI m ∧ ∀ i, i < m → ∃ v a b d, isAB v a b ∧ d ≤ 9999 ∧ C.1 44 i = nI v ∧ R.1 91 i = nI v ∧ C.1 45 i = nI d ∧ R.1 92 i = nI d ∧ C.1 46 i = R.1 93 i ∧ -999999999 ≤ C.1 46 i ∧ C.1 46 i ≤ 999999999
def I_told (C R : Mm) : Prop := ∃ m, m ≤ 8 ∧ C.1 0 8 = nI m ∧ R.1 72 37 = nI m ∧ ∀ i, i < m → ∃ v a b, isAB v a b ∧ C.1 47 i = nI v ∧ R.1 94 i = nI v
def I_body (nb : Nat) (C R : Mm) : Prop := nb ≤ 50 ∧ C.1 56 1 = nI nb ∧ R.1 72 45 = nI nb ∧ ∀ i, i < nb → ∃ d, d ≤ 7 ∧ C.1 57 i = nI d ∧ R.1 97 i = nI d
def I_ran (C R : Mm) : Prop := ∃ m, m ≤ 1000 ∧ C.1 56 3 = nI m ∧ R.1 72 48 = nI m ∧ ∀ i, i < m → i < 24 → C.1 58 i = R.1 98 i
def I_sh (nb j : Nat) (C R : Mm) : Prop := (C.1 (shc j) 0 = -1 ∧ C.1 (shc j) 1 = -1 ∧ R.1 99 j = -1) ∨ (∃ b, b < nb ∧ C.1 (shc j) 0 = nI b ∧ C.1 (shc j) 1 = -1 ∧ R.1 99 j = nI b) ∨ ∃ s m, s < 5 ∧ m ≤ 60 ∧ C.1 (shc j) 0 = -1 ∧ C.1 (shc j) 1 = nI s ∧ C.1 (shc j) 2 = nI m ∧ R.1 99 j = nI (50 + s) ∧ R.1 100 j = nI m ∧ (∀ i, i < 60 → C.2 (she j) i = R.2 101 (60 * j + i)) ∧ (s = 2 → ∀ i, i < 60 → ∃ x : Int32, C.2 (she j) i = Int32.toInt64 x)
def I_shelf (nb : Nat) (C R : Mm) : Prop := ∀ j, j < 6 → I_sh nb j C R
/-! each part looks at its own cells alone -/
theorem I_tape_fr {C R C' R' : Mm} (h : I_tape C R) (hc : ∀ q i, q = 1 ∨ q = 2 → C'.1 q i = C.1 q i) (hr : ∀ q i, (q = 72 ∧ i = 7) ∨ q = 77 → R'.1 q i = R.1 q i) : I_tape C' R' := by
  obtain ⟨b, hb, h1, h2, h3⟩ := h
  refine ⟨b, hb, by rw [hc 1 1 (by omega)]; exact h1, by rw [hr 72 7 (by omega)]; exact h2, fun i hi => ?_⟩
  rw [hc 2 i (by omega), hr 77 i (by omega)]
  exact h3 i hi
theorem I_head_fr {k : Nat} {C R C' R' : Mm} (h : I_head k C R) (hc : ∀ q i, (q = 0 ∧ i = 2) ∨ (4 ≤ q ∧ q < 28) → C'.1 q i = C.1 q i) (hr : ∀ q i, (q = 72 ∧ i = 16) ∨ q = 73 → R'.1 q i = R.1 q i) : I_head k C' R' := by
  obtain ⟨hk, h1, h2, h3⟩ := h
  refine ⟨hk, by rw [hc 0 2 (by omega)]; exact h1, by rw [hr 72 16 (by omega)]; exact h2, fun j hj i hi => ?_⟩
  rw [hc (hdn j) i (by unfold hdn; omega), hr 73 _ (by omega)]
  exact h3 j hj i hi
theorem I_pr_fr {t j : Nat} {C R C' R' : Mm} (hj : j < 6) (h : I_pr t j C R) (hc : ∀ q i, 4 ≤ q ∧ q < 28 → C'.1 q i = C.1 q i) (hr : ∀ q i, q = 81 ∨ q = 82 ∨ q = 83 → R'.1 q i = R.1 q i) : I_pr t j C' R' := by
  obtain ⟨pc, hp, h1, h2, h3⟩ := h
  refine ⟨pc, hp, by rw [hc (hdc j) 3 (by unfold hdc; omega)]; exact h1, by rw [hr 81 j (by omega)]; exact h2, fun i hi => ?_⟩
  rw [hc (hdp j) i (by unfold hdp; omega), hc (hdk j) i (by unfold hdk; omega), hr 82 _ (by omega), hr 83 _ (by omega)]
  exact h3 i hi
theorem I_pair_fr {k t : Nat} {C R C' R' : Mm} (hk : k ≤ 6) (h : I_pair k t C R) (hc : ∀ q i, 4 ≤ q ∧ q < 28 → C'.1 q i = C.1 q i) (hr : ∀ q i, q = 81 ∨ q = 82 ∨ q = 83 → R'.1 q i = R.1 q i) : I_pair k t C' R' := by
  refine ⟨fun j hj => I_pr_fr (by omega) (h.1 j hj) hc hr, fun j hj hj6 => ?_⟩
  rw [hr 81 j (by omega)]
  exact h.2 j hj hj6
theorem I_pair_up {k t u : Nat} {C R : Mm} (htu : t ≤ u) (h : I_pair k t C R) : I_pair k u C R := by
  refine ⟨fun j hj => ?_, h.2⟩
  obtain ⟨pc, hp, h1, h2, h3⟩ := h.1 j hj
  refine ⟨pc, hp, h1, h2, fun i hi => ?_⟩
  obtain ⟨a, b, c, e1, e2, e3, e4, e5, e6⟩ := h3 i hi
  exact ⟨a, b, c, e1, e2, e3, e4, by omega, e6⟩
theorem I_chg_fr {k : Nat} {C R C' R' : Mm} (h : I_chg k C R) (hc : ∀ q i, 51 ≤ q ∧ q ≤ 55 → C'.1 q i = C.1 q i) (hr : ∀ q i, (q = 72 ∧ (i = 4 ∨ i = 5)) ∨ (74 ≤ q ∧ q ≤ 76) → R'.1 q i = R.1 q i) : I_chg k C' R' := by
  obtain ⟨s, kp, hs, hkp, h1, h2, h3, h4, h5⟩ := h
  refine ⟨s, kp, hs, hkp, by rw [hc 51 4 (by omega)]; exact h1, by rw [hc 51 5 (by omega)]; exact h2, by rw [hr 72 5 (by omega)]; exact h3, by rw [hr 72 4 (by omega)]; exact h4, fun i hi => ?_⟩
  rw [hc 52 i (by omega), hc 53 i (by omega), hc 54 i (by omega), hc 55 i (by omega), hr 74 i (by omega), hr 75 i (by omega), hr 76 i (by omega)]
  exact h5 i hi
theorem I_chg_up {k k' : Nat} {C R : Mm} (hk : k ≤ k') (h : I_chg k C R) : I_chg k' C R := by
  obtain ⟨s, kp, hs, hkp, h1, h2, h3, h4, h5⟩ := h
  refine ⟨s, kp, hs, hkp, h1, h2, h3, h4, fun i hi => ?_⟩
  obtain ⟨h, w, u, v, e1, e2⟩ := h5 i hi
  exact ⟨h, w, u, v, by omega, e2⟩
theorem I_seen_fr {C R C' R' : Mm} (h : I_seen C R) (hc : ∀ q i, 43 ≤ q ∧ q ≤ 46 → C'.1 q i = C.1 q i) (hr : ∀ q i, (q = 72 ∧ i = 33) ∨ (91 ≤ q ∧ q ≤ 93) → R'.1 q i = R.1 q i) : I_seen C' R' := by
  obtain ⟨m, hm, h1, h2, h3⟩ := h
  refine ⟨m, hm, by rw [hc 43 3 (by omega)]; exact h1, by rw [hr 72 33 (by omega)]; exact h2, fun i hi => ?_⟩
  rw [hc 44 i (by omega), hc 45 i (by omega), hc 46 i (by omega), hr 91 i (by omega), hr 92 i (by omega), hr 93 i (by omega)]
  exact h3 i hi
theorem I_told_fr {C R C' R' : Mm} (h : I_told C R) (hc : ∀ q i, (q = 0 ∧ i = 8) ∨ q = 47 → C'.1 q i = C.1 q i) (hr : ∀ q i, (q = 72 ∧ i = 37) ∨ q = 94 → R'.1 q i = R.1 q i) : I_told C' R' := by
  obtain ⟨m, hm, h1, h2, h3⟩ := h
  refine ⟨m, hm, by rw [hc 0 8 (by omega)]; exact h1, by rw [hr 72 37 (by omega)]; exact h2, fun i hi => ?_⟩
  rw [hc 47 i (by omega), hr 94 i (by omega)]
  exact h3 i hi
theorem I_body_fr {nb : Nat} {C R C' R' : Mm} (h : I_body nb C R) (hc : ∀ q i, (q = 56 ∧ i = 1) ∨ q = 57 → C'.1 q i = C.1 q i) (hr : ∀ q i, (q = 72 ∧ i = 45) ∨ q = 97 → R'.1 q i = R.1 q i) : I_body nb C' R' := by
  obtain ⟨hm, h1, h2, h3⟩ := h
  refine ⟨hm, by rw [hc 56 1 (by omega)]; exact h1, by rw [hr 72 45 (by omega)]; exact h2, fun i hi => ?_⟩
  rw [hc 57 i (by omega), hr 97 i (by omega)]
  exact h3 i hi
theorem I_ran_fr {C R C' R' : Mm} (h : I_ran C R) (hc : ∀ q i, (q = 56 ∧ i = 3) ∨ q = 58 → C'.1 q i = C.1 q i) (hr : ∀ q i, (q = 72 ∧ i = 48) ∨ q = 98 → R'.1 q i = R.1 q i) : I_ran C' R' := by
  obtain ⟨m, hm, h1, h2, h3⟩ := h
  refine ⟨m, hm, by rw [hc 56 3 (by omega)]; exact h1, by rw [hr 72 48 (by omega)]; exact h2, fun i hi hi2 => ?_⟩
  rw [hc 58 i (by omega), hr 98 i (by omega)]
  exact h3 i hi hi2
theorem I_sh_fr {nb j : Nat} {C R C' R' : Mm} (hj : j < 6) (h : I_sh nb j C R) (hc : ∀ q i, q = shc j → C'.1 q i = C.1 q i) (hl : ∀ i, C'.2 (she j) i = C.2 (she j) i) (hr : ∀ q, q = 99 ∨ q = 100 → R'.1 q j = R.1 q j) (hrl : ∀ i, i < 60 → R'.2 101 (60 * j + i) = R.2 101 (60 * j + i)) : I_sh nb j C' R' := by
  unfold I_sh
  rw [hc (shc j) 0 rfl, hc (shc j) 1 rfl, hc (shc j) 2 rfl, hr 99 (by omega), hr 100 (by omega)]
  rcases h with h | h | ⟨s, m, e1, e2, e3, e4, e5, e6, e7, e8, e9⟩
  · exact Or.inl h
  · exact Or.inr (Or.inl h)
  · refine Or.inr (Or.inr ⟨s, m, e1, e2, e3, e4, e5, e6, e7, fun i hi => ?_, fun h i hi => ?_⟩)
    · rw [hl, hrl i hi]; exact e8 i hi
    · rw [hl]; exact e9 h i hi
theorem I_shelf_fr {nb : Nat} {C R C' R' : Mm} (h : I_shelf nb C R) (hc : ∀ q i, 60 ≤ q ∧ q < 72 → C'.1 q i = C.1 q i) (hl : C'.2 = C.2) (hr : ∀ q i, q = 99 ∨ q = 100 → R'.1 q i = R.1 q i) (hrl : ∀ i, R'.2 101 i = R.2 101 i) : I_shelf nb C' R' :=
  fun j hj => I_sh_fr hj (h j hj) (fun q i hq => hc q i (by rw [hq]; unfold shc; omega)) (fun i => by rw [hl]) (fun q hq => hr q j hq) (fun i _ => hrl _)
theorem I_shelf_up {nb nb' : Nat} {C R : Mm} (hn : nb ≤ nb') (h : I_shelf nb C R) : I_shelf nb' C R := by
  intro j hj
  rcases h j hj with h | ⟨b, h1, h2⟩ | h
  · exact Or.inl h
  · exact Or.inr (Or.inl ⟨b, by omega, h2⟩)
  · exact Or.inr (Or.inr h)
