/-! the text of THE CHOICE: what is read of it, from which place on, plainly. (none, q): a fault at q; (some codes, q): read up to q -/
def tk (T : Nat → Nat) (m p : Nat) : Nat := if p < m then T p else 256
def sg (c : Nat) : Int32 := -(nI c)
abbrev PR : Type := Option (List Int32) × Nat
def isNm (c : Nat) : Bool := c == 109 || c == 110 || c == 120 || c == 121 || c == 100 || c == 122 || c == 116 || c == 99
def isDg (c : Nat) : Bool := decide (48 ≤ c ∧ c ≤ 57)
/-- a number: its value, and where it ends (k more digits at most) -/
def pNum (T : Nat → Nat) (m : Nat) : Nat → Nat → Nat → Nat × Nat
  | 0, v, p => (v, p)
  | k + 1, v, p => if isDg (tk T m p) then pNum T m k (v * 10 + (tk T m p - 48)) (p + 1) else (v, p)
/-- one item, and on as long as one of the signs follows -/
def pMore (T : Nat → Nat) (m : Nat) (is : Nat → Bool) (po : Nat → PR) : Nat → List Int32 → Nat → PR
  | 0, ks, p => (some ks, p)
  | f + 1, ks, p => if is (tk T m p) then
      match po (p + 1) with
      | (none, q) => (none, q)
      | (some k2, q) => pMore T m is po f (ks ++ k2 ++ [sg (tk T m p)]) q
    else (some ks, p)
def pRow (T : Nat → Nat) (m : Nat) (is : Nat → Bool) (po : Nat → PR) (p : Nat) : PR :=
  match po p with
  | (none, q) => (none, q)
  | (some ks, q) => pMore T m is po m ks q
def isPd (c : Nat) : Bool := c == 42 || c == 47 || c == 37
def isSm (c : Nat) : Bool := c == 43 || c == 45
def isCp (c : Nat) : Bool := c == 60 || c == 61 || c == 62
def pCmp (T : Nat → Nat) (m : Nat) (po : Nat → PR) (p : Nat) : PR :=
  match po p with
  | (none, q) => (none, q)
  | (some ks, q) => if isCp (tk T m q) then
      match po (q + 1) with
      | (none, r) => (none, r)
      | (some k2, r) => (some (ks ++ k2 ++ [sg (tk T m q)]), r)
    else (some ks, q)
def pProd (T : Nat → Nat) (m : Nat) (po : Nat → PR) : Nat → PR := pRow T m isPd po
def pSum (T : Nat → Nat) (m : Nat) (po : Nat → PR) : Nat → PR := pRow T m isSm (pProd T m po)
def pCompared (T : Nat → Nat) (m : Nat) (po : Nat → PR) : Nat → PR := pCmp T m (pSum T m po)
def pAll (T : Nat → Nat) (m : Nat) (po : Nat → PR) : Nat → PR := pRow T m (fun c => c == 38) (pCompared T m po)
def pAny (T : Nat → Nat) (m : Nat) (po : Nat → PR) : Nat → PR := pRow T m (fun c => c == 124) (pAll T m po)
/-- an operand, with so many ( ! - that may still be open -/
def pOp (T : Nat → Nat) (m : Nat) : Nat → Nat → PR
  | o, p =>
    if tk T m p == 40 || tk T m p == 33 || tk T m p == 45 then
      match o with
      | 0 => (none, p)
      | o + 1 =>
        if tk T m p == 40 then
          match pAny T m (pOp T m o) (p + 1) with
          | (none, q) => (none, q)
          | (some ks, q) => if tk T m q = 41 then (some ks, q + 1) else (none, q)
        else
          match pOp T m o (p + 1) with
          | (none, q) => (none, q)
          | (some ks, q) => (some (ks ++ [sg (if tk T m p = 45 then 126 else 33)]), q)
    else if isDg (tk T m p) then (some [nI (pNum T m 4 0 p).1], (pNum T m 4 0 p).2)
    else if isNm (tk T m p) then (some [sg (tk T m p)], p + 1)
    else (none, p)
def pLine (T : Nat → Nat) (m : Nat) (p : Nat) : PR :=
  match pAny T m (pOp T m 6) p with
  | (none, q) => (none, q)
  | (some ks, q) => if tk T m q = 63 then
      match pAny T m (pOp T m 6) (q + 1) with
      | (none, r) => (none, r)
      | (some k2, r) => (some (ks ++ [sg 63] ++ k2 ++ [sg 59]), r)
    else (some (ks ++ [sg 59]), q)
def pLines (T : Nat → Nat) (m : Nat) : Nat → List Int32 → Nat → PR
  | 0, _, p => (none, p)
  | f + 1, ks, p =>
    match pLine T m p with
    | (none, q) => (none, q)
    | (some k, q) => if tk T m q = 59 then pLines T m f (ks ++ k) (q + 1) else if q = m then (some (ks ++ k), q) else (none, q)
def I_cho (C R : Mm) : Prop := (C.1 32 1 = nI 0 ∧ R.1 72 9 = -1) ∨ ∃ (T : Nat → Nat) (m q : Nat) (ks : List Int32), 1 ≤ m ∧ m ≤ 120 ∧ R.1 72 9 = nI m ∧ (∀ i, i < m → T i < 256 ∧ R.1 78 i = nI (T i)) ∧ pLines T m (m + 1) [] 0 = (some ks, q) ∧ 1 ≤ ks.length ∧ ks.length ≤ 121 ∧ C.1 32 1 = nI ks.length ∧ ∀ i, i < ks.length → C.1 33 i = ks.getD i 0
theorem I_cho_fr {C R C' R' : Mm} (h : I_cho C R) (hc : ∀ q i, (q = 32 ∧ i = 1) ∨ q = 33 → C'.1 q i = C.1 q i) (hr : ∀ q i, (q = 72 ∧ i = 9) ∨ q = 78 → R'.1 q i = R.1 q i) : I_cho C' R' := by
  unfold I_cho
  rw [hc 32 1 (by omega), hr 72 9 (by omega)]
  rcases h with h | ⟨T, m, q, ks, h1, h2, h3, h4, h5, h6, h7, h8, h9⟩
  · exact Or.inl h
  · refine Or.inr ⟨T, m, q, ks, h1, h2, h3, fun i hi => ?_, h5, h6, h7, h8, fun i hi => ?_⟩
    · rw [hr 78 i (by omega)]; exact h4 i hi
    · rw [hc 33 i (by omega)]; exact h9 i hi
/-! all of it, after t calls -/
def Inv (t : Nat) (C R : Mm) : Prop := ∃ k nb, I_tape C R ∧ I_head k C R ∧ I_pair k t C R ∧ I_chg k C R ∧ I_seen C R ∧ I_told C R ∧ I_body nb C R ∧ I_ran C R ∧ I_shelf nb C R ∧ I_cho C R
/-- the class's cells that last from call to call; the others are used anew by each -/
def lastC (q i : Nat) : Prop := (q = 0 ∧ (i = 2 ∨ i = 8)) ∨ q = 1 ∨ q = 2 ∨ (4 ≤ q ∧ q < 28) ∨ (q = 32 ∧ i = 1) ∨ q = 33 ∨ (43 ≤ q ∧ q ≤ 47) ∨ (51 ≤ q ∧ q ≤ 58) ∨ (60 ≤ q ∧ q < 72)
def lastR (q i : Nat) : Prop := (q = 72 ∧ (i = 4 ∨ i = 5 ∨ i = 7 ∨ i = 9 ∨ i = 16 ∨ i = 33 ∨ i = 37 ∨ i = 45 ∨ i = 48)) ∨ (73 ≤ q ∧ q ≤ 78) ∨ (81 ≤ q ∧ q ≤ 83) ∨ (91 ≤ q ∧ q ≤ 94) ∨ (97 ≤ q ∧ q ≤ 100)
theorem Inv_up {t u : Nat} {C R : Mm} (htu : t ≤ u) (h : Inv t C R) : Inv u C R := by
  obtain ⟨k, nb, h1, h2, h3, h4⟩ := h
  exact ⟨k, nb, h1, h2, I_pair_up htu h3, h4⟩
/-- a call that touches nothing that lasts -/
theorem Inv_fr {t : Nat} {C R C' R' : Mm} (h : Inv t C R) (hc : ∀ q i, lastC q i → C'.1 q i = C.1 q i) (hl : C'.2 = C.2) (hr : ∀ q i, lastR q i → R'.1 q i = R.1 q i) (hrl : ∀ i, R'.2 101 i = R.2 101 i) : Inv t C' R' := by
  obtain ⟨k, nb, h1, h2, h3, h4, h5, h6, h7, h8, h9, h10⟩ := h
  refine ⟨k, nb, I_tape_fr h1 ?_ ?_, I_head_fr h2 ?_ ?_, I_pair_fr h2.1 h3 ?_ ?_, I_chg_fr h4 ?_ ?_, I_seen_fr h5 ?_ ?_, I_told_fr h6 ?_ ?_, I_body_fr h7 ?_ ?_, I_ran_fr h8 ?_ ?_, I_shelf_fr h9 ?_ hl ?_ hrl, I_cho_fr h10 ?_ ?_⟩
  all_goals first
    | exact fun q i z => hc q i (by unfold lastC; omega)
    | exact fun q i z => hr q i (by unfold lastR; omega)
