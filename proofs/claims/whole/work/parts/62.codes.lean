/-! the codes of THE CHOICE, worked out plainly -/
def hd0 (st : List Int32) : Int32 := st.headD 0
def jn (c l r : Int32) : Int32 := (fX3_joined c l r).getD 0
def xs1 (V : Int32 → Int32) (k : Int32) (st : List Int32) : List Int32 :=
  if k < 0 then
    (if fX3_isName (-k) = 0 then
      (if k = sg 33 then (if hd0 st = 0 then 1 else 0) :: st.tail
      else if k = sg 126 then (-(hd0 st)) :: st.tail
      else jn (-k) (hd0 st.tail) (hd0 st) :: st.tail.tail)
    else V (-k) :: st)
  else k :: st
def nf (V : Int32 → Int32) : List Int32 → List Int32 → Bool → Int32
  | [], _, _ => 0
  | k :: ks, st, sk =>
    if sk = true then nf V ks st (decide (k ≠ sg 59))
    else if k = sg 59 then hd0 st
    else if k = sg 63 then nf V ks st.tail (decide (hd0 st = 0))
    else nf V ks (xs1 V k st) false
def Ex (V : Int32 → Int32) (k : List Int32) (v : Int32) : Prop := (∀ rest st, nf V (k ++ rest) st false = nf V rest (v :: st) false) ∧ ∀ rest st, nf V (k ++ rest) st true = nf V rest st true
theorem nf_c {V : Int32 → Int32} {k : Int32} (h1 : k ≠ sg 59) (h2 : k ≠ sg 63) (rest st : List Int32) : nf V (k :: rest) st false = nf V rest (xs1 V k st) false := by
  show (if false = true then _ else if k = sg 59 then _ else if k = sg 63 then _ else _) = _
  rw [if_neg (by decide), if_neg h1, if_neg h2]
theorem nf_s {V : Int32 → Int32} {k : Int32} (h1 : k ≠ sg 59) (rest st : List Int32) : nf V (k :: rest) st true = nf V rest st true := by
  show (if true = true then nf V rest st (decide (k ≠ sg 59)) else _) = _
  rw [if_pos rfl, decide_eq_true h1]
theorem sg_n (c : Nat) : -(sg c) = nI c := by
  unfold sg
  exact Int32.neg_neg
theorem num_sg {v c : Nat} (hv : v < 2 ^ 31) (hc : c = 59 ∨ c = 63) : nI v ≠ sg c := by
  intro z
  rcases hc with rfl | rfl
  · exact ng_eq (show sg 59 < 0 by decide) hv z.symm
  · exact ng_eq (show sg 63 < 0 by decide) hv z.symm
theorem Ex_num {V : Int32 → Int32} {v : Nat} (hv : v < 2 ^ 31) : Ex V [nI v] (nI v) := by
  refine ⟨fun rest st => ?_, fun rest st => ?_⟩
  · show nf V (nI v :: rest) st false = _
    rw [nf_c (num_sg hv (Or.inl rfl)) (num_sg hv (Or.inr rfl))]
    unfold xs1
    rw [if_neg]
    exact fun z => by
      have := neg_lt z
      rw [nI_toInt hv] at this
      omega
  · exact nf_s (num_sg hv (Or.inl rfl)) rest st
theorem Ex_nm {V : Int32 → Int32} {c : Nat} (hc : isNm c = true) : Ex V [sg c] (V (nI c)) := by
  have hc2 : c = 109 ∨ c = 110 ∨ c = 120 ∨ c = 121 ∨ c = 100 ∨ c = 122 ∨ c = 116 ∨ c = 99 := by
    unfold isNm at hc
    simp only [Bool.or_eq_true, beq_iff_eq] at hc
    omega
  have h1 : sg c ≠ sg 59 := by rcases hc2 with rfl | rfl | rfl | rfl | rfl | rfl | rfl | rfl <;> decide
  have h2 : sg c ≠ sg 63 := by rcases hc2 with rfl | rfl | rfl | rfl | rfl | rfl | rfl | rfl <;> decide
  have h3 : sg c < 0 := by rcases hc2 with rfl | rfl | rfl | rfl | rfl | rfl | rfl | rfl <;> decide
  have h4 : ¬ fX3_isName (nI c) = 0 := by rcases hc2 with rfl | rfl | rfl | rfl | rfl | rfl | rfl | rfl <;> decide
  refine ⟨fun rest st => ?_, fun rest st => nf_s h1 rest st⟩
  show nf V (sg c :: rest) st false = _
  rw [nf_c h1 h2]
  unfold xs1
  rw [if_pos h3, sg_n, if_neg h4]
theorem Ex_not {V : Int32 → Int32} {k : List Int32} {v : Int32} (h : Ex V k v) : Ex V (k ++ [sg 33]) (if v = 0 then 1 else 0) := by
  refine ⟨fun rest st => ?_, fun rest st => ?_⟩
  · rw [List.append_assoc, h.1]
    show nf V (sg 33 :: rest) (v :: st) false = _
    rw [nf_c (by decide) (by decide)]
    unfold xs1
    rw [if_pos (by decide), if_pos (by decide), if_pos rfl]
    rfl
  · rw [List.append_assoc, h.2]
    exact nf_s (by decide) rest st
theorem Ex_neg {V : Int32 → Int32} {k : List Int32} {v : Int32} (h : Ex V k v) : Ex V (k ++ [sg 126]) (-v) := by
  refine ⟨fun rest st => ?_, fun rest st => ?_⟩
  · rw [List.append_assoc, h.1]
    show nf V (sg 126 :: rest) (v :: st) false = _
    rw [nf_c (by decide) (by decide)]
    unfold xs1
    rw [if_pos (by decide), if_pos (by decide), if_neg (by decide), if_pos rfl]
    rfl
  · rw [List.append_assoc, h.2]
    exact nf_s (by decide) rest st
def isOp (c : Nat) : Prop := c = 42 ∨ c = 47 ∨ c = 37 ∨ c = 43 ∨ c = 45 ∨ c = 60 ∨ c = 61 ∨ c = 62 ∨ c = 38 ∨ c = 124
theorem Ex_bin {V : Int32 → Int32} {k1 k2 : List Int32} {v1 v2 : Int32} {c : Nat} (hc : isOp c) (h1 : Ex V k1 v1) (h2 : Ex V k2 v2) : Ex V (k1 ++ k2 ++ [sg c]) (jn (nI c) v1 v2) := by
  have g1 : sg c ≠ sg 59 := by rcases hc with rfl | rfl | rfl | rfl | rfl | rfl | rfl | rfl | rfl | rfl <;> decide
  have g2 : sg c ≠ sg 63 := by rcases hc with rfl | rfl | rfl | rfl | rfl | rfl | rfl | rfl | rfl | rfl <;> decide
  have g3 : sg c < 0 := by rcases hc with rfl | rfl | rfl | rfl | rfl | rfl | rfl | rfl | rfl | rfl <;> decide
  have g4 : fX3_isName (nI c) = 0 := by rcases hc with rfl | rfl | rfl | rfl | rfl | rfl | rfl | rfl | rfl | rfl <;> decide
  have g5 : sg c ≠ sg 33 := by rcases hc with rfl | rfl | rfl | rfl | rfl | rfl | rfl | rfl | rfl | rfl <;> decide
  have g6 : sg c ≠ sg 126 := by rcases hc with rfl | rfl | rfl | rfl | rfl | rfl | rfl | rfl | rfl | rfl <;> decide
  refine ⟨fun rest st => ?_, fun rest st => ?_⟩
  · rw [List.append_assoc, List.append_assoc, h1.1, h2.1]
    show nf V (sg c :: rest) (v2 :: v1 :: st) false = _
    rw [nf_c g1 g2]
    unfold xs1
    rw [if_pos g3, sg_n, if_pos g4, if_neg g5, if_neg g6]
    rfl
  · rw [List.append_assoc, List.append_assoc, h1.2, h2.2]
    exact nf_s g1 rest st
theorem joined_l (c l r : Int32) : fX3_joined c l r = some (jn c l r) := by
  have : ∃ x, fX3_joined c l r = some x := by
    unfold fX3_joined
    repeat' split
    all_goals first
      | exact ⟨_, rfl⟩
      | contradiction
  obtain ⟨x, hx⟩ := this
  unfold jn
  rw [hx]
  rfl
theorem jn_42 (l r : Int32) : jn (nI 42) l r = l * r := rfl
theorem jn_43 (l r : Int32) : jn (nI 43) l r = l + r := rfl
theorem jn_45 (l r : Int32) : jn (nI 45) l r = l - r := rfl
theorem jn_z {l r : Int32} (h : r = 0) : jn (nI 47) l r = 0 ∧ jn (nI 37) l r = 0 := by
  subst h
  exact ⟨rfl, rfl⟩
theorem jn_47 {l r : Int32} (h : r ≠ 0) : jn (nI 47) l r = l / r := by
  show (if r = 0 then some 0 else if r = 0 then none else some (l / r)).getD 0 = _
  rw [if_neg h, if_neg h]
  rfl
theorem jn_37 {l r : Int32} (h : r ≠ 0) : jn (nI 37) l r = irm l r := by
  show (if r = 0 then some 0 else if r = 0 then none else some (irm l r)).getD 0 = _
  rw [if_neg h, if_neg h]
  rfl
theorem jn_60 (l r : Int32) : jn (nI 60) l r = if r ≤ l then 0 else 1 := by
  show (if r ≤ l then some (0 : Int32) else some 1).getD 0 = _
  by_cases h : r ≤ l
  · rw [if_pos h, if_pos h]; rfl
  · rw [if_neg h, if_neg h]; rfl
theorem jn_61 (l r : Int32) : jn (nI 61) l r = if l = r then 1 else 0 := by
  show (if l = r then some (1 : Int32) else some 0).getD 0 = _
  by_cases h : l = r
  · rw [if_pos h, if_pos h]; rfl
  · rw [if_neg h, if_neg h]; rfl
theorem jn_62 (l r : Int32) : jn (nI 62) l r = if l ≤ r then 0 else 1 := by
  show (if l ≤ r then some (0 : Int32) else some 1).getD 0 = _
  by_cases h : l ≤ r
  · rw [if_pos h, if_pos h]; rfl
  · rw [if_neg h, if_neg h]; rfl
theorem jn_38 (l r : Int32) : jn (nI 38) l r = if l = 0 then 0 else if r = 0 then 0 else 1 := by
  show (if l = 0 then some (0 : Int32) else if r = 0 then some 0 else some 1).getD 0 = _
  by_cases h : l = 0
  · rw [if_pos h, if_pos h]; rfl
  · rw [if_neg h, if_neg h]
    by_cases h2 : r = 0
    · rw [if_pos h2, if_pos h2]; rfl
    · rw [if_neg h2, if_neg h2]; rfl
theorem jn_124 (l r : Int32) : jn (nI 124) l r = if l = 0 then (if r = 0 then 0 else 1) else 1 := by
  show (if l = 0 then (if r = 0 then some (0 : Int32) else some 1) else some 1).getD 0 = _
  by_cases h : l = 0
  · rw [if_pos h, if_pos h]
    by_cases h2 : r = 0
    · rw [if_pos h2, if_pos h2]; rfl
    · rw [if_neg h2, if_neg h2]; rfl
  · rw [if_neg h, if_neg h]; rfl
