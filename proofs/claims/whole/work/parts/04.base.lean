/-! the memory of the class, and of the reference: ints and longs by cell and place -/
abbrev Mm : Type := (Nat → Nat → Int32) × (Nat → Nat → Int64)
def wrI (C : Mm) (q i : Nat) (v : Int32) : Mm := (fun q' i' => if q' = q ∧ i' = i then v else C.1 q' i', C.2)
def wrL (C : Mm) (q i : Nat) (v : Int64) : Mm := (C.1, fun q' i' => if q' = q ∧ i' = i then v else C.2 q' i')
/-- n ints from place sp of cell q0 to place dp of cell q1 -/
def cpI (C : Mm) (q0 sp q1 dp n : Nat) : Mm := (fun q' i' => if q' = q1 ∧ dp ≤ i' ∧ i' < dp + n then C.1 q0 (sp + (i' - dp)) else C.1 q' i', C.2)
def cpL (C : Mm) (q0 sp q1 dp n : Nat) : Mm := (C.1, fun q' i' => if q' = q1 ∧ dp ≤ i' ∧ i' < dp + n then C.2 q0 (sp + (i' - dp)) else C.2 q' i')
def hdc (j : Nat) : Nat := 4 * j + 4
def hdn (j : Nat) : Nat := 4 * j + 5
def hdp (j : Nat) : Nat := 4 * j + 6
def hdk (j : Nat) : Nat := 4 * j + 7
def shc (j : Nat) : Nat := 2 * j + 60
def she (j : Nat) : Nat := 2 * j + 61
/-! words of the printed functions -/
def lt' {α β : Type} (a : α) (f : α → β) : β := f a
def bp' {α β γ : Type} (o : Option (α × β)) (f : α → β → Option γ) : Option γ := o.bind fun q => f q.1 q.2
def irm (x y : Int32) : Int32 := x - x / y * y
def lrm (x y : Int64) : Int64 := x - x / y * y
def iush (x y : Int32) : Int32 := (x.toUInt32 >>> (y.toUInt32 &&& Int32.toUInt32 31)).toInt32
def iabs (x : Int32) : Int32 := if 0 ≤ x then x else 0 - x
def imax (x y : Int32) : Int32 := if x < y then y else x
def imin (x y : Int32) : Int32 := if y < x then y else x
theorem lt_y {α β : Type} {a y : α} {f : α → β} {r : β} (e : y = a) (h : lt' a f = r) : f y = r := by subst e; exact h
theorem bn_x {α β : Type} {o : Option α} {f : α → Option β} {r : β} (h : o.bind f = some r) : ∃ a, o = some a ∧ f a = some r := Option.bind_eq_some_iff.mp h
theorem bp_x {α β γ : Type} {o : Option (α × β)} {f : α → β → Option γ} {r : γ} (h : bp' o f = some r) : ∃ a b, o = some (a, b) ∧ f a b = some r := by
  obtain ⟨⟨a, b⟩, h1, h2⟩ := Option.bind_eq_some_iff.mp h
  exact ⟨a, b, h1, h2⟩
theorem pr_1 {α β : Type} {a a' : α} {b b' : β} (h : some (a, b) = some (a', b')) : a = a' := by cases h; rfl
theorem pr_2 {α β : Type} {a a' : α} {b b' : β} (h : some (a, b) = some (a', b')) : b = b' := by cases h; rfl
theorem it_t {α : Type} {c : Prop} {hd : Decidable c} {a b r : α} (hc : c) (h : (if c then a else b) = r) : a = r := by rw [if_pos hc] at h; exact h
theorem it_f {α : Type} {c : Prop} {hd : Decidable c} {a b r : α} (hc : ¬ c) (h : (if c then a else b) = r) : b = r := by rw [if_neg hc] at h; exact h
/-! where the cells lie: (classes and slots, cells, static arrays, classes of arrays, the first address) -/
abbrev gp : Type := va_G × (Nat → Nat) × (Nat → Nat) × (Nat → Nat) × Nat
def gD (G : gp) : va_G := G.1
def gA (G : gp) (k : Nat) : Nat := G.2.1 k
def gT (G : gp) (k : Nat) : Nat := G.2.2.1 k
def gC (G : gp) (k : Nat) : Nat := G.2.2.2.1 k
def gB (G : gp) : Nat := G.2.2.2.2
def lwA (G : gp) : Nat → Prop := fun q => gB G ≤ q
def skl : List (Nat × Nat × List Nat) := [(12, 15, [3, 5, 0, 30, 34, 38, 45, 49, 0, 50, 51, 52, 53, 58, 61]), (11, 2, [4, 0]), (0, 120, []), (2, 6, [4, 8, 12, 16, 20, 24]), (8, 4, [7, 8, 9, 0]), (0, 5, []), (0, 60, []), (0, 60, []), (8, 4, [11, 12, 13, 0]), (0, 5, []), (0, 60, []), (0, 60, []), (8, 4, [15, 16, 17, 0]), (0, 5, []), (0, 60, []), (0, 60, []), (8, 4, [19, 20, 21, 0]), (0, 5, []), (0, 60, []), (0, 60, []), (8, 4, [23, 24, 25, 0]), (0, 5, []), (0, 60, []), (0, 60, []), (8, 4, [27, 28, 29, 0]), (0, 5, []), (0, 60, []), (0, 60, []), (8, 4, [31, 32, 33, 0]), (0, 5, []), (0, 60, []), (0, 60, []), (7, 8, [35, 0, 36, 0, 37, 0, 105, 0]), (0, 128, []), (0, 128, []), (0, 128, []), (4, 16, [39, 40, 41, 42, 43, 44, 0, 0, 0, 0, 0, 0, 0, 0, 0, 0]), (0, 80, []), (0, 80, []), (0, 80, []), (0, 80, []), (0, 80, []), (0, 4, []), (9, 4, [46, 47, 48, 0]), (0, 40, []), (0, 40, []), (0, 40, []), (0, 8, []), (0, 5, []), (0, 5, []), (0, 5, []), (6, 6, [54, 55, 56, 57, 0, 0]), (0, 40, []), (0, 40, []), (0, 40, []), (0, 40, []), (5, 5, [59, 0, 60, 0, 0]), (0, 50, []), (0, 24, []), (3, 6, [60, 62, 64, 66, 68, 70]), (10, 4, [0, 0, 0, 63]), (1, 60, []), (10, 4, [0, 0, 0, 65]), (1, 60, []), (10, 4, [0, 0, 0, 67]), (1, 60, []), (10, 4, [0, 0, 0, 69]), (1, 60, []), (10, 4, [0, 0, 0, 71]), (1, 60, []), (10, 4, [0, 0, 0, 73]), (1, 60, []), (13, 55, [75, 76, 77, 78, 0, 0, 79, 0, 80, 0, 0, 0, 0, 0, 0, 81, 0, 82, 83, 84, 85, 0, 86, 87, 88, 89, 90, 91, 0, 0, 0, 0, 92, 0, 93, 94, 95, 0, 96, 97, 0, 98, 0, 0, 1, 0, 99, 100, 0, 0, 0, 101, 102, 103, 104]), (0, 30, []), (0, 40, []), (0, 40, []), (0, 40, []), (0, 120, []), (0, 120, []), (0, 8, []), (0, 5, []), (0, 6, []), (0, 360, []), (0, 360, []), (0, 200, []), (0, 200, []), (0, 200, []), (0, 200, []), (0, 200, []), (0, 200, []), (0, 4, []), (0, 40, []), (0, 40, []), (0, 40, []), (0, 8, []), (0, 60, []), (0, 5, []), (0, 50, []), (0, 24, []), (0, 6, []), (0, 6, []), (1, 360, []), (1, 60, []), (11, 2, [106, 0]), (0, 120, [])]
def rend (G : gp) (sh : Nat × Nat × List Nat) (fi : Nat → Int32) (fl : Nat → Int64) : va_E := match sh with
  | (0, n, _) => .inl (gC G 0, n, .inl fi)
  | (1, n, _) => .inl (gC G 1, n, .inr (.inl fl))
  | (2, n, rs) => .inl (gC G 2, n, .inr (.inr (.inr (.inr (fun j => (rs[j]?).map (gA G))))))
  | (3, n, rs) => .inl (gC G 3, n, .inr (.inr (.inr (.inr (fun j => (rs[j]?).map (gA G))))))
  | (c + 4, _, fs) => .inr (c, fs.zipIdx.map fun p => match p.1 with | 0 => .int (fi p.2) | 1 => .long (fl p.2) | r + 2 => .ref (gA G r))
def ent (G : gp) (X : Mm × Mm) (k : Nat) : va_E := rend G (skl.getD k (0, 0, [])) ((if (k < 72 ∨ 103 ≤ k) then X.1 else X.2).1 k) ((if (k < 72 ∨ 103 ≤ k) then X.1 else X.2).2 k)
def wld (G : gp) (X : Mm × Mm) : va_W := (List.range 105).map fun k => (gA G k, ent G X k)
theorem wld_get {G : gp} {X : Mm × Mm} {q : Nat} (h : q < 105) : (wld G X)[q]? = some (gA G q, ent G X q) := by
  unfold wld
  rw [List.getElem?_map, List.getElem?_range h]
  rfl
theorem wld_none {G : gp} {X : Mm × Mm} {q : Nat} (h : ¬ q < 105) : (wld G X)[q]? = none := by
  unfold wld
  rw [List.getElem?_eq_none]
  rw [List.length_map, List.length_range]
  omega
theorem wld_set {G : gp} {X X' : Mm × Mm} {q : Nat} {e : va_E} (hq : q < 105) (h1 : ent G X' q = e) (h2 : ∀ k, k ≠ q → ent G X' k = ent G X k) : (wld G X).set q (gA G q, e) = wld G X' := by
  apply List.ext_getElem?
  intro k
  rw [List.getElem?_set]
  by_cases hk : q = k
  · subst hk
    have hl : q < (wld G X).length := by unfold wld; rw [List.length_map, List.length_range]; exact hq
    rw [if_pos rfl, if_pos hl, wld_get hq, h1]
  · rw [if_neg hk]
    by_cases hk2 : k < 105
    · rw [wld_get hk2, wld_get hk2, h2 k (fun z => hk z.symm)]
    · rw [wld_none hk2, wld_none hk2]
theorem ent_eq {G : gp} {X X' : Mm × Mm} {k : Nat} (h1 : (if (k < 72 ∨ 103 ≤ k) then X'.1 else X'.2).1 k = (if (k < 72 ∨ 103 ≤ k) then X.1 else X.2).1 k) (h2 : (if (k < 72 ∨ 103 ≤ k) then X'.1 else X'.2).2 k = (if (k < 72 ∨ 103 ≤ k) then X.1 else X.2).2 k) : ent G X' k = ent G X k := by
  unfold ent
  rw [h1, h2]
theorem wrI_ne {C : Mm} {q i k : Nat} {v : Int32} (h : k ≠ q) : (wrI C q i v).1 k = C.1 k := by
  funext j
  show (if k = q ∧ j = i then v else C.1 k j) = C.1 k j
  rw [if_neg (fun z => h z.1)]
theorem wrL_ne {C : Mm} {q i k : Nat} {v : Int64} (h : k ≠ q) : (wrL C q i v).2 k = C.2 k := by
  funext j
  show (if k = q ∧ j = i then v else C.2 k j) = C.2 k j
  rw [if_neg (fun z => h z.1)]
theorem wrI_eq {C : Mm} {q i : Nat} {v : Int32} : (wrI C q i v).1 q = upd (C.1 q) i v := by
  funext j
  show (if q = q ∧ j = i then v else C.1 q j) = if j = i then v else C.1 q j
  by_cases h : j = i
  · rw [if_pos ⟨rfl, h⟩, if_pos h]
  · rw [if_neg (fun z => h z.2), if_neg h]
theorem wrL_eq {C : Mm} {q i : Nat} {v : Int64} : (wrL C q i v).2 q = vp_updL (C.2 q) i v := by
  funext j
  show (if q = q ∧ j = i then v else C.2 q j) = if j = i then v else C.2 q j
  by_cases h : j = i
  · rw [if_pos ⟨rfl, h⟩, if_pos h]
  · rw [if_neg (fun z => h z.2), if_neg h]
theorem ent_wrIC {G : gp} {C R : Mm} {q i : Nat} {v : Int32} (hq : q < 72 ∨ 103 ≤ q) : ∀ k, k ≠ q → ent G (wrI C q i v, R) k = ent G (C, R) k := by
  intro k hk
  apply ent_eq
  · by_cases h : k < 72 ∨ 103 ≤ k
    · rw [if_pos h, if_pos h]; exact wrI_ne hk
    · rw [if_neg h, if_neg h]
  · by_cases h : k < 72 ∨ 103 ≤ k
    · rw [if_pos h, if_pos h]; rfl
    · rw [if_neg h, if_neg h]
theorem ent_wrIR {G : gp} {C R : Mm} {q i : Nat} {v : Int32} (hq : ¬ (q < 72 ∨ 103 ≤ q)) : ∀ k, k ≠ q → ent G (C, wrI R q i v) k = ent G (C, R) k := by
  intro k hk
  apply ent_eq
  · by_cases h : k < 72 ∨ 103 ≤ k
    · rw [if_pos h, if_pos h]
    · rw [if_neg h, if_neg h]; exact wrI_ne hk
  · by_cases h : k < 72 ∨ 103 ≤ k
    · rw [if_pos h, if_pos h]
    · rw [if_neg h, if_neg h]; rfl
theorem ent_wrLC {G : gp} {C R : Mm} {q i : Nat} {v : Int64} (hq : q < 72 ∨ 103 ≤ q) : ∀ k, k ≠ q → ent G (wrL C q i v, R) k = ent G (C, R) k := by
  intro k hk
  apply ent_eq
  · by_cases h : k < 72 ∨ 103 ≤ k
    · rw [if_pos h, if_pos h]; rfl
    · rw [if_neg h, if_neg h]
  · by_cases h : k < 72 ∨ 103 ≤ k
    · rw [if_pos h, if_pos h]; exact wrL_ne hk
    · rw [if_neg h, if_neg h]
theorem ent_wrLR {G : gp} {C R : Mm} {q i : Nat} {v : Int64} (hq : ¬ (q < 72 ∨ 103 ≤ q)) : ∀ k, k ≠ q → ent G (C, wrL R q i v) k = ent G (C, R) k := by
  intro k hk
  apply ent_eq
  · by_cases h : k < 72 ∨ 103 ≤ k
    · rw [if_pos h, if_pos h]
    · rw [if_neg h, if_neg h]; rfl
  · by_cases h : k < 72 ∨ 103 ≤ k
    · rw [if_pos h, if_pos h]
    · rw [if_neg h, if_neg h]; exact wrL_ne hk
theorem ent_aIC {G : gp} {C R : Mm} {q i n : Nat} {v : Int32} (hq : q < 72 ∨ 103 ≤ q) (hs : skl.getD q (0, 0, []) = (0, n, [])) : ent G (wrI C q i v, R) q = .inl (gC G 0, n, .inl (upd (C.1 q) i v)) := by
  unfold ent
  rw [hs, if_pos hq, wrI_eq]
  rfl
theorem ent_aIR {G : gp} {C R : Mm} {q i n : Nat} {v : Int32} (hq : ¬ (q < 72 ∨ 103 ≤ q)) (hs : skl.getD q (0, 0, []) = (0, n, [])) : ent G (C, wrI R q i v) q = .inl (gC G 0, n, .inl (upd (R.1 q) i v)) := by
  unfold ent
  rw [hs, if_neg hq, wrI_eq]
  rfl
theorem ent_aLC {G : gp} {C R : Mm} {q i n : Nat} {v : Int64} (hq : q < 72 ∨ 103 ≤ q) (hs : skl.getD q (0, 0, []) = (1, n, [])) : ent G (wrL C q i v, R) q = .inl (gC G 1, n, .inr (.inl (vp_updL (C.2 q) i v))) := by
  unfold ent
  rw [hs, if_pos hq, wrL_eq]
  rfl
theorem ent_aLR {G : gp} {C R : Mm} {q i n : Nat} {v : Int64} (hq : ¬ (q < 72 ∨ 103 ≤ q)) (hs : skl.getD q (0, 0, []) = (1, n, [])) : ent G (C, wrL R q i v) q = .inl (gC G 1, n, .inr (.inl (vp_updL (R.2 q) i v))) := by
  unfold ent
  rw [hs, if_neg hq, wrL_eq]
  rfl
theorem cpI_ne {C : Mm} {q0 sp q dp n k : Nat} (h : k ≠ q) : (cpI C q0 sp q dp n).1 k = C.1 k := by
  funext j
  show (if k = q ∧ dp ≤ j ∧ j < dp + n then C.1 q0 (sp + (j - dp)) else C.1 k j) = C.1 k j
  rw [if_neg (fun z => h z.1)]
theorem cpL_ne {C : Mm} {q0 sp q dp n k : Nat} (h : k ≠ q) : (cpL C q0 sp q dp n).2 k = C.2 k := by
  funext j
  show (if k = q ∧ dp ≤ j ∧ j < dp + n then C.2 q0 (sp + (j - dp)) else C.2 k j) = C.2 k j
  rw [if_neg (fun z => h z.1)]
theorem cpI_eq {C : Mm} {q0 sp q dp n : Nat} : (cpI C q0 sp q dp n).1 q = va_cpy (C.1 q0) (C.1 q) sp dp n := by
  funext j
  show (if q = q ∧ dp ≤ j ∧ j < dp + n then C.1 q0 (sp + (j - dp)) else C.1 q j) = if dp ≤ j ∧ j < dp + n then C.1 q0 (sp + (j - dp)) else C.1 q j
  by_cases h : dp ≤ j ∧ j < dp + n
  · rw [if_pos ⟨rfl, h⟩, if_pos h]
  · rw [if_neg (fun z => h z.2), if_neg h]
theorem cpL_eq {C : Mm} {q0 sp q dp n : Nat} : (cpL C q0 sp q dp n).2 q = va_cpy (C.2 q0) (C.2 q) sp dp n := by
  funext j
  show (if q = q ∧ dp ≤ j ∧ j < dp + n then C.2 q0 (sp + (j - dp)) else C.2 q j) = if dp ≤ j ∧ j < dp + n then C.2 q0 (sp + (j - dp)) else C.2 q j
  by_cases h : dp ≤ j ∧ j < dp + n
  · rw [if_pos ⟨rfl, h⟩, if_pos h]
  · rw [if_neg (fun z => h z.2), if_neg h]
theorem ent_cpIC {G : gp} {C R : Mm} {q0 sp q dp n : Nat} (hq : q < 72 ∨ 103 ≤ q) : ∀ k, k ≠ q → ent G (cpI C q0 sp q dp n, R) k = ent G (C, R) k := by
  intro k hk
  apply ent_eq
  · by_cases h : k < 72 ∨ 103 ≤ k
    · rw [if_pos h, if_pos h]; exact cpI_ne hk
    · rw [if_neg h, if_neg h]
  · by_cases h : k < 72 ∨ 103 ≤ k
    · rw [if_pos h, if_pos h]; rfl
    · rw [if_neg h, if_neg h]
theorem ent_cpLC {G : gp} {C R : Mm} {q0 sp q dp n : Nat} (hq : q < 72 ∨ 103 ≤ q) : ∀ k, k ≠ q → ent G (cpL C q0 sp q dp n, R) k = ent G (C, R) k := by
  intro k hk
  apply ent_eq
  · by_cases h : k < 72 ∨ 103 ≤ k
    · rw [if_pos h, if_pos h]; rfl
    · rw [if_neg h, if_neg h]
  · by_cases h : k < 72 ∨ 103 ≤ k
    · rw [if_pos h, if_pos h]; exact cpL_ne hk
    · rw [if_neg h, if_neg h]
theorem ent_cIC {G : gp} {C R : Mm} {q0 sp q dp k n : Nat} (hq : q < 72 ∨ 103 ≤ q) (hs : skl.getD q (0, 0, []) = (0, n, [])) : ent G (cpI C q0 sp q dp k, R) q = .inl (gC G 0, n, .inl (va_cpy (C.1 q0) (C.1 q) sp dp k)) := by
  unfold ent
  rw [hs, if_pos hq, cpI_eq]
  rfl
theorem ent_cLC {G : gp} {C R : Mm} {q0 sp q dp k n : Nat} (hq : q < 72 ∨ 103 ≤ q) (hs : skl.getD q (0, 0, []) = (1, n, [])) : ent G (cpL C q0 sp q dp k, R) q = .inl (gC G 1, n, .inr (.inl (va_cpy (C.2 q0) (C.2 q) sp dp k))) := by
  unfold ent
  rw [hs, if_pos hq, cpL_eq]
  rfl

def stv0 (j : Nat) : Int32 := ([108, 97, 104, 116, 99] : List Int32).getD j 0
def stv1 (j : Nat) : Int32 := ([0, 0, 0, 9, 1] : List Int32).getD j 0
def stv2 (j : Nat) : Int32 := ([99, 99, 99, 99, 40] : List Int32).getD j 0
def stv3 (j : Nat) : Int64 := ([1, 10, 100, 1000, 10000, 100000, 1000000, 10000000, 100000000, 1000000000, 10000000000, 100000000000, 1000000000000, 10000000000000, 100000000000000, 1000000000000000, 10000000000000000, 100000000000000000, 1000000000000000000] : List Int64).getD j 0
def stv4 (j : Nat) : Int32 := ([1, 10, 100, 1000, 10000, 100000, 1000000, 10000000, 100000000, 1000000000] : List Int32).getD j 0
def stv5 (j : Nat) : Int32 := ([-1, 0, 0, 2, 0, 1, 0, 6] : List Int32).getD j 0
def stv6 (j : Nat) : Int32 := ([1, 10, 11, 2, 20, 0, 0, 0, 0, 30, 0, 0, 0, 0, 40, 0, 0, 0, 0, 50, 60, 0, 61, 0, 0, 0, 70, 0, 0, 80, 0, 81] : List Int32).getD j 0
def Sts (G : gp) (U : State) (H : Heap) : Prop := (va_Z "HeadReckons$Head" "LETTERS" "[I" (.ref (gT G 0)) (lwA G) U H ∧ va_T .int (gT G 0) 5 (fun j => .int (stv0 j)) (lwA G) U H) ∧ (va_Z "HeadReckons$Head" "LEAST" "[I" (.ref (gT G 1)) (lwA G) U H ∧ va_T .int (gT G 1) 5 (fun j => .int (stv1 j)) (lwA G) U H) ∧ (va_Z "HeadReckons$Head" "MOST" "[I" (.ref (gT G 2)) (lwA G) U H ∧ va_T .int (gT G 2) 5 (fun j => .int (stv2 j)) (lwA G) U H) ∧ (va_Z "HeadReckons$Figures" "TENS" "[J" (.ref (gT G 3)) (lwA G) U H ∧ va_T .long (gT G 3) 19 (fun j => .long (stv3 j)) (lwA G) U H) ∧ (va_Z "HeadReckons$Figures" "INT_TENS" "[I" (.ref (gT G 4)) (lwA G) U H ∧ va_T .int (gT G 4) 10 (fun j => .int (stv4 j)) (lwA G) U H) ∧ (va_Z "HeadReckons$Bodies" "ABOVE" "[I" (.ref (gT G 5)) (lwA G) U H ∧ va_T .int (gT G 5) 8 (fun j => .int (stv5 j)) (lwA G) U H) ∧ (va_Z "HeadReckons$Bodies" "OWN" "[I" (.ref (gT G 6)) (lwA G) U H ∧ va_T .int (gT G 6) 32 (fun j => .int (stv6 j)) (lwA G) U H)
/-- the one call that crosses from a nest mate to a private method of its host -/
def nst (U : State) : Prop := va_Nw (.methodLinkNest RX5 71 yX10_canBeTaught "HeadReckons") U
theorem nst.warm {s U : State} (hW : s.WarmedH U.vm) (h : nst s) : nst U := va_Nw.warmM hW h
def adOK (G : gp) : Prop := (∀ i j, i < 105 → j < 105 → gA G i = gA G j → i = j) ∧ ∀ i, i < 105 → gB G ≤ gA G i
abbrev tysG (G : gp) : List (ClassId × FieldType) := [(gC G 0, .int), (gC G 1, .long), (gC G 2, .object RX5), (gC G 3, .object RX8)]
/-- the world of both objects: what the heap holds, with the memories X -/
def Rl (G : gp) (X : Mm × Mm) (U : State) : Prop := gB G ≤ U.heap.size ∧ va_P (gD G) vwCl (wld G X) U.heap ∧ va_K (gD G) vwCl (tysG G) U ∧ Sts G U U.heap ∧ adOK G ∧ nst U
theorem wld_D {G : gp} (h : adOK G) (X : Mm × Mm) : va_D (lwA G) (wld G X) := by
  have key : ∀ (i : Nat) (p : Nat × va_E), (wld G X)[i]? = some p → i < 105 ∧ p.1 = gA G i := by
    intro i p hp
    by_cases hi : i < 105
    · rw [wld_get hi] at hp
      cases hp
      exact ⟨hi, rfl⟩
    · rw [wld_none hi] at hp
      cases hp
  refine ⟨fun i j p q hp hq e => ?_, fun k q hq => ?_⟩
  · obtain ⟨h1, h2⟩ := key i p hp
    obtain ⟨h3, h4⟩ := key j q hq
    rw [h2, h4] at e
    exact h.1 i j h1 h3 e
  · obtain ⟨h1, h2⟩ := key k q hq
    show gB G ≤ q.1
    rw [h2]
    exact h.2 k h1
theorem Sts.moved {G : gp} {u U : State} {H : Heap} (hvm : u.vm.Alike U.vm) (h : Sts G u H) : Sts G U H := by
  obtain ⟨⟨a1, b1⟩, ⟨a2, b2⟩, ⟨a3, b3⟩, ⟨a4, b4⟩, ⟨a5, b5⟩, ⟨a6, b6⟩, ⟨a7, b7⟩⟩ := h
  exact ⟨⟨a1.moved hvm, b1.moved hvm⟩, ⟨a2.moved hvm, b2.moved hvm⟩, ⟨a3.moved hvm, b3.moved hvm⟩, ⟨a4.moved hvm, b4.moved hvm⟩, ⟨a5.moved hvm, b5.moved hvm⟩, ⟨a6.moved hvm, b6.moved hvm⟩, ⟨a7.moved hvm, b7.moved hvm⟩⟩
theorem Sts.kept {G : gp} {U : State} {H H1 : Heap} (h : Sts G U H) (hq : ∀ a : Nat, a < H.size → ¬ lwA G a → H1[a]? = H[a]?) : Sts G U H1 := by
  obtain ⟨⟨a1, b1⟩, ⟨a2, b2⟩, ⟨a3, b3⟩, ⟨a4, b4⟩, ⟨a5, b5⟩, ⟨a6, b6⟩, ⟨a7, b7⟩⟩ := h
  exact ⟨⟨a1.kept hq, b1.kept hq⟩, ⟨a2.kept hq, b2.kept hq⟩, ⟨a3.kept hq, b3.kept hq⟩, ⟨a4.kept hq, b4.kept hq⟩, ⟨a5.kept hq, b5.kept hq⟩, ⟨a6.kept hq, b6.kept hq⟩, ⟨a7.kept hq, b7.kept hq⟩⟩
/-- what holds all through a method's walk -/
def Cx (G : gp) (p : Program) (s : State) (m : MethodId) (args : Array Value) (meth : Method) (c : Code) (cc : ByteArray) (own : String) (nL : Nat) : Prop :=
  p.tables.exec = Jvm.exec ∧ c.code = cc ∧ c.maxLocals = nL ∧ s.vm.findClass own = some m.cls ∧ (∀ w ∈ lw_gd, w.before args s = true) ∧ va_K (gD G) vwCl (tysG G) s ∧ adOK G ∧ gB G ≤ s.heap.size ∧ Sts G s s.heap ∧ meth.locks = false ∧ nst s
abbrev rmv (f l : Nat) : Room := { frames := f, cells := 0, slots := 0, locals := l }
theorem rm_le {f g a b : Nat} (h1 : f ≤ a) (h2 : g ≤ b) : f ≤ (rmv a b).frames ∧ g ≤ (rmv a b).locals := ⟨h1, h2⟩
def wsy (y : MethodName) (bz : ByteArray) (mz : Nat) (ret : Option FieldType) : List Cond := Cond.code y bz mz ret :: lw_gd
theorem wsy_in {y : MethodName} {bz : ByteArray} {mz : Nat} {ret : Option FieldType} (h : Cond.code y bz mz ret ∈ lw_gd) : GoodIn lw_gd (wsy y bz mz ret) := by
  intro w hw
  rcases List.mem_cons.mp hw with rfl | hw
  · exact tbl_in _ h
  · exact tbl_in w hw
def PT (_ : Int32) : Prop := True
def PZ (r : Int32) : Prop := narrow .boolean (.int r) = .int r
def Qi (G : gp) (PB : Int32 → Prop) (r0 : Int32) (X0 : Mm × Mm) : Array Value → State → Outcome → State → Prop := va_Qi (fun r X => r = r0 ∧ X = X0 ∧ PB r) (Rl G) (lwA G)
def Ql (G : gp) (r0 : Int64) (X0 : Mm × Mm) : Array Value → State → Outcome → State → Prop := va_Ql (fun r X => r = r0 ∧ X = X0) (Rl G) (lwA G)
def Qv (G : gp) (X0 : Mm × Mm) : Array Value → State → Outcome → State → Prop := va_Qv (fun X => X = X0) (Rl G) (lwA G)
theorem met_i {l : Launch} {G : gp} {X : Mm × Mm} {y : MethodName} {bz : ByteArray} {mz fz lz : Nat} {ret : Option FieldType} {Qc : Array Value → State → Outcome → State → Prop} (As : List Value) (hy : plainName y.cls = true) (hn : (lg_sl As).length ≤ mz)
    (body : ∀ (p : Program) (e : Env) (s : State) (m : MethodId) (args : Array Value) (below : List Frame) (meth : Method) (c : Code) (ls : Array Slot), Cx G p s m args meth c bz y.cls mz → meth.sig.returnType = ret → va_P (gD G) vwCl (wld G X) s.heap → lv_has ls mz (lv_args 0 As) →
      W p l e (rmv fz lz) s m args below meth c s.heap [] 0 0 (MQ below Qc args s 0 0 (lwA G)) (F0 m 0 ls [])) : Met l y (wsy y bz mz ret) (rmv fz lz) (va_Pc As (Rl G X)) Qc 0 0 (lwA G) := by
  refine Met.ofW (cc := bz) (maxL := mz) (ret := ret) hy rfl ?_
  intro p e s m args below meth c s₁ B hml hv
  obtain ⟨rfl, hbs, hP, hK, hSt, hG, hN⟩ := hv
  have hts := atoms_spec (ws := wsy y bz mz ret) B.pre
  have hl := lv_entry As (n := mz) hn
  rw [lg_entry_eq]
  generalize (lg_sl As ++ List.replicate (mz - (lg_sl As).length) Slot.unset).toArray = ls at hl ⊢
  exact body p e s m _ below meth c ls ⟨B.exec, B.bytes, hml, findClass_of_methodNamed B.named, fun w h => hts w (List.mem_cons_of_mem _ h), hK, hG, hbs, hSt, B.notSynchronized, hN⟩ B.returns hP hl

theorem e_0 (G : gp) (X : Mm × Mm) : (wld G X)[0]? = some (gA G 0, .inr (8, [.ref (gA G 1), .ref (gA G 3), .int (X.1.1 0 2), .ref (gA G 28), .ref (gA G 32), .ref (gA G 36), .ref (gA G 43), .ref (gA G 47), .int (X.1.1 0 8), .ref (gA G 48), .ref (gA G 49), .ref (gA G 50), .ref (gA G 51), .ref (gA G 56), .ref (gA G 59)])) := wld_get (by decide)
theorem e_1 (G : gp) (X : Mm × Mm) : (wld G X)[1]? = some (gA G 1, .inr (7, [.ref (gA G 2), .int (X.1.1 1 1)])) := wld_get (by decide)
theorem e_2 (G : gp) (X : Mm × Mm) : (wld G X)[2]? = some (gA G 2, .inl (gC G 0, 120, .inl (X.1.1 2))) := wld_get (by decide)
theorem e_3 (G : gp) (X : Mm × Mm) : (wld G X)[3]? = some (gA G 3, .inl (gC G 2, 6, .inr (.inr (.inr (.inr (fun j => (([4, 8, 12, 16, 20, 24] : List Nat)[j]?).map (gA G))))))) := wld_get (by decide)
theorem e_4 (G : gp) (X : Mm × Mm) : (wld G X)[4]? = some (gA G 4, .inr (4, [.ref (gA G 5), .ref (gA G 6), .ref (gA G 7), .int (X.1.1 4 3)])) := wld_get (by decide)
theorem e_5 (G : gp) (X : Mm × Mm) : (wld G X)[5]? = some (gA G 5, .inl (gC G 0, 5, .inl (X.1.1 5))) := wld_get (by decide)
theorem e_6 (G : gp) (X : Mm × Mm) : (wld G X)[6]? = some (gA G 6, .inl (gC G 0, 60, .inl (X.1.1 6))) := wld_get (by decide)
theorem e_7 (G : gp) (X : Mm × Mm) : (wld G X)[7]? = some (gA G 7, .inl (gC G 0, 60, .inl (X.1.1 7))) := wld_get (by decide)
theorem e_8 (G : gp) (X : Mm × Mm) : (wld G X)[8]? = some (gA G 8, .inr (4, [.ref (gA G 9), .ref (gA G 10), .ref (gA G 11), .int (X.1.1 8 3)])) := wld_get (by decide)
theorem e_9 (G : gp) (X : Mm × Mm) : (wld G X)[9]? = some (gA G 9, .inl (gC G 0, 5, .inl (X.1.1 9))) := wld_get (by decide)
theorem e_10 (G : gp) (X : Mm × Mm) : (wld G X)[10]? = some (gA G 10, .inl (gC G 0, 60, .inl (X.1.1 10))) := wld_get (by decide)
theorem e_11 (G : gp) (X : Mm × Mm) : (wld G X)[11]? = some (gA G 11, .inl (gC G 0, 60, .inl (X.1.1 11))) := wld_get (by decide)
theorem e_12 (G : gp) (X : Mm × Mm) : (wld G X)[12]? = some (gA G 12, .inr (4, [.ref (gA G 13), .ref (gA G 14), .ref (gA G 15), .int (X.1.1 12 3)])) := wld_get (by decide)
theorem e_13 (G : gp) (X : Mm × Mm) : (wld G X)[13]? = some (gA G 13, .inl (gC G 0, 5, .inl (X.1.1 13))) := wld_get (by decide)
theorem e_14 (G : gp) (X : Mm × Mm) : (wld G X)[14]? = some (gA G 14, .inl (gC G 0, 60, .inl (X.1.1 14))) := wld_get (by decide)
theorem e_15 (G : gp) (X : Mm × Mm) : (wld G X)[15]? = some (gA G 15, .inl (gC G 0, 60, .inl (X.1.1 15))) := wld_get (by decide)
theorem e_16 (G : gp) (X : Mm × Mm) : (wld G X)[16]? = some (gA G 16, .inr (4, [.ref (gA G 17), .ref (gA G 18), .ref (gA G 19), .int (X.1.1 16 3)])) := wld_get (by decide)
theorem e_17 (G : gp) (X : Mm × Mm) : (wld G X)[17]? = some (gA G 17, .inl (gC G 0, 5, .inl (X.1.1 17))) := wld_get (by decide)
theorem e_18 (G : gp) (X : Mm × Mm) : (wld G X)[18]? = some (gA G 18, .inl (gC G 0, 60, .inl (X.1.1 18))) := wld_get (by decide)
theorem e_19 (G : gp) (X : Mm × Mm) : (wld G X)[19]? = some (gA G 19, .inl (gC G 0, 60, .inl (X.1.1 19))) := wld_get (by decide)
theorem e_20 (G : gp) (X : Mm × Mm) : (wld G X)[20]? = some (gA G 20, .inr (4, [.ref (gA G 21), .ref (gA G 22), .ref (gA G 23), .int (X.1.1 20 3)])) := wld_get (by decide)
theorem e_21 (G : gp) (X : Mm × Mm) : (wld G X)[21]? = some (gA G 21, .inl (gC G 0, 5, .inl (X.1.1 21))) := wld_get (by decide)
theorem e_22 (G : gp) (X : Mm × Mm) : (wld G X)[22]? = some (gA G 22, .inl (gC G 0, 60, .inl (X.1.1 22))) := wld_get (by decide)
theorem e_23 (G : gp) (X : Mm × Mm) : (wld G X)[23]? = some (gA G 23, .inl (gC G 0, 60, .inl (X.1.1 23))) := wld_get (by decide)
theorem e_24 (G : gp) (X : Mm × Mm) : (wld G X)[24]? = some (gA G 24, .inr (4, [.ref (gA G 25), .ref (gA G 26), .ref (gA G 27), .int (X.1.1 24 3)])) := wld_get (by decide)
theorem e_25 (G : gp) (X : Mm × Mm) : (wld G X)[25]? = some (gA G 25, .inl (gC G 0, 5, .inl (X.1.1 25))) := wld_get (by decide)
theorem e_26 (G : gp) (X : Mm × Mm) : (wld G X)[26]? = some (gA G 26, .inl (gC G 0, 60, .inl (X.1.1 26))) := wld_get (by decide)
theorem e_27 (G : gp) (X : Mm × Mm) : (wld G X)[27]? = some (gA G 27, .inl (gC G 0, 60, .inl (X.1.1 27))) := wld_get (by decide)
theorem e_28 (G : gp) (X : Mm × Mm) : (wld G X)[28]? = some (gA G 28, .inr (4, [.ref (gA G 29), .ref (gA G 30), .ref (gA G 31), .int (X.1.1 28 3)])) := wld_get (by decide)
theorem e_29 (G : gp) (X : Mm × Mm) : (wld G X)[29]? = some (gA G 29, .inl (gC G 0, 5, .inl (X.1.1 29))) := wld_get (by decide)
theorem e_30 (G : gp) (X : Mm × Mm) : (wld G X)[30]? = some (gA G 30, .inl (gC G 0, 60, .inl (X.1.1 30))) := wld_get (by decide)
theorem e_31 (G : gp) (X : Mm × Mm) : (wld G X)[31]? = some (gA G 31, .inl (gC G 0, 60, .inl (X.1.1 31))) := wld_get (by decide)
theorem e_32 (G : gp) (X : Mm × Mm) : (wld G X)[32]? = some (gA G 32, .inr (3, [.ref (gA G 33), .int (X.1.1 32 1), .ref (gA G 34), .int (X.1.1 32 3), .ref (gA G 35), .int (X.1.1 32 5), .ref (gA G 103), .int (X.1.1 32 7)])) := wld_get (by decide)
theorem e_33 (G : gp) (X : Mm × Mm) : (wld G X)[33]? = some (gA G 33, .inl (gC G 0, 128, .inl (X.1.1 33))) := wld_get (by decide)
theorem e_34 (G : gp) (X : Mm × Mm) : (wld G X)[34]? = some (gA G 34, .inl (gC G 0, 128, .inl (X.1.1 34))) := wld_get (by decide)
theorem e_35 (G : gp) (X : Mm × Mm) : (wld G X)[35]? = some (gA G 35, .inl (gC G 0, 128, .inl (X.1.1 35))) := wld_get (by decide)
theorem e_36 (G : gp) (X : Mm × Mm) : (wld G X)[36]? = some (gA G 36, .inr (0, [.ref (gA G 37), .ref (gA G 38), .ref (gA G 39), .ref (gA G 40), .ref (gA G 41), .ref (gA G 42), .int (X.1.1 36 6), .int (X.1.1 36 7), .int (X.1.1 36 8), .int (X.1.1 36 9), .int (X.1.1 36 10), .int (X.1.1 36 11), .int (X.1.1 36 12), .int (X.1.1 36 13), .int (X.1.1 36 14), .int (X.1.1 36 15)])) := wld_get (by decide)
theorem e_37 (G : gp) (X : Mm × Mm) : (wld G X)[37]? = some (gA G 37, .inl (gC G 0, 80, .inl (X.1.1 37))) := wld_get (by decide)
theorem e_38 (G : gp) (X : Mm × Mm) : (wld G X)[38]? = some (gA G 38, .inl (gC G 0, 80, .inl (X.1.1 38))) := wld_get (by decide)
theorem e_39 (G : gp) (X : Mm × Mm) : (wld G X)[39]? = some (gA G 39, .inl (gC G 0, 80, .inl (X.1.1 39))) := wld_get (by decide)
theorem e_40 (G : gp) (X : Mm × Mm) : (wld G X)[40]? = some (gA G 40, .inl (gC G 0, 80, .inl (X.1.1 40))) := wld_get (by decide)
theorem e_41 (G : gp) (X : Mm × Mm) : (wld G X)[41]? = some (gA G 41, .inl (gC G 0, 80, .inl (X.1.1 41))) := wld_get (by decide)
theorem e_42 (G : gp) (X : Mm × Mm) : (wld G X)[42]? = some (gA G 42, .inl (gC G 0, 4, .inl (X.1.1 42))) := wld_get (by decide)
theorem e_43 (G : gp) (X : Mm × Mm) : (wld G X)[43]? = some (gA G 43, .inr (5, [.ref (gA G 44), .ref (gA G 45), .ref (gA G 46), .int (X.1.1 43 3)])) := wld_get (by decide)
theorem e_44 (G : gp) (X : Mm × Mm) : (wld G X)[44]? = some (gA G 44, .inl (gC G 0, 40, .inl (X.1.1 44))) := wld_get (by decide)
theorem e_45 (G : gp) (X : Mm × Mm) : (wld G X)[45]? = some (gA G 45, .inl (gC G 0, 40, .inl (X.1.1 45))) := wld_get (by decide)
theorem e_46 (G : gp) (X : Mm × Mm) : (wld G X)[46]? = some (gA G 46, .inl (gC G 0, 40, .inl (X.1.1 46))) := wld_get (by decide)
theorem e_47 (G : gp) (X : Mm × Mm) : (wld G X)[47]? = some (gA G 47, .inl (gC G 0, 8, .inl (X.1.1 47))) := wld_get (by decide)
theorem e_48 (G : gp) (X : Mm × Mm) : (wld G X)[48]? = some (gA G 48, .inl (gC G 0, 5, .inl (X.1.1 48))) := wld_get (by decide)
theorem e_49 (G : gp) (X : Mm × Mm) : (wld G X)[49]? = some (gA G 49, .inl (gC G 0, 5, .inl (X.1.1 49))) := wld_get (by decide)
theorem e_50 (G : gp) (X : Mm × Mm) : (wld G X)[50]? = some (gA G 50, .inl (gC G 0, 5, .inl (X.1.1 50))) := wld_get (by decide)
theorem e_51 (G : gp) (X : Mm × Mm) : (wld G X)[51]? = some (gA G 51, .inr (2, [.ref (gA G 52), .ref (gA G 53), .ref (gA G 54), .ref (gA G 55), .int (X.1.1 51 4), .int (X.1.1 51 5)])) := wld_get (by decide)
theorem e_52 (G : gp) (X : Mm × Mm) : (wld G X)[52]? = some (gA G 52, .inl (gC G 0, 40, .inl (X.1.1 52))) := wld_get (by decide)
theorem e_53 (G : gp) (X : Mm × Mm) : (wld G X)[53]? = some (gA G 53, .inl (gC G 0, 40, .inl (X.1.1 53))) := wld_get (by decide)
theorem e_54 (G : gp) (X : Mm × Mm) : (wld G X)[54]? = some (gA G 54, .inl (gC G 0, 40, .inl (X.1.1 54))) := wld_get (by decide)
theorem e_55 (G : gp) (X : Mm × Mm) : (wld G X)[55]? = some (gA G 55, .inl (gC G 0, 40, .inl (X.1.1 55))) := wld_get (by decide)
theorem e_56 (G : gp) (X : Mm × Mm) : (wld G X)[56]? = some (gA G 56, .inr (1, [.ref (gA G 57), .int (X.1.1 56 1), .ref (gA G 58), .int (X.1.1 56 3), .int (X.1.1 56 4)])) := wld_get (by decide)
theorem e_57 (G : gp) (X : Mm × Mm) : (wld G X)[57]? = some (gA G 57, .inl (gC G 0, 50, .inl (X.1.1 57))) := wld_get (by decide)
theorem e_58 (G : gp) (X : Mm × Mm) : (wld G X)[58]? = some (gA G 58, .inl (gC G 0, 24, .inl (X.1.1 58))) := wld_get (by decide)
theorem e_59 (G : gp) (X : Mm × Mm) : (wld G X)[59]? = some (gA G 59, .inl (gC G 3, 6, .inr (.inr (.inr (.inr (fun j => (([60, 62, 64, 66, 68, 70] : List Nat)[j]?).map (gA G))))))) := wld_get (by decide)
theorem e_60 (G : gp) (X : Mm × Mm) : (wld G X)[60]? = some (gA G 60, .inr (6, [.int (X.1.1 60 0), .int (X.1.1 60 1), .int (X.1.1 60 2), .ref (gA G 61)])) := wld_get (by decide)
theorem e_61 (G : gp) (X : Mm × Mm) : (wld G X)[61]? = some (gA G 61, .inl (gC G 1, 60, .inr (.inl (X.1.2 61)))) := wld_get (by decide)
theorem e_62 (G : gp) (X : Mm × Mm) : (wld G X)[62]? = some (gA G 62, .inr (6, [.int (X.1.1 62 0), .int (X.1.1 62 1), .int (X.1.1 62 2), .ref (gA G 63)])) := wld_get (by decide)
theorem e_63 (G : gp) (X : Mm × Mm) : (wld G X)[63]? = some (gA G 63, .inl (gC G 1, 60, .inr (.inl (X.1.2 63)))) := wld_get (by decide)
theorem e_64 (G : gp) (X : Mm × Mm) : (wld G X)[64]? = some (gA G 64, .inr (6, [.int (X.1.1 64 0), .int (X.1.1 64 1), .int (X.1.1 64 2), .ref (gA G 65)])) := wld_get (by decide)
theorem e_65 (G : gp) (X : Mm × Mm) : (wld G X)[65]? = some (gA G 65, .inl (gC G 1, 60, .inr (.inl (X.1.2 65)))) := wld_get (by decide)
theorem e_66 (G : gp) (X : Mm × Mm) : (wld G X)[66]? = some (gA G 66, .inr (6, [.int (X.1.1 66 0), .int (X.1.1 66 1), .int (X.1.1 66 2), .ref (gA G 67)])) := wld_get (by decide)
theorem e_67 (G : gp) (X : Mm × Mm) : (wld G X)[67]? = some (gA G 67, .inl (gC G 1, 60, .inr (.inl (X.1.2 67)))) := wld_get (by decide)
theorem e_68 (G : gp) (X : Mm × Mm) : (wld G X)[68]? = some (gA G 68, .inr (6, [.int (X.1.1 68 0), .int (X.1.1 68 1), .int (X.1.1 68 2), .ref (gA G 69)])) := wld_get (by decide)
theorem e_69 (G : gp) (X : Mm × Mm) : (wld G X)[69]? = some (gA G 69, .inl (gC G 1, 60, .inr (.inl (X.1.2 69)))) := wld_get (by decide)
theorem e_70 (G : gp) (X : Mm × Mm) : (wld G X)[70]? = some (gA G 70, .inr (6, [.int (X.1.1 70 0), .int (X.1.1 70 1), .int (X.1.1 70 2), .ref (gA G 71)])) := wld_get (by decide)
theorem e_71 (G : gp) (X : Mm × Mm) : (wld G X)[71]? = some (gA G 71, .inl (gC G 1, 60, .inr (.inl (X.1.2 71)))) := wld_get (by decide)
theorem e_72 (G : gp) (X : Mm × Mm) : (wld G X)[72]? = some (gA G 72, .inr (9, [.ref (gA G 73), .ref (gA G 74), .ref (gA G 75), .ref (gA G 76), .int (X.2.1 72 4), .int (X.2.1 72 5), .ref (gA G 77), .int (X.2.1 72 7), .ref (gA G 78), .int (X.2.1 72 9), .int (X.2.1 72 10), .int (X.2.1 72 11), .int (X.2.1 72 12), .int (X.2.1 72 13), .int (X.2.1 72 14), .ref (gA G 79), .int (X.2.1 72 16), .ref (gA G 80), .ref (gA G 81), .ref (gA G 82), .ref (gA G 83), .int (X.2.1 72 21), .ref (gA G 84), .ref (gA G 85), .ref (gA G 86), .ref (gA G 87), .ref (gA G 88), .ref (gA G 89), .int (X.2.1 72 28), .int (X.2.1 72 29), .int (X.2.1 72 30), .int (X.2.1 72 31), .ref (gA G 90), .int (X.2.1 72 33), .ref (gA G 91), .ref (gA G 92), .ref (gA G 93), .int (X.2.1 72 37), .ref (gA G 94), .ref (gA G 95), .int (X.2.1 72 40), .ref (gA G 96), .int (X.2.1 72 42), .int (X.2.1 72 43), .long (X.2.2 72 44), .int (X.2.1 72 45), .ref (gA G 97), .ref (gA G 98), .int (X.2.1 72 48), .int (X.2.1 72 49), .int (X.2.1 72 50), .ref (gA G 99), .ref (gA G 100), .ref (gA G 101), .ref (gA G 102)])) := wld_get (by decide)
theorem e_73 (G : gp) (X : Mm × Mm) : (wld G X)[73]? = some (gA G 73, .inl (gC G 0, 30, .inl (X.2.1 73))) := wld_get (by decide)
theorem e_74 (G : gp) (X : Mm × Mm) : (wld G X)[74]? = some (gA G 74, .inl (gC G 0, 40, .inl (X.2.1 74))) := wld_get (by decide)
theorem e_75 (G : gp) (X : Mm × Mm) : (wld G X)[75]? = some (gA G 75, .inl (gC G 0, 40, .inl (X.2.1 75))) := wld_get (by decide)
theorem e_76 (G : gp) (X : Mm × Mm) : (wld G X)[76]? = some (gA G 76, .inl (gC G 0, 40, .inl (X.2.1 76))) := wld_get (by decide)
theorem e_77 (G : gp) (X : Mm × Mm) : (wld G X)[77]? = some (gA G 77, .inl (gC G 0, 120, .inl (X.2.1 77))) := wld_get (by decide)
theorem e_78 (G : gp) (X : Mm × Mm) : (wld G X)[78]? = some (gA G 78, .inl (gC G 0, 120, .inl (X.2.1 78))) := wld_get (by decide)
theorem e_79 (G : gp) (X : Mm × Mm) : (wld G X)[79]? = some (gA G 79, .inl (gC G 0, 8, .inl (X.2.1 79))) := wld_get (by decide)
theorem e_80 (G : gp) (X : Mm × Mm) : (wld G X)[80]? = some (gA G 80, .inl (gC G 0, 5, .inl (X.2.1 80))) := wld_get (by decide)
theorem e_81 (G : gp) (X : Mm × Mm) : (wld G X)[81]? = some (gA G 81, .inl (gC G 0, 6, .inl (X.2.1 81))) := wld_get (by decide)
theorem e_82 (G : gp) (X : Mm × Mm) : (wld G X)[82]? = some (gA G 82, .inl (gC G 0, 360, .inl (X.2.1 82))) := wld_get (by decide)
theorem e_83 (G : gp) (X : Mm × Mm) : (wld G X)[83]? = some (gA G 83, .inl (gC G 0, 360, .inl (X.2.1 83))) := wld_get (by decide)
theorem e_84 (G : gp) (X : Mm × Mm) : (wld G X)[84]? = some (gA G 84, .inl (gC G 0, 200, .inl (X.2.1 84))) := wld_get (by decide)
theorem e_85 (G : gp) (X : Mm × Mm) : (wld G X)[85]? = some (gA G 85, .inl (gC G 0, 200, .inl (X.2.1 85))) := wld_get (by decide)
theorem e_86 (G : gp) (X : Mm × Mm) : (wld G X)[86]? = some (gA G 86, .inl (gC G 0, 200, .inl (X.2.1 86))) := wld_get (by decide)
theorem e_87 (G : gp) (X : Mm × Mm) : (wld G X)[87]? = some (gA G 87, .inl (gC G 0, 200, .inl (X.2.1 87))) := wld_get (by decide)
theorem e_88 (G : gp) (X : Mm × Mm) : (wld G X)[88]? = some (gA G 88, .inl (gC G 0, 200, .inl (X.2.1 88))) := wld_get (by decide)
theorem e_89 (G : gp) (X : Mm × Mm) : (wld G X)[89]? = some (gA G 89, .inl (gC G 0, 200, .inl (X.2.1 89))) := wld_get (by decide)
theorem e_90 (G : gp) (X : Mm × Mm) : (wld G X)[90]? = some (gA G 90, .inl (gC G 0, 4, .inl (X.2.1 90))) := wld_get (by decide)
theorem e_91 (G : gp) (X : Mm × Mm) : (wld G X)[91]? = some (gA G 91, .inl (gC G 0, 40, .inl (X.2.1 91))) := wld_get (by decide)
theorem e_92 (G : gp) (X : Mm × Mm) : (wld G X)[92]? = some (gA G 92, .inl (gC G 0, 40, .inl (X.2.1 92))) := wld_get (by decide)
theorem e_93 (G : gp) (X : Mm × Mm) : (wld G X)[93]? = some (gA G 93, .inl (gC G 0, 40, .inl (X.2.1 93))) := wld_get (by decide)
theorem e_94 (G : gp) (X : Mm × Mm) : (wld G X)[94]? = some (gA G 94, .inl (gC G 0, 8, .inl (X.2.1 94))) := wld_get (by decide)
theorem e_95 (G : gp) (X : Mm × Mm) : (wld G X)[95]? = some (gA G 95, .inl (gC G 0, 60, .inl (X.2.1 95))) := wld_get (by decide)
theorem e_96 (G : gp) (X : Mm × Mm) : (wld G X)[96]? = some (gA G 96, .inl (gC G 0, 5, .inl (X.2.1 96))) := wld_get (by decide)
theorem e_97 (G : gp) (X : Mm × Mm) : (wld G X)[97]? = some (gA G 97, .inl (gC G 0, 50, .inl (X.2.1 97))) := wld_get (by decide)
theorem e_98 (G : gp) (X : Mm × Mm) : (wld G X)[98]? = some (gA G 98, .inl (gC G 0, 24, .inl (X.2.1 98))) := wld_get (by decide)
theorem e_99 (G : gp) (X : Mm × Mm) : (wld G X)[99]? = some (gA G 99, .inl (gC G 0, 6, .inl (X.2.1 99))) := wld_get (by decide)
theorem e_100 (G : gp) (X : Mm × Mm) : (wld G X)[100]? = some (gA G 100, .inl (gC G 0, 6, .inl (X.2.1 100))) := wld_get (by decide)
theorem e_101 (G : gp) (X : Mm × Mm) : (wld G X)[101]? = some (gA G 101, .inl (gC G 1, 360, .inr (.inl (X.2.2 101)))) := wld_get (by decide)
theorem e_102 (G : gp) (X : Mm × Mm) : (wld G X)[102]? = some (gA G 102, .inl (gC G 1, 60, .inr (.inl (X.2.2 102)))) := wld_get (by decide)
theorem e_103 (G : gp) (X : Mm × Mm) : (wld G X)[103]? = some (gA G 103, .inr (7, [.ref (gA G 104), .int (X.1.1 103 1)])) := wld_get (by decide)
theorem e_104 (G : gp) (X : Mm × Mm) : (wld G X)[104]? = some (gA G 104, .inl (gC G 0, 120, .inl (X.1.1 104))) := wld_get (by decide)
theorem p_0_2 (G : gp) (C R : Mm) {v : Int32} {Z : Mm} (e : Z = wrI C 0 2 v) : (wld G (C, R)).set 0 (gA G 0, .inr (8, ([.ref (gA G 1), .ref (gA G 3), .int (C.1 0 2), .ref (gA G 28), .ref (gA G 32), .ref (gA G 36), .ref (gA G 43), .ref (gA G 47), .int (C.1 0 8), .ref (gA G 48), .ref (gA G 49), .ref (gA G 50), .ref (gA G 51), .ref (gA G 56), .ref (gA G 59)] : List Value).set 2 (.int v))) = wld G (Z, R) := by subst e; exact wld_set (by decide) rfl (ent_wrIC (by decide))
theorem p_0_8 (G : gp) (C R : Mm) {v : Int32} {Z : Mm} (e : Z = wrI C 0 8 v) : (wld G (C, R)).set 0 (gA G 0, .inr (8, ([.ref (gA G 1), .ref (gA G 3), .int (C.1 0 2), .ref (gA G 28), .ref (gA G 32), .ref (gA G 36), .ref (gA G 43), .ref (gA G 47), .int (C.1 0 8), .ref (gA G 48), .ref (gA G 49), .ref (gA G 50), .ref (gA G 51), .ref (gA G 56), .ref (gA G 59)] : List Value).set 8 (.int v))) = wld G (Z, R) := by subst e; exact wld_set (by decide) rfl (ent_wrIC (by decide))
theorem p_1_1 (G : gp) (C R : Mm) {v : Int32} {Z : Mm} (e : Z = wrI C 1 1 v) : (wld G (C, R)).set 1 (gA G 1, .inr (7, ([.ref (gA G 2), .int (C.1 1 1)] : List Value).set 1 (.int v))) = wld G (Z, R) := by subst e; exact wld_set (by decide) rfl (ent_wrIC (by decide))
theorem a_2 (G : gp) (C R : Mm) (i : Nat) (v : Int32) {Z : Mm} (e : Z = wrI C 2 i v) : (wld G (C, R)).set 2 (gA G 2, .inl (gC G 0, 120, .inl (upd (C.1 2) i v))) = wld G (Z, R) := by subst e; exact wld_set (by decide) (ent_aIC (by decide) rfl) (ent_wrIC (by decide))
theorem p_32_1 (G : gp) (C R : Mm) {v : Int32} {Z : Mm} (e : Z = wrI C 32 1 v) : (wld G (C, R)).set 32 (gA G 32, .inr (3, ([.ref (gA G 33), .int (C.1 32 1), .ref (gA G 34), .int (C.1 32 3), .ref (gA G 35), .int (C.1 32 5), .ref (gA G 103), .int (C.1 32 7)] : List Value).set 1 (.int v))) = wld G (Z, R) := by subst e; exact wld_set (by decide) rfl (ent_wrIC (by decide))
theorem p_32_3 (G : gp) (C R : Mm) {v : Int32} {Z : Mm} (e : Z = wrI C 32 3 v) : (wld G (C, R)).set 32 (gA G 32, .inr (3, ([.ref (gA G 33), .int (C.1 32 1), .ref (gA G 34), .int (C.1 32 3), .ref (gA G 35), .int (C.1 32 5), .ref (gA G 103), .int (C.1 32 7)] : List Value).set 3 (.int v))) = wld G (Z, R) := by subst e; exact wld_set (by decide) rfl (ent_wrIC (by decide))
theorem p_32_5 (G : gp) (C R : Mm) {v : Int32} {Z : Mm} (e : Z = wrI C 32 5 v) : (wld G (C, R)).set 32 (gA G 32, .inr (3, ([.ref (gA G 33), .int (C.1 32 1), .ref (gA G 34), .int (C.1 32 3), .ref (gA G 35), .int (C.1 32 5), .ref (gA G 103), .int (C.1 32 7)] : List Value).set 5 (.int v))) = wld G (Z, R) := by subst e; exact wld_set (by decide) rfl (ent_wrIC (by decide))
theorem p_32_7 (G : gp) (C R : Mm) {v : Int32} {Z : Mm} (e : Z = wrI C 32 7 v) : (wld G (C, R)).set 32 (gA G 32, .inr (3, ([.ref (gA G 33), .int (C.1 32 1), .ref (gA G 34), .int (C.1 32 3), .ref (gA G 35), .int (C.1 32 5), .ref (gA G 103), .int (C.1 32 7)] : List Value).set 7 (.int v))) = wld G (Z, R) := by subst e; exact wld_set (by decide) rfl (ent_wrIC (by decide))
theorem a_33 (G : gp) (C R : Mm) (i : Nat) (v : Int32) {Z : Mm} (e : Z = wrI C 33 i v) : (wld G (C, R)).set 33 (gA G 33, .inl (gC G 0, 128, .inl (upd (C.1 33) i v))) = wld G (Z, R) := by subst e; exact wld_set (by decide) (ent_aIC (by decide) rfl) (ent_wrIC (by decide))
theorem a_34 (G : gp) (C R : Mm) (i : Nat) (v : Int32) {Z : Mm} (e : Z = wrI C 34 i v) : (wld G (C, R)).set 34 (gA G 34, .inl (gC G 0, 128, .inl (upd (C.1 34) i v))) = wld G (Z, R) := by subst e; exact wld_set (by decide) (ent_aIC (by decide) rfl) (ent_wrIC (by decide))
theorem a_35 (G : gp) (C R : Mm) (i : Nat) (v : Int32) {Z : Mm} (e : Z = wrI C 35 i v) : (wld G (C, R)).set 35 (gA G 35, .inl (gC G 0, 128, .inl (upd (C.1 35) i v))) = wld G (Z, R) := by subst e; exact wld_set (by decide) (ent_aIC (by decide) rfl) (ent_wrIC (by decide))
theorem p_36_6 (G : gp) (C R : Mm) {v : Int32} {Z : Mm} (e : Z = wrI C 36 6 v) : (wld G (C, R)).set 36 (gA G 36, .inr (0, ([.ref (gA G 37), .ref (gA G 38), .ref (gA G 39), .ref (gA G 40), .ref (gA G 41), .ref (gA G 42), .int (C.1 36 6), .int (C.1 36 7), .int (C.1 36 8), .int (C.1 36 9), .int (C.1 36 10), .int (C.1 36 11), .int (C.1 36 12), .int (C.1 36 13), .int (C.1 36 14), .int (C.1 36 15)] : List Value).set 6 (.int v))) = wld G (Z, R) := by subst e; exact wld_set (by decide) rfl (ent_wrIC (by decide))
theorem p_36_7 (G : gp) (C R : Mm) {v : Int32} {Z : Mm} (e : Z = wrI C 36 7 v) : (wld G (C, R)).set 36 (gA G 36, .inr (0, ([.ref (gA G 37), .ref (gA G 38), .ref (gA G 39), .ref (gA G 40), .ref (gA G 41), .ref (gA G 42), .int (C.1 36 6), .int (C.1 36 7), .int (C.1 36 8), .int (C.1 36 9), .int (C.1 36 10), .int (C.1 36 11), .int (C.1 36 12), .int (C.1 36 13), .int (C.1 36 14), .int (C.1 36 15)] : List Value).set 7 (.int v))) = wld G (Z, R) := by subst e; exact wld_set (by decide) rfl (ent_wrIC (by decide))
theorem p_36_8 (G : gp) (C R : Mm) {v : Int32} {Z : Mm} (e : Z = wrI C 36 8 v) : (wld G (C, R)).set 36 (gA G 36, .inr (0, ([.ref (gA G 37), .ref (gA G 38), .ref (gA G 39), .ref (gA G 40), .ref (gA G 41), .ref (gA G 42), .int (C.1 36 6), .int (C.1 36 7), .int (C.1 36 8), .int (C.1 36 9), .int (C.1 36 10), .int (C.1 36 11), .int (C.1 36 12), .int (C.1 36 13), .int (C.1 36 14), .int (C.1 36 15)] : List Value).set 8 (.int v))) = wld G (Z, R) := by subst e; exact wld_set (by decide) rfl (ent_wrIC (by decide))
theorem p_36_9 (G : gp) (C R : Mm) {v : Int32} {Z : Mm} (e : Z = wrI C 36 9 v) : (wld G (C, R)).set 36 (gA G 36, .inr (0, ([.ref (gA G 37), .ref (gA G 38), .ref (gA G 39), .ref (gA G 40), .ref (gA G 41), .ref (gA G 42), .int (C.1 36 6), .int (C.1 36 7), .int (C.1 36 8), .int (C.1 36 9), .int (C.1 36 10), .int (C.1 36 11), .int (C.1 36 12), .int (C.1 36 13), .int (C.1 36 14), .int (C.1 36 15)] : List Value).set 9 (.int v))) = wld G (Z, R) := by subst e; exact wld_set (by decide) rfl (ent_wrIC (by decide))
theorem p_36_10 (G : gp) (C R : Mm) {v : Int32} {Z : Mm} (e : Z = wrI C 36 10 v) : (wld G (C, R)).set 36 (gA G 36, .inr (0, ([.ref (gA G 37), .ref (gA G 38), .ref (gA G 39), .ref (gA G 40), .ref (gA G 41), .ref (gA G 42), .int (C.1 36 6), .int (C.1 36 7), .int (C.1 36 8), .int (C.1 36 9), .int (C.1 36 10), .int (C.1 36 11), .int (C.1 36 12), .int (C.1 36 13), .int (C.1 36 14), .int (C.1 36 15)] : List Value).set 10 (.int v))) = wld G (Z, R) := by subst e; exact wld_set (by decide) rfl (ent_wrIC (by decide))
theorem p_36_11 (G : gp) (C R : Mm) {v : Int32} {Z : Mm} (e : Z = wrI C 36 11 v) : (wld G (C, R)).set 36 (gA G 36, .inr (0, ([.ref (gA G 37), .ref (gA G 38), .ref (gA G 39), .ref (gA G 40), .ref (gA G 41), .ref (gA G 42), .int (C.1 36 6), .int (C.1 36 7), .int (C.1 36 8), .int (C.1 36 9), .int (C.1 36 10), .int (C.1 36 11), .int (C.1 36 12), .int (C.1 36 13), .int (C.1 36 14), .int (C.1 36 15)] : List Value).set 11 (.int v))) = wld G (Z, R) := by subst e; exact wld_set (by decide) rfl (ent_wrIC (by decide))
theorem p_36_12 (G : gp) (C R : Mm) {v : Int32} {Z : Mm} (e : Z = wrI C 36 12 v) : (wld G (C, R)).set 36 (gA G 36, .inr (0, ([.ref (gA G 37), .ref (gA G 38), .ref (gA G 39), .ref (gA G 40), .ref (gA G 41), .ref (gA G 42), .int (C.1 36 6), .int (C.1 36 7), .int (C.1 36 8), .int (C.1 36 9), .int (C.1 36 10), .int (C.1 36 11), .int (C.1 36 12), .int (C.1 36 13), .int (C.1 36 14), .int (C.1 36 15)] : List Value).set 12 (.int v))) = wld G (Z, R) := by subst e; exact wld_set (by decide) rfl (ent_wrIC (by decide))
theorem p_36_13 (G : gp) (C R : Mm) {v : Int32} {Z : Mm} (e : Z = wrI C 36 13 v) : (wld G (C, R)).set 36 (gA G 36, .inr (0, ([.ref (gA G 37), .ref (gA G 38), .ref (gA G 39), .ref (gA G 40), .ref (gA G 41), .ref (gA G 42), .int (C.1 36 6), .int (C.1 36 7), .int (C.1 36 8), .int (C.1 36 9), .int (C.1 36 10), .int (C.1 36 11), .int (C.1 36 12), .int (C.1 36 13), .int (C.1 36 14), .int (C.1 36 15)] : List Value).set 13 (.int v))) = wld G (Z, R) := by subst e; exact wld_set (by decide) rfl (ent_wrIC (by decide))
theorem p_36_14 (G : gp) (C R : Mm) {v : Int32} {Z : Mm} (e : Z = wrI C 36 14 v) : (wld G (C, R)).set 36 (gA G 36, .inr (0, ([.ref (gA G 37), .ref (gA G 38), .ref (gA G 39), .ref (gA G 40), .ref (gA G 41), .ref (gA G 42), .int (C.1 36 6), .int (C.1 36 7), .int (C.1 36 8), .int (C.1 36 9), .int (C.1 36 10), .int (C.1 36 11), .int (C.1 36 12), .int (C.1 36 13), .int (C.1 36 14), .int (C.1 36 15)] : List Value).set 14 (.int v))) = wld G (Z, R) := by subst e; exact wld_set (by decide) rfl (ent_wrIC (by decide))
theorem p_36_15 (G : gp) (C R : Mm) {v : Int32} {Z : Mm} (e : Z = wrI C 36 15 v) : (wld G (C, R)).set 36 (gA G 36, .inr (0, ([.ref (gA G 37), .ref (gA G 38), .ref (gA G 39), .ref (gA G 40), .ref (gA G 41), .ref (gA G 42), .int (C.1 36 6), .int (C.1 36 7), .int (C.1 36 8), .int (C.1 36 9), .int (C.1 36 10), .int (C.1 36 11), .int (C.1 36 12), .int (C.1 36 13), .int (C.1 36 14), .int (C.1 36 15)] : List Value).set 15 (.int v))) = wld G (Z, R) := by subst e; exact wld_set (by decide) rfl (ent_wrIC (by decide))
theorem a_37 (G : gp) (C R : Mm) (i : Nat) (v : Int32) {Z : Mm} (e : Z = wrI C 37 i v) : (wld G (C, R)).set 37 (gA G 37, .inl (gC G 0, 80, .inl (upd (C.1 37) i v))) = wld G (Z, R) := by subst e; exact wld_set (by decide) (ent_aIC (by decide) rfl) (ent_wrIC (by decide))
theorem a_38 (G : gp) (C R : Mm) (i : Nat) (v : Int32) {Z : Mm} (e : Z = wrI C 38 i v) : (wld G (C, R)).set 38 (gA G 38, .inl (gC G 0, 80, .inl (upd (C.1 38) i v))) = wld G (Z, R) := by subst e; exact wld_set (by decide) (ent_aIC (by decide) rfl) (ent_wrIC (by decide))
theorem a_39 (G : gp) (C R : Mm) (i : Nat) (v : Int32) {Z : Mm} (e : Z = wrI C 39 i v) : (wld G (C, R)).set 39 (gA G 39, .inl (gC G 0, 80, .inl (upd (C.1 39) i v))) = wld G (Z, R) := by subst e; exact wld_set (by decide) (ent_aIC (by decide) rfl) (ent_wrIC (by decide))
theorem a_40 (G : gp) (C R : Mm) (i : Nat) (v : Int32) {Z : Mm} (e : Z = wrI C 40 i v) : (wld G (C, R)).set 40 (gA G 40, .inl (gC G 0, 80, .inl (upd (C.1 40) i v))) = wld G (Z, R) := by subst e; exact wld_set (by decide) (ent_aIC (by decide) rfl) (ent_wrIC (by decide))
theorem a_41 (G : gp) (C R : Mm) (i : Nat) (v : Int32) {Z : Mm} (e : Z = wrI C 41 i v) : (wld G (C, R)).set 41 (gA G 41, .inl (gC G 0, 80, .inl (upd (C.1 41) i v))) = wld G (Z, R) := by subst e; exact wld_set (by decide) (ent_aIC (by decide) rfl) (ent_wrIC (by decide))
theorem a_42 (G : gp) (C R : Mm) (i : Nat) (v : Int32) {Z : Mm} (e : Z = wrI C 42 i v) : (wld G (C, R)).set 42 (gA G 42, .inl (gC G 0, 4, .inl (upd (C.1 42) i v))) = wld G (Z, R) := by subst e; exact wld_set (by decide) (ent_aIC (by decide) rfl) (ent_wrIC (by decide))
theorem p_43_3 (G : gp) (C R : Mm) {v : Int32} {Z : Mm} (e : Z = wrI C 43 3 v) : (wld G (C, R)).set 43 (gA G 43, .inr (5, ([.ref (gA G 44), .ref (gA G 45), .ref (gA G 46), .int (C.1 43 3)] : List Value).set 3 (.int v))) = wld G (Z, R) := by subst e; exact wld_set (by decide) rfl (ent_wrIC (by decide))
theorem a_44 (G : gp) (C R : Mm) (i : Nat) (v : Int32) {Z : Mm} (e : Z = wrI C 44 i v) : (wld G (C, R)).set 44 (gA G 44, .inl (gC G 0, 40, .inl (upd (C.1 44) i v))) = wld G (Z, R) := by subst e; exact wld_set (by decide) (ent_aIC (by decide) rfl) (ent_wrIC (by decide))
theorem a_45 (G : gp) (C R : Mm) (i : Nat) (v : Int32) {Z : Mm} (e : Z = wrI C 45 i v) : (wld G (C, R)).set 45 (gA G 45, .inl (gC G 0, 40, .inl (upd (C.1 45) i v))) = wld G (Z, R) := by subst e; exact wld_set (by decide) (ent_aIC (by decide) rfl) (ent_wrIC (by decide))
theorem a_46 (G : gp) (C R : Mm) (i : Nat) (v : Int32) {Z : Mm} (e : Z = wrI C 46 i v) : (wld G (C, R)).set 46 (gA G 46, .inl (gC G 0, 40, .inl (upd (C.1 46) i v))) = wld G (Z, R) := by subst e; exact wld_set (by decide) (ent_aIC (by decide) rfl) (ent_wrIC (by decide))
theorem a_47 (G : gp) (C R : Mm) (i : Nat) (v : Int32) {Z : Mm} (e : Z = wrI C 47 i v) : (wld G (C, R)).set 47 (gA G 47, .inl (gC G 0, 8, .inl (upd (C.1 47) i v))) = wld G (Z, R) := by subst e; exact wld_set (by decide) (ent_aIC (by decide) rfl) (ent_wrIC (by decide))
theorem a_48 (G : gp) (C R : Mm) (i : Nat) (v : Int32) {Z : Mm} (e : Z = wrI C 48 i v) : (wld G (C, R)).set 48 (gA G 48, .inl (gC G 0, 5, .inl (upd (C.1 48) i v))) = wld G (Z, R) := by subst e; exact wld_set (by decide) (ent_aIC (by decide) rfl) (ent_wrIC (by decide))
theorem a_49 (G : gp) (C R : Mm) (i : Nat) (v : Int32) {Z : Mm} (e : Z = wrI C 49 i v) : (wld G (C, R)).set 49 (gA G 49, .inl (gC G 0, 5, .inl (upd (C.1 49) i v))) = wld G (Z, R) := by subst e; exact wld_set (by decide) (ent_aIC (by decide) rfl) (ent_wrIC (by decide))
theorem a_50 (G : gp) (C R : Mm) (i : Nat) (v : Int32) {Z : Mm} (e : Z = wrI C 50 i v) : (wld G (C, R)).set 50 (gA G 50, .inl (gC G 0, 5, .inl (upd (C.1 50) i v))) = wld G (Z, R) := by subst e; exact wld_set (by decide) (ent_aIC (by decide) rfl) (ent_wrIC (by decide))
theorem p_51_4 (G : gp) (C R : Mm) {v : Int32} {Z : Mm} (e : Z = wrI C 51 4 v) : (wld G (C, R)).set 51 (gA G 51, .inr (2, ([.ref (gA G 52), .ref (gA G 53), .ref (gA G 54), .ref (gA G 55), .int (C.1 51 4), .int (C.1 51 5)] : List Value).set 4 (.int v))) = wld G (Z, R) := by subst e; exact wld_set (by decide) rfl (ent_wrIC (by decide))
theorem p_51_5 (G : gp) (C R : Mm) {v : Int32} {Z : Mm} (e : Z = wrI C 51 5 v) : (wld G (C, R)).set 51 (gA G 51, .inr (2, ([.ref (gA G 52), .ref (gA G 53), .ref (gA G 54), .ref (gA G 55), .int (C.1 51 4), .int (C.1 51 5)] : List Value).set 5 (.int v))) = wld G (Z, R) := by subst e; exact wld_set (by decide) rfl (ent_wrIC (by decide))
theorem a_52 (G : gp) (C R : Mm) (i : Nat) (v : Int32) {Z : Mm} (e : Z = wrI C 52 i v) : (wld G (C, R)).set 52 (gA G 52, .inl (gC G 0, 40, .inl (upd (C.1 52) i v))) = wld G (Z, R) := by subst e; exact wld_set (by decide) (ent_aIC (by decide) rfl) (ent_wrIC (by decide))
theorem a_53 (G : gp) (C R : Mm) (i : Nat) (v : Int32) {Z : Mm} (e : Z = wrI C 53 i v) : (wld G (C, R)).set 53 (gA G 53, .inl (gC G 0, 40, .inl (upd (C.1 53) i v))) = wld G (Z, R) := by subst e; exact wld_set (by decide) (ent_aIC (by decide) rfl) (ent_wrIC (by decide))
theorem a_54 (G : gp) (C R : Mm) (i : Nat) (v : Int32) {Z : Mm} (e : Z = wrI C 54 i v) : (wld G (C, R)).set 54 (gA G 54, .inl (gC G 0, 40, .inl (upd (C.1 54) i v))) = wld G (Z, R) := by subst e; exact wld_set (by decide) (ent_aIC (by decide) rfl) (ent_wrIC (by decide))
theorem a_55 (G : gp) (C R : Mm) (i : Nat) (v : Int32) {Z : Mm} (e : Z = wrI C 55 i v) : (wld G (C, R)).set 55 (gA G 55, .inl (gC G 0, 40, .inl (upd (C.1 55) i v))) = wld G (Z, R) := by subst e; exact wld_set (by decide) (ent_aIC (by decide) rfl) (ent_wrIC (by decide))
theorem p_56_1 (G : gp) (C R : Mm) {v : Int32} {Z : Mm} (e : Z = wrI C 56 1 v) : (wld G (C, R)).set 56 (gA G 56, .inr (1, ([.ref (gA G 57), .int (C.1 56 1), .ref (gA G 58), .int (C.1 56 3), .int (C.1 56 4)] : List Value).set 1 (.int v))) = wld G (Z, R) := by subst e; exact wld_set (by decide) rfl (ent_wrIC (by decide))
theorem p_56_3 (G : gp) (C R : Mm) {v : Int32} {Z : Mm} (e : Z = wrI C 56 3 v) : (wld G (C, R)).set 56 (gA G 56, .inr (1, ([.ref (gA G 57), .int (C.1 56 1), .ref (gA G 58), .int (C.1 56 3), .int (C.1 56 4)] : List Value).set 3 (.int v))) = wld G (Z, R) := by subst e; exact wld_set (by decide) rfl (ent_wrIC (by decide))
theorem p_56_4 (G : gp) (C R : Mm) {v : Int32} {Z : Mm} (e : Z = wrI C 56 4 v) : (wld G (C, R)).set 56 (gA G 56, .inr (1, ([.ref (gA G 57), .int (C.1 56 1), .ref (gA G 58), .int (C.1 56 3), .int (C.1 56 4)] : List Value).set 4 (.int v))) = wld G (Z, R) := by subst e; exact wld_set (by decide) rfl (ent_wrIC (by decide))
theorem a_57 (G : gp) (C R : Mm) (i : Nat) (v : Int32) {Z : Mm} (e : Z = wrI C 57 i v) : (wld G (C, R)).set 57 (gA G 57, .inl (gC G 0, 50, .inl (upd (C.1 57) i v))) = wld G (Z, R) := by subst e; exact wld_set (by decide) (ent_aIC (by decide) rfl) (ent_wrIC (by decide))
theorem a_58 (G : gp) (C R : Mm) (i : Nat) (v : Int32) {Z : Mm} (e : Z = wrI C 58 i v) : (wld G (C, R)).set 58 (gA G 58, .inl (gC G 0, 24, .inl (upd (C.1 58) i v))) = wld G (Z, R) := by subst e; exact wld_set (by decide) (ent_aIC (by decide) rfl) (ent_wrIC (by decide))
theorem p_72_4 (G : gp) (C R : Mm) {v : Int32} {Z : Mm} (e : Z = wrI R 72 4 v) : (wld G (C, R)).set 72 (gA G 72, .inr (9, ([.ref (gA G 73), .ref (gA G 74), .ref (gA G 75), .ref (gA G 76), .int (R.1 72 4), .int (R.1 72 5), .ref (gA G 77), .int (R.1 72 7), .ref (gA G 78), .int (R.1 72 9), .int (R.1 72 10), .int (R.1 72 11), .int (R.1 72 12), .int (R.1 72 13), .int (R.1 72 14), .ref (gA G 79), .int (R.1 72 16), .ref (gA G 80), .ref (gA G 81), .ref (gA G 82), .ref (gA G 83), .int (R.1 72 21), .ref (gA G 84), .ref (gA G 85), .ref (gA G 86), .ref (gA G 87), .ref (gA G 88), .ref (gA G 89), .int (R.1 72 28), .int (R.1 72 29), .int (R.1 72 30), .int (R.1 72 31), .ref (gA G 90), .int (R.1 72 33), .ref (gA G 91), .ref (gA G 92), .ref (gA G 93), .int (R.1 72 37), .ref (gA G 94), .ref (gA G 95), .int (R.1 72 40), .ref (gA G 96), .int (R.1 72 42), .int (R.1 72 43), .long (R.2 72 44), .int (R.1 72 45), .ref (gA G 97), .ref (gA G 98), .int (R.1 72 48), .int (R.1 72 49), .int (R.1 72 50), .ref (gA G 99), .ref (gA G 100), .ref (gA G 101), .ref (gA G 102)] : List Value).set 4 (.int v))) = wld G (C, Z) := by subst e; exact wld_set (by decide) rfl (ent_wrIR (by decide))
theorem p_72_5 (G : gp) (C R : Mm) {v : Int32} {Z : Mm} (e : Z = wrI R 72 5 v) : (wld G (C, R)).set 72 (gA G 72, .inr (9, ([.ref (gA G 73), .ref (gA G 74), .ref (gA G 75), .ref (gA G 76), .int (R.1 72 4), .int (R.1 72 5), .ref (gA G 77), .int (R.1 72 7), .ref (gA G 78), .int (R.1 72 9), .int (R.1 72 10), .int (R.1 72 11), .int (R.1 72 12), .int (R.1 72 13), .int (R.1 72 14), .ref (gA G 79), .int (R.1 72 16), .ref (gA G 80), .ref (gA G 81), .ref (gA G 82), .ref (gA G 83), .int (R.1 72 21), .ref (gA G 84), .ref (gA G 85), .ref (gA G 86), .ref (gA G 87), .ref (gA G 88), .ref (gA G 89), .int (R.1 72 28), .int (R.1 72 29), .int (R.1 72 30), .int (R.1 72 31), .ref (gA G 90), .int (R.1 72 33), .ref (gA G 91), .ref (gA G 92), .ref (gA G 93), .int (R.1 72 37), .ref (gA G 94), .ref (gA G 95), .int (R.1 72 40), .ref (gA G 96), .int (R.1 72 42), .int (R.1 72 43), .long (R.2 72 44), .int (R.1 72 45), .ref (gA G 97), .ref (gA G 98), .int (R.1 72 48), .int (R.1 72 49), .int (R.1 72 50), .ref (gA G 99), .ref (gA G 100), .ref (gA G 101), .ref (gA G 102)] : List Value).set 5 (.int v))) = wld G (C, Z) := by subst e; exact wld_set (by decide) rfl (ent_wrIR (by decide))
theorem p_72_7 (G : gp) (C R : Mm) {v : Int32} {Z : Mm} (e : Z = wrI R 72 7 v) : (wld G (C, R)).set 72 (gA G 72, .inr (9, ([.ref (gA G 73), .ref (gA G 74), .ref (gA G 75), .ref (gA G 76), .int (R.1 72 4), .int (R.1 72 5), .ref (gA G 77), .int (R.1 72 7), .ref (gA G 78), .int (R.1 72 9), .int (R.1 72 10), .int (R.1 72 11), .int (R.1 72 12), .int (R.1 72 13), .int (R.1 72 14), .ref (gA G 79), .int (R.1 72 16), .ref (gA G 80), .ref (gA G 81), .ref (gA G 82), .ref (gA G 83), .int (R.1 72 21), .ref (gA G 84), .ref (gA G 85), .ref (gA G 86), .ref (gA G 87), .ref (gA G 88), .ref (gA G 89), .int (R.1 72 28), .int (R.1 72 29), .int (R.1 72 30), .int (R.1 72 31), .ref (gA G 90), .int (R.1 72 33), .ref (gA G 91), .ref (gA G 92), .ref (gA G 93), .int (R.1 72 37), .ref (gA G 94), .ref (gA G 95), .int (R.1 72 40), .ref (gA G 96), .int (R.1 72 42), .int (R.1 72 43), .long (R.2 72 44), .int (R.1 72 45), .ref (gA G 97), .ref (gA G 98), .int (R.1 72 48), .int (R.1 72 49), .int (R.1 72 50), .ref (gA G 99), .ref (gA G 100), .ref (gA G 101), .ref (gA G 102)] : List Value).set 7 (.int v))) = wld G (C, Z) := by subst e; exact wld_set (by decide) rfl (ent_wrIR (by decide))
theorem p_72_9 (G : gp) (C R : Mm) {v : Int32} {Z : Mm} (e : Z = wrI R 72 9 v) : (wld G (C, R)).set 72 (gA G 72, .inr (9, ([.ref (gA G 73), .ref (gA G 74), .ref (gA G 75), .ref (gA G 76), .int (R.1 72 4), .int (R.1 72 5), .ref (gA G 77), .int (R.1 72 7), .ref (gA G 78), .int (R.1 72 9), .int (R.1 72 10), .int (R.1 72 11), .int (R.1 72 12), .int (R.1 72 13), .int (R.1 72 14), .ref (gA G 79), .int (R.1 72 16), .ref (gA G 80), .ref (gA G 81), .ref (gA G 82), .ref (gA G 83), .int (R.1 72 21), .ref (gA G 84), .ref (gA G 85), .ref (gA G 86), .ref (gA G 87), .ref (gA G 88), .ref (gA G 89), .int (R.1 72 28), .int (R.1 72 29), .int (R.1 72 30), .int (R.1 72 31), .ref (gA G 90), .int (R.1 72 33), .ref (gA G 91), .ref (gA G 92), .ref (gA G 93), .int (R.1 72 37), .ref (gA G 94), .ref (gA G 95), .int (R.1 72 40), .ref (gA G 96), .int (R.1 72 42), .int (R.1 72 43), .long (R.2 72 44), .int (R.1 72 45), .ref (gA G 97), .ref (gA G 98), .int (R.1 72 48), .int (R.1 72 49), .int (R.1 72 50), .ref (gA G 99), .ref (gA G 100), .ref (gA G 101), .ref (gA G 102)] : List Value).set 9 (.int v))) = wld G (C, Z) := by subst e; exact wld_set (by decide) rfl (ent_wrIR (by decide))
theorem p_72_10 (G : gp) (C R : Mm) {v : Int32} {Z : Mm} (e : Z = wrI R 72 10 v) : (wld G (C, R)).set 72 (gA G 72, .inr (9, ([.ref (gA G 73), .ref (gA G 74), .ref (gA G 75), .ref (gA G 76), .int (R.1 72 4), .int (R.1 72 5), .ref (gA G 77), .int (R.1 72 7), .ref (gA G 78), .int (R.1 72 9), .int (R.1 72 10), .int (R.1 72 11), .int (R.1 72 12), .int (R.1 72 13), .int (R.1 72 14), .ref (gA G 79), .int (R.1 72 16), .ref (gA G 80), .ref (gA G 81), .ref (gA G 82), .ref (gA G 83), .int (R.1 72 21), .ref (gA G 84), .ref (gA G 85), .ref (gA G 86), .ref (gA G 87), .ref (gA G 88), .ref (gA G 89), .int (R.1 72 28), .int (R.1 72 29), .int (R.1 72 30), .int (R.1 72 31), .ref (gA G 90), .int (R.1 72 33), .ref (gA G 91), .ref (gA G 92), .ref (gA G 93), .int (R.1 72 37), .ref (gA G 94), .ref (gA G 95), .int (R.1 72 40), .ref (gA G 96), .int (R.1 72 42), .int (R.1 72 43), .long (R.2 72 44), .int (R.1 72 45), .ref (gA G 97), .ref (gA G 98), .int (R.1 72 48), .int (R.1 72 49), .int (R.1 72 50), .ref (gA G 99), .ref (gA G 100), .ref (gA G 101), .ref (gA G 102)] : List Value).set 10 (.int v))) = wld G (C, Z) := by subst e; exact wld_set (by decide) rfl (ent_wrIR (by decide))
theorem p_72_11 (G : gp) (C R : Mm) {v : Int32} {Z : Mm} (e : Z = wrI R 72 11 v) : (wld G (C, R)).set 72 (gA G 72, .inr (9, ([.ref (gA G 73), .ref (gA G 74), .ref (gA G 75), .ref (gA G 76), .int (R.1 72 4), .int (R.1 72 5), .ref (gA G 77), .int (R.1 72 7), .ref (gA G 78), .int (R.1 72 9), .int (R.1 72 10), .int (R.1 72 11), .int (R.1 72 12), .int (R.1 72 13), .int (R.1 72 14), .ref (gA G 79), .int (R.1 72 16), .ref (gA G 80), .ref (gA G 81), .ref (gA G 82), .ref (gA G 83), .int (R.1 72 21), .ref (gA G 84), .ref (gA G 85), .ref (gA G 86), .ref (gA G 87), .ref (gA G 88), .ref (gA G 89), .int (R.1 72 28), .int (R.1 72 29), .int (R.1 72 30), .int (R.1 72 31), .ref (gA G 90), .int (R.1 72 33), .ref (gA G 91), .ref (gA G 92), .ref (gA G 93), .int (R.1 72 37), .ref (gA G 94), .ref (gA G 95), .int (R.1 72 40), .ref (gA G 96), .int (R.1 72 42), .int (R.1 72 43), .long (R.2 72 44), .int (R.1 72 45), .ref (gA G 97), .ref (gA G 98), .int (R.1 72 48), .int (R.1 72 49), .int (R.1 72 50), .ref (gA G 99), .ref (gA G 100), .ref (gA G 101), .ref (gA G 102)] : List Value).set 11 (.int v))) = wld G (C, Z) := by subst e; exact wld_set (by decide) rfl (ent_wrIR (by decide))
theorem p_72_12 (G : gp) (C R : Mm) {v : Int32} {Z : Mm} (e : Z = wrI R 72 12 v) : (wld G (C, R)).set 72 (gA G 72, .inr (9, ([.ref (gA G 73), .ref (gA G 74), .ref (gA G 75), .ref (gA G 76), .int (R.1 72 4), .int (R.1 72 5), .ref (gA G 77), .int (R.1 72 7), .ref (gA G 78), .int (R.1 72 9), .int (R.1 72 10), .int (R.1 72 11), .int (R.1 72 12), .int (R.1 72 13), .int (R.1 72 14), .ref (gA G 79), .int (R.1 72 16), .ref (gA G 80), .ref (gA G 81), .ref (gA G 82), .ref (gA G 83), .int (R.1 72 21), .ref (gA G 84), .ref (gA G 85), .ref (gA G 86), .ref (gA G 87), .ref (gA G 88), .ref (gA G 89), .int (R.1 72 28), .int (R.1 72 29), .int (R.1 72 30), .int (R.1 72 31), .ref (gA G 90), .int (R.1 72 33), .ref (gA G 91), .ref (gA G 92), .ref (gA G 93), .int (R.1 72 37), .ref (gA G 94), .ref (gA G 95), .int (R.1 72 40), .ref (gA G 96), .int (R.1 72 42), .int (R.1 72 43), .long (R.2 72 44), .int (R.1 72 45), .ref (gA G 97), .ref (gA G 98), .int (R.1 72 48), .int (R.1 72 49), .int (R.1 72 50), .ref (gA G 99), .ref (gA G 100), .ref (gA G 101), .ref (gA G 102)] : List Value).set 12 (.int v))) = wld G (C, Z) := by subst e; exact wld_set (by decide) rfl (ent_wrIR (by decide))
theorem p_72_13 (G : gp) (C R : Mm) {v : Int32} {Z : Mm} (e : Z = wrI R 72 13 v) : (wld G (C, R)).set 72 (gA G 72, .inr (9, ([.ref (gA G 73), .ref (gA G 74), .ref (gA G 75), .ref (gA G 76), .int (R.1 72 4), .int (R.1 72 5), .ref (gA G 77), .int (R.1 72 7), .ref (gA G 78), .int (R.1 72 9), .int (R.1 72 10), .int (R.1 72 11), .int (R.1 72 12), .int (R.1 72 13), .int (R.1 72 14), .ref (gA G 79), .int (R.1 72 16), .ref (gA G 80), .ref (gA G 81), .ref (gA G 82), .ref (gA G 83), .int (R.1 72 21), .ref (gA G 84), .ref (gA G 85), .ref (gA G 86), .ref (gA G 87), .ref (gA G 88), .ref (gA G 89), .int (R.1 72 28), .int (R.1 72 29), .int (R.1 72 30), .int (R.1 72 31), .ref (gA G 90), .int (R.1 72 33), .ref (gA G 91), .ref (gA G 92), .ref (gA G 93), .int (R.1 72 37), .ref (gA G 94), .ref (gA G 95), .int (R.1 72 40), .ref (gA G 96), .int (R.1 72 42), .int (R.1 72 43), .long (R.2 72 44), .int (R.1 72 45), .ref (gA G 97), .ref (gA G 98), .int (R.1 72 48), .int (R.1 72 49), .int (R.1 72 50), .ref (gA G 99), .ref (gA G 100), .ref (gA G 101), .ref (gA G 102)] : List Value).set 13 (.int v))) = wld G (C, Z) := by subst e; exact wld_set (by decide) rfl (ent_wrIR (by decide))
theorem p_72_14 (G : gp) (C R : Mm) {v : Int32} {Z : Mm} (e : Z = wrI R 72 14 v) : (wld G (C, R)).set 72 (gA G 72, .inr (9, ([.ref (gA G 73), .ref (gA G 74), .ref (gA G 75), .ref (gA G 76), .int (R.1 72 4), .int (R.1 72 5), .ref (gA G 77), .int (R.1 72 7), .ref (gA G 78), .int (R.1 72 9), .int (R.1 72 10), .int (R.1 72 11), .int (R.1 72 12), .int (R.1 72 13), .int (R.1 72 14), .ref (gA G 79), .int (R.1 72 16), .ref (gA G 80), .ref (gA G 81), .ref (gA G 82), .ref (gA G 83), .int (R.1 72 21), .ref (gA G 84), .ref (gA G 85), .ref (gA G 86), .ref (gA G 87), .ref (gA G 88), .ref (gA G 89), .int (R.1 72 28), .int (R.1 72 29), .int (R.1 72 30), .int (R.1 72 31), .ref (gA G 90), .int (R.1 72 33), .ref (gA G 91), .ref (gA G 92), .ref (gA G 93), .int (R.1 72 37), .ref (gA G 94), .ref (gA G 95), .int (R.1 72 40), .ref (gA G 96), .int (R.1 72 42), .int (R.1 72 43), .long (R.2 72 44), .int (R.1 72 45), .ref (gA G 97), .ref (gA G 98), .int (R.1 72 48), .int (R.1 72 49), .int (R.1 72 50), .ref (gA G 99), .ref (gA G 100), .ref (gA G 101), .ref (gA G 102)] : List Value).set 14 (.int v))) = wld G (C, Z) := by subst e; exact wld_set (by decide) rfl (ent_wrIR (by decide))
theorem p_72_16 (G : gp) (C R : Mm) {v : Int32} {Z : Mm} (e : Z = wrI R 72 16 v) : (wld G (C, R)).set 72 (gA G 72, .inr (9, ([.ref (gA G 73), .ref (gA G 74), .ref (gA G 75), .ref (gA G 76), .int (R.1 72 4), .int (R.1 72 5), .ref (gA G 77), .int (R.1 72 7), .ref (gA G 78), .int (R.1 72 9), .int (R.1 72 10), .int (R.1 72 11), .int (R.1 72 12), .int (R.1 72 13), .int (R.1 72 14), .ref (gA G 79), .int (R.1 72 16), .ref (gA G 80), .ref (gA G 81), .ref (gA G 82), .ref (gA G 83), .int (R.1 72 21), .ref (gA G 84), .ref (gA G 85), .ref (gA G 86), .ref (gA G 87), .ref (gA G 88), .ref (gA G 89), .int (R.1 72 28), .int (R.1 72 29), .int (R.1 72 30), .int (R.1 72 31), .ref (gA G 90), .int (R.1 72 33), .ref (gA G 91), .ref (gA G 92), .ref (gA G 93), .int (R.1 72 37), .ref (gA G 94), .ref (gA G 95), .int (R.1 72 40), .ref (gA G 96), .int (R.1 72 42), .int (R.1 72 43), .long (R.2 72 44), .int (R.1 72 45), .ref (gA G 97), .ref (gA G 98), .int (R.1 72 48), .int (R.1 72 49), .int (R.1 72 50), .ref (gA G 99), .ref (gA G 100), .ref (gA G 101), .ref (gA G 102)] : List Value).set 16 (.int v))) = wld G (C, Z) := by subst e; exact wld_set (by decide) rfl (ent_wrIR (by decide))
theorem p_72_21 (G : gp) (C R : Mm) {v : Int32} {Z : Mm} (e : Z = wrI R 72 21 v) : (wld G (C, R)).set 72 (gA G 72, .inr (9, ([.ref (gA G 73), .ref (gA G 74), .ref (gA G 75), .ref (gA G 76), .int (R.1 72 4), .int (R.1 72 5), .ref (gA G 77), .int (R.1 72 7), .ref (gA G 78), .int (R.1 72 9), .int (R.1 72 10), .int (R.1 72 11), .int (R.1 72 12), .int (R.1 72 13), .int (R.1 72 14), .ref (gA G 79), .int (R.1 72 16), .ref (gA G 80), .ref (gA G 81), .ref (gA G 82), .ref (gA G 83), .int (R.1 72 21), .ref (gA G 84), .ref (gA G 85), .ref (gA G 86), .ref (gA G 87), .ref (gA G 88), .ref (gA G 89), .int (R.1 72 28), .int (R.1 72 29), .int (R.1 72 30), .int (R.1 72 31), .ref (gA G 90), .int (R.1 72 33), .ref (gA G 91), .ref (gA G 92), .ref (gA G 93), .int (R.1 72 37), .ref (gA G 94), .ref (gA G 95), .int (R.1 72 40), .ref (gA G 96), .int (R.1 72 42), .int (R.1 72 43), .long (R.2 72 44), .int (R.1 72 45), .ref (gA G 97), .ref (gA G 98), .int (R.1 72 48), .int (R.1 72 49), .int (R.1 72 50), .ref (gA G 99), .ref (gA G 100), .ref (gA G 101), .ref (gA G 102)] : List Value).set 21 (.int v))) = wld G (C, Z) := by subst e; exact wld_set (by decide) rfl (ent_wrIR (by decide))
theorem p_72_28 (G : gp) (C R : Mm) {v : Int32} {Z : Mm} (e : Z = wrI R 72 28 v) : (wld G (C, R)).set 72 (gA G 72, .inr (9, ([.ref (gA G 73), .ref (gA G 74), .ref (gA G 75), .ref (gA G 76), .int (R.1 72 4), .int (R.1 72 5), .ref (gA G 77), .int (R.1 72 7), .ref (gA G 78), .int (R.1 72 9), .int (R.1 72 10), .int (R.1 72 11), .int (R.1 72 12), .int (R.1 72 13), .int (R.1 72 14), .ref (gA G 79), .int (R.1 72 16), .ref (gA G 80), .ref (gA G 81), .ref (gA G 82), .ref (gA G 83), .int (R.1 72 21), .ref (gA G 84), .ref (gA G 85), .ref (gA G 86), .ref (gA G 87), .ref (gA G 88), .ref (gA G 89), .int (R.1 72 28), .int (R.1 72 29), .int (R.1 72 30), .int (R.1 72 31), .ref (gA G 90), .int (R.1 72 33), .ref (gA G 91), .ref (gA G 92), .ref (gA G 93), .int (R.1 72 37), .ref (gA G 94), .ref (gA G 95), .int (R.1 72 40), .ref (gA G 96), .int (R.1 72 42), .int (R.1 72 43), .long (R.2 72 44), .int (R.1 72 45), .ref (gA G 97), .ref (gA G 98), .int (R.1 72 48), .int (R.1 72 49), .int (R.1 72 50), .ref (gA G 99), .ref (gA G 100), .ref (gA G 101), .ref (gA G 102)] : List Value).set 28 (.int v))) = wld G (C, Z) := by subst e; exact wld_set (by decide) rfl (ent_wrIR (by decide))
theorem p_72_29 (G : gp) (C R : Mm) {v : Int32} {Z : Mm} (e : Z = wrI R 72 29 v) : (wld G (C, R)).set 72 (gA G 72, .inr (9, ([.ref (gA G 73), .ref (gA G 74), .ref (gA G 75), .ref (gA G 76), .int (R.1 72 4), .int (R.1 72 5), .ref (gA G 77), .int (R.1 72 7), .ref (gA G 78), .int (R.1 72 9), .int (R.1 72 10), .int (R.1 72 11), .int (R.1 72 12), .int (R.1 72 13), .int (R.1 72 14), .ref (gA G 79), .int (R.1 72 16), .ref (gA G 80), .ref (gA G 81), .ref (gA G 82), .ref (gA G 83), .int (R.1 72 21), .ref (gA G 84), .ref (gA G 85), .ref (gA G 86), .ref (gA G 87), .ref (gA G 88), .ref (gA G 89), .int (R.1 72 28), .int (R.1 72 29), .int (R.1 72 30), .int (R.1 72 31), .ref (gA G 90), .int (R.1 72 33), .ref (gA G 91), .ref (gA G 92), .ref (gA G 93), .int (R.1 72 37), .ref (gA G 94), .ref (gA G 95), .int (R.1 72 40), .ref (gA G 96), .int (R.1 72 42), .int (R.1 72 43), .long (R.2 72 44), .int (R.1 72 45), .ref (gA G 97), .ref (gA G 98), .int (R.1 72 48), .int (R.1 72 49), .int (R.1 72 50), .ref (gA G 99), .ref (gA G 100), .ref (gA G 101), .ref (gA G 102)] : List Value).set 29 (.int v))) = wld G (C, Z) := by subst e; exact wld_set (by decide) rfl (ent_wrIR (by decide))
theorem p_72_30 (G : gp) (C R : Mm) {v : Int32} {Z : Mm} (e : Z = wrI R 72 30 v) : (wld G (C, R)).set 72 (gA G 72, .inr (9, ([.ref (gA G 73), .ref (gA G 74), .ref (gA G 75), .ref (gA G 76), .int (R.1 72 4), .int (R.1 72 5), .ref (gA G 77), .int (R.1 72 7), .ref (gA G 78), .int (R.1 72 9), .int (R.1 72 10), .int (R.1 72 11), .int (R.1 72 12), .int (R.1 72 13), .int (R.1 72 14), .ref (gA G 79), .int (R.1 72 16), .ref (gA G 80), .ref (gA G 81), .ref (gA G 82), .ref (gA G 83), .int (R.1 72 21), .ref (gA G 84), .ref (gA G 85), .ref (gA G 86), .ref (gA G 87), .ref (gA G 88), .ref (gA G 89), .int (R.1 72 28), .int (R.1 72 29), .int (R.1 72 30), .int (R.1 72 31), .ref (gA G 90), .int (R.1 72 33), .ref (gA G 91), .ref (gA G 92), .ref (gA G 93), .int (R.1 72 37), .ref (gA G 94), .ref (gA G 95), .int (R.1 72 40), .ref (gA G 96), .int (R.1 72 42), .int (R.1 72 43), .long (R.2 72 44), .int (R.1 72 45), .ref (gA G 97), .ref (gA G 98), .int (R.1 72 48), .int (R.1 72 49), .int (R.1 72 50), .ref (gA G 99), .ref (gA G 100), .ref (gA G 101), .ref (gA G 102)] : List Value).set 30 (.int v))) = wld G (C, Z) := by subst e; exact wld_set (by decide) rfl (ent_wrIR (by decide))
theorem p_72_31 (G : gp) (C R : Mm) {v : Int32} {Z : Mm} (e : Z = wrI R 72 31 v) : (wld G (C, R)).set 72 (gA G 72, .inr (9, ([.ref (gA G 73), .ref (gA G 74), .ref (gA G 75), .ref (gA G 76), .int (R.1 72 4), .int (R.1 72 5), .ref (gA G 77), .int (R.1 72 7), .ref (gA G 78), .int (R.1 72 9), .int (R.1 72 10), .int (R.1 72 11), .int (R.1 72 12), .int (R.1 72 13), .int (R.1 72 14), .ref (gA G 79), .int (R.1 72 16), .ref (gA G 80), .ref (gA G 81), .ref (gA G 82), .ref (gA G 83), .int (R.1 72 21), .ref (gA G 84), .ref (gA G 85), .ref (gA G 86), .ref (gA G 87), .ref (gA G 88), .ref (gA G 89), .int (R.1 72 28), .int (R.1 72 29), .int (R.1 72 30), .int (R.1 72 31), .ref (gA G 90), .int (R.1 72 33), .ref (gA G 91), .ref (gA G 92), .ref (gA G 93), .int (R.1 72 37), .ref (gA G 94), .ref (gA G 95), .int (R.1 72 40), .ref (gA G 96), .int (R.1 72 42), .int (R.1 72 43), .long (R.2 72 44), .int (R.1 72 45), .ref (gA G 97), .ref (gA G 98), .int (R.1 72 48), .int (R.1 72 49), .int (R.1 72 50), .ref (gA G 99), .ref (gA G 100), .ref (gA G 101), .ref (gA G 102)] : List Value).set 31 (.int v))) = wld G (C, Z) := by subst e; exact wld_set (by decide) rfl (ent_wrIR (by decide))
theorem p_72_33 (G : gp) (C R : Mm) {v : Int32} {Z : Mm} (e : Z = wrI R 72 33 v) : (wld G (C, R)).set 72 (gA G 72, .inr (9, ([.ref (gA G 73), .ref (gA G 74), .ref (gA G 75), .ref (gA G 76), .int (R.1 72 4), .int (R.1 72 5), .ref (gA G 77), .int (R.1 72 7), .ref (gA G 78), .int (R.1 72 9), .int (R.1 72 10), .int (R.1 72 11), .int (R.1 72 12), .int (R.1 72 13), .int (R.1 72 14), .ref (gA G 79), .int (R.1 72 16), .ref (gA G 80), .ref (gA G 81), .ref (gA G 82), .ref (gA G 83), .int (R.1 72 21), .ref (gA G 84), .ref (gA G 85), .ref (gA G 86), .ref (gA G 87), .ref (gA G 88), .ref (gA G 89), .int (R.1 72 28), .int (R.1 72 29), .int (R.1 72 30), .int (R.1 72 31), .ref (gA G 90), .int (R.1 72 33), .ref (gA G 91), .ref (gA G 92), .ref (gA G 93), .int (R.1 72 37), .ref (gA G 94), .ref (gA G 95), .int (R.1 72 40), .ref (gA G 96), .int (R.1 72 42), .int (R.1 72 43), .long (R.2 72 44), .int (R.1 72 45), .ref (gA G 97), .ref (gA G 98), .int (R.1 72 48), .int (R.1 72 49), .int (R.1 72 50), .ref (gA G 99), .ref (gA G 100), .ref (gA G 101), .ref (gA G 102)] : List Value).set 33 (.int v))) = wld G (C, Z) := by subst e; exact wld_set (by decide) rfl (ent_wrIR (by decide))
theorem p_72_37 (G : gp) (C R : Mm) {v : Int32} {Z : Mm} (e : Z = wrI R 72 37 v) : (wld G (C, R)).set 72 (gA G 72, .inr (9, ([.ref (gA G 73), .ref (gA G 74), .ref (gA G 75), .ref (gA G 76), .int (R.1 72 4), .int (R.1 72 5), .ref (gA G 77), .int (R.1 72 7), .ref (gA G 78), .int (R.1 72 9), .int (R.1 72 10), .int (R.1 72 11), .int (R.1 72 12), .int (R.1 72 13), .int (R.1 72 14), .ref (gA G 79), .int (R.1 72 16), .ref (gA G 80), .ref (gA G 81), .ref (gA G 82), .ref (gA G 83), .int (R.1 72 21), .ref (gA G 84), .ref (gA G 85), .ref (gA G 86), .ref (gA G 87), .ref (gA G 88), .ref (gA G 89), .int (R.1 72 28), .int (R.1 72 29), .int (R.1 72 30), .int (R.1 72 31), .ref (gA G 90), .int (R.1 72 33), .ref (gA G 91), .ref (gA G 92), .ref (gA G 93), .int (R.1 72 37), .ref (gA G 94), .ref (gA G 95), .int (R.1 72 40), .ref (gA G 96), .int (R.1 72 42), .int (R.1 72 43), .long (R.2 72 44), .int (R.1 72 45), .ref (gA G 97), .ref (gA G 98), .int (R.1 72 48), .int (R.1 72 49), .int (R.1 72 50), .ref (gA G 99), .ref (gA G 100), .ref (gA G 101), .ref (gA G 102)] : List Value).set 37 (.int v))) = wld G (C, Z) := by subst e; exact wld_set (by decide) rfl (ent_wrIR (by decide))
theorem p_72_40 (G : gp) (C R : Mm) {v : Int32} {Z : Mm} (e : Z = wrI R 72 40 v) : (wld G (C, R)).set 72 (gA G 72, .inr (9, ([.ref (gA G 73), .ref (gA G 74), .ref (gA G 75), .ref (gA G 76), .int (R.1 72 4), .int (R.1 72 5), .ref (gA G 77), .int (R.1 72 7), .ref (gA G 78), .int (R.1 72 9), .int (R.1 72 10), .int (R.1 72 11), .int (R.1 72 12), .int (R.1 72 13), .int (R.1 72 14), .ref (gA G 79), .int (R.1 72 16), .ref (gA G 80), .ref (gA G 81), .ref (gA G 82), .ref (gA G 83), .int (R.1 72 21), .ref (gA G 84), .ref (gA G 85), .ref (gA G 86), .ref (gA G 87), .ref (gA G 88), .ref (gA G 89), .int (R.1 72 28), .int (R.1 72 29), .int (R.1 72 30), .int (R.1 72 31), .ref (gA G 90), .int (R.1 72 33), .ref (gA G 91), .ref (gA G 92), .ref (gA G 93), .int (R.1 72 37), .ref (gA G 94), .ref (gA G 95), .int (R.1 72 40), .ref (gA G 96), .int (R.1 72 42), .int (R.1 72 43), .long (R.2 72 44), .int (R.1 72 45), .ref (gA G 97), .ref (gA G 98), .int (R.1 72 48), .int (R.1 72 49), .int (R.1 72 50), .ref (gA G 99), .ref (gA G 100), .ref (gA G 101), .ref (gA G 102)] : List Value).set 40 (.int v))) = wld G (C, Z) := by subst e; exact wld_set (by decide) rfl (ent_wrIR (by decide))
theorem p_72_42 (G : gp) (C R : Mm) {v : Int32} {Z : Mm} (e : Z = wrI R 72 42 v) : (wld G (C, R)).set 72 (gA G 72, .inr (9, ([.ref (gA G 73), .ref (gA G 74), .ref (gA G 75), .ref (gA G 76), .int (R.1 72 4), .int (R.1 72 5), .ref (gA G 77), .int (R.1 72 7), .ref (gA G 78), .int (R.1 72 9), .int (R.1 72 10), .int (R.1 72 11), .int (R.1 72 12), .int (R.1 72 13), .int (R.1 72 14), .ref (gA G 79), .int (R.1 72 16), .ref (gA G 80), .ref (gA G 81), .ref (gA G 82), .ref (gA G 83), .int (R.1 72 21), .ref (gA G 84), .ref (gA G 85), .ref (gA G 86), .ref (gA G 87), .ref (gA G 88), .ref (gA G 89), .int (R.1 72 28), .int (R.1 72 29), .int (R.1 72 30), .int (R.1 72 31), .ref (gA G 90), .int (R.1 72 33), .ref (gA G 91), .ref (gA G 92), .ref (gA G 93), .int (R.1 72 37), .ref (gA G 94), .ref (gA G 95), .int (R.1 72 40), .ref (gA G 96), .int (R.1 72 42), .int (R.1 72 43), .long (R.2 72 44), .int (R.1 72 45), .ref (gA G 97), .ref (gA G 98), .int (R.1 72 48), .int (R.1 72 49), .int (R.1 72 50), .ref (gA G 99), .ref (gA G 100), .ref (gA G 101), .ref (gA G 102)] : List Value).set 42 (.int v))) = wld G (C, Z) := by subst e; exact wld_set (by decide) rfl (ent_wrIR (by decide))
theorem p_72_43 (G : gp) (C R : Mm) {v : Int32} {Z : Mm} (e : Z = wrI R 72 43 v) : (wld G (C, R)).set 72 (gA G 72, .inr (9, ([.ref (gA G 73), .ref (gA G 74), .ref (gA G 75), .ref (gA G 76), .int (R.1 72 4), .int (R.1 72 5), .ref (gA G 77), .int (R.1 72 7), .ref (gA G 78), .int (R.1 72 9), .int (R.1 72 10), .int (R.1 72 11), .int (R.1 72 12), .int (R.1 72 13), .int (R.1 72 14), .ref (gA G 79), .int (R.1 72 16), .ref (gA G 80), .ref (gA G 81), .ref (gA G 82), .ref (gA G 83), .int (R.1 72 21), .ref (gA G 84), .ref (gA G 85), .ref (gA G 86), .ref (gA G 87), .ref (gA G 88), .ref (gA G 89), .int (R.1 72 28), .int (R.1 72 29), .int (R.1 72 30), .int (R.1 72 31), .ref (gA G 90), .int (R.1 72 33), .ref (gA G 91), .ref (gA G 92), .ref (gA G 93), .int (R.1 72 37), .ref (gA G 94), .ref (gA G 95), .int (R.1 72 40), .ref (gA G 96), .int (R.1 72 42), .int (R.1 72 43), .long (R.2 72 44), .int (R.1 72 45), .ref (gA G 97), .ref (gA G 98), .int (R.1 72 48), .int (R.1 72 49), .int (R.1 72 50), .ref (gA G 99), .ref (gA G 100), .ref (gA G 101), .ref (gA G 102)] : List Value).set 43 (.int v))) = wld G (C, Z) := by subst e; exact wld_set (by decide) rfl (ent_wrIR (by decide))
theorem p_72_44 (G : gp) (C R : Mm) {v : Int64} {Z : Mm} (e : Z = wrL R 72 44 v) : (wld G (C, R)).set 72 (gA G 72, .inr (9, ([.ref (gA G 73), .ref (gA G 74), .ref (gA G 75), .ref (gA G 76), .int (R.1 72 4), .int (R.1 72 5), .ref (gA G 77), .int (R.1 72 7), .ref (gA G 78), .int (R.1 72 9), .int (R.1 72 10), .int (R.1 72 11), .int (R.1 72 12), .int (R.1 72 13), .int (R.1 72 14), .ref (gA G 79), .int (R.1 72 16), .ref (gA G 80), .ref (gA G 81), .ref (gA G 82), .ref (gA G 83), .int (R.1 72 21), .ref (gA G 84), .ref (gA G 85), .ref (gA G 86), .ref (gA G 87), .ref (gA G 88), .ref (gA G 89), .int (R.1 72 28), .int (R.1 72 29), .int (R.1 72 30), .int (R.1 72 31), .ref (gA G 90), .int (R.1 72 33), .ref (gA G 91), .ref (gA G 92), .ref (gA G 93), .int (R.1 72 37), .ref (gA G 94), .ref (gA G 95), .int (R.1 72 40), .ref (gA G 96), .int (R.1 72 42), .int (R.1 72 43), .long (R.2 72 44), .int (R.1 72 45), .ref (gA G 97), .ref (gA G 98), .int (R.1 72 48), .int (R.1 72 49), .int (R.1 72 50), .ref (gA G 99), .ref (gA G 100), .ref (gA G 101), .ref (gA G 102)] : List Value).set 44 (.long v))) = wld G (C, Z) := by subst e; exact wld_set (by decide) rfl (ent_wrLR (by decide))
theorem p_72_45 (G : gp) (C R : Mm) {v : Int32} {Z : Mm} (e : Z = wrI R 72 45 v) : (wld G (C, R)).set 72 (gA G 72, .inr (9, ([.ref (gA G 73), .ref (gA G 74), .ref (gA G 75), .ref (gA G 76), .int (R.1 72 4), .int (R.1 72 5), .ref (gA G 77), .int (R.1 72 7), .ref (gA G 78), .int (R.1 72 9), .int (R.1 72 10), .int (R.1 72 11), .int (R.1 72 12), .int (R.1 72 13), .int (R.1 72 14), .ref (gA G 79), .int (R.1 72 16), .ref (gA G 80), .ref (gA G 81), .ref (gA G 82), .ref (gA G 83), .int (R.1 72 21), .ref (gA G 84), .ref (gA G 85), .ref (gA G 86), .ref (gA G 87), .ref (gA G 88), .ref (gA G 89), .int (R.1 72 28), .int (R.1 72 29), .int (R.1 72 30), .int (R.1 72 31), .ref (gA G 90), .int (R.1 72 33), .ref (gA G 91), .ref (gA G 92), .ref (gA G 93), .int (R.1 72 37), .ref (gA G 94), .ref (gA G 95), .int (R.1 72 40), .ref (gA G 96), .int (R.1 72 42), .int (R.1 72 43), .long (R.2 72 44), .int (R.1 72 45), .ref (gA G 97), .ref (gA G 98), .int (R.1 72 48), .int (R.1 72 49), .int (R.1 72 50), .ref (gA G 99), .ref (gA G 100), .ref (gA G 101), .ref (gA G 102)] : List Value).set 45 (.int v))) = wld G (C, Z) := by subst e; exact wld_set (by decide) rfl (ent_wrIR (by decide))
theorem p_72_48 (G : gp) (C R : Mm) {v : Int32} {Z : Mm} (e : Z = wrI R 72 48 v) : (wld G (C, R)).set 72 (gA G 72, .inr (9, ([.ref (gA G 73), .ref (gA G 74), .ref (gA G 75), .ref (gA G 76), .int (R.1 72 4), .int (R.1 72 5), .ref (gA G 77), .int (R.1 72 7), .ref (gA G 78), .int (R.1 72 9), .int (R.1 72 10), .int (R.1 72 11), .int (R.1 72 12), .int (R.1 72 13), .int (R.1 72 14), .ref (gA G 79), .int (R.1 72 16), .ref (gA G 80), .ref (gA G 81), .ref (gA G 82), .ref (gA G 83), .int (R.1 72 21), .ref (gA G 84), .ref (gA G 85), .ref (gA G 86), .ref (gA G 87), .ref (gA G 88), .ref (gA G 89), .int (R.1 72 28), .int (R.1 72 29), .int (R.1 72 30), .int (R.1 72 31), .ref (gA G 90), .int (R.1 72 33), .ref (gA G 91), .ref (gA G 92), .ref (gA G 93), .int (R.1 72 37), .ref (gA G 94), .ref (gA G 95), .int (R.1 72 40), .ref (gA G 96), .int (R.1 72 42), .int (R.1 72 43), .long (R.2 72 44), .int (R.1 72 45), .ref (gA G 97), .ref (gA G 98), .int (R.1 72 48), .int (R.1 72 49), .int (R.1 72 50), .ref (gA G 99), .ref (gA G 100), .ref (gA G 101), .ref (gA G 102)] : List Value).set 48 (.int v))) = wld G (C, Z) := by subst e; exact wld_set (by decide) rfl (ent_wrIR (by decide))
theorem p_72_49 (G : gp) (C R : Mm) {v : Int32} {Z : Mm} (e : Z = wrI R 72 49 v) : (wld G (C, R)).set 72 (gA G 72, .inr (9, ([.ref (gA G 73), .ref (gA G 74), .ref (gA G 75), .ref (gA G 76), .int (R.1 72 4), .int (R.1 72 5), .ref (gA G 77), .int (R.1 72 7), .ref (gA G 78), .int (R.1 72 9), .int (R.1 72 10), .int (R.1 72 11), .int (R.1 72 12), .int (R.1 72 13), .int (R.1 72 14), .ref (gA G 79), .int (R.1 72 16), .ref (gA G 80), .ref (gA G 81), .ref (gA G 82), .ref (gA G 83), .int (R.1 72 21), .ref (gA G 84), .ref (gA G 85), .ref (gA G 86), .ref (gA G 87), .ref (gA G 88), .ref (gA G 89), .int (R.1 72 28), .int (R.1 72 29), .int (R.1 72 30), .int (R.1 72 31), .ref (gA G 90), .int (R.1 72 33), .ref (gA G 91), .ref (gA G 92), .ref (gA G 93), .int (R.1 72 37), .ref (gA G 94), .ref (gA G 95), .int (R.1 72 40), .ref (gA G 96), .int (R.1 72 42), .int (R.1 72 43), .long (R.2 72 44), .int (R.1 72 45), .ref (gA G 97), .ref (gA G 98), .int (R.1 72 48), .int (R.1 72 49), .int (R.1 72 50), .ref (gA G 99), .ref (gA G 100), .ref (gA G 101), .ref (gA G 102)] : List Value).set 49 (.int v))) = wld G (C, Z) := by subst e; exact wld_set (by decide) rfl (ent_wrIR (by decide))
theorem p_72_50 (G : gp) (C R : Mm) {v : Int32} {Z : Mm} (e : Z = wrI R 72 50 v) : (wld G (C, R)).set 72 (gA G 72, .inr (9, ([.ref (gA G 73), .ref (gA G 74), .ref (gA G 75), .ref (gA G 76), .int (R.1 72 4), .int (R.1 72 5), .ref (gA G 77), .int (R.1 72 7), .ref (gA G 78), .int (R.1 72 9), .int (R.1 72 10), .int (R.1 72 11), .int (R.1 72 12), .int (R.1 72 13), .int (R.1 72 14), .ref (gA G 79), .int (R.1 72 16), .ref (gA G 80), .ref (gA G 81), .ref (gA G 82), .ref (gA G 83), .int (R.1 72 21), .ref (gA G 84), .ref (gA G 85), .ref (gA G 86), .ref (gA G 87), .ref (gA G 88), .ref (gA G 89), .int (R.1 72 28), .int (R.1 72 29), .int (R.1 72 30), .int (R.1 72 31), .ref (gA G 90), .int (R.1 72 33), .ref (gA G 91), .ref (gA G 92), .ref (gA G 93), .int (R.1 72 37), .ref (gA G 94), .ref (gA G 95), .int (R.1 72 40), .ref (gA G 96), .int (R.1 72 42), .int (R.1 72 43), .long (R.2 72 44), .int (R.1 72 45), .ref (gA G 97), .ref (gA G 98), .int (R.1 72 48), .int (R.1 72 49), .int (R.1 72 50), .ref (gA G 99), .ref (gA G 100), .ref (gA G 101), .ref (gA G 102)] : List Value).set 50 (.int v))) = wld G (C, Z) := by subst e; exact wld_set (by decide) rfl (ent_wrIR (by decide))
theorem a_73 (G : gp) (C R : Mm) (i : Nat) (v : Int32) {Z : Mm} (e : Z = wrI R 73 i v) : (wld G (C, R)).set 73 (gA G 73, .inl (gC G 0, 30, .inl (upd (R.1 73) i v))) = wld G (C, Z) := by subst e; exact wld_set (by decide) (ent_aIR (by decide) rfl) (ent_wrIR (by decide))
theorem a_74 (G : gp) (C R : Mm) (i : Nat) (v : Int32) {Z : Mm} (e : Z = wrI R 74 i v) : (wld G (C, R)).set 74 (gA G 74, .inl (gC G 0, 40, .inl (upd (R.1 74) i v))) = wld G (C, Z) := by subst e; exact wld_set (by decide) (ent_aIR (by decide) rfl) (ent_wrIR (by decide))
theorem a_75 (G : gp) (C R : Mm) (i : Nat) (v : Int32) {Z : Mm} (e : Z = wrI R 75 i v) : (wld G (C, R)).set 75 (gA G 75, .inl (gC G 0, 40, .inl (upd (R.1 75) i v))) = wld G (C, Z) := by subst e; exact wld_set (by decide) (ent_aIR (by decide) rfl) (ent_wrIR (by decide))
theorem a_76 (G : gp) (C R : Mm) (i : Nat) (v : Int32) {Z : Mm} (e : Z = wrI R 76 i v) : (wld G (C, R)).set 76 (gA G 76, .inl (gC G 0, 40, .inl (upd (R.1 76) i v))) = wld G (C, Z) := by subst e; exact wld_set (by decide) (ent_aIR (by decide) rfl) (ent_wrIR (by decide))
theorem a_77 (G : gp) (C R : Mm) (i : Nat) (v : Int32) {Z : Mm} (e : Z = wrI R 77 i v) : (wld G (C, R)).set 77 (gA G 77, .inl (gC G 0, 120, .inl (upd (R.1 77) i v))) = wld G (C, Z) := by subst e; exact wld_set (by decide) (ent_aIR (by decide) rfl) (ent_wrIR (by decide))
theorem a_78 (G : gp) (C R : Mm) (i : Nat) (v : Int32) {Z : Mm} (e : Z = wrI R 78 i v) : (wld G (C, R)).set 78 (gA G 78, .inl (gC G 0, 120, .inl (upd (R.1 78) i v))) = wld G (C, Z) := by subst e; exact wld_set (by decide) (ent_aIR (by decide) rfl) (ent_wrIR (by decide))
theorem a_79 (G : gp) (C R : Mm) (i : Nat) (v : Int32) {Z : Mm} (e : Z = wrI R 79 i v) : (wld G (C, R)).set 79 (gA G 79, .inl (gC G 0, 8, .inl (upd (R.1 79) i v))) = wld G (C, Z) := by subst e; exact wld_set (by decide) (ent_aIR (by decide) rfl) (ent_wrIR (by decide))
theorem a_80 (G : gp) (C R : Mm) (i : Nat) (v : Int32) {Z : Mm} (e : Z = wrI R 80 i v) : (wld G (C, R)).set 80 (gA G 80, .inl (gC G 0, 5, .inl (upd (R.1 80) i v))) = wld G (C, Z) := by subst e; exact wld_set (by decide) (ent_aIR (by decide) rfl) (ent_wrIR (by decide))
theorem a_81 (G : gp) (C R : Mm) (i : Nat) (v : Int32) {Z : Mm} (e : Z = wrI R 81 i v) : (wld G (C, R)).set 81 (gA G 81, .inl (gC G 0, 6, .inl (upd (R.1 81) i v))) = wld G (C, Z) := by subst e; exact wld_set (by decide) (ent_aIR (by decide) rfl) (ent_wrIR (by decide))
theorem a_82 (G : gp) (C R : Mm) (i : Nat) (v : Int32) {Z : Mm} (e : Z = wrI R 82 i v) : (wld G (C, R)).set 82 (gA G 82, .inl (gC G 0, 360, .inl (upd (R.1 82) i v))) = wld G (C, Z) := by subst e; exact wld_set (by decide) (ent_aIR (by decide) rfl) (ent_wrIR (by decide))
theorem a_83 (G : gp) (C R : Mm) (i : Nat) (v : Int32) {Z : Mm} (e : Z = wrI R 83 i v) : (wld G (C, R)).set 83 (gA G 83, .inl (gC G 0, 360, .inl (upd (R.1 83) i v))) = wld G (C, Z) := by subst e; exact wld_set (by decide) (ent_aIR (by decide) rfl) (ent_wrIR (by decide))
theorem a_84 (G : gp) (C R : Mm) (i : Nat) (v : Int32) {Z : Mm} (e : Z = wrI R 84 i v) : (wld G (C, R)).set 84 (gA G 84, .inl (gC G 0, 200, .inl (upd (R.1 84) i v))) = wld G (C, Z) := by subst e; exact wld_set (by decide) (ent_aIR (by decide) rfl) (ent_wrIR (by decide))
theorem a_85 (G : gp) (C R : Mm) (i : Nat) (v : Int32) {Z : Mm} (e : Z = wrI R 85 i v) : (wld G (C, R)).set 85 (gA G 85, .inl (gC G 0, 200, .inl (upd (R.1 85) i v))) = wld G (C, Z) := by subst e; exact wld_set (by decide) (ent_aIR (by decide) rfl) (ent_wrIR (by decide))
theorem a_86 (G : gp) (C R : Mm) (i : Nat) (v : Int32) {Z : Mm} (e : Z = wrI R 86 i v) : (wld G (C, R)).set 86 (gA G 86, .inl (gC G 0, 200, .inl (upd (R.1 86) i v))) = wld G (C, Z) := by subst e; exact wld_set (by decide) (ent_aIR (by decide) rfl) (ent_wrIR (by decide))
theorem a_87 (G : gp) (C R : Mm) (i : Nat) (v : Int32) {Z : Mm} (e : Z = wrI R 87 i v) : (wld G (C, R)).set 87 (gA G 87, .inl (gC G 0, 200, .inl (upd (R.1 87) i v))) = wld G (C, Z) := by subst e; exact wld_set (by decide) (ent_aIR (by decide) rfl) (ent_wrIR (by decide))
theorem a_88 (G : gp) (C R : Mm) (i : Nat) (v : Int32) {Z : Mm} (e : Z = wrI R 88 i v) : (wld G (C, R)).set 88 (gA G 88, .inl (gC G 0, 200, .inl (upd (R.1 88) i v))) = wld G (C, Z) := by subst e; exact wld_set (by decide) (ent_aIR (by decide) rfl) (ent_wrIR (by decide))
theorem a_89 (G : gp) (C R : Mm) (i : Nat) (v : Int32) {Z : Mm} (e : Z = wrI R 89 i v) : (wld G (C, R)).set 89 (gA G 89, .inl (gC G 0, 200, .inl (upd (R.1 89) i v))) = wld G (C, Z) := by subst e; exact wld_set (by decide) (ent_aIR (by decide) rfl) (ent_wrIR (by decide))
theorem a_90 (G : gp) (C R : Mm) (i : Nat) (v : Int32) {Z : Mm} (e : Z = wrI R 90 i v) : (wld G (C, R)).set 90 (gA G 90, .inl (gC G 0, 4, .inl (upd (R.1 90) i v))) = wld G (C, Z) := by subst e; exact wld_set (by decide) (ent_aIR (by decide) rfl) (ent_wrIR (by decide))
theorem a_91 (G : gp) (C R : Mm) (i : Nat) (v : Int32) {Z : Mm} (e : Z = wrI R 91 i v) : (wld G (C, R)).set 91 (gA G 91, .inl (gC G 0, 40, .inl (upd (R.1 91) i v))) = wld G (C, Z) := by subst e; exact wld_set (by decide) (ent_aIR (by decide) rfl) (ent_wrIR (by decide))
theorem a_92 (G : gp) (C R : Mm) (i : Nat) (v : Int32) {Z : Mm} (e : Z = wrI R 92 i v) : (wld G (C, R)).set 92 (gA G 92, .inl (gC G 0, 40, .inl (upd (R.1 92) i v))) = wld G (C, Z) := by subst e; exact wld_set (by decide) (ent_aIR (by decide) rfl) (ent_wrIR (by decide))
theorem a_93 (G : gp) (C R : Mm) (i : Nat) (v : Int32) {Z : Mm} (e : Z = wrI R 93 i v) : (wld G (C, R)).set 93 (gA G 93, .inl (gC G 0, 40, .inl (upd (R.1 93) i v))) = wld G (C, Z) := by subst e; exact wld_set (by decide) (ent_aIR (by decide) rfl) (ent_wrIR (by decide))
theorem a_94 (G : gp) (C R : Mm) (i : Nat) (v : Int32) {Z : Mm} (e : Z = wrI R 94 i v) : (wld G (C, R)).set 94 (gA G 94, .inl (gC G 0, 8, .inl (upd (R.1 94) i v))) = wld G (C, Z) := by subst e; exact wld_set (by decide) (ent_aIR (by decide) rfl) (ent_wrIR (by decide))
theorem a_95 (G : gp) (C R : Mm) (i : Nat) (v : Int32) {Z : Mm} (e : Z = wrI R 95 i v) : (wld G (C, R)).set 95 (gA G 95, .inl (gC G 0, 60, .inl (upd (R.1 95) i v))) = wld G (C, Z) := by subst e; exact wld_set (by decide) (ent_aIR (by decide) rfl) (ent_wrIR (by decide))
theorem a_96 (G : gp) (C R : Mm) (i : Nat) (v : Int32) {Z : Mm} (e : Z = wrI R 96 i v) : (wld G (C, R)).set 96 (gA G 96, .inl (gC G 0, 5, .inl (upd (R.1 96) i v))) = wld G (C, Z) := by subst e; exact wld_set (by decide) (ent_aIR (by decide) rfl) (ent_wrIR (by decide))
theorem a_97 (G : gp) (C R : Mm) (i : Nat) (v : Int32) {Z : Mm} (e : Z = wrI R 97 i v) : (wld G (C, R)).set 97 (gA G 97, .inl (gC G 0, 50, .inl (upd (R.1 97) i v))) = wld G (C, Z) := by subst e; exact wld_set (by decide) (ent_aIR (by decide) rfl) (ent_wrIR (by decide))
theorem a_98 (G : gp) (C R : Mm) (i : Nat) (v : Int32) {Z : Mm} (e : Z = wrI R 98 i v) : (wld G (C, R)).set 98 (gA G 98, .inl (gC G 0, 24, .inl (upd (R.1 98) i v))) = wld G (C, Z) := by subst e; exact wld_set (by decide) (ent_aIR (by decide) rfl) (ent_wrIR (by decide))
theorem a_99 (G : gp) (C R : Mm) (i : Nat) (v : Int32) {Z : Mm} (e : Z = wrI R 99 i v) : (wld G (C, R)).set 99 (gA G 99, .inl (gC G 0, 6, .inl (upd (R.1 99) i v))) = wld G (C, Z) := by subst e; exact wld_set (by decide) (ent_aIR (by decide) rfl) (ent_wrIR (by decide))
theorem a_100 (G : gp) (C R : Mm) (i : Nat) (v : Int32) {Z : Mm} (e : Z = wrI R 100 i v) : (wld G (C, R)).set 100 (gA G 100, .inl (gC G 0, 6, .inl (upd (R.1 100) i v))) = wld G (C, Z) := by subst e; exact wld_set (by decide) (ent_aIR (by decide) rfl) (ent_wrIR (by decide))
theorem a_101 (G : gp) (C R : Mm) (i : Nat) (v : Int64) {Z : Mm} (e : Z = wrL R 101 i v) : (wld G (C, R)).set 101 (gA G 101, .inl (gC G 1, 360, .inr (.inl (vp_updL (R.2 101) i v)))) = wld G (C, Z) := by subst e; exact wld_set (by decide) (ent_aLR (by decide) rfl) (ent_wrLR (by decide))
theorem a_102 (G : gp) (C R : Mm) (i : Nat) (v : Int64) {Z : Mm} (e : Z = wrL R 102 i v) : (wld G (C, R)).set 102 (gA G 102, .inl (gC G 1, 60, .inr (.inl (vp_updL (R.2 102) i v)))) = wld G (C, Z) := by subst e; exact wld_set (by decide) (ent_aLR (by decide) rfl) (ent_wrLR (by decide))
theorem p_103_1 (G : gp) (C R : Mm) {v : Int32} {Z : Mm} (e : Z = wrI C 103 1 v) : (wld G (C, R)).set 103 (gA G 103, .inr (7, ([.ref (gA G 104), .int (C.1 103 1)] : List Value).set 1 (.int v))) = wld G (Z, R) := by subst e; exact wld_set (by decide) rfl (ent_wrIC (by decide))
theorem a_104 (G : gp) (C R : Mm) (i : Nat) (v : Int32) {Z : Mm} (e : Z = wrI C 104 i v) : (wld G (C, R)).set 104 (gA G 104, .inl (gC G 0, 120, .inl (upd (C.1 104) i v))) = wld G (Z, R) := by subst e; exact wld_set (by decide) (ent_aIC (by decide) rfl) (ent_wrIC (by decide))
theorem e_hc (G : gp) (X : Mm × Mm) {j : Nat} (h : j < 7) : (wld G X)[hdc j]? = some (gA G (hdc j), .inr (4, [.ref (gA G (hdn j)), .ref (gA G (hdp j)), .ref (gA G (hdk j)), .int (X.1.1 (hdc j) 3)])) := by
  rcases (show j = 0 ∨ j = 1 ∨ j = 2 ∨ j = 3 ∨ j = 4 ∨ j = 5 ∨ j = 6 by omega) with rfl | rfl | rfl | rfl | rfl | rfl | rfl <;> rfl
theorem e_hn (G : gp) (X : Mm × Mm) {j : Nat} (h : j < 7) : (wld G X)[hdn j]? = some (gA G (hdn j), .inl (gC G 0, 5, .inl (X.1.1 (hdn j)))) := by
  rcases (show j = 0 ∨ j = 1 ∨ j = 2 ∨ j = 3 ∨ j = 4 ∨ j = 5 ∨ j = 6 by omega) with rfl | rfl | rfl | rfl | rfl | rfl | rfl <;> rfl
theorem a_hn (G : gp) (C R : Mm) {j : Nat} (h : j < 7) (i : Nat) (v : Int32) {Z : Mm} (e : Z = wrI C (hdn j) i v) : (wld G (C, R)).set (hdn j) (gA G (hdn j), .inl (gC G 0, 5, .inl (upd (C.1 (hdn j)) i v))) = wld G (Z, R) := by subst e; exact wld_set (by unfold hdn; omega) (ent_aIC (by unfold hdn; omega) (by rcases (show j = 0 ∨ j = 1 ∨ j = 2 ∨ j = 3 ∨ j = 4 ∨ j = 5 ∨ j = 6 by omega) with rfl | rfl | rfl | rfl | rfl | rfl | rfl <;> rfl)) (ent_wrIC (by unfold hdn; omega))
theorem ac_hn (G : gp) (C R : Mm) {j : Nat} (h : j < 7) (q0 sp dp k : Nat) {Z : Mm} (e : Z = cpI C q0 sp (hdn j) dp k) : (wld G (C, R)).set (hdn j) (gA G (hdn j), .inl (gC G 0, 5, .inl (va_cpy (C.1 q0) (C.1 (hdn j)) sp dp k))) = wld G (Z, R) := by subst e; exact wld_set (by unfold hdn; omega) (ent_cIC (by unfold hdn; omega) (by rcases (show j = 0 ∨ j = 1 ∨ j = 2 ∨ j = 3 ∨ j = 4 ∨ j = 5 ∨ j = 6 by omega) with rfl | rfl | rfl | rfl | rfl | rfl | rfl <;> rfl)) (ent_cpIC (by unfold hdn; omega))
theorem e_hp (G : gp) (X : Mm × Mm) {j : Nat} (h : j < 7) : (wld G X)[hdp j]? = some (gA G (hdp j), .inl (gC G 0, 60, .inl (X.1.1 (hdp j)))) := by
  rcases (show j = 0 ∨ j = 1 ∨ j = 2 ∨ j = 3 ∨ j = 4 ∨ j = 5 ∨ j = 6 by omega) with rfl | rfl | rfl | rfl | rfl | rfl | rfl <;> rfl
theorem a_hp (G : gp) (C R : Mm) {j : Nat} (h : j < 7) (i : Nat) (v : Int32) {Z : Mm} (e : Z = wrI C (hdp j) i v) : (wld G (C, R)).set (hdp j) (gA G (hdp j), .inl (gC G 0, 60, .inl (upd (C.1 (hdp j)) i v))) = wld G (Z, R) := by subst e; exact wld_set (by unfold hdp; omega) (ent_aIC (by unfold hdp; omega) (by rcases (show j = 0 ∨ j = 1 ∨ j = 2 ∨ j = 3 ∨ j = 4 ∨ j = 5 ∨ j = 6 by omega) with rfl | rfl | rfl | rfl | rfl | rfl | rfl <;> rfl)) (ent_wrIC (by unfold hdp; omega))
theorem ac_hp (G : gp) (C R : Mm) {j : Nat} (h : j < 7) (q0 sp dp k : Nat) {Z : Mm} (e : Z = cpI C q0 sp (hdp j) dp k) : (wld G (C, R)).set (hdp j) (gA G (hdp j), .inl (gC G 0, 60, .inl (va_cpy (C.1 q0) (C.1 (hdp j)) sp dp k))) = wld G (Z, R) := by subst e; exact wld_set (by unfold hdp; omega) (ent_cIC (by unfold hdp; omega) (by rcases (show j = 0 ∨ j = 1 ∨ j = 2 ∨ j = 3 ∨ j = 4 ∨ j = 5 ∨ j = 6 by omega) with rfl | rfl | rfl | rfl | rfl | rfl | rfl <;> rfl)) (ent_cpIC (by unfold hdp; omega))
theorem e_hk (G : gp) (X : Mm × Mm) {j : Nat} (h : j < 7) : (wld G X)[hdk j]? = some (gA G (hdk j), .inl (gC G 0, 60, .inl (X.1.1 (hdk j)))) := by
  rcases (show j = 0 ∨ j = 1 ∨ j = 2 ∨ j = 3 ∨ j = 4 ∨ j = 5 ∨ j = 6 by omega) with rfl | rfl | rfl | rfl | rfl | rfl | rfl <;> rfl
theorem a_hk (G : gp) (C R : Mm) {j : Nat} (h : j < 7) (i : Nat) (v : Int32) {Z : Mm} (e : Z = wrI C (hdk j) i v) : (wld G (C, R)).set (hdk j) (gA G (hdk j), .inl (gC G 0, 60, .inl (upd (C.1 (hdk j)) i v))) = wld G (Z, R) := by subst e; exact wld_set (by unfold hdk; omega) (ent_aIC (by unfold hdk; omega) (by rcases (show j = 0 ∨ j = 1 ∨ j = 2 ∨ j = 3 ∨ j = 4 ∨ j = 5 ∨ j = 6 by omega) with rfl | rfl | rfl | rfl | rfl | rfl | rfl <;> rfl)) (ent_wrIC (by unfold hdk; omega))
theorem ac_hk (G : gp) (C R : Mm) {j : Nat} (h : j < 7) (q0 sp dp k : Nat) {Z : Mm} (e : Z = cpI C q0 sp (hdk j) dp k) : (wld G (C, R)).set (hdk j) (gA G (hdk j), .inl (gC G 0, 60, .inl (va_cpy (C.1 q0) (C.1 (hdk j)) sp dp k))) = wld G (Z, R) := by subst e; exact wld_set (by unfold hdk; omega) (ent_cIC (by unfold hdk; omega) (by rcases (show j = 0 ∨ j = 1 ∨ j = 2 ∨ j = 3 ∨ j = 4 ∨ j = 5 ∨ j = 6 by omega) with rfl | rfl | rfl | rfl | rfl | rfl | rfl <;> rfl)) (ent_cpIC (by unfold hdk; omega))
theorem p_hc (G : gp) (C R : Mm) {j : Nat} (h : j < 7) {v : Int32} {Z : Mm} (e : Z = wrI C (hdc j) 3 v) : (wld G (C, R)).set (hdc j) (gA G (hdc j), .inr (4, ([.ref (gA G (hdn j)), .ref (gA G (hdp j)), .ref (gA G (hdk j)), .int (C.1 (hdc j) 3)] : List Value).set 3 (.int v))) = wld G (Z, R) := by
  subst e
  rcases (show j = 0 ∨ j = 1 ∨ j = 2 ∨ j = 3 ∨ j = 4 ∨ j = 5 ∨ j = 6 by omega) with rfl | rfl | rfl | rfl | rfl | rfl | rfl
  · exact wld_set (by decide) rfl (ent_wrIC (by decide))
  · exact wld_set (by decide) rfl (ent_wrIC (by decide))
  · exact wld_set (by decide) rfl (ent_wrIC (by decide))
  · exact wld_set (by decide) rfl (ent_wrIC (by decide))
  · exact wld_set (by decide) rfl (ent_wrIC (by decide))
  · exact wld_set (by decide) rfl (ent_wrIC (by decide))
  · exact wld_set (by decide) rfl (ent_wrIC (by decide))
theorem e_sc (G : gp) (X : Mm × Mm) {j : Nat} (h : j < 6) : (wld G X)[shc j]? = some (gA G (shc j), .inr (6, [.int (X.1.1 (shc j) 0), .int (X.1.1 (shc j) 1), .int (X.1.1 (shc j) 2), .ref (gA G (she j))])) := by
  rcases (show j = 0 ∨ j = 1 ∨ j = 2 ∨ j = 3 ∨ j = 4 ∨ j = 5 by omega) with rfl | rfl | rfl | rfl | rfl | rfl <;> rfl
theorem e_se (G : gp) (X : Mm × Mm) {j : Nat} (h : j < 6) : (wld G X)[she j]? = some (gA G (she j), .inl (gC G 1, 60, .inr (.inl (X.1.2 (she j))))) := by
  rcases (show j = 0 ∨ j = 1 ∨ j = 2 ∨ j = 3 ∨ j = 4 ∨ j = 5 by omega) with rfl | rfl | rfl | rfl | rfl | rfl <;> rfl
theorem a_se (G : gp) (C R : Mm) {j : Nat} (h : j < 6) (i : Nat) (v : Int64) {Z : Mm} (e : Z = wrL C (she j) i v) : (wld G (C, R)).set (she j) (gA G (she j), .inl (gC G 1, 60, .inr (.inl (vp_updL (C.2 (she j)) i v)))) = wld G (Z, R) := by subst e; exact wld_set (by unfold she; omega) (ent_aLC (by unfold she; omega) (by rcases (show j = 0 ∨ j = 1 ∨ j = 2 ∨ j = 3 ∨ j = 4 ∨ j = 5 by omega) with rfl | rfl | rfl | rfl | rfl | rfl <;> rfl)) (ent_wrLC (by unfold she; omega))
theorem ac_se (G : gp) (C R : Mm) {j : Nat} (h : j < 6) (q0 sp dp k : Nat) {Z : Mm} (e : Z = cpL C q0 sp (she j) dp k) : (wld G (C, R)).set (she j) (gA G (she j), .inl (gC G 1, 60, .inr (.inl (va_cpy (C.2 q0) (C.2 (she j)) sp dp k)))) = wld G (Z, R) := by subst e; exact wld_set (by unfold she; omega) (ent_cLC (by unfold she; omega) (by rcases (show j = 0 ∨ j = 1 ∨ j = 2 ∨ j = 3 ∨ j = 4 ∨ j = 5 by omega) with rfl | rfl | rfl | rfl | rfl | rfl <;> rfl)) (ent_cpLC (by unfold she; omega))
theorem ac_33 (G : gp) (C R : Mm) (q0 sp dp k : Nat) {Z : Mm} (e : Z = cpI C q0 sp 33 dp k) : (wld G (C, R)).set 33 (gA G 33, .inl (gC G 0, 128, .inl (va_cpy (C.1 q0) (C.1 33) sp dp k))) = wld G (Z, R) := by subst e; exact wld_set (by decide) (ent_cIC (by decide) rfl) (ent_cpIC (by decide))
theorem ac_52 (G : gp) (C R : Mm) (q0 sp dp k : Nat) {Z : Mm} (e : Z = cpI C q0 sp 52 dp k) : (wld G (C, R)).set 52 (gA G 52, .inl (gC G 0, 40, .inl (va_cpy (C.1 q0) (C.1 52) sp dp k))) = wld G (Z, R) := by subst e; exact wld_set (by decide) (ent_cIC (by decide) rfl) (ent_cpIC (by decide))
theorem ac_53 (G : gp) (C R : Mm) (q0 sp dp k : Nat) {Z : Mm} (e : Z = cpI C q0 sp 53 dp k) : (wld G (C, R)).set 53 (gA G 53, .inl (gC G 0, 40, .inl (va_cpy (C.1 q0) (C.1 53) sp dp k))) = wld G (Z, R) := by subst e; exact wld_set (by decide) (ent_cIC (by decide) rfl) (ent_cpIC (by decide))
theorem ac_54 (G : gp) (C R : Mm) (q0 sp dp k : Nat) {Z : Mm} (e : Z = cpI C q0 sp 54 dp k) : (wld G (C, R)).set 54 (gA G 54, .inl (gC G 0, 40, .inl (va_cpy (C.1 q0) (C.1 54) sp dp k))) = wld G (Z, R) := by subst e; exact wld_set (by decide) (ent_cIC (by decide) rfl) (ent_cpIC (by decide))
theorem ac_55 (G : gp) (C R : Mm) (q0 sp dp k : Nat) {Z : Mm} (e : Z = cpI C q0 sp 55 dp k) : (wld G (C, R)).set 55 (gA G 55, .inl (gC G 0, 40, .inl (va_cpy (C.1 q0) (C.1 55) sp dp k))) = wld G (Z, R) := by subst e; exact wld_set (by decide) (ent_cIC (by decide) rfl) (ent_cpIC (by decide))
theorem ac_104 (G : gp) (C R : Mm) (q0 sp dp k : Nat) {Z : Mm} (e : Z = cpI C q0 sp 104 dp k) : (wld G (C, R)).set 104 (gA G 104, .inl (gC G 0, 120, .inl (va_cpy (C.1 q0) (C.1 104) sp dp k))) = wld G (Z, R) := by subst e; exact wld_set (by decide) (ent_cIC (by decide) rfl) (ent_cpIC (by decide))
theorem p_sc0 (G : gp) (C R : Mm) {j : Nat} (h : j < 6) {v : Int32} {Z : Mm} (e : Z = wrI C (shc j) 0 v) : (wld G (C, R)).set (shc j) (gA G (shc j), .inr (6, ([.int (C.1 (shc j) 0), .int (C.1 (shc j) 1), .int (C.1 (shc j) 2), .ref (gA G (she j))] : List Value).set 0 (.int v))) = wld G (Z, R) := by
  subst e
  rcases (show j = 0 ∨ j = 1 ∨ j = 2 ∨ j = 3 ∨ j = 4 ∨ j = 5 by omega) with rfl | rfl | rfl | rfl | rfl | rfl
  · exact wld_set (by decide) rfl (ent_wrIC (by decide))
  · exact wld_set (by decide) rfl (ent_wrIC (by decide))
  · exact wld_set (by decide) rfl (ent_wrIC (by decide))
  · exact wld_set (by decide) rfl (ent_wrIC (by decide))
  · exact wld_set (by decide) rfl (ent_wrIC (by decide))
  · exact wld_set (by decide) rfl (ent_wrIC (by decide))
theorem p_sc1 (G : gp) (C R : Mm) {j : Nat} (h : j < 6) {v : Int32} {Z : Mm} (e : Z = wrI C (shc j) 1 v) : (wld G (C, R)).set (shc j) (gA G (shc j), .inr (6, ([.int (C.1 (shc j) 0), .int (C.1 (shc j) 1), .int (C.1 (shc j) 2), .ref (gA G (she j))] : List Value).set 1 (.int v))) = wld G (Z, R) := by
  subst e
  rcases (show j = 0 ∨ j = 1 ∨ j = 2 ∨ j = 3 ∨ j = 4 ∨ j = 5 by omega) with rfl | rfl | rfl | rfl | rfl | rfl
  · exact wld_set (by decide) rfl (ent_wrIC (by decide))
  · exact wld_set (by decide) rfl (ent_wrIC (by decide))
  · exact wld_set (by decide) rfl (ent_wrIC (by decide))
  · exact wld_set (by decide) rfl (ent_wrIC (by decide))
  · exact wld_set (by decide) rfl (ent_wrIC (by decide))
  · exact wld_set (by decide) rfl (ent_wrIC (by decide))
theorem p_sc2 (G : gp) (C R : Mm) {j : Nat} (h : j < 6) {v : Int32} {Z : Mm} (e : Z = wrI C (shc j) 2 v) : (wld G (C, R)).set (shc j) (gA G (shc j), .inr (6, ([.int (C.1 (shc j) 0), .int (C.1 (shc j) 1), .int (C.1 (shc j) 2), .ref (gA G (she j))] : List Value).set 2 (.int v))) = wld G (Z, R) := by
  subst e
  rcases (show j = 0 ∨ j = 1 ∨ j = 2 ∨ j = 3 ∨ j = 4 ∨ j = 5 by omega) with rfl | rfl | rfl | rfl | rfl | rfl
  · exact wld_set (by decide) rfl (ent_wrIC (by decide))
  · exact wld_set (by decide) rfl (ent_wrIC (by decide))
  · exact wld_set (by decide) rfl (ent_wrIC (by decide))
  · exact wld_set (by decide) rfl (ent_wrIC (by decide))
  · exact wld_set (by decide) rfl (ent_wrIC (by decide))
  · exact wld_set (by decide) rfl (ent_wrIC (by decide))
section ROWS
variable {G : gp} {p : Program} {l : Launch} {e : Env} {rm0 : Room} {s : State} {m : MethodId} {args : Array Value} {below : List Frame} {meth : Method} {c : Code} {H : Heap} {locs : List Loc} {Q : State → Prop} {cc : ByteArray} {own : String} {nL : Nat} {pc : Nat} {ls : Array Slot} {rest : List Value} {X X' : Mm × Mm} {R : Room} {cells slots : Nat}
theorem Cx.rl (hC : Cx G p s m args meth c cc own nL) (hP : va_P (gD G) vwCl (wld G X) H) (hS : va_S (lwA G) s.heap H locs) {t : State} (ht : t.heap = H) (hW : s.WarmedH t.vm) : Rl G X t := by
  obtain ⟨-, -, -, -, -, hK, hG, hb, hSt, -, hN⟩ := hC
  refine ⟨?_, by rw [ht]; exact hP, va_K.moved hW.alike hK, ?_, hG, hN.warm hW⟩
  · rw [ht]; exact Nat.le_trans hb hS.1
  · rw [ht]
    exact (hSt.moved hW.alike).kept hS.2.1
theorem re_i (hC : Cx G p s m args meth c cc own nL) (hr : meth.sig.returnType = some .int) (hP : va_P (gD G) vwCl (wld G X) H) (hS : va_S (lwA G) s.heap H locs) {v : Int32} (hdg : decode cc pc = .ok (.ireturn, 1)) :
    W p l e R s m args below meth c H locs 0 0 (MQ below (Qi G PT v X) args s 0 0 (lwA G)) (F0 m pc ls [.int v]) :=
  W.iret hC.1 hC.2.1 hr (fun t ht hW => ⟨⟨v, X, rfl, ⟨rfl, rfl, trivial⟩, hC.rl hP hS ht hW⟩, hS.F ht⟩) hS.2.2 hdg hC.2.2.2.2.2.2.2.2.2.1
theorem re_z (hC : Cx G p s m args meth c cc own nL) (hr : meth.sig.returnType = some .boolean) (hP : va_P (gD G) vwCl (wld G X) H) (hS : va_S (lwA G) s.heap H locs) {v : Int32} (hz : PZ v) (hdg : decode cc pc = .ok (.ireturn, 1)) :
    W p l e R s m args below meth c H locs 0 0 (MQ below (Qi G PZ v X) args s 0 0 (lwA G)) (F0 m pc ls [.int v]) :=
  W.zret hC.1 hC.2.1 hr hz (fun t ht hW => ⟨⟨v, X, rfl, ⟨rfl, rfl, hz⟩, hC.rl hP hS ht hW⟩, hS.F ht⟩) hS.2.2 hdg hC.2.2.2.2.2.2.2.2.2.1
theorem re_l (hC : Cx G p s m args meth c cc own nL) (hr : meth.sig.returnType = some .long) (hP : va_P (gD G) vwCl (wld G X) H) (hS : va_S (lwA G) s.heap H locs) {v : Int64} (hdg : decode cc pc = .ok (.lreturn, 1)) :
    W p l e R s m args below meth c H locs 0 0 (MQ below (Ql G v X) args s 0 0 (lwA G)) (F0 m pc ls [.long v]) :=
  W.lret hC.1 hC.2.1 hr (fun t ht hW => ⟨⟨v, X, rfl, ⟨rfl, rfl⟩, hC.rl hP hS ht hW⟩, hS.F ht⟩) hS.2.2 hdg hC.2.2.2.2.2.2.2.2.2.1
theorem re_v (hC : Cx G p s m args meth c cc own nL) (hr : meth.sig.returnType = none) (hP : va_P (gD G) vwCl (wld G X) H) (hS : va_S (lwA G) s.heap H locs) (hdg : decode cc pc = .ok (.return_, 1)) :
    W p l e R s m args below meth c H locs 0 0 (MQ below (Qv G X) args s 0 0 (lwA G)) (F0 m pc ls []) :=
  W.vret hC.1 hC.2.1 hr (fun t ht hW => ⟨⟨X, rfl, rfl, hC.rl hP hS ht hW⟩, hS.F ht⟩) hS.2.2 hdg hC.2.2.2.2.2.2.2.2.2.1
theorem PZ0 : PZ 0 := rfl
theorem PZ1 : PZ 1 := rfl
theorem re_i' (hC : Cx G p s m args meth c cc own nL) (hr : meth.sig.returnType = some .int) (hP : va_P (gD G) vwCl (wld G X) H) (hS : va_S (lwA G) s.heap H locs) {v r0 : Int32} (hv : v = r0) (hX : X = X') (hdg : decode cc pc = .ok (.ireturn, 1)) :
    W p l e R s m args below meth c H locs 0 0 (MQ below (Qi G PT r0 X') args s 0 0 (lwA G)) (F0 m pc ls [.int v]) := by
  subst hv; subst hX; exact re_i hC hr hP hS hdg
theorem re_z' (hC : Cx G p s m args meth c cc own nL) (hr : meth.sig.returnType = some .boolean) (hP : va_P (gD G) vwCl (wld G X) H) (hS : va_S (lwA G) s.heap H locs) {v r0 : Int32} (hz : PZ v) (hv : v = r0) (hX : X = X') (hdg : decode cc pc = .ok (.ireturn, 1)) :
    W p l e R s m args below meth c H locs 0 0 (MQ below (Qi G PZ r0 X') args s 0 0 (lwA G)) (F0 m pc ls [.int v]) := by
  subst hv; subst hX; exact re_z hC hr hP hS hz hdg
theorem re_l' (hC : Cx G p s m args meth c cc own nL) (hr : meth.sig.returnType = some .long) (hP : va_P (gD G) vwCl (wld G X) H) (hS : va_S (lwA G) s.heap H locs) {v r0 : Int64} (hv : v = r0) (hX : X = X') (hdg : decode cc pc = .ok (.lreturn, 1)) :
    W p l e R s m args below meth c H locs 0 0 (MQ below (Ql G r0 X') args s 0 0 (lwA G)) (F0 m pc ls [.long v]) := by
  subst hv; subst hX; exact re_l hC hr hP hS hdg
theorem re_v' (hC : Cx G p s m args meth c cc own nL) (hr : meth.sig.returnType = none) (hP : va_P (gD G) vwCl (wld G X) H) (hS : va_S (lwA G) s.heap H locs) (hX : X = X') (hdg : decode cc pc = .ok (.return_, 1)) :
    W p l e R s m args below meth c H locs 0 0 (MQ below (Qv G X') args s 0 0 (lwA G)) (F0 m pc ls []) := by
  subst hX; exact re_v hC hr hP hS hdg
/-! switches -/
theorem ex_0 {x : Int} : ∀ w ∈ ([] : List Int), x ≠ w := fun _ h => by cases h
theorem ex_c {x z : Int} {zs : List Int} (h : x ≠ z) (t : ∀ w ∈ zs, x ≠ w) : ∀ w ∈ z :: zs, x ≠ w := by
  intro w hw
  rcases List.mem_cons.mp hw with rfl | hw
  · exact h
  · exact t w hw
theorem ti_ne {x k : Int32} {z : Int} (hk : k.toInt = z) (h : ¬ x = k) : x.toInt ≠ z := fun e => h (Int32.toInt_inj.mp (e.trans hk.symm))
theorem lv_tsD (hx : p.tables.exec = Jvm.exec) (hb : c.code = cc) {dflt lo hi : Int} {offs : Array Int} {len tgt : Nat} {x : Int32} {zs : List Int} (hdg : decode cc pc = .ok (.tableswitch dflt lo hi offs, len)) (hsz : (offs.size : Int) = hi - lo + 1) (hex : ∀ z ∈ zs, x.toInt ≠ z) (hchk : ∀ j, j < offs.size → offs[j]? = some dflt ∨ (lo + j) ∈ zs) (ht : (pc : Int) + dflt = (tgt : Int))
    (k : W p l e R s m args below meth c H locs cells slots Q (F0 m tgt ls rest)) : W p l e R s m args below meth c H locs cells slots Q (F0 m pc ls (.int x :: rest)) := by
  by_cases h1 : x.toInt < lo
  · exact lv_tableOut hx hb hdg (Or.inl h1) ht k
  · by_cases h2 : hi < x.toInt
    · exact lv_tableOut hx hb hdg (Or.inr h2) ht k
    · have hj : (x.toInt - lo).toNat < offs.size := by omega
      rcases hchk _ hj with h | h
      · exact lv_tableIn hx hb hdg h1 h2 h ht k
      · exact absurd (by omega) (hex _ h)
theorem lk_D {dflt x : Int} : ∀ {ps : List (Int × Int)} {zs : List Int} (_ : ∀ z ∈ zs, x ≠ z) (_ : ps.map (·.1) = zs), Op.lookupswitch.offset ps dflt x = dflt
  | [], _, _, _ => rfl
  | (a, o) :: r, zs, hex, hz => by
    subst hz
    rw [Op.lookupswitch.offset_cons, if_neg (fun e => hex a List.mem_cons_self e.symm)]
    exact lk_D (fun z h => hex z (List.mem_cons_of_mem _ h)) rfl
/-! arraycopy -/
theorem cp_in {sp dp k : Int32} {n0 n1 : Nat} (h : ¬ (sp < 0 ∨ dp < 0 ∨ k < 0 ∨ n0 < sp.toNatClampNeg + k.toNatClampNeg ∨ n1 < dp.toNatClampNeg + k.toNatClampNeg)) : ¬ sp < 0 ∧ ¬ dp < 0 ∧ ¬ k < 0 ∧ sp.toNatClampNeg + k.toNatClampNeg ≤ n0 ∧ dp.toNatClampNeg + k.toNatClampNeg ≤ n1 :=
  ⟨fun z => h (Or.inl z), fun z => h (Or.inr (Or.inl z)), fun z => h (Or.inr (Or.inr (Or.inl z))), Nat.le_of_not_lt fun z => h (Or.inr (Or.inr (Or.inr (Or.inl z)))), Nat.le_of_not_lt fun z => h (Or.inr (Or.inr (Or.inr (Or.inr z))))⟩
theorem r_cpI (hC : Cx G p s m args meth c cc own nL) {index : Nat} (hlink : Cond.methodLink own index arraycopyName ∈ lw_gd) (h1 : Cond.native arraycopyName ∈ lw_gd) (h2 : Cond.static arraycopyName ∈ lw_gd) (h3 : Cond.initialized "java/lang/System" ∈ lw_gd) (hsz : ls.size = nL) (hP : va_P (gD G) vwCl (wld G X) H) (hS : va_S (lwA G) s.heap H locs) {q0 q1 n0 n1 a0 a1 : Nat} {f g : Nat → Int32} (he0 : (wld G X)[q0]? = some (a0, .inl (gC G 0, n0, .inl f))) (he1 : (wld G X)[q1]? = some (a1, .inl (gC G 0, n1, .inl g))) {sp dp k : Int32} (hin : ¬ (sp < 0 ∨ dp < 0 ∨ k < 0 ∨ n0 < sp.toNatClampNeg + k.toNatClampNeg ∨ n1 < dp.toNatClampNeg + k.toNatClampNeg)) (hset : (wld G X).set q1 (a1, .inl (gC G 0, n1, .inl (va_cpy f g sp.toNatClampNeg dp.toNatClampNeg k.toNatClampNeg))) = wld G X') (hf : 1 ≤ R.frames) (hlo : (rest.map fun v => v.category).sum + (nativeFrameWords "java/lang/System" "arraycopy" 5 + 11) ≤ R.locals) (hdg : decode cc pc = .ok (.invokestatic index, 3))
    (kk : ∀ (H1 : Heap) (locs1 : List Loc), va_P (gD G) vwCl (wld G X') H1 → va_S (lwA G) s.heap H1 locs1 → W p l e R s m args below meth c H1 locs1 cells slots Q (F0 m (pc + 3) ls rest)) : W p l e R s m args below meth c H locs cells slots Q (F0 m pc ls (.int k :: .int dp :: .ref a1 :: .int sp :: .ref a0 :: rest)) := by
  obtain ⟨hx, hb, hml, hown, hts, hK, hG, -⟩ := hC
  obtain ⟨g1, g2, g3, g4, g5⟩ := cp_in hin
  refine va_copyi hx hb (hml.trans hsz.symm) hown (hts _ hlink) (hts _ h1) (hts _ h2) (hts _ h3) hK hP (wld_D hG X) hS q0 q1 0 0 he0 he1 rfl rfl rfl g1 g2 g3 g4 g5 (fun _ _ => rfl) hf hlo hdg fun H1 locs1 hP1 _ hS1 => ?_
  rw [hset] at hP1
  exact kk H1 locs1 hP1 hS1
theorem r_cpL (hC : Cx G p s m args meth c cc own nL) {index : Nat} (hlink : Cond.methodLink own index arraycopyName ∈ lw_gd) (h1 : Cond.native arraycopyName ∈ lw_gd) (h2 : Cond.static arraycopyName ∈ lw_gd) (h3 : Cond.initialized "java/lang/System" ∈ lw_gd) (hsz : ls.size = nL) (hP : va_P (gD G) vwCl (wld G X) H) (hS : va_S (lwA G) s.heap H locs) {q0 q1 n0 n1 a0 a1 : Nat} {f g : Nat → Int64} (he0 : (wld G X)[q0]? = some (a0, .inl (gC G 1, n0, .inr (.inl f)))) (he1 : (wld G X)[q1]? = some (a1, .inl (gC G 1, n1, .inr (.inl g)))) {sp dp k : Int32} (hin : ¬ (sp < 0 ∨ dp < 0 ∨ k < 0 ∨ n0 < sp.toNatClampNeg + k.toNatClampNeg ∨ n1 < dp.toNatClampNeg + k.toNatClampNeg)) (hset : (wld G X).set q1 (a1, .inl (gC G 1, n1, .inr (.inl (va_cpy f g sp.toNatClampNeg dp.toNatClampNeg k.toNatClampNeg)))) = wld G X') (hf : 1 ≤ R.frames) (hlo : (rest.map fun v => v.category).sum + (nativeFrameWords "java/lang/System" "arraycopy" 5 + 11) ≤ R.locals) (hdg : decode cc pc = .ok (.invokestatic index, 3))
    (kk : ∀ (H1 : Heap) (locs1 : List Loc), va_P (gD G) vwCl (wld G X') H1 → va_S (lwA G) s.heap H1 locs1 → W p l e R s m args below meth c H1 locs1 cells slots Q (F0 m (pc + 3) ls rest)) : W p l e R s m args below meth c H locs cells slots Q (F0 m pc ls (.int k :: .int dp :: .ref a1 :: .int sp :: .ref a0 :: rest)) := by
  obtain ⟨hx, hb, hml, hown, hts, hK, hG, -⟩ := hC
  obtain ⟨g1, g2, g3, g4, g5⟩ := cp_in hin
  refine va_copyl hx hb (hml.trans hsz.symm) hown (hts _ hlink) (hts _ h1) (hts _ h2) (hts _ h3) hK hP (wld_D hG X) hS q0 q1 1 1 he0 he1 rfl rfl rfl g1 g2 g3 g4 g5 (fun _ _ => rfl) hf hlo hdg fun H1 locs1 hP1 _ hS1 => ?_
  rw [hset] at hP1
  exact kk H1 locs1 hP1 hS1
/-! arithmetic under one name -/
theorem r_irem (hx : p.tables.exec = Jvm.exec) (hb : c.code = cc) {x y : Int32} (hdg : decode cc pc = .ok (.irem, 1)) (hne : ¬ y = 0) (k : W p l e R s m args below meth c H locs cells slots Q (F0 m (pc + 1) ls (.int (irm x y) :: rest))) : W p l e R s m args below meth c H locs cells slots Q (F0 m pc ls (.int y :: .int x :: rest)) := lv_irem hx hb hdg hne k
theorem r_lrem (hx : p.tables.exec = Jvm.exec) (hb : c.code = cc) {x y : Int64} (hdg : decode cc pc = .ok (.lrem, 1)) (hne : ¬ y = 0) (k : W p l e R s m args below meth c H locs cells slots Q (F0 m (pc + 1) ls (.long (lrm x y) :: rest))) : W p l e R s m args below meth c H locs cells slots Q (F0 m pc ls (.long y :: .long x :: rest)) := lv_lrem hx hb hdg hne k
/-! fields -/
theorem r_get (hC : Cx G p s m args meth c cc own nL) {ref C : String} {T : u_T} {N ci index a : Nat} (hin : ∀ w ∈ u_ws C T N, w ∈ lw_gd) (hP : va_P (gD G) vwCl (wld G X) H) {q0 : Nat} {fs : List Value} (he : (wld G X)[q0]? = some (a, .inr (ci, fs))) (hc : vwCl[ci]? = some (C, T, N)) (k : Nat) (hk : k < N) (hr : (T k).1 = ref) (hlink : Cond.fieldLink own index ref (T k).2.1 (T k).2.2.1 ∈ lw_gd) {v : Value} (hv : fs[k]? = some v) (hdg : decode cc pc = .ok (.getfield index, 3))
    (kk : W p l e R s m args below meth c H locs cells slots Q (F0 m (pc + 3) ls (v :: rest))) : W p l e R s m args below meth c H locs cells slots Q (F0 m pc ls (.ref a :: rest)) := by
  obtain ⟨hx, hb, -, hown, hts, hK, -⟩ := hC
  exact va_get hx hb hts hin hown hK hP q0 he hc k hk (hts _ hlink) (fun x h => by rw [← hr]; exact h) hv hdg kk
theorem r_put (hC : Cx G p s m args meth c cc own nL) {ref C : String} {T : u_T} {N ci index a : Nat} (hin : ∀ w ∈ u_ws C T N, w ∈ lw_gd) (ty0 : Nat → FieldType) (hty : ∀ k, k < N → parseFieldDescriptor (T k).2.2.1 = some (ty0 k)) (hnm : ∀ a, a < N → ∀ b, b < N → a ≠ b → (T a).2.1 ≠ (T b).2.1) (hP : va_P (gD G) vwCl (wld G X) H) (hS : va_S (lwA G) s.heap H locs) {q0 : Nat} {fs : List Value} (he : (wld G X)[q0]? = some (a, .inr (ci, fs))) (hc : vwCl[ci]? = some (C, T, N)) (k : Nat) (hk : k < N) (hr : (T k).1 = ref) (hlink : Cond.fieldLink own index ref (T k).2.1 (T k).2.2.1 ∈ lw_gd) (hfin : (T k).2.2.2 = false) {v : Value} (hn : narrow (ty0 k) v = v) (hfit : fits (ty0 k) v = true) (hl : k < fs.length) (hset : (wld G X).set q0 (a, .inr (ci, fs.set k v)) = wld G X') (hdg : decode cc pc = .ok (.putfield index, 3))
    (kk : ∀ (H1 : Heap) (locs1 : List Loc), va_P (gD G) vwCl (wld G X') H1 → va_S (lwA G) s.heap H1 locs1 → W p l e R s m args below meth c H1 locs1 cells slots Q (F0 m (pc + 3) ls rest)) : W p l e R s m args below meth c H locs cells slots Q (F0 m pc ls (v :: .ref a :: rest)) := by
  obtain ⟨hx, hb, -, hown, hts, hK, hG, -⟩ := hC
  refine va_put hx hb hts hin ty0 hty hnm hown hK hP (wld_D hG X) hS q0 he hc k hk (hts _ hlink) (fun x h => by rw [← hr]; exact h) hfin (hty k hk) hn hfit hl hdg fun H1 locs1 hP1 _ hS1 => ?_
  rw [hset] at hP1
  exact kk H1 locs1 hP1 hS1
/-! arrays -/
theorem vp_in_of_not {i : Int32} {n : Nat} (h : ¬ (i < 0 ∨ n ≤ i.toNatClampNeg)) : vp_in i n := h
theorem r_iald (hC : Cx G p s m args meth c cc own nL) (hP : va_P (gD G) vwCl (wld G X) H) {q0 n a : Nat} {f : Nat → Int32} (he : (wld G X)[q0]? = some (a, .inl (gC G 0, n, .inl f))) {i : Int32} (hin : ¬ (i < 0 ∨ n ≤ i.toNatClampNeg)) (hdg : decode cc pc = .ok (.iaload, 1))
    (kk : W p l e R s m args below meth c H locs cells slots Q (F0 m (pc + 1) ls (.int (f i.toNatClampNeg) :: rest))) : W p l e R s m args below meth c H locs cells slots Q (F0 m pc ls (.int i :: .ref a :: rest)) := by
  obtain ⟨hx, hb, -, -, -, hK, -⟩ := hC
  exact va_iald hx hb hK hP q0 0 he rfl hin hdg kk
theorem r_lald (hC : Cx G p s m args meth c cc own nL) (hP : va_P (gD G) vwCl (wld G X) H) {q0 n a : Nat} {f : Nat → Int64} (he : (wld G X)[q0]? = some (a, .inl (gC G 1, n, .inr (.inl f)))) {i : Int32} (hin : ¬ (i < 0 ∨ n ≤ i.toNatClampNeg)) (hdg : decode cc pc = .ok (.laload, 1))
    (kk : W p l e R s m args below meth c H locs cells slots Q (F0 m (pc + 1) ls (.long (f i.toNatClampNeg) :: rest))) : W p l e R s m args below meth c H locs cells slots Q (F0 m pc ls (.int i :: .ref a :: rest)) := by
  obtain ⟨hx, hb, -, -, -, hK, -⟩ := hC
  exact va_lald hx hb hK hP q0 1 he rfl hin hdg kk
theorem r_iast (hC : Cx G p s m args meth c cc own nL) (hP : va_P (gD G) vwCl (wld G X) H) (hS : va_S (lwA G) s.heap H locs) {q0 n a : Nat} {f : Nat → Int32} (he : (wld G X)[q0]? = some (a, .inl (gC G 0, n, .inl f))) {i x : Int32} (hin : ¬ (i < 0 ∨ n ≤ i.toNatClampNeg)) (hset : (wld G X).set q0 (a, .inl (gC G 0, n, .inl (upd f i.toNatClampNeg x))) = wld G X') (hdg : decode cc pc = .ok (.iastore, 1))
    (kk : ∀ (H1 : Heap) (locs1 : List Loc), va_P (gD G) vwCl (wld G X') H1 → va_S (lwA G) s.heap H1 locs1 → W p l e R s m args below meth c H1 locs1 cells slots Q (F0 m (pc + 1) ls rest)) : W p l e R s m args below meth c H locs cells slots Q (F0 m pc ls (.int x :: .int i :: .ref a :: rest)) := by
  obtain ⟨hx, hb, -, -, -, hK, hG, -⟩ := hC
  refine va_iast hx hb hK hP (wld_D hG X) hS q0 0 he rfl hin hdg fun H1 locs1 hP1 _ hS1 => ?_
  rw [hset] at hP1
  exact kk H1 locs1 hP1 hS1
theorem r_last (hC : Cx G p s m args meth c cc own nL) (hP : va_P (gD G) vwCl (wld G X) H) (hS : va_S (lwA G) s.heap H locs) {q0 n a : Nat} {f : Nat → Int64} (he : (wld G X)[q0]? = some (a, .inl (gC G 1, n, .inr (.inl f)))) {i : Int32} {x : Int64} (hin : ¬ (i < 0 ∨ n ≤ i.toNatClampNeg)) (hset : (wld G X).set q0 (a, .inl (gC G 1, n, .inr (.inl (vp_updL f i.toNatClampNeg x)))) = wld G X') (hdg : decode cc pc = .ok (.lastore, 1))
    (kk : ∀ (H1 : Heap) (locs1 : List Loc), va_P (gD G) vwCl (wld G X') H1 → va_S (lwA G) s.heap H1 locs1 → W p l e R s m args below meth c H1 locs1 cells slots Q (F0 m (pc + 1) ls rest)) : W p l e R s m args below meth c H locs cells slots Q (F0 m pc ls (.long x :: .int i :: .ref a :: rest)) := by
  obtain ⟨hx, hb, -, -, -, hK, hG, -⟩ := hC
  refine va_last hx hb hK hP (wld_D hG X) hS q0 1 he rfl hin hdg fun H1 locs1 hP1 _ hS1 => ?_
  rw [hset] at hP1
  exact kk H1 locs1 hP1 hS1
theorem r_hd (hC : Cx G p s m args meth c cc own nL) (hP : va_P (gD G) vwCl (wld G X) H) {i : Int32} (hin : ¬ (i < 0 ∨ 6 ≤ i.toNatClampNeg)) (hdg : decode cc pc = .ok (.aaload, 1))
    (kk : i.toNatClampNeg < 6 → W p l e R s m args below meth c H locs cells slots Q (F0 m (pc + 1) ls (.ref (gA G (hdc i.toNatClampNeg)) :: rest))) : W p l e R s m args below meth c H locs cells slots Q (F0 m pc ls (.int i :: .ref (gA G 3) :: rest)) := by
  obtain ⟨hx, hb, -, -, -, hK, -⟩ := hC
  have hj : i.toNatClampNeg < 6 := by
    rcases Nat.lt_or_ge i.toNatClampNeg 6 with h | h
    · exact h
    · exact absurd (Or.inr h) hin
  have kk := kk hj
  refine va_aldq hx hb hK hP 3 2 (e_3 G X) rfl hin hdg ?_
  generalize i.toNatClampNeg = j at hj kk ⊢
  rcases (show j = 0 ∨ j = 1 ∨ j = 2 ∨ j = 3 ∨ j = 4 ∨ j = 5 by omega) with rfl | rfl | rfl | rfl | rfl | rfl <;> exact kk
theorem r_sh (hC : Cx G p s m args meth c cc own nL) (hP : va_P (gD G) vwCl (wld G X) H) {i : Int32} (hin : ¬ (i < 0 ∨ 6 ≤ i.toNatClampNeg)) (hdg : decode cc pc = .ok (.aaload, 1))
    (kk : i.toNatClampNeg < 6 → W p l e R s m args below meth c H locs cells slots Q (F0 m (pc + 1) ls (.ref (gA G (shc i.toNatClampNeg)) :: rest))) : W p l e R s m args below meth c H locs cells slots Q (F0 m pc ls (.int i :: .ref (gA G 59) :: rest)) := by
  obtain ⟨hx, hb, -, -, -, hK, -⟩ := hC
  have hj : i.toNatClampNeg < 6 := by
    rcases Nat.lt_or_ge i.toNatClampNeg 6 with h | h
    · exact h
    · exact absurd (Or.inr h) hin
  have kk := kk hj
  refine va_aldq hx hb hK hP 59 3 (e_59 G X) rfl hin hdg ?_
  generalize i.toNatClampNeg = j at hj kk ⊢
  rcases (show j = 0 ∨ j = 1 ∨ j = 2 ∨ j = 3 ∨ j = 4 ∨ j = 5 by omega) with rfl | rfl | rfl | rfl | rfl | rfl <;> exact kk
theorem r_alen (hC : Cx G p s m args meth c cc own nL) (hP : va_P (gD G) vwCl (wld G X) H) (t0 : Nat) {q0 a : Nat} {cA : ClassId} {x : vp_A} (he : (wld G X)[q0]? = some (a, .inl (cA, x))) {ty : FieldType} (ht : (tysG G)[t0]? = some (cA, ty)) {v : Int32} (hv : Int32.ofNat x.1 = v) (hdg : decode cc pc = .ok (.arraylength, 1))
    (kk : W p l e R s m args below meth c H locs cells slots Q (F0 m (pc + 1) ls (.int v :: rest))) : W p l e R s m args below meth c H locs cells slots Q (F0 m pc ls (.ref a :: rest)) := by
  obtain ⟨hx, hb, -, -, -, hK, -⟩ := hC
  exact va_alen hx hb hK hP q0 t0 he ht hv hdg kk
/-! static arrays -/
theorem r_gets (hC : Cx G p s m args meth c cc own nL) (hS : va_S (lwA G) s.heap H locs) {C n d : String} {v : Value} {index : Nat} (hZ : va_Z C n d v (lwA G) s s.heap) (hlink : Cond.fieldLink own index C n d ∈ lw_gd) (hdg : decode cc pc = .ok (.getstatic index, 3))
    (kk : W p l e R s m args below meth c H locs cells slots Q (F0 m (pc + 3) ls (v :: rest))) : W p l e R s m args below meth c H locs cells slots Q (F0 m pc ls rest) := by
  obtain ⟨hx, hb, -, hown, hts, -⟩ := hC
  exact va_gets hx hb hZ hS hown (hts _ hlink) (fun _ h => h) hdg kk
theorem r_ti (hC : Cx G p s m args meth c cc own nL) (hS : va_S (lwA G) s.heap H locs) {t N : Nat} {f : Nat → Int32} (hT : va_T .int t N (fun j => .int (f j)) (lwA G) s s.heap) {i : Int32} (hin : ¬ (i < 0 ∨ N ≤ i.toNatClampNeg)) (hdg : decode cc pc = .ok (.iaload, 1))
    (kk : W p l e R s m args below meth c H locs cells slots Q (F0 m (pc + 1) ls (.int (f i.toNatClampNeg) :: rest))) : W p l e R s m args below meth c H locs cells slots Q (F0 m pc ls (.int i :: .ref t :: rest)) := by
  obtain ⟨hx, hb, -⟩ := hC
  exact va_ti hx hb hT hS hin rfl hdg kk
theorem r_tl (hC : Cx G p s m args meth c cc own nL) (hS : va_S (lwA G) s.heap H locs) {t N : Nat} {f : Nat → Int64} (hT : va_T .long t N (fun j => .long (f j)) (lwA G) s s.heap) {i : Int32} (hin : ¬ (i < 0 ∨ N ≤ i.toNatClampNeg)) (hdg : decode cc pc = .ok (.laload, 1))
    (kk : W p l e R s m args below meth c H locs cells slots Q (F0 m (pc + 1) ls (.long (f i.toNatClampNeg) :: rest))) : W p l e R s m args below meth c H locs cells slots Q (F0 m pc ls (.int i :: .ref t :: rest)) := by
  obtain ⟨hx, hb, -⟩ := hC
  exact va_tl hx hb hT hS hin rfl hdg kk
theorem r_tlen (hC : Cx G p s m args meth c cc own nL) (hS : va_S (lwA G) s.heap H locs) {t N : Nat} {ty : FieldType} {f : Nat → Value} (hT : va_T ty t N f (lwA G) s s.heap) {v : Int32} (hv : Int32.ofNat N = v) (hdg : decode cc pc = .ok (.arraylength, 1))
    (kk : W p l e R s m args below meth c H locs cells slots Q (F0 m (pc + 1) ls (.int v :: rest))) : W p l e R s m args below meth c H locs cells slots Q (F0 m pc ls (.ref t :: rest)) := by
  obtain ⟨hx, hb, -⟩ := hC
  exact va_tlen hx hb hT hS hv hdg kk
/-! Math -/
theorem r_max (hC : Cx G p s m args meth c cc own nL) {index : Nat} (hlink : Cond.methodLink own index Lib.Math.max.name ∈ lw_gd) (h1 : Cond.static Lib.Math.max.name ∈ lw_gd) (h2 : Cond.initialized "java/lang/Math" ∈ lw_gd) (h3 : Cond.code Lib.Math.max.name Lib.Math.max.code 2 (some .int) ∈ lw_gd) (hsz : ls.size = nL) (hf : 1 ≤ R.frames) (hlo : (rest.map fun v => v.category).sum + 13 ≤ R.locals) (hc : cells ≤ R.cells) (hs : slots ≤ R.slots) {x y : Int32} (hdg : decode cc pc = .ok (.invokestatic index, 3))
    (kk : W p l e R s m args below meth c H locs cells slots Q (F0 m (pc + 3) ls (.int (imax x y) :: rest))) : W p l e R s m args below meth c H locs cells slots Q (F0 m pc ls (.int y :: .int x :: rest)) := by
  obtain ⟨hx, hb, hml, hown, hts, -⟩ := hC
  exact va_mmax hx hb (hml.trans hsz.symm) hown (hts _ hlink) (hts _ h1) (hts _ h2) (hts _ h3) hf hlo hc hs hdg kk
theorem r_min (hC : Cx G p s m args meth c cc own nL) {index : Nat} (hlink : Cond.methodLink own index Lib.Math.min.name ∈ lw_gd) (h1 : Cond.static Lib.Math.min.name ∈ lw_gd) (h2 : Cond.initialized "java/lang/Math" ∈ lw_gd) (h3 : Cond.code Lib.Math.min.name Lib.Math.min.code 2 (some .int) ∈ lw_gd) (hsz : ls.size = nL) (hf : 1 ≤ R.frames) (hlo : (rest.map fun v => v.category).sum + 13 ≤ R.locals) (hc : cells ≤ R.cells) (hs : slots ≤ R.slots) {x y : Int32} (hdg : decode cc pc = .ok (.invokestatic index, 3))
    (kk : W p l e R s m args below meth c H locs cells slots Q (F0 m (pc + 3) ls (.int (imin x y) :: rest))) : W p l e R s m args below meth c H locs cells slots Q (F0 m pc ls (.int y :: .int x :: rest)) := by
  obtain ⟨hx, hb, hml, hown, hts, -⟩ := hC
  exact va_mmin hx hb (hml.trans hsz.symm) hown (hts _ hlink) (hts _ h1) (hts _ h2) (hts _ h3) hf hlo hc hs hdg kk
theorem r_abs (hC : Cx G p s m args meth c cc own nL) {index : Nat} (hlink : Cond.methodLink own index Lib.Math.abs.name ∈ lw_gd) (h1 : Cond.static Lib.Math.abs.name ∈ lw_gd) (h2 : Cond.initialized "java/lang/Math" ∈ lw_gd) (h3 : Cond.code Lib.Math.abs.name Lib.Math.abs.code 1 (some .int) ∈ lw_gd) (hsz : ls.size = nL) (hf : 1 ≤ R.frames) (hlo : (rest.map fun v => v.category).sum + 13 ≤ R.locals) (hc : cells ≤ R.cells) (hs : slots ≤ R.slots) {x : Int32} (hdg : decode cc pc = .ok (.invokestatic index, 3))
    (kk : W p l e R s m args below meth c H locs cells slots Q (F0 m (pc + 3) ls (.int (iabs x) :: rest))) : W p l e R s m args below meth c H locs cells slots Q (F0 m pc ls (.int x :: rest)) := by
  obtain ⟨hx, hb, hml, hown, hts, -⟩ := hC
  exact va_mabs hx hb (hml.trans hsz.symm) hown (hts _ hlink) (hts _ h1) (hts _ h2) (hts _ h3) hf hlo hc hs hdg kk
/-! calls -/
theorem rl_blind {As : List Value} : FrameBlind (va_Pc As (Rl G X)) := by
  intro a U g mk h
  obtain ⟨h1, h2, h3, h4, h5, h6, h7⟩ := h
  exact ⟨h1, h2, h3, va_K.moved (u := U) (U := U.calling g mk a) (Vm.Alike.refl U.vm) h4, h5.moved (u := U) (U := U.calling g mk a) (Vm.Alike.refl U.vm), h6, va_Nw.same (u := U) (U := U.calling g mk a) rfl rfl h7⟩
theorem rl_hA {A1 : Nat → Prop} (q : Nat) (_ : q < H.size) (h : A1 q) : A1 q := h
variable {idx mz n fz lz fr lo : Nat} {y : MethodName} {bz : ByteArray} {ret : Option FieldType} {As : List Value} {Qc : Array Value → State → Outcome → State → Prop}
theorem run_V (hC : Cx G p s m args meth c cc own nL) (hw : wdV y bz mz ret n) (hlk : Cond.methodLink own idx y ∈ lw_gd) {q0 ci a : Nat} {fs : List Value} {T : u_T} {N : Nat} (he : (wld G X)[q0]? = some (a, .inr (ci, fs))) (hc : vwCl[ci]? = some (y.cls, T, N)) (hP : va_P (gD G) vwCl (wld G X) H) (hS : va_S (lwA G) s.heap H locs) (hM : Met l y (wsy y bz mz ret) (rmv fz lz) (va_Pc (.ref a :: As) (Rl G X)) Qc 0 0 (lwA G)) (hn : As.length = n) (hsz : ls.size = nL) (hcat : (rest.map fun v => v.category).sum ≤ 8) (hroom : fz + 1 ≤ R.frames ∧ 8 + (mz + 11) + lz ≤ R.locals) (hf : cells + 0 ≤ R.cells ∧ slots + 0 ≤ R.slots) {st0 : List Value} (hst : st0 = As.reverse ++ .ref a :: rest) (hdg : decode cc pc = .ok (.invokevirtual idx, 3)) :
    va_Run p l e R s m args below meth c H locs cells slots 0 0 (F0 m pc ls st0) rest (Qc (Value.ref a :: As).toArray) (lwA G) := by
  obtain ⟨w1, w2, w3, w4, w5, w6⟩ := hw
  have hC' := hC
  obtain ⟨hx, hb, hml, hown, hts, hK, -⟩ := hC
  have cb : CallB R s args own idx y bz mz ret (wsy y bz mz ret) (rmv fz lz) 0 0 n := callB_of n hts (wsy_in w4) rfl rfl rfl (hts _ w3) (hts _ hlk) w5 hroom
  exact va_runV (C := y.cls) (Ts := lw_gd) ⟨hx, hb, hml, hown, hts⟩ hM ⟨cb, hts _ w1, hts _ w2⟩ ⟨rl_blind, va_recv hK hP hc he, fun U hU hW => ⟨rfl, hC'.rl hP hS hU hW⟩⟩ rfl hn hsz hst (lv_room hcat) hdg hf
theorem run_S (hC : Cx G p s m args meth c cc own nL) (hw : wdS y bz mz ret n) (hlk : Cond.methodLink own idx y ∈ lw_gd) (hP : va_P (gD G) vwCl (wld G X) H) (hS : va_S (lwA G) s.heap H locs) (hM : Met l y (wsy y bz mz ret) (rmv fz lz) (va_Pc As (Rl G X)) Qc 0 0 (lwA G)) (hn : As.length = n) (hsz : ls.size = nL) (hcat : (rest.map fun v => v.category).sum ≤ 8) (hroom : fz + 1 ≤ R.frames ∧ 8 + (mz + 11) + lz ≤ R.locals) (hf : cells + 0 ≤ R.cells ∧ slots + 0 ≤ R.slots) {st0 : List Value} (hst : st0 = As.reverse ++ rest) (hdg : decode cc pc = .ok (.invokestatic idx, 3)) :
    va_Run p l e R s m args below meth c H locs cells slots 0 0 (F0 m pc ls st0) rest (Qc As.toArray) (lwA G) := by
  obtain ⟨w1, w3, w4, w5, w6⟩ := hw
  have hC' := hC
  obtain ⟨hx, hb, hml, hown, hts, hK, -⟩ := hC
  have cb : CallB R s args own idx y bz mz ret (wsy y bz mz ret) (rmv fz lz) 0 0 n := callB_of n hts (wsy_in w4) rfl rfl rfl (hts _ w3) (hts _ hlk) w5 hroom
  exact va_runS (Ts := lw_gd) ⟨hx, hb, hml, hown, hts⟩ hM ⟨cb, hts _ w1⟩ ⟨rl_blind, fun U hU hW => ⟨rfl, hC'.rl hP hS hU hW⟩⟩ rfl hn hsz hst (lv_room hcat) hdg hf
theorem run_SN (hC : Cx G p s m args meth c cc own nL) (hw : wdS y bz mz ret n) {host : String} (hlk : va_Nw (.methodLinkNest own idx y host) s) (hP : va_P (gD G) vwCl (wld G X) H) (hS : va_S (lwA G) s.heap H locs) (hM : Met l y (wsy y bz mz ret) (rmv fz lz) (va_Pc As (Rl G X)) Qc 0 0 (lwA G)) (hn : As.length = n) (hsz : ls.size = nL) (hcat : (rest.map fun v => v.category).sum ≤ 8) (hroom : fz + 1 ≤ R.frames ∧ 8 + (mz + 11) + lz ≤ R.locals) (hf : cells + 0 ≤ R.cells ∧ slots + 0 ≤ R.slots) {st0 : List Value} (hst : st0 = As.reverse ++ rest) (hdg : decode cc pc = .ok (.invokestatic idx, 3)) :
    va_Run p l e R s m args below meth c H locs cells slots 0 0 (F0 m pc ls st0) rest (Qc As.toArray) (lwA G) := by
  obtain ⟨w1, w3, w4, w5, w6⟩ := hw
  have hC' := hC
  obtain ⟨hx, hb, hml, hown, hts, hK, -⟩ := hC
  have cb : va_CN R s args own idx y host bz mz ret (wsy y bz mz ret) (rmv fz lz) 0 0 n := va_cnB n hts (wsy_in w4) rfl rfl rfl hlk (hts _ w3) w5 hroom
  exact va_runSN (Ts := lw_gd) ⟨hx, hb, hml, hown, hts⟩ hM ⟨cb, hts _ w1, trivial⟩ ⟨rl_blind, fun U hU hW => ⟨rfl, hC'.rl hP hS hU hW⟩⟩ rfl hn hsz hst (lv_room hcat) hdg hf
theorem rc_i {PB : Int32 → Prop} {r0 : Int32} {av : Array Value} {st0 : List Value} (hS : va_S (lwA G) s.heap H locs) (hr : va_Run p l e R s m args below meth c H locs cells slots 0 0 (F0 m pc ls st0) rest (Qi G PB r0 X' av) (lwA G))
    (kk : ∀ (H1 : Heap) (locs1 : List Loc), PB r0 → va_P (gD G) vwCl (wld G X') H1 → va_S (lwA G) s.heap H1 locs1 → W p l e R s m args below meth c H1 locs1 cells slots Q (F0 m (pc + 3) ls (.int r0 :: rest))) : W p l e R s m args below meth c H locs cells slots Q (F0 m pc ls st0) := by
  refine va_calli hr hS (fun q _ h => h) (fun q h => h) (fun r u t H1 locs1 ht _ hp hB _ _ hS1 => ?_)
  obtain ⟨rfl, rfl, hpb⟩ := hp
  exact kk H1 locs1 hpb (by rw [← ht]; exact hB.2.1) hS1
theorem rc_l {r0 : Int64} {av : Array Value} {st0 : List Value} (hS : va_S (lwA G) s.heap H locs) (hr : va_Run p l e R s m args below meth c H locs cells slots 0 0 (F0 m pc ls st0) rest (Ql G r0 X' av) (lwA G))
    (kk : ∀ (H1 : Heap) (locs1 : List Loc), va_P (gD G) vwCl (wld G X') H1 → va_S (lwA G) s.heap H1 locs1 → W p l e R s m args below meth c H1 locs1 cells slots Q (F0 m (pc + 3) ls (.long r0 :: rest))) : W p l e R s m args below meth c H locs cells slots Q (F0 m pc ls st0) := by
  refine va_calll hr hS (fun q _ h => h) (fun q h => h) (fun r u t H1 locs1 ht _ hp hB _ _ hS1 => ?_)
  obtain ⟨rfl, rfl⟩ := hp
  exact kk H1 locs1 (by rw [← ht]; exact hB.2.1) hS1
theorem rc_v {av : Array Value} {st0 : List Value} (hS : va_S (lwA G) s.heap H locs) (hr : va_Run p l e R s m args below meth c H locs cells slots 0 0 (F0 m pc ls st0) rest (Qv G X' av) (lwA G))
    (kk : ∀ (H1 : Heap) (locs1 : List Loc), va_P (gD G) vwCl (wld G X') H1 → va_S (lwA G) s.heap H1 locs1 → W p l e R s m args below meth c H1 locs1 cells slots Q (F0 m (pc + 3) ls rest)) : W p l e R s m args below meth c H locs cells slots Q (F0 m pc ls st0) := by
  refine va_callv hr hS (fun q _ h => h) (fun q h => h) (fun u t H1 locs1 ht _ hp hB _ _ hS1 => ?_)
  subst hp
  exact kk H1 locs1 (by rw [← ht]; exact hB.2.1) hS1
end ROWS

