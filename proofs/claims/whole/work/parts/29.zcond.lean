/-! conditions by themselves -/
theorem c_ltT {a b : Nat} (h : a < b) (hb : b < 2 ^ 31) : (nI a < nI b) = True := eq_true ((nI_ltI (by omega) hb).mpr h)
theorem c_ltF {a b : Nat} (h : b ≤ a) (ha : a < 2 ^ 31) : (nI a < nI b) = False := eq_false (fun z => by rw [nI_ltI ha (by omega)] at z; omega)
theorem c_leT {a b : Nat} (h : a ≤ b) (hb : b < 2 ^ 31) : (nI a ≤ nI b) = True := eq_true ((nI_leI (by omega) hb).mpr h)
theorem c_leF {a b : Nat} (h : b < a) (ha : a < 2 ^ 31) : (nI a ≤ nI b) = False := eq_false (fun z => by rw [nI_leI ha (by omega)] at z; omega)
theorem c_eqT {a b : Nat} (h : a = b) : (nI a = nI b) = True := by subst h; exact eq_self _
theorem c_eqF {a b : Nat} (h : a ≠ b) (ha : a < 2 ^ 31) (hb : b < 2 ^ 31) : (nI a = nI b) = False := eq_false (fun z => by rw [nI_eq ha hb] at z; omega)
theorem n_leF {N k : Nat} (h : k < N) : (N ≤ k) = False := eq_false (by omega)
theorem n_ltF {N k : Nat} (h : k ≤ N) : (N < k) = False := eq_false (by omega)
theorem c_gltT {x y : Nat} (h : x < y) (hy : y < 2 ^ 62) : (lg_cmp (lN x) (lN y) < nI 0) = True := eq_true ((lgc_lt _ _).mpr ((pk_lLT (by omega) (by omega)).mpr h))
theorem c_gltF {x y : Nat} (h : y ≤ x) (hx : x < 2 ^ 62) : (lg_cmp (lN x) (lN y) < nI 0) = False := eq_false (fun z => by
  have := (pk_lLT (by omega) (by omega)).mp ((lgc_lt _ _).mp z)
  omega)
theorem c_ggtT {x y : Nat} (h : y < x) (hx : x < 2 ^ 62) : (nI 0 < lg_cmp (lN x) (lN y)) = True := eq_true ((lgc_gt _ _).mpr ((pk_lLT (by omega) (by omega)).mpr h))
theorem c_ggtF {x y : Nat} (h : x ≤ y) (hy : y < 2 ^ 62) : (nI 0 < lg_cmp (lN x) (lN y)) = False := eq_false (fun z => by
  have := (pk_lLT (by omega) (by omega)).mp ((lgc_gt _ _).mp z)
  omega)
theorem c_mF {a : Nat} (h : a < 2 ^ 31) : (nI a < nI 0) = False := c_ltF (Nat.zero_le a) h
/-! a bound value first, what follows later -/
theorem lt_c {α β : Type} {a a' : α} {f : α → β} (h : a = a') : lt' a f = lt' a' f := by rw [h]
theorem bp_c {α β γ : Type} {a a' : Option (α × β)} {f : α → β → Option γ} (h : a = a') : bp' a f = bp' a' f := by rw [h]
theorem bn_c {α β : Type} {a a' : Option α} {f : α → Option β} (h : a = a') : Option.bind a f = Option.bind a' f := by rw [h]
