theorem lwp_end {L t : Nat} (hL : L ≤ 3072) (ht : 6 * t ≤ 3078) : (Int32.ofNat L - 6 < nI (6 * t)) ↔ L < 6 * t + 6 := by
  have e6 : (6 : Int32) = nI 6 := by decide
  have eL : Int32.ofNat L = nI L := rfl
  rw [e6, eL, Int32.lt_iff_toInt_lt, pk_sub_toInt (by omega) (by omega), nI_toInt (by omega)]
  omega
theorem lwp_in {L t k : Nat} (hL : L ≤ 3072) (h : 6 * t + 6 ≤ L) (hk : k < 6) : ¬ (nI (6 * t) + nI k < (0 : Int32) ∨ L ≤ Int32.toNatClampNeg (nI (6 * t) + nI k)) := by
  rw [nI_add, nI_clamp (by omega)]
  rintro (z | z)
  · rw [show (0 : Int32) = nI 0 by decide, nI_ltI (by omega) (by omega)] at z; omega
  · omega
set_option maxHeartbeats 40000000 in
set_option maxRecDepth 100000 in
theorem lwp_one {n : Nat} (hn : 1000 ≤ n) (xs : Nat → Int32) (L fu : Nat) (y y' : Int32) {t : Nat} (htt : t ≤ 100000) {C R : Mm} (h : Inv t C R) (hx : ¬ Int32.ofNat L - 6 < y) (b0 : ¬ (y < (0 : Int32) ∨ L ≤ Int32.toNatClampNeg y)) (b1 : ¬ (y + 1 < (0 : Int32) ∨ L ≤ Int32.toNatClampNeg (y + 1))) (b2 : ¬ (y + 2 < (0 : Int32) ∨ L ≤ Int32.toNatClampNeg (y + 2))) (b3 : ¬ (y + 3 < (0 : Int32) ∨ L ≤ Int32.toNatClampNeg (y + 3))) (b4 : ¬ (y + 4 < (0 : Int32) ∨ L ≤ Int32.toNatClampNeg (y + 4))) (b5 : ¬ (y + 5 < (0 : Int32) ∨ L ≤ Int32.toNatClampNeg (y + 5))) (e6 : y + 6 = y') (ih : ∀ C' R', Inv (t + 1) C' R' → fL_h18 n xs L fu y' C' R' = some 1) : fL_h18 n xs L (fu + 1) y C R = some 1 := by
  have ht : t < 2 ^ 30 := by omega
  have hu := Inv_up (Nat.le_succ t) h
  rw [fL_h18.eq_2, if_neg hx, if_neg b0]
  generalize (xs (Int32.toNatClampNeg y)) &&& 63 = c
  by_cases h0 : c = 0
  · rw [if_pos h0]
    obtain ⟨r, C', R', f1, f2, hI⟩ := op_feed hn h (xs (Int32.toNatClampNeg (y + 1))) (xs (Int32.toNatClampNeg (y + 2)))
    rw [if_neg b1, if_neg b2, f1, bp_s, if_neg b1, if_neg b2, f2, bp_s, if_pos rfl, lt_d, e6]
    exact ih _ _ hI
  rw [if_neg h0]
  by_cases h1 : c = 1
  · rw [if_pos h1]
    obtain ⟨r, C', R', f1, f2, hI⟩ := op_head hn h
    rw [f1, bp_s, f2, bp_s, if_pos rfl, lt_d, e6]
    exact ih _ _ hI
  rw [if_neg h1]
  by_cases h2 : c = 2
  · rw [if_pos h2]
    obtain ⟨r, f1, f2⟩ := op_of hn ht h (xs (Int32.toNatClampNeg (y + 1))) (xs (Int32.toNatClampNeg (y + 2)))
    rw [if_neg b1, if_neg b2, f1, bn_s, if_neg b1, if_neg b2, f2, bn_s, if_pos rfl, lt_d, e6]
    exact ih _ _ hu
  rw [if_neg h2]
  by_cases h3 : c = 3
  · rw [if_pos h3]
    obtain ⟨r, C', R', f1, f2, hI⟩ := op_turn hn h (xs (Int32.toNatClampNeg (y + 1))) (xs (Int32.toNatClampNeg (y + 2))) (xs (Int32.toNatClampNeg (y + 3)))
    rw [if_neg b1, if_neg b2, if_neg b3, f1, bp_s, if_neg b1, if_neg b2, if_neg b3, f2, bp_s, if_pos rfl, lt_d, e6]
    exact ih _ _ hI
  rw [if_neg h3]
  by_cases h4 : c = 4
  · rw [if_pos h4]
    obtain ⟨r, C', R', f1, f2, hI⟩ := op_choice hn h
    rw [f1, bp_s, f2, bp_s, if_pos rfl, lt_d, e6]
    exact ih _ _ hI
  rw [if_neg h4]
  by_cases h5 : c = 5
  · rw [if_pos h5]
    obtain ⟨r, C', R', f1, f2, hI⟩ := op_way hn ht h (xs (Int32.toNatClampNeg (y + 1))) (xs (Int32.toNatClampNeg (y + 2))) (xs (Int32.toNatClampNeg (y + 3)))
    rw [if_neg b1, if_neg b2, if_neg b3, f1, bp_s, if_neg b1, if_neg b2, if_neg b3, f2, bp_s, if_pos rfl, lt_d, e6]
    exact ih _ _ hI
  rw [if_neg h5]
  by_cases h6 : c = 6
  · rw [if_pos h6]
    obtain ⟨r, C', R', f1, f2, hI⟩ := op_step hn ht h (xs (Int32.toNatClampNeg (y + 1))) (xs (Int32.toNatClampNeg (y + 2))) (xs (Int32.toNatClampNeg (y + 3))) (xs (Int32.toNatClampNeg (y + 4)))
    rw [if_neg b1, if_neg b2, if_neg b3, if_neg b4, f1, bp_s, if_neg b1, if_neg b2, if_neg b3, if_neg b4, f2, bp_s, if_pos rfl, lt_d, e6]
    exact ih _ _ hI
  rw [if_neg h6]
  by_cases h7 : c = 7
  · rw [if_pos h7]
    obtain ⟨r, C', R', f1, f2, hI⟩ := op_chosen hn ht h (xs (Int32.toNatClampNeg (y + 1))) (xs (Int32.toNatClampNeg (y + 2)))
    rw [if_neg b1, if_neg b2, f1, bp_s, if_neg b1, if_neg b2, f2, bp_s, if_pos rfl, lt_d, e6]
    exact ih _ _ hI
  rw [if_neg h7]
  by_cases h8 : c = 8
  · rw [if_pos h8]
    obtain ⟨r, C', R', f1, f2, hI⟩ := op_answer hn ht h (xs (Int32.toNatClampNeg (y + 1))) (xs (Int32.toNatClampNeg (y + 2))) (xs (Int32.toNatClampNeg (y + 3)))
    rw [if_neg b1, if_neg b2, if_neg b3, f1, bp_s, if_neg b1, if_neg b2, if_neg b3, f2, bp_s, if_pos rfl, lt_d, e6]
    exact ih _ _ hI
  rw [if_neg h8]
  by_cases h9 : c = 9
  · rw [if_pos h9]
    obtain ⟨r, C', R', f1, f2, hI⟩ := op_quickest hn ht h (xs (Int32.toNatClampNeg (y + 1))) (xs (Int32.toNatClampNeg (y + 2))) (xs (Int32.toNatClampNeg (y + 3)))
    rw [if_neg b1, if_neg b2, if_neg b3, f1, bp_s, if_neg b1, if_neg b2, if_neg b3, f2, bp_s, if_pos rfl, lt_d, e6]
    exact ih _ _ hI
  rw [if_neg h9]
  by_cases h10 : c = 10
  · rw [if_pos h10]
    obtain ⟨r, C', R', f1, f2, hI⟩ := op_table hn ht h (xs (Int32.toNatClampNeg (y + 1))) (xs (Int32.toNatClampNeg (y + 2))) (xs (Int32.toNatClampNeg (y + 3)))
    rw [if_neg b1, if_neg b2, if_neg b3, f1, bp_s, if_neg b1, if_neg b2, if_neg b3, f2, bp_s, if_pos rfl, lt_d, e6]
    exact ih _ _ hI
  rw [if_neg h10]
  by_cases h11 : c = 11
  · rw [if_pos h11]
    obtain ⟨r, C', R', f1, f2, hI⟩ := op_see h (xs (Int32.toNatClampNeg (y + 1))) (xs (Int32.toNatClampNeg (y + 2))) (xs (Int32.toNatClampNeg (y + 3)))
    rw [if_neg b1, if_neg b2, if_neg b3, f1, bp_s, if_neg b1, if_neg b2, if_neg b3, f2, bp_s, if_pos rfl, lt_d, e6]
    exact ih _ _ hI
  rw [if_neg h11]
  by_cases h12 : c = 12
  · rw [if_pos h12]
    obtain ⟨r, C', R', f1, f2, hI⟩ := op_asks hn h (xs (Int32.toNatClampNeg (y + 1))) (xs (Int32.toNatClampNeg (y + 2))) (xs (Int32.toNatClampNeg (y + 3)))
    rw [if_neg b1, if_neg b2, if_neg b3, f1, bp_s, if_neg b1, if_neg b2, if_neg b3, f2, bp_s, if_pos rfl, lt_d, e6]
    exact ih _ _ hI
  rw [if_neg h12]
  by_cases h13 : c = 13
  · rw [if_pos h13]
    obtain ⟨r, f1, f2⟩ := op_seen h (xs (Int32.toNatClampNeg (y + 1))) (xs (Int32.toNatClampNeg (y + 2)))
    rw [if_neg b1, if_neg b2, f1, bn_s, if_neg b1, if_neg b2, f2, bn_s, if_pos rfl, lt_d, e6]
    exact ih _ _ hu
  rw [if_neg h13]
  by_cases h14 : c = 14
  · rw [if_pos h14]
    obtain ⟨r, C', R', f1, f2, hI⟩ := op_fits hn ht h (xs (Int32.toNatClampNeg (y + 1))) (xs (Int32.toNatClampNeg (y + 2)))
    rw [if_neg b1, if_neg b2, f1, bp_s, if_neg b1, if_neg b2, f2, bp_s, if_pos rfl, lt_d, e6]
    exact ih _ _ hI
  rw [if_neg h14]
  by_cases h15 : c = 15
  · rw [if_pos h15]
    obtain ⟨r, C', R', f1, f2, hI⟩ := op_best hn ht h (xs (Int32.toNatClampNeg (y + 1))) (xs (Int32.toNatClampNeg (y + 2)))
    rw [if_neg b1, if_neg b2, f1, bp_s, if_neg b1, if_neg b2, f2, bp_s, if_pos rfl, lt_d, e6]
    exact ih _ _ hI
  rw [if_neg h15]
  by_cases h16 : c = 16
  · rw [if_pos h16]
    obtain ⟨r, C', R', f1, f2, hI⟩ := op_slip hn ht h (xs (Int32.toNatClampNeg (y + 1))) (xs (Int32.toNatClampNeg (y + 2))) (xs (Int32.toNatClampNeg (y + 3)))
    rw [if_neg b1, if_neg b2, if_neg b3, f1, bp_s, if_neg b1, if_neg b2, if_neg b3, f2, bp_s, if_pos rfl, lt_d, e6]
    exact ih _ _ hI
  rw [if_neg h16]
  by_cases h17 : c = 17
  · rw [if_pos h17]
    obtain ⟨r, C', R', f1, f2, hI⟩ := op_suits hn ht h (xs (Int32.toNatClampNeg (y + 1)))
    rw [if_neg b1, f1, bp_s, if_neg b1, f2, bp_s, if_pos rfl, lt_d, e6]
    exact ih _ _ hI
  rw [if_neg h17]
  by_cases h18 : c = 18
  · rw [if_pos h18]
    obtain ⟨r, C', R', f1, f2, hI⟩ := op_tell h (xs (Int32.toNatClampNeg (y + 1)))
    rw [if_neg b1, f1, bp_s, if_neg b1, f2, bp_s, if_pos rfl, lt_d, e6]
    exact ih _ _ hI
  rw [if_neg h18]
  by_cases h19 : c = 19
  · rw [if_pos h19]
    obtain ⟨r, C', R', f1, f2, hI⟩ := op_untell h
    rw [f1, bp_s, f2, bp_s, if_pos rfl, lt_d, e6]
    exact ih _ _ hI
  rw [if_neg h19]
  by_cases h20 : c = 20
  · rw [if_pos h20]
    obtain ⟨r, C', R', f1, f2, hI⟩ := op_parts hn ht h (xs (Int32.toNatClampNeg (y + 1))) (xs (Int32.toNatClampNeg (y + 2))) (xs (Int32.toNatClampNeg (y + 3)))
    rw [if_neg b1, if_neg b2, if_neg b3, f1, bp_s, if_neg b1, if_neg b2, if_neg b3, f2, bp_s, if_pos rfl, lt_d, e6]
    exact ih _ _ hI
  rw [if_neg h20]
  by_cases h21 : c = 21
  · rw [if_pos h21]
    obtain ⟨r, C', R', f1, f2, hI⟩ := op_ask hn ht h (xs (Int32.toNatClampNeg (y + 1))) (xs (Int32.toNatClampNeg (y + 2)))
    rw [if_neg b1, if_neg b2, f1, bp_s, if_neg b1, if_neg b2, f2, bp_s, if_pos rfl, lt_d, e6]
    exact ih _ _ hI
  rw [if_neg h21]
  by_cases h22 : c = 22
  · rw [if_pos h22]
    obtain ⟨r, C', R', f1, f2, hI⟩ := op_taught hn htt h (xs (Int32.toNatClampNeg (y + 1))) (xs (Int32.toNatClampNeg (y + 2))) (xs (Int32.toNatClampNeg (y + 3)))
    rw [if_neg b1, if_neg b2, if_neg b3, f1, bp_s, if_neg b1, if_neg b2, if_neg b3, f2, bp_s, if_pos rfl, lt_d, e6]
    exact ih _ _ hI
  rw [if_neg h22]
  by_cases h23 : c = 23
  · rw [if_pos h23]
    obtain ⟨r, C', R', f1, f2, hI⟩ := op_first hn htt h (xs (Int32.toNatClampNeg (y + 1))) (xs (Int32.toNatClampNeg (y + 2)))
    rw [if_neg b1, if_neg b2, f1, bp_s, if_neg b1, if_neg b2, f2, bp_s, if_pos rfl, lt_d, e6]
    exact ih _ _ hI
  rw [if_neg h23]
  by_cases h24 : c = 24
  · rw [if_pos h24]
    obtain ⟨r, f1, f2⟩ := op_root hn (((Int32.toInt64 (xs (Int32.toNatClampNeg (y + 1)))) <<< (Int32.toInt64 32 &&& 63)) ||| ((Int32.toInt64 (xs (Int32.toNatClampNeg (y + 2)))) &&& 4294967295)) (xs (Int32.toNatClampNeg (y + 3)))
    rw [if_neg b1, if_neg b2, if_neg b3, f1, bn_s, if_neg b1, if_neg b2, if_neg b3, f2, bn_s, if_pos rfl, lt_d, e6]
    exact ih _ _ hu
  rw [if_neg h24]
  by_cases h25 : c = 25
  · rw [if_pos h25]
    obtain ⟨r, R', f1, f2, hI⟩ := op_firsts hn h (((Int32.toInt64 (xs (Int32.toNatClampNeg (y + 1)))) <<< (Int32.toInt64 32 &&& 63)) ||| ((Int32.toInt64 (xs (Int32.toNatClampNeg (y + 2)))) &&& 4294967295)) (xs (Int32.toNatClampNeg (y + 3))) (xs (Int32.toNatClampNeg (y + 4)))
    rw [if_neg b1, if_neg b2, if_neg b3, if_neg b4, f1, bn_s, if_neg b1, if_neg b2, if_neg b3, if_neg b4, f2, bp_s, if_pos rfl, lt_d, e6]
    exact ih _ _ hI
  rw [if_neg h25]
  by_cases h26 : c = 26
  · rw [if_pos h26]
    obtain ⟨r, R', f1, f2, hI⟩ := op_enough hn h (((Int32.toInt64 (xs (Int32.toNatClampNeg (y + 1)))) <<< (Int32.toInt64 32 &&& 63)) ||| ((Int32.toInt64 (xs (Int32.toNatClampNeg (y + 2)))) &&& 4294967295)) (xs (Int32.toNatClampNeg (y + 3)))
    rw [if_neg b1, if_neg b2, if_neg b3, f1, bn_s, if_neg b1, if_neg b2, if_neg b3, f2, bp_s, if_pos rfl, lt_d, e6]
    exact ih _ _ hI
  rw [if_neg h26]
  by_cases h27 : c = 27
  · rw [if_pos h27]
    obtain ⟨r, C', R', f1, f2, hI⟩ := op_undo h
    rw [f1, bp_s, f2, bp_s, if_pos rfl, lt_d, e6]
    exact ih _ _ hI
  rw [if_neg h27]
  by_cases h28 : c = 28
  · rw [if_pos h28]
    obtain ⟨r, C', R', f1, f2, hI⟩ := op_redo h
    rw [f1, bp_s, f2, bp_s, if_pos rfl, lt_d, e6]
    exact ih _ _ hI
  rw [if_neg h28]
  by_cases h29 : c = 29
  · rw [if_pos h29]
    obtain ⟨r, C', R', f1, f2, hI⟩ := op_body h (xs (Int32.toNatClampNeg (y + 1)))
    rw [if_neg b1, f1, bp_s, if_neg b1, f2, bp_s, if_pos rfl, lt_d, e6]
    exact ih _ _ hI
  rw [if_neg h29]
  by_cases h30 : c = 30
  · rw [if_pos h30]
    obtain ⟨r, C', R', f1, f2, hI⟩ := op_act hn h (xs (Int32.toNatClampNeg (y + 1))) (xs (Int32.toNatClampNeg (y + 2))) (xs (Int32.toNatClampNeg (y + 3)))
    rw [if_neg b1, if_neg b2, if_neg b3, f1, bp_s, if_neg b1, if_neg b2, if_neg b3, f2, bp_s, if_pos rfl, lt_d, e6]
    exact ih _ _ hI
  rw [if_neg h30]
  by_cases h31 : c = 31
  · rw [if_pos h31]
    obtain ⟨r, f1, f2⟩ := op_trace h (xs (Int32.toNatClampNeg (y + 1)))
    rw [if_neg b1, f1, bn_s, if_neg b1, f2, bn_s, if_pos rfl, lt_d, e6]
    exact ih _ _ hu
  rw [if_neg h31]
  by_cases h32 : c = 32
  · rw [if_pos h32]
    obtain ⟨r, C', R', f1, f2, hI⟩ := op_keep h (xs (Int32.toNatClampNeg (y + 1))) (xs (Int32.toNatClampNeg (y + 2)))
    rw [if_neg b1, if_neg b2, f1, bp_s, if_neg b1, if_neg b2, f2, bp_s, if_pos rfl, lt_d, e6]
    exact ih _ _ hI
  rw [if_neg h32]
  by_cases h33 : c = 33
  · rw [if_pos h33]
    obtain ⟨r, C', R', f1, f2, hI⟩ := op_row hn h (xs (Int32.toNatClampNeg (y + 1))) (xs (Int32.toNatClampNeg (y + 2))) (xs (Int32.toNatClampNeg (y + 3)))
    rw [if_neg b1, if_neg b2, if_neg b3, f1, bp_s, if_neg b1, if_neg b2, if_neg b3, f2, bp_s, if_pos rfl, lt_d, e6]
    exact ih _ _ hI
  rw [if_neg h33]
  by_cases h34 : c = 34
  · rw [if_pos h34]
    obtain ⟨r, C', R', f1, f2, hI⟩ := op_put h (xs (Int32.toNatClampNeg (y + 1))) (xs (Int32.toNatClampNeg (y + 2))) (((Int32.toInt64 (xs (Int32.toNatClampNeg (y + 3)))) <<< (Int32.toInt64 32 &&& 63)) ||| ((Int32.toInt64 (xs (Int32.toNatClampNeg (y + 4)))) &&& 4294967295))
    rw [if_neg b1, if_neg b2, if_neg b3, if_neg b4, f1, bp_s, if_neg b1, if_neg b2, if_neg b3, if_neg b4, f2, bp_s, if_pos rfl, lt_d, e6]
    exact ih _ _ hI
  rw [if_neg h34]
  by_cases h35 : c = 35
  · rw [if_pos h35]
    obtain ⟨r, f1, f2⟩ := op_element h (xs (Int32.toNatClampNeg (y + 1))) (xs (Int32.toNatClampNeg (y + 2)))
    rw [if_neg b1, if_neg b2, f1, bn_s, if_neg b1, if_neg b2, f2, bn_s, if_pos ((lgc_eq r r).mpr rfl), lt_d, e6]
    exact ih _ _ hu
  rw [if_neg h35]
  by_cases h36 : c = 36
  · rw [if_pos h36]
    obtain ⟨r, C', R', f1, f2, hI⟩ := op_shift hn h (xs (Int32.toNatClampNeg (y + 1))) (xs (Int32.toNatClampNeg (y + 2))) (xs (Int32.toNatClampNeg (y + 3))) (xs (Int32.toNatClampNeg (y + 4))) (xs (Int32.toNatClampNeg (y + 5)))
    rw [if_neg b1, if_neg b2, if_neg b3, if_neg b4, if_neg b5, f1, bp_s, if_neg b1, if_neg b2, if_neg b3, if_neg b4, if_neg b5, f2, bp_s, if_pos rfl, lt_d, e6]
    exact ih _ _ hI
  rw [if_neg h36]
  by_cases h37 : c = 37
  · rw [if_pos h37]
    obtain ⟨r, f1, f2⟩ := op_taken hn h (xs (Int32.toNatClampNeg (y + 1))) (xs (Int32.toNatClampNeg (y + 2)))
    rw [if_neg b1, if_neg b2, f1, bn_s, if_neg b1, if_neg b2, f2, bn_s, if_pos rfl, lt_d, e6]
    exact ih _ _ hu
  rw [if_neg h37]
  by_cases h38 : c = 38
  · rw [if_pos h38]
    rw [if_neg b1, if_neg b1, op_count h, if_pos rfl, lt_d, e6]
    exact ih _ _ hu
  rw [if_neg h38, lt_d, e6]
  exact ih _ _ hu
theorem lwp_run {n : Nat} (hn : 1000 ≤ n) (xs : Nat → Int32) (L : Nat) (hL : L ≤ 3072) : ∀ (d t : Nat) (C R : Mm), d + t = 512 → Inv t C R → fL_h18 n xs L (d + 1) (nI (6 * t)) C R = some 1 := by
  intro d
  induction d with
  | zero =>
    intro t C R hd h
    rw [fL_h18.eq_2, if_pos ((lwp_end hL (by omega)).mpr (by omega))]
  | succ d ih =>
    intro t C R hd h
    by_cases hx : L < 6 * t + 6
    · rw [fL_h18.eq_2, if_pos ((lwp_end hL (by omega)).mpr hx)]
    · have b0 := lwp_in (t := t) (k := 0) hL (by omega) (by omega)
      have z0 : nI (6 * t) + nI 0 = nI (6 * t) := by rw [nI_add, Nat.add_zero]
      rw [z0] at b0
      have e6 : nI (6 * t) + 6 = nI (6 * (t + 1)) := by
        rw [show (6 : Int32) = nI 6 by decide, nI_add, Nat.mul_add]
      exact lwp_one hn xs L (d + 1) (nI (6 * t)) (nI (6 * (t + 1))) (by omega) h (fun z => hx ((lwp_end hL (by omega)).mp z)) b0 (lwp_in (k := 1) hL (by omega) (by omega)) (lwp_in (k := 2) hL (by omega) (by omega)) (lwp_in (k := 3) hL (by omega) (by omega)) (lwp_in (k := 4) hL (by omega) (by omega)) (lwp_in (k := 5) hL (by omega) (by omega)) e6 (fun C' R' hI => ih (t + 1) C' R' (by omega) hI)
theorem lw_pure (xs : Nat → Int32) (L : Nat) (hL : L ≤ 3072) : ∃ n fu, fL_h18 n xs L fu 0 C00 R00 = some 1 :=
  ⟨1000, 513, lwp_run (Nat.le_refl _) xs L hL 512 0 C00 R00 rfl Inv_0⟩
