/-! further frames, printed by gen_frame5.py -/
def fRck (q i : Nat) : Prop := (36 ≤ q ∧ q ≤ 42) ∨ q = 35 ∨ (q = 32 ∧ i = 5)
theorem gk_X0_beginAnew {C : Mm} {C0 : Mm} (h : fX0_beginAnew C = C0) : ag fRck C C0 := by
  unfold fX0_beginAnew at h
  obtain ⟨C1, e1, h⟩ := lt_z h
  have a2 : ag fRck C C1 := ag_tr ag_rf (by rw [e1]; exact ag_wrI (by unfold fRck; omega))
  obtain ⟨C2, e3, h⟩ := lt_z h
  have a4 : ag fRck C C2 := ag_tr a2 (by rw [e3]; exact ag_wrI (by unfold fRck; omega))
  obtain ⟨C3, e5, h⟩ := lt_z h
  have a6 : ag fRck C C3 := ag_tr a4 (by rw [e5]; exact ag_wrI (by unfold fRck; omega))
  rw [← h]
  exact a6
theorem gk_X0_begin {j1 : Nat} (hj1 : j1 < 7) {C : Mm} {C0 : Mm} (h : fX0_begin j1 C = some C0) : ag fRck C C0 := by
  unfold fX0_begin at h
  obtain ⟨r2, q1, h⟩ := bn_x h
  obtain ⟨C4, e2, h⟩ := lt_z h
  have a3 : ag fRck C C4 := ag_tr ag_rf (by rw [e2]; exact ag_wrI (by unfold fRck; omega))
  obtain ⟨r6, q4, h⟩ := bn_x h
  obtain ⟨C8, e5, h⟩ := lt_z h
  have a6 : ag fRck C C8 := ag_tr a3 (by rw [e5]; exact ag_wrI (by unfold fRck; omega))
  obtain ⟨r10, q7, h⟩ := bn_x h
  obtain ⟨C12, e8, h⟩ := lt_z h
  have a9 : ag fRck C C12 := ag_tr a6 (by rw [e8]; exact ag_wrI (by unfold fRck; omega))
  obtain ⟨C13, e10, h⟩ := lt_z h
  have a11 : ag fRck C C13 := ag_tr a9 (by rw [e10]; exact ag_wrI (by unfold fRck; omega))
  obtain ⟨C14, e12, h⟩ := lt_z h
  have a13 : ag fRck C C14 := ag_tr a11 (by rw [e12]; exact ag_wrI (by unfold fRck; omega))
  obtain ⟨C15, e14, h⟩ := lt_z h
  have a15 : ag fRck C C15 := ag_tr a13 (by rw [e14]; exact ag_wrI (by unfold fRck; omega))
  obtain ⟨C16, e16, h⟩ := lt_z h
  have a17 : ag fRck C C16 := ag_tr a15 (by rw [e16]; exact ag_wrI (by unfold fRck; omega))
  obtain ⟨C18, e18, h⟩ := lt_z h
  have a19 : ag fRck C C18 := ag_tr a17 (gk_X0_beginAnew e18.symm)
  rw [← Option.some.inj h]
  exact a19
theorem gk_X0_run {n : Nat} {p1 : Int32} {C : Mm} {C0 : Mm} (h : fX0_run n p1 C = some C0) : ag fRck C C0 := by
  have bl12 : ∀ (fu : Nat), ∀ {y2 : Int32} {C : Mm} (_ : fX0_run_h12 n fu y2 C = some C0), ag fRck C C0 := by
    intro fu
    induction fu with
    | zero =>
      intro y2 C h
      rw [fX0_run_h12.eq_1] at h
      cases h
    | succ fu ih =>
      intro y2 C h
      rw [fX0_run_h12.eq_2] at h
      by_cases c1 : y2 ≤ 0
      · replace h := it_t c1 h
        obtain ⟨C2, e2, h⟩ := lt_z h
        have a3 : ag fRck C C2 := ag_tr ag_rf (by rw [e2]; exact ag_wrI (by unfold fRck; omega))
        rw [← Option.some.inj h]
        exact a3
      · replace h := it_f c1 h
        obtain ⟨C3, e4, h⟩ := lt_z h
        have a5 : ag fRck C C3 := ag_tr ag_rf (by rw [e4]; exact ag_wrI (by unfold fRck; omega))
        obtain ⟨x4, e6, h⟩ := lt_z h
        exact ag_tr a5 (ih h)
  unfold fX0_run at h
  obtain ⟨C5, e7, h⟩ := lt_z h
  have a8 : ag fRck C C5 := ag_tr ag_rf (by rw [e7]; exact ag_wrI (by unfold fRck; omega))
  obtain ⟨C6, e9, h⟩ := lt_z h
  have a10 : ag fRck C C6 := ag_tr a8 (by rw [e9]; exact ag_wrI (by unfold fRck; omega))
  exact ag_tr a10 (bl12 _ h)
theorem gk_X0_note {p1 : Int32} {p2 : Int32} {p3 : Int32} {p4 : Int32} {C : Mm} {C0 : Mm} (h : fX0_note p1 p2 p3 p4 C = some C0) : ag fRck C C0 := by
  have bl108 : ∀ {C : Mm} (_ : fX0_note_b108 C = some C0), ag fRck C C0 := by
    intro C h
    unfold fX0_note_b108 at h
    obtain ⟨C1, e1, h⟩ := lt_z h
    have a2 : ag fRck C C1 := ag_tr ag_rf (by rw [e1]; exact ag_wrI (by unfold fRck; omega))
    rw [← Option.some.inj h]
    exact a2
  unfold fX0_note at h
  by_cases c3 : (C.1 36 6) < 80
  · replace h := it_t c3 h
    by_cases c4 : (C.1 36 6) < (0 : Int32) ∨ 80 ≤ Int32.toNatClampNeg (C.1 36 6)
    · cases it_t c4 h
    replace h := it_f c4 h
    obtain ⟨C4, e5, h⟩ := lt_z h
    have a6 : ag fRck C C4 := ag_tr ag_rf (by rw [e5]; exact ag_wrI (by unfold fRck; omega))
    by_cases c7 : (C4.1 36 6) < (0 : Int32) ∨ 80 ≤ Int32.toNatClampNeg (C4.1 36 6)
    · cases it_t c7 h
    replace h := it_f c7 h
    obtain ⟨C6, e8, h⟩ := lt_z h
    have a9 : ag fRck C C6 := ag_tr a6 (by rw [e8]; exact ag_wrI (by unfold fRck; omega))
    by_cases c10 : (C6.1 36 6) < (0 : Int32) ∨ 80 ≤ Int32.toNatClampNeg (C6.1 36 6)
    · cases it_t c10 h
    replace h := it_f c10 h
    obtain ⟨C8, e11, h⟩ := lt_z h
    have a12 : ag fRck C C8 := ag_tr a9 (by rw [e11]; exact ag_wrI (by unfold fRck; omega))
    by_cases c13 : (C8.1 36 6) < (0 : Int32) ∨ 80 ≤ Int32.toNatClampNeg (C8.1 36 6)
    · cases it_t c13 h
    replace h := it_f c13 h
    obtain ⟨C10, e14, h⟩ := lt_z h
    have a15 : ag fRck C C10 := ag_tr a12 (by rw [e14]; exact ag_wrI (by unfold fRck; omega))
    by_cases c16 : (C10.1 36 6) < (0 : Int32) ∨ 80 ≤ Int32.toNatClampNeg (C10.1 36 6)
    · cases it_t c16 h
    replace h := it_f c16 h
    obtain ⟨C12, e17, h⟩ := lt_z h
    have a18 : ag fRck C C12 := ag_tr a15 (by rw [e17]; exact ag_wrI (by unfold fRck; omega))
    obtain ⟨C13, e19, h⟩ := lt_z h
    have a20 : ag fRck C C13 := ag_tr a18 (by rw [e19]; exact ag_wrI (by unfold fRck; omega))
    by_cases c21 : (C13.1 36 6) < (0 : Int32) ∨ 80 ≤ Int32.toNatClampNeg (C13.1 36 6)
    · cases it_t c21 h
    replace h := it_f c21 h
    by_cases c22 : (C13.1 40 (Int32.toNatClampNeg (C13.1 36 6))) ≤ (C13.1 36 8)
    · replace h := it_t c22 h
      exact ag_tr a20 (bl108 h)
    · replace h := it_f c22 h
      by_cases c23 : (C13.1 36 6) < (0 : Int32) ∨ 80 ≤ Int32.toNatClampNeg (C13.1 36 6)
      · cases it_t c23 h
      replace h := it_f c23 h
      obtain ⟨C17, e24, h⟩ := lt_z h
      have a25 : ag fRck C C17 := ag_tr a20 (by rw [e24]; exact ag_wrI (by unfold fRck; omega))
      exact ag_tr a25 (bl108 h)
  · replace h := it_f c3 h
    rw [← Option.some.inj h]
    exact ag_rf
theorem gk_X0_goKnown {n : Nat} {p1 : Int32} {p2 : Int32} {C : Mm} {r0 : Int32} {C0 : Mm} (h : fX0_goKnown n p1 p2 C = some (r0, C0)) : ag fRck C C0 := by
  unfold fX0_goKnown at h
  obtain ⟨C2, q1, h⟩ := bn_x h
  have a2 : ag fRck C C2 := ag_tr ag_rf (gk_X0_run q1)
  obtain ⟨C4, q3, h⟩ := bn_x h
  have a4 : ag fRck C C4 := ag_tr a2 (gk_X0_note q3)
  rw [← pr_2 h]
  exact a4
theorem gk_X0_lookAndAdd {n : Nat} {p1 : Int32} {p2 : Int32} {p3 : Int32} {p4 : Int32} {C : Mm} {C0 : Mm} (h : fX0_lookAndAdd n p1 p2 p3 p4 C = some C0) : ag fRck C C0 := by
  have bl33 : ∀ {y1 : Int32} {y2 : Int32} {y3 : Int32} {y4 : Int32} {y5 : Int32} {y6 : Int32} {C : Mm} (_ : fX0_lookAndAdd_b33 n y1 y2 y3 y4 y5 y6 C = some C0), ag fRck C C0 := by
    intro y1 y2 y3 y4 y5 y6 C h
    unfold fX0_lookAndAdd_b33 at h
    obtain ⟨C2, q1, h⟩ := bn_x h
    have a2 : ag fRck C C2 := ag_tr ag_rf (gk_X0_note q1)
    by_cases c3 : y6 = 0
    · replace h := it_t c3 h
      rw [← Option.some.inj h]
      exact a2
    · replace h := it_f c3 h
      obtain ⟨C5, q4, h⟩ := bn_x h
      have a5 : ag fRck C C5 := ag_tr a2 (gk_X0_run q4)
      obtain ⟨C7, q6, h⟩ := bn_x h
      have a7 : ag fRck C C7 := ag_tr a5 (gk_X0_note q6)
      rw [← Option.some.inj h]
      exact a7
  unfold fX0_lookAndAdd at h
  by_cases c8 : p1 = 0
  · replace h := it_t c8 h
    rw [← Option.some.inj h]
    exact ag_rf
  · replace h := it_f c8 h
    by_cases c9 : p2 = 0
    · replace h := it_t c9 h
      rw [← Option.some.inj h]
      exact ag_rf
    · replace h := it_f c9 h
      obtain ⟨x10, e10, h⟩ := lt_z h
      obtain ⟨x11, e11, h⟩ := lt_z h
      by_cases c12 : x11 = 0
      · replace h := it_t c12 h
        obtain ⟨C14, q13, h⟩ := bn_x h
        have a14 : ag fRck C C14 := ag_tr ag_rf (gk_X0_run q13)
        exact ag_tr a14 (bl33 h)
      · replace h := it_f c12 h
        exact ag_tr ag_rf (bl33 h)
theorem gk_X0_goLeft {n : Nat} {p1 : Int32} {p2 : Int32} {C : Mm} {r0 : Int32} {C0 : Mm} (h : fX0_goLeft n p1 p2 C = some (r0, C0)) : ag fRck C C0 := by
  have bl21 : ∀ {k8 : Int32 → Int32 → Int32 → Mm → Option (Int32 × Mm)} (hk8 : ∀ {y1 : Int32} {y2 : Int32} {y3 : Int32} {C : Mm} (_ : k8 y1 y2 y3 C = some (r0, C0)), ag fRck C C0) (fu : Nat), ∀ {y1 : Int32} {y2 : Int32} {y3 : Int32} {y4 : Int32} {C : Mm} (_ : fX0_goLeft_h21 n k8 fu y1 y2 y3 y4 C = some (r0, C0)), ag fRck C C0 := by
    intro k8 hk8
    intro fu
    induction fu with
    | zero =>
      intro y1 y2 y3 y4 C h
      rw [fX0_goLeft_h21.eq_1] at h
      cases h
    | succ fu ih =>
      intro y1 y2 y3 y4 C h
      rw [fX0_goLeft_h21.eq_2] at h
      by_cases c1 : y4 < 0
      · replace h := it_t c1 h
        obtain ⟨x2, e2, h⟩ := lt_z h
        exact ag_tr ag_rf (hk8 h)
      · replace h := it_f c1 h
        obtain ⟨r4, q3, h⟩ := bn_x h
        obtain ⟨r7, q4, h⟩ := bn_x h
        obtain ⟨r10, q5, h⟩ := bn_x h
        obtain ⟨C13, q6, h⟩ := bn_x h
        have a7 : ag fRck C C13 := ag_tr ag_rf (gk_X0_lookAndAdd q6)
        obtain ⟨x14, e8, h⟩ := lt_z h
        exact ag_tr a7 (ih h)
  have bl8 : ∀ (fu : Nat), ∀ {y1 : Int32} {y2 : Int32} {y3 : Int32} {C : Mm} (_ : fX0_goLeft_h8 n fu y1 y2 y3 C = some (r0, C0)), ag fRck C C0 := by
    intro fu
    induction fu with
    | zero =>
      intro y1 y2 y3 C h
      rw [fX0_goLeft_h8.eq_1] at h
      cases h
    | succ fu ih =>
      intro y1 y2 y3 C h
      rw [fX0_goLeft_h8.eq_2] at h
      by_cases c9 : y3 < 0
      · replace h := it_t c9 h
        rw [← pr_2 h]
        exact ag_rf
      · replace h := it_f c9 h
        obtain ⟨r17, q10, h⟩ := bn_x h
        obtain ⟨x19, e11, h⟩ := lt_z h
        exact ag_tr ag_rf (bl21 ih _ h)
  unfold fX0_goLeft at h
  obtain ⟨r21, q12, h⟩ := bn_x h
  obtain ⟨x23, e13, h⟩ := lt_z h
  exact ag_tr ag_rf (bl8 _ h)
theorem gk_X0_holdRunning {C : Mm} {C0 : Mm} (h : fX0_holdRunning C = some C0) : ag fRck C C0 := by
  unfold fX0_holdRunning at h
  obtain ⟨x1, e1, h⟩ := lt_z h
  obtain ⟨x2, e2, h⟩ := lt_z h
  obtain ⟨C3, e3, h⟩ := lt_z h
  have a4 : ag fRck C C3 := ag_tr ag_rf (by rw [e3]; exact ag_wrI (by unfold fRck; omega))
  obtain ⟨C5, e5, h⟩ := lt_z h
  have a6 : ag fRck C C5 := ag_tr a4 (gk_X0_beginAnew e5.symm)
  obtain ⟨C7, q7, h⟩ := bn_x h
  have a8 : ag fRck C C7 := ag_tr a6 (gk_X0_note q7)
  rw [← Option.some.inj h]
  exact a8
theorem gk_X0_letGo {n : Nat} {p1 : Int32} {C : Mm} {C0 : Mm} (h : fX0_letGo n p1 C = some C0) : ag fRck C C0 := by
  unfold fX0_letGo at h
  obtain ⟨r2, q1, h⟩ := bn_x h
  obtain ⟨C4, e2, h⟩ := lt_z h
  have a3 : ag fRck C C4 := ag_tr ag_rf (by rw [e2]; exact ag_wrI (by unfold fRck; omega))
  rw [← Option.some.inj h]
  exact a3
theorem gk_X0_add {n : Nat} {p1 : Int32} {p2 : Int32} {C : Mm} {C0 : Mm} (h : fX0_add n p1 p2 C = some C0) : ag fRck C C0 := by
  unfold fX0_add at h
  obtain ⟨C2, q1, h⟩ := bn_x h
  have a2 : ag fRck C C2 := ag_tr ag_rf (gk_X0_run q1)
  obtain ⟨C4, q3, h⟩ := bn_x h
  have a4 : ag fRck C C4 := ag_tr a2 (gk_X0_note q3)
  rw [← Option.some.inj h]
  exact a4
theorem gk_X0_addRows {n : Nat} {p1 : Int32} {C : Mm} {C0 : Mm} (h : fX0_addRows n p1 C = some C0) : ag fRck C C0 := by
  have bl22 : ∀ (fu : Nat), ∀ {y1 : Int32} {y2 : Int32} {C : Mm} (_ : fX0_addRows_h22 n fu y1 y2 C = some C0), ag fRck C C0 := by
    intro fu
    induction fu with
    | zero =>
      intro y1 y2 C h
      rw [fX0_addRows_h22.eq_1] at h
      cases h
    | succ fu ih =>
      intro y1 y2 C h
      rw [fX0_addRows_h22.eq_2] at h
      by_cases c1 : y1 ≤ y2
      · replace h := it_t c1 h
        rw [← Option.some.inj h]
        exact ag_rf
      · replace h := it_f c1 h
        by_cases c2 : y2 < (0 : Int32) ∨ 4 ≤ Int32.toNatClampNeg y2
        · cases it_t c2 h
        replace h := it_f c2 h
        obtain ⟨C4, q3, h⟩ := bn_x h
        have a4 : ag fRck C C4 := ag_tr ag_rf (gk_X0_letGo q3)
        by_cases c5 : y2 < (0 : Int32) ∨ 4 ≤ Int32.toNatClampNeg y2
        · cases it_t c5 h
        replace h := it_f c5 h
        obtain ⟨C7, q6, h⟩ := bn_x h
        have a7 : ag fRck C C7 := ag_tr a4 (gk_X0_add q6)
        obtain ⟨x8, e8, h⟩ := lt_z h
        exact ag_tr a7 (ih h)
  unfold fX0_addRows at h
  by_cases c9 : 0 < (0 : Int32) ∨ 4 ≤ Int32.toNatClampNeg 0
  · cases it_t c9 h
  replace h := it_f c9 h
  obtain ⟨C11, q10, h⟩ := bn_x h
  have a11 : ag fRck C C11 := ag_tr ag_rf (gk_X0_letGo q10)
  by_cases c12 : 0 < (0 : Int32) ∨ 4 ≤ Int32.toNatClampNeg 0
  · cases it_t c12 h
  replace h := it_f c12 h
  obtain ⟨C14, q13, h⟩ := bn_x h
  have a14 : ag fRck C C14 := ag_tr a11 (gk_X0_run q13)
  exact ag_tr a14 (bl22 _ h)
theorem gk_X0_goRight {n : Nat} {p1 : Int32} {p2 : Int32} {C : Mm} {r0 : Int32} {C0 : Mm} (h : fX0_goRight n p1 p2 C = some (r0, C0)) : ag fRck C C0 := by
  have bl70 : ∀ {y3 : Int32} {C : Mm} (_ : fX0_goRight_b70 n y3 C = some (r0, C0)), ag fRck C C0 := by
    intro y3 C h
    unfold fX0_goRight_b70 at h
    by_cases c1 : y3 ≤ 1
    · replace h := it_t c1 h
      rw [← pr_2 h]
      exact ag_rf
    · replace h := it_f c1 h
      obtain ⟨C3, q2, h⟩ := bn_x h
      have a3 : ag fRck C C3 := ag_tr ag_rf (gk_X0_addRows q2)
      rw [← pr_2 h]
      exact a3
  have bl64 : ∀ {k5 : Int32 → Int32 → Int32 → Int32 → Mm → Option (Int32 × Mm)} (hk5 : ∀ {y1 : Int32} {y2 : Int32} {y3 : Int32} {y4 : Int32} {C : Mm} (_ : k5 y1 y2 y3 y4 C = some (r0, C0)), ag fRck C C0), ∀ {y1 : Int32} {y2 : Int32} {y3 : Int32} {y4 : Int32} {C : Mm} (_ : fX0_goRight_b64 n k5 y1 y2 y3 y4 C = some (r0, C0)), ag fRck C C0 := by
    intro k5 hk5 y1 y2 y3 y4 C h
    unfold fX0_goRight_b64 at h
    obtain ⟨x4, e4, h⟩ := lt_z h
    exact ag_tr ag_rf (hk5 h)
  have bl5 : ∀ (fu : Nat), ∀ {y1 : Int32} {y2 : Int32} {y3 : Int32} {y4 : Int32} {C : Mm} (_ : fX0_goRight_h5 n fu y1 y2 y3 y4 C = some (r0, C0)), ag fRck C C0 := by
    intro fu
    induction fu with
    | zero =>
      intro y1 y2 y3 y4 C h
      rw [fX0_goRight_h5.eq_1] at h
      cases h
    | succ fu ih =>
      intro y1 y2 y3 y4 C h
      rw [fX0_goRight_h5.eq_2] at h
      obtain ⟨r6, q5, h⟩ := bn_x h
      by_cases c6 : r6 ≤ y4
      · replace h := it_t c6 h
        exact ag_tr ag_rf (bl70 h)
      · replace h := it_f c6 h
        by_cases c7 : 4 ≤ y3
        · replace h := it_t c7 h
          exact ag_tr ag_rf (bl70 h)
        · replace h := it_f c7 h
          obtain ⟨r11, q8, h⟩ := bn_x h
          by_cases c9 : r11 = 0
          · replace h := it_t c9 h
            exact ag_tr ag_rf (bl64 ih h)
          · replace h := it_f c9 h
            obtain ⟨r15, q10, h⟩ := bn_x h
            obtain ⟨r18, C19, q11, h⟩ := bp_x h
            have a12 : ag fRck C C19 := ag_tr ag_rf (gk_X0_goLeft q11)
            by_cases c13 : y3 < (0 : Int32) ∨ 4 ≤ Int32.toNatClampNeg y3
            · cases it_t c13 h
            replace h := it_f c13 h
            obtain ⟨C22, e14, h⟩ := lt_z h
            have a15 : ag fRck C C22 := ag_tr a12 (by rw [e14]; exact ag_wrI (by unfold fRck; omega))
            obtain ⟨x23, e16, h⟩ := lt_z h
            obtain ⟨C25, q17, h⟩ := bn_x h
            have a18 : ag fRck C C25 := ag_tr a15 (gk_X0_holdRunning q17)
            exact ag_tr a18 (bl64 ih h)
  unfold fX0_goRight at h
  exact ag_tr ag_rf (bl5 _ h)
theorem gk_X0_holdLastFigure {C : Mm} {C0 : Mm} (h : fX0_holdLastFigure C = some C0) : ag fRck C C0 := by
  unfold fX0_holdLastFigure at h
  obtain ⟨x1, e1, h⟩ := lt_z h
  obtain ⟨C2, e2, h⟩ := lt_z h
  have a3 : ag fRck C C2 := ag_tr ag_rf (by rw [e2]; exact ag_wrI (by unfold fRck; omega))
  obtain ⟨C3, e4, h⟩ := lt_z h
  have a5 : ag fRck C C3 := ag_tr a3 (by rw [e4]; exact ag_wrI (by unfold fRck; omega))
  obtain ⟨C4, e6, h⟩ := lt_z h
  have a7 : ag fRck C C4 := ag_tr a5 (by rw [e6]; exact ag_wrI (by unfold fRck; omega))
  obtain ⟨C6, q8, h⟩ := bn_x h
  have a9 : ag fRck C C6 := ag_tr a7 (gk_X0_note q8)
  rw [← Option.some.inj h]
  exact a9
theorem gk_X0_goCrossed {n : Nat} {p1 : Int32} {p2 : Int32} {C : Mm} {r0 : Int32} {C0 : Mm} (h : fX0_goCrossed n p1 p2 C = some (r0, C0)) : ag fRck C C0 := by
  have bl26 : ∀ {k17 : Int32 → Int32 → Int32 → Int32 → Mm → Option (Int32 × Mm)} (hk17 : ∀ {y1 : Int32} {y2 : Int32} {y3 : Int32} {y4 : Int32} {C : Mm} (_ : k17 y1 y2 y3 y4 C = some (r0, C0)), ag fRck C C0) (fu : Nat), ∀ {y1 : Int32} {y2 : Int32} {y3 : Int32} {y4 : Int32} {y5 : Int32} {C : Mm} (_ : fX0_goCrossed_h26 n k17 fu y1 y2 y3 y4 y5 C = some (r0, C0)), ag fRck C C0 := by
    intro k17 hk17
    intro fu
    induction fu with
    | zero =>
      intro y1 y2 y3 y4 y5 C h
      rw [fX0_goCrossed_h26.eq_1] at h
      cases h
    | succ fu ih =>
      intro y1 y2 y3 y4 y5 C h
      rw [fX0_goCrossed_h26.eq_2] at h
      by_cases c1 : y4 < y5
      · replace h := it_t c1 h
        obtain ⟨C3, q2, h⟩ := bn_x h
        have a3 : ag fRck C C3 := ag_tr ag_rf (gk_X0_holdLastFigure q2)
        obtain ⟨x4, e4, h⟩ := lt_z h
        exact ag_tr a3 (hk17 h)
      · replace h := it_f c1 h
        obtain ⟨r6, q5, h⟩ := bn_x h
        obtain ⟨r9, q6, h⟩ := bn_x h
        obtain ⟨r12, q7, h⟩ := bn_x h
        obtain ⟨C15, q8, h⟩ := bn_x h
        have a9 : ag fRck C C15 := ag_tr ag_rf (gk_X0_lookAndAdd q8)
        obtain ⟨x16, e10, h⟩ := lt_z h
        exact ag_tr a9 (ih h)
  have bl17 : ∀ (fu : Nat), ∀ {y1 : Int32} {y2 : Int32} {y3 : Int32} {y4 : Int32} {C : Mm} (_ : fX0_goCrossed_h17 n fu y1 y2 y3 y4 C = some (r0, C0)), ag fRck C C0 := by
    intro fu
    induction fu with
    | zero =>
      intro y1 y2 y3 y4 C h
      rw [fX0_goCrossed_h17.eq_1] at h
      cases h
    | succ fu ih =>
      intro y1 y2 y3 y4 C h
      rw [fX0_goCrossed_h17.eq_2] at h
      by_cases c11 : y3 < y4
      · replace h := it_t c11 h
        rw [← pr_2 h]
        exact ag_rf
      · replace h := it_f c11 h
        exact ag_tr ag_rf (bl26 ih _ h)
  unfold fX0_goCrossed at h
  obtain ⟨r19, q12, h⟩ := bn_x h
  obtain ⟨r22, q13, h⟩ := bn_x h
  obtain ⟨x24, e14, h⟩ := lt_z h
  exact ag_tr ag_rf (bl17 _ h)
theorem gk_X0_goSquared {n : Nat} {p1 : Int32} {p2 : Int32} {C : Mm} {r0 : Int32} {C0 : Mm} (h : fX0_goSquared n p1 p2 C = some (r0, C0)) : ag fRck C C0 := by
  have bl47 : ∀ {y5 : Int32} {C : Mm} (_ : fX0_goSquared_b47 n y5 C = some (r0, C0)), ag fRck C C0 := by
    intro y5 C h
    unfold fX0_goSquared_b47 at h
    obtain ⟨C2, q1, h⟩ := bn_x h
    have a2 : ag fRck C C2 := ag_tr ag_rf (gk_X0_letGo q1)
    obtain ⟨C4, q3, h⟩ := bn_x h
    have a4 : ag fRck C C4 := ag_tr a2 (gk_X0_add q3)
    rw [← pr_2 h]
    exact a4
  unfold fX0_goSquared at h
  obtain ⟨x5, e5, h⟩ := lt_z h
  obtain ⟨x6, e6, h⟩ := lt_z h
  obtain ⟨r8, C9, q7, h⟩ := bp_x h
  have a8 : ag fRck C C9 := ag_tr ag_rf (gk_X0_goLeft q7)
  obtain ⟨x11, e9, h⟩ := lt_z h
  obtain ⟨C13, q10, h⟩ := bn_x h
  have a11 : ag fRck C C13 := ag_tr a8 (gk_X0_holdRunning q10)
  by_cases c12 : x6 ≤ 0
  · replace h := it_t c12 h
    exact ag_tr a11 (bl47 h)
  · replace h := it_f c12 h
    obtain ⟨r16, C17, q13, h⟩ := bp_x h
    have a14 : ag fRck C C17 := ag_tr a11 (gk_X0_goLeft q13)
    exact ag_tr a14 (bl47 h)
theorem gk_X0_goSplit {n : Nat} {p1 : Int32} {p2 : Int32} {p3 : Int32} {C : Mm} {r0 : Int32} {C0 : Mm} (h : fX0_goSplit n p1 p2 p3 C = some (r0, C0)) : ag fRck C C0 := by
  have bl53 : ∀ {k3 : Int32 → Int32 → Int32 → Mm → Option (Int32 × Mm)} (hk3 : ∀ {y1 : Int32} {y2 : Int32} {y4 : Int32} {C : Mm} (_ : k3 y1 y2 y4 C = some (r0, C0)), ag fRck C C0), ∀ {y1 : Int32} {y2 : Int32} {y4 : Int32} {C : Mm} (_ : fX0_goSplit_b53 n k3 y1 y2 y4 C = some (r0, C0)), ag fRck C C0 := by
    intro k3 hk3 y1 y2 y4 C h
    unfold fX0_goSplit_b53 at h
    obtain ⟨x1, e1, h⟩ := lt_z h
    exact ag_tr ag_rf (hk3 h)
  have bl3 : ∀ (fu : Nat), ∀ {y1 : Int32} {y2 : Int32} {y4 : Int32} {C : Mm} (_ : fX0_goSplit_h3 n fu y1 y2 y4 C = some (r0, C0)), ag fRck C C0 := by
    intro fu
    induction fu with
    | zero =>
      intro y1 y2 y4 C h
      rw [fX0_goSplit_h3.eq_1] at h
      cases h
    | succ fu ih =>
      intro y1 y2 y4 C h
      rw [fX0_goSplit_h3.eq_2] at h
      by_cases c2 : y4 < 2
      · replace h := it_t c2 h
        rw [← pr_2 h]
        exact ag_rf
      · replace h := it_f c2 h
        by_cases c3 : y4 = 0
        · cases it_t c3 h
        replace h := it_f c3 h
        by_cases c4 : (irm y2 y4) = 0
        · replace h := it_t c4 h
          by_cases c5 : y4 = 0
          · cases it_t c5 h
          replace h := it_f c5 h
          by_cases c6 : (y2 / y4) ≤ 1
          · replace h := it_t c6 h
            exact ag_tr ag_rf (bl53 ih h)
          · replace h := it_f c6 h
            obtain ⟨r8, C9, q7, h⟩ := bp_x h
            have a8 : ag fRck C C9 := ag_tr ag_rf (gk_X0_goLeft q7)
            obtain ⟨x11, e9, h⟩ := lt_z h
            obtain ⟨C13, q10, h⟩ := bn_x h
            have a11 : ag fRck C C13 := ag_tr a8 (gk_X0_holdRunning q10)
            by_cases c12 : y4 = 0
            · cases it_t c12 h
            replace h := it_f c12 h
            obtain ⟨r16, C17, q13, h⟩ := bp_x h
            have a14 : ag fRck C C17 := ag_tr a11 (gk_X0_goLeft q13)
            rw [← pr_2 h]
            exact a14
        · replace h := it_f c4 h
          exact ag_tr ag_rf (bl53 ih h)
  unfold fX0_goSplit at h
  exact ag_tr ag_rf (bl3 _ h)
theorem gk_X0_reckon {n : Nat} {j1 : Nat} (hj1 : j1 < 7) {p2 : Int32} {p3 : Int32} {C : Mm} {r0 : Int32} {C0 : Mm} (h : fX0_reckon n j1 p2 p3 C = some (r0, C0)) : ag fRck C C0 := by
  unfold fX0_reckon at h
  obtain ⟨x1, e1, h⟩ := lt_z h
  obtain ⟨x2, e2, h⟩ := lt_z h
  obtain ⟨C4, q3, h⟩ := bn_x h
  have a4 : ag fRck C C4 := ag_tr ag_rf (gk_X0_begin (by omega) q3)
  by_cases c5 : p2 = 0
  · replace h := it_t c5 h
    obtain ⟨r7, q6, h⟩ := bn_x h
    by_cases c7 : r7 = 0
    · replace h := it_t c7 h
      rw [← pr_2 h]
      exact a4
    · replace h := it_f c7 h
      obtain ⟨r11, C12, q8, h⟩ := bp_x h
      have a9 : ag fRck C C12 := ag_tr a4 (gk_X0_goKnown q8)
      by_cases c10 : r11 = 0
      · replace h := it_t c10 h
        rw [← pr_2 h]
        exact a9
      · replace h := it_f c10 h
        rw [← pr_2 h]
        exact a9
  · replace h := it_f c5 h
    by_cases c11 : p2 = 1
    · replace h := it_t c11 h
      obtain ⟨r17, C18, q12, h⟩ := bp_x h
      have a13 : ag fRck C C18 := ag_tr a4 (gk_X0_goLeft q12)
      rw [← pr_2 h]
      exact a13
    · replace h := it_f c11 h
      by_cases c14 : p2 = 2
      · replace h := it_t c14 h
        obtain ⟨r22, C23, q15, h⟩ := bp_x h
        have a16 : ag fRck C C23 := ag_tr a4 (gk_X0_goRight q15)
        rw [← pr_2 h]
        exact a16
      · replace h := it_f c14 h
        by_cases c17 : p2 = 3
        · replace h := it_t c17 h
          obtain ⟨r27, C28, q18, h⟩ := bp_x h
          have a19 : ag fRck C C28 := ag_tr a4 (gk_X0_goCrossed q18)
          rw [← pr_2 h]
          exact a19
        · replace h := it_f c17 h
          by_cases c20 : p2 = 4
          · replace h := it_t c20 h
            by_cases c21 : (irm (x1 + x2) 2) = 0
            · replace h := it_t c21 h
              obtain ⟨r33, C34, q22, h⟩ := bp_x h
              have a23 : ag fRck C C34 := ag_tr a4 (gk_X0_goSquared q22)
              by_cases c24 : r33 = 0
              · replace h := it_t c24 h
                rw [← pr_2 h]
                exact a23
              · replace h := it_f c24 h
                rw [← pr_2 h]
                exact a23
            · replace h := it_f c21 h
              rw [← pr_2 h]
              exact a4
          · replace h := it_f c20 h
            by_cases c25 : p2 = 5
            · replace h := it_t c25 h
              obtain ⟨r39, q26, h⟩ := bn_x h
              obtain ⟨r42, C43, q27, h⟩ := bp_x h
              have a28 : ag fRck C C43 := ag_tr a4 (gk_X0_goSplit q27)
              rw [← pr_2 h]
              exact a28
            · replace h := it_f c25 h
              by_cases c29 : p2 = 6
              · replace h := it_t c29 h
                obtain ⟨r47, C48, q30, h⟩ := bp_x h
                have a31 : ag fRck C C48 := ag_tr a4 (gk_X0_goRight q30)
                rw [← pr_2 h]
                exact a31
              · replace h := it_f c29 h
                rw [← pr_2 h]
                exact a4
theorem gk_X3_pop {C : Mm} {r0 : Int32} {C0 : Mm} (h : fX3_pop C = some (r0, C0)) : ag fRck C C0 := by
  unfold fX3_pop at h
  by_cases c1 : (C.1 32 5) = 0
  · replace h := it_t c1 h
    rw [← pr_2 h]
    exact ag_rf
  · replace h := it_f c1 h
    obtain ⟨C2, e2, h⟩ := lt_z h
    have a3 : ag fRck C C2 := ag_tr ag_rf (by rw [e2]; exact ag_wrI (by unfold fRck; omega))
    by_cases c4 : (C2.1 32 5) < (0 : Int32) ∨ 128 ≤ Int32.toNatClampNeg (C2.1 32 5)
    · cases it_t c4 h
    replace h := it_f c4 h
    rw [← pr_2 h]
    exact a3
theorem gk_X3_push {p1 : Int32} {C : Mm} {C0 : Mm} (h : fX3_push p1 C = some C0) : ag fRck C C0 := by
  unfold fX3_push at h
  by_cases c1 : 128 ≤ (C.1 32 5)
  · replace h := it_t c1 h
    rw [← Option.some.inj h]
    exact ag_rf
  · replace h := it_f c1 h
    by_cases c2 : (C.1 32 5) < (0 : Int32) ∨ 128 ≤ Int32.toNatClampNeg (C.1 32 5)
    · cases it_t c2 h
    replace h := it_f c2 h
    obtain ⟨C3, e3, h⟩ := lt_z h
    have a4 : ag fRck C C3 := ag_tr ag_rf (by rw [e3]; exact ag_wrI (by unfold fRck; omega))
    obtain ⟨C4, e5, h⟩ := lt_z h
    have a6 : ag fRck C C4 := ag_tr a4 (by rw [e5]; exact ag_wrI (by unfold fRck; omega))
    rw [← Option.some.inj h]
    exact a6
theorem gk_X3_workOut {n : Nat} {j2 : Nat} (hj2 : j2 < 7) {p1 : Int32} {p3 : Int32} {C : Mm} {C0 : Mm} (h : fX3_workOut n j2 p1 p3 C = some C0) : ag fRck C C0 := by
  have bl62 : ∀ {s0 : Int32} {C : Mm} (_ : fX3_workOut_b62 n j2 s0 C = some C0), ag fRck C C0 := by
    intro s0 C h
    unfold fX3_workOut_b62 at h
    obtain ⟨C2, q1, h⟩ := bn_x h
    have a2 : ag fRck C C2 := ag_tr ag_rf (gk_X3_push q1)
    rw [← Option.some.inj h]
    exact a2
  unfold fX3_workOut at h
  by_cases c3 : p1 < 0
  · replace h := it_t c3 h
    by_cases c4 : (fX3_isName (-p1)) = 0
    · replace h := it_t c4 h
      by_cases c5 : p1 = (-33)
      · replace h := it_t c5 h
        obtain ⟨r29, C30, q6, h⟩ := bp_x h
        have a7 : ag fRck C C30 := ag_tr ag_rf (gk_X3_pop q6)
        by_cases c8 : r29 = 0
        · replace h := it_t c8 h
          exact ag_tr a7 (bl62 h)
        · replace h := it_f c8 h
          exact ag_tr a7 (bl62 h)
      · replace h := it_f c5 h
        by_cases c9 : p1 = (-126)
        · replace h := it_t c9 h
          obtain ⟨r23, C24, q10, h⟩ := bp_x h
          have a11 : ag fRck C C24 := ag_tr ag_rf (gk_X3_pop q10)
          obtain ⟨C27, q12, h⟩ := bn_x h
          have a13 : ag fRck C C27 := ag_tr a11 (gk_X3_push q12)
          rw [← Option.some.inj h]
          exact a13
        · replace h := it_f c9 h
          obtain ⟨r10, C11, q14, h⟩ := bp_x h
          have a15 : ag fRck C C11 := ag_tr ag_rf (gk_X3_pop q14)
          obtain ⟨r14, C15, q16, h⟩ := bp_x h
          have a17 : ag fRck C C15 := ag_tr a15 (gk_X3_pop q16)
          obtain ⟨r18, q18, h⟩ := bn_x h
          obtain ⟨C21, q19, h⟩ := bn_x h
          have a20 : ag fRck C C21 := ag_tr a17 (gk_X3_push q19)
          rw [← Option.some.inj h]
          exact a20
    · replace h := it_f c4 h
      obtain ⟨r34, q21, h⟩ := bn_x h
      obtain ⟨C37, q22, h⟩ := bn_x h
      have a23 : ag fRck C C37 := ag_tr ag_rf (gk_X3_push q22)
      rw [← Option.some.inj h]
      exact a23
  · replace h := it_f c3 h
    obtain ⟨C39, q24, h⟩ := bn_x h
    have a25 : ag fRck C C39 := ag_tr ag_rf (gk_X3_push q24)
    rw [← Option.some.inj h]
    exact a25
theorem gk_X3_numberFor {n : Nat} {j1 : Nat} (hj1 : j1 < 7) {p2 : Int32} {C : Mm} {r0 : Int32} {C0 : Mm} (h : fX3_numberFor n j1 p2 C = some (r0, C0)) : ag fRck C C0 := by
  have bl100 : ∀ {k19 : Int32 → Int32 → Int32 → Mm → Option (Int32 × Mm)} (hk19 : ∀ {y2 : Int32} {y3 : Int32} {y4 : Int32} {C : Mm} (_ : k19 y2 y3 y4 C = some (r0, C0)), ag fRck C C0), ∀ {y2 : Int32} {y3 : Int32} {y4 : Int32} {C : Mm} (_ : fX3_numberFor_b100 n j1 k19 y2 y3 y4 C = some (r0, C0)), ag fRck C C0 := by
    intro k19 hk19 y2 y3 y4 C h
    unfold fX3_numberFor_b100 at h
    obtain ⟨x1, e1, h⟩ := lt_z h
    exact ag_tr ag_rf (hk19 h)
  have bl88 : ∀ {k19 : Int32 → Int32 → Int32 → Mm → Option (Int32 × Mm)} (hk19 : ∀ {y2 : Int32} {y3 : Int32} {y4 : Int32} {C : Mm} (_ : k19 y2 y3 y4 C = some (r0, C0)), ag fRck C C0), ∀ {y2 : Int32} {y4 : Int32} {s0 : Int32} {C : Mm} (_ : fX3_numberFor_b88 n j1 k19 y2 y4 s0 C = some (r0, C0)), ag fRck C C0 := by
    intro k19 hk19 y2 y4 s0 C h
    unfold fX3_numberFor_b88 at h
    exact ag_tr ag_rf (bl100 hk19 h)
  have bl53 : ∀ {k19 : Int32 → Int32 → Int32 → Mm → Option (Int32 × Mm)} (hk19 : ∀ {y2 : Int32} {y3 : Int32} {y4 : Int32} {C : Mm} (_ : k19 y2 y3 y4 C = some (r0, C0)), ag fRck C C0), ∀ {y2 : Int32} {y4 : Int32} {s0 : Int32} {C : Mm} (_ : fX3_numberFor_b53 n j1 k19 y2 y4 s0 C = some (r0, C0)), ag fRck C C0 := by
    intro k19 hk19 y2 y4 s0 C h
    unfold fX3_numberFor_b53 at h
    exact ag_tr ag_rf (bl100 hk19 h)
  have bl19 : ∀ (fu : Nat), ∀ {y2 : Int32} {y3 : Int32} {y4 : Int32} {C : Mm} (_ : fX3_numberFor_h19 n j1 fu y2 y3 y4 C = some (r0, C0)), ag fRck C C0 := by
    intro fu
    induction fu with
    | zero =>
      intro y2 y3 y4 C h
      rw [fX3_numberFor_h19.eq_1] at h
      cases h
    | succ fu ih =>
      intro y2 y3 y4 C h
      rw [fX3_numberFor_h19.eq_2] at h
      by_cases c2 : (C.1 32 1) ≤ y4
      · replace h := it_t c2 h
        rw [← pr_2 h]
        exact ag_rf
      · replace h := it_f c2 h
        by_cases c3 : y4 < (0 : Int32) ∨ 128 ≤ Int32.toNatClampNeg y4
        · cases it_t c3 h
        replace h := it_f c3 h
        obtain ⟨x4, e4, h⟩ := lt_z h
        by_cases c5 : y3 = 0
        · replace h := it_t c5 h
          by_cases c6 : x4 = (-59)
          · replace h := it_t c6 h
            obtain ⟨r16, C17, q7, h⟩ := bp_x h
            have a8 : ag fRck C C17 := ag_tr ag_rf (gk_X3_pop q7)
            rw [← pr_2 h]
            exact a8
          · replace h := it_f c6 h
            by_cases c9 : x4 = (-63)
            · replace h := it_t c9 h
              obtain ⟨r11, C12, q10, h⟩ := bp_x h
              have a11 : ag fRck C C12 := ag_tr ag_rf (gk_X3_pop q10)
              by_cases c12 : r11 = 0
              · replace h := it_t c12 h
                exact ag_tr a11 (bl88 ih h)
              · replace h := it_f c12 h
                exact ag_tr a11 (bl88 ih h)
            · replace h := it_f c9 h
              obtain ⟨C9, q13, h⟩ := bn_x h
              have a14 : ag fRck C C9 := ag_tr ag_rf (gk_X3_workOut (by omega) q13)
              exact ag_tr a14 (bl100 ih h)
        · replace h := it_f c5 h
          by_cases c15 : x4 = (-59)
          · replace h := it_t c15 h
            exact ag_tr ag_rf (bl53 ih h)
          · replace h := it_f c15 h
            exact ag_tr ag_rf (bl53 ih h)
  unfold fX3_numberFor at h
  by_cases c16 : (C.1 32 1) = 0
  · replace h := it_t c16 h
    rw [← pr_2 h]
    exact ag_rf
  · replace h := it_f c16 h
    obtain ⟨C21, e17, h⟩ := lt_z h
    have a18 : ag fRck C C21 := ag_tr ag_rf (by rw [e17]; exact ag_wrI (by unfold fRck; omega))
    exact ag_tr a18 (bl19 _ h)
theorem gk_X10_reckonChosen {n : Nat} {j1 : Nat} (hj1 : j1 < 7) {p2 : Int32} {C : Mm} {r0 : Int32} {C0 : Mm} (h : fX10_reckonChosen n j1 p2 C = some (r0, C0)) : ag fRck C C0 := by
  unfold fX10_reckonChosen at h
  obtain ⟨r2, C3, q1, h⟩ := bp_x h
  have a2 : ag fRck C C3 := ag_tr ag_rf (gk_X3_numberFor (by omega) q1)
  obtain ⟨r6, C7, q3, h⟩ := bp_x h
  have a4 : ag fRck C C7 := ag_tr a2 (gk_X0_reckon (by omega) q3)
  by_cases c5 : r6 = 0
  · replace h := it_t c5 h
    obtain ⟨r11, C12, q6, h⟩ := bp_x h
    have a7 : ag fRck C C12 := ag_tr a4 (gk_X0_reckon (by omega) q6)
    rw [← pr_2 h]
    exact a7
  · replace h := it_f c5 h
    rw [← pr_2 h]
    exact a4
def fChs (q i : Nat) : Prop := (q = 72 ∧ ((10 ≤ i ∧ i ≤ 14) ∨ i = 21 ∨ (28 ≤ i ∧ i ≤ 31))) ∨ q = 79 ∨ (84 ≤ q ∧ q ≤ 90)
theorem gh_X11_wrong {C : Mm} {r0 : Int32} {C0 : Mm} (h : fX11_wrong C = some (r0, C0)) : ag fChs C C0 := by
  have bl19 : ∀ {s0 : Int32} {C : Mm} (_ : fX11_wrong_b19 s0 C = some (r0, C0)), ag fChs C C0 := by
    intro s0 C h
    unfold fX11_wrong_b19 at h
    obtain ⟨C1, e1, h⟩ := lt_z h
    have a2 : ag fChs C C1 := ag_tr ag_rf (by rw [e1]; exact ag_wrI (by unfold fChs; omega))
    rw [← pr_2 h]
    exact a2
  unfold fX11_wrong at h
  by_cases c3 : 0 ≤ (C.1 72 13)
  · replace h := it_t c3 h
    exact ag_tr ag_rf (bl19 h)
  · replace h := it_f c3 h
    exact ag_tr ag_rf (bl19 h)
theorem gh_X11_takes {p1 : Int32} {C : Mm} {r0 : Int32} {C0 : Mm} (h : fX11_takes p1 C = some (r0, C0)) : ag fChs C C0 := by
  unfold fX11_takes at h
  by_cases c1 : 0 ≤ (C.1 72 13)
  · replace h := it_t c1 h
    rw [← pr_2 h]
    exact ag_rf
  · replace h := it_f c1 h
    obtain ⟨r3, q2, h⟩ := bn_x h
    by_cases c3 : r3 = p1
    · replace h := it_t c3 h
      obtain ⟨C6, e4, h⟩ := lt_z h
      have a5 : ag fChs C C6 := ag_tr ag_rf (by rw [e4]; exact ag_wrI (by unfold fChs; omega))
      rw [← pr_2 h]
      exact a5
    · replace h := it_f c3 h
      rw [← pr_2 h]
      exact ag_rf
theorem gh_X11_product {n : Nat} {z : Mm → Option (Int32 × Mm)} (hz : ∀ {C : Mm} {r0 : Int32} {C0 : Mm} (_ : z C = some (r0, C0)), ag fChs C C0) {C : Mm} {r0 : Int32} {C0 : Mm} (h : fX11_product n z C = some (r0, C0)) : ag fChs C C0 := by
  have bl85 : ∀ {k10 : Int32 → Int32 → Mm → Option (Int32 × Mm)} (hk10 : ∀ {y1 : Int32} {y2 : Int32} {C : Mm} (_ : k10 y1 y2 C = some (r0, C0)), ag fChs C C0), ∀ {s0 : Int32} {C : Mm} (_ : fX11_product_b85 n z k10 s0 C = some (r0, C0)), ag fChs C C0 := by
    intro k10 hk10 s0 C h
    unfold fX11_product_b85 at h
    obtain ⟨r2, q1, h⟩ := bn_x h
    exact ag_tr ag_rf (hk10 h)
  have bl35 : ∀ {k10 : Int32 → Int32 → Mm → Option (Int32 × Mm)} (hk10 : ∀ {y1 : Int32} {y2 : Int32} {C : Mm} (_ : k10 y1 y2 C = some (r0, C0)), ag fChs C C0), ∀ {y1 : Int32} {y2 : Int32} {C : Mm} (_ : fX11_product_b35 n z k10 y1 y2 C = some (r0, C0)), ag fChs C C0 := by
    intro k10 hk10 y1 y2 C h
    unfold fX11_product_b35 at h
    obtain ⟨C4, e2, h⟩ := lt_z h
    have a3 : ag fChs C C4 := ag_tr ag_rf (by rw [e2]; exact ag_wrI (by unfold fChs; omega))
    obtain ⟨r6, C7, q4, h⟩ := bp_x h
    have a5 : ag fChs C C7 := ag_tr a3 (hz q4)
    by_cases c6 : y2 = 42
    · replace h := it_t c6 h
      exact ag_tr a5 (bl85 hk10 h)
    · replace h := it_f c6 h
      by_cases c7 : r6 = 0
      · replace h := it_t c7 h
        exact ag_tr a5 (bl85 hk10 h)
      · replace h := it_f c7 h
        by_cases c8 : y2 = 47
        · replace h := it_t c8 h
          by_cases c9 : r6 = 0
          · cases it_t c9 h
          replace h := it_f c9 h
          exact ag_tr a5 (bl85 hk10 h)
        · replace h := it_f c8 h
          by_cases c10 : r6 = 0
          · cases it_t c10 h
          replace h := it_f c10 h
          exact ag_tr a5 (bl85 hk10 h)
  have bl10 : ∀ (fu : Nat), ∀ {y1 : Int32} {y2 : Int32} {C : Mm} (_ : fX11_product_h10 n z fu y1 y2 C = some (r0, C0)), ag fChs C C0 := by
    intro fu
    induction fu with
    | zero =>
      intro y1 y2 C h
      rw [fX11_product_h10.eq_1] at h
      cases h
    | succ fu ih =>
      intro y1 y2 C h
      rw [fX11_product_h10.eq_2] at h
      by_cases c11 : 0 ≤ (C.1 72 13)
      · replace h := it_t c11 h
        rw [← pr_2 h]
        exact ag_rf
      · replace h := it_f c11 h
        by_cases c12 : y2 = 42
        · replace h := it_t c12 h
          exact ag_tr ag_rf (bl35 ih h)
        · replace h := it_f c12 h
          by_cases c13 : y2 = 47
          · replace h := it_t c13 h
            exact ag_tr ag_rf (bl35 ih h)
          · replace h := it_f c13 h
            by_cases c14 : y2 = 37
            · replace h := it_t c14 h
              exact ag_tr ag_rf (bl35 ih h)
            · replace h := it_f c14 h
              rw [← pr_2 h]
              exact ag_rf
  unfold fX11_product at h
  obtain ⟨r19, C20, q15, h⟩ := bp_x h
  have a16 : ag fChs C C20 := ag_tr ag_rf (hz q15)
  obtain ⟨r23, q17, h⟩ := bn_x h
  exact ag_tr a16 (bl10 _ h)
theorem gh_X11_sums {n : Nat} {z : Mm → Option (Int32 × Mm)} (hz : ∀ {C : Mm} {r0 : Int32} {C0 : Mm} (_ : z C = some (r0, C0)), ag fChs C C0) {C : Mm} {r0 : Int32} {C0 : Mm} (h : fX11_sums n z C = some (r0, C0)) : ag fChs C C0 := by
  have bl73 : ∀ {k5 : Int32 → Mm → Option (Int32 × Mm)} (hk5 : ∀ {y1 : Int32} {C : Mm} (_ : k5 y1 C = some (r0, C0)), ag fChs C C0), ∀ {s0 : Int32} {C : Mm} (_ : fX11_sums_b73 n z k5 s0 C = some (r0, C0)), ag fChs C C0 := by
    intro k5 hk5 s0 C h
    unfold fX11_sums_b73 at h
    exact ag_tr ag_rf (hk5 h)
  have bl44 : ∀ {k5 : Int32 → Mm → Option (Int32 × Mm)} (hk5 : ∀ {y1 : Int32} {C : Mm} (_ : k5 y1 C = some (r0, C0)), ag fChs C C0), ∀ {y1 : Int32} {s0 : Int32} {C : Mm} (_ : fX11_sums_b44 n z k5 y1 s0 C = some (r0, C0)), ag fChs C C0 := by
    intro k5 hk5 y1 s0 C h
    unfold fX11_sums_b44 at h
    obtain ⟨C1, e1, h⟩ := lt_z h
    have a2 : ag fChs C C1 := ag_tr ag_rf (by rw [e1]; exact ag_wrI (by unfold fChs; omega))
    obtain ⟨r3, C4, q3, h⟩ := bp_x h
    have a4 : ag fChs C C4 := ag_tr a2 (gh_X11_product hz q3)
    by_cases c5 : s0 = 0
    · replace h := it_t c5 h
      exact ag_tr a4 (bl73 hk5 h)
    · replace h := it_f c5 h
      exact ag_tr a4 (bl73 hk5 h)
  have bl30 : ∀ {k5 : Int32 → Mm → Option (Int32 × Mm)} (hk5 : ∀ {y1 : Int32} {C : Mm} (_ : k5 y1 C = some (r0, C0)), ag fChs C C0), ∀ {y1 : Int32} {C : Mm} (_ : fX11_sums_b30 n z k5 y1 C = some (r0, C0)), ag fChs C C0 := by
    intro k5 hk5 y1 C h
    unfold fX11_sums_b30 at h
    obtain ⟨r8, q6, h⟩ := bn_x h
    by_cases c7 : r8 = 43
    · replace h := it_t c7 h
      exact ag_tr ag_rf (bl44 hk5 h)
    · replace h := it_f c7 h
      exact ag_tr ag_rf (bl44 hk5 h)
  have bl5 : ∀ (fu : Nat), ∀ {y1 : Int32} {C : Mm} (_ : fX11_sums_h5 n z fu y1 C = some (r0, C0)), ag fChs C C0 := by
    intro fu
    induction fu with
    | zero =>
      intro y1 C h
      rw [fX11_sums_h5.eq_1] at h
      cases h
    | succ fu ih =>
      intro y1 C h
      rw [fX11_sums_h5.eq_2] at h
      by_cases c8 : 0 ≤ (C.1 72 13)
      · replace h := it_t c8 h
        rw [← pr_2 h]
        exact ag_rf
      · replace h := it_f c8 h
        obtain ⟨r13, q9, h⟩ := bn_x h
        by_cases c10 : r13 = 43
        · replace h := it_t c10 h
          exact ag_tr ag_rf (bl30 ih h)
        · replace h := it_f c10 h
          obtain ⟨r17, q11, h⟩ := bn_x h
          by_cases c12 : r17 = 45
          · replace h := it_t c12 h
            exact ag_tr ag_rf (bl30 ih h)
          · replace h := it_f c12 h
            rw [← pr_2 h]
            exact ag_rf
  unfold fX11_sums at h
  obtain ⟨r21, C22, q13, h⟩ := bp_x h
  have a14 : ag fChs C C22 := ag_tr ag_rf (gh_X11_product hz q13)
  exact ag_tr a14 (bl5 _ h)
theorem gh_X11_compared {n : Nat} {z : Mm → Option (Int32 × Mm)} (hz : ∀ {C : Mm} {r0 : Int32} {C0 : Mm} (_ : z C = some (r0, C0)), ag fChs C C0) {C : Mm} {r0 : Int32} {C0 : Mm} (h : fX11_compared n z C = some (r0, C0)) : ag fChs C C0 := by
  have bl37 : ∀ {y1 : Int32} {y2 : Int32} {C : Mm} (_ : fX11_compared_b37 n z y1 y2 C = some (r0, C0)), ag fChs C C0 := by
    intro y1 y2 C h
    unfold fX11_compared_b37 at h
    obtain ⟨C1, e1, h⟩ := lt_z h
    have a2 : ag fChs C C1 := ag_tr ag_rf (by rw [e1]; exact ag_wrI (by unfold fChs; omega))
    obtain ⟨r3, C4, q3, h⟩ := bp_x h
    have a4 : ag fChs C C4 := ag_tr a2 (gh_X11_sums hz q3)
    by_cases c5 : y2 = 60
    · replace h := it_t c5 h
      by_cases c6 : r3 ≤ y1
      · replace h := it_t c6 h
        rw [← pr_2 h]
        exact a4
      · replace h := it_f c6 h
        rw [← pr_2 h]
        exact a4
    · replace h := it_f c5 h
      by_cases c7 : y2 = 61
      · replace h := it_t c7 h
        by_cases c8 : y1 = r3
        · replace h := it_t c8 h
          rw [← pr_2 h]
          exact a4
        · replace h := it_f c8 h
          rw [← pr_2 h]
          exact a4
      · replace h := it_f c7 h
        by_cases c9 : y1 ≤ r3
        · replace h := it_t c9 h
          rw [← pr_2 h]
          exact a4
        · replace h := it_f c9 h
          rw [← pr_2 h]
          exact a4
  unfold fX11_compared at h
  obtain ⟨r12, C13, q10, h⟩ := bp_x h
  have a11 : ag fChs C C13 := ag_tr ag_rf (gh_X11_sums hz q10)
  obtain ⟨r16, q12, h⟩ := bn_x h
  by_cases c13 : 0 ≤ (C13.1 72 13)
  · replace h := it_t c13 h
    rw [← pr_2 h]
    exact a11
  · replace h := it_f c13 h
    by_cases c14 : r16 = 60
    · replace h := it_t c14 h
      exact ag_tr a11 (bl37 h)
    · replace h := it_f c14 h
      by_cases c15 : r16 = 61
      · replace h := it_t c15 h
        exact ag_tr a11 (bl37 h)
      · replace h := it_f c15 h
        by_cases c16 : r16 = 62
        · replace h := it_t c16 h
          exact ag_tr a11 (bl37 h)
        · replace h := it_f c16 h
          rw [← pr_2 h]
          exact a11
theorem gh_X11_both {n : Nat} {z : Mm → Option (Int32 × Mm)} (hz : ∀ {C : Mm} {r0 : Int32} {C0 : Mm} (_ : z C = some (r0, C0)), ag fChs C C0) {C : Mm} {r0 : Int32} {C0 : Mm} (h : fX11_both n z C = some (r0, C0)) : ag fChs C C0 := by
  have bl32 : ∀ {k5 : Int32 → Mm → Option (Int32 × Mm)} (hk5 : ∀ {y1 : Int32} {C : Mm} (_ : k5 y1 C = some (r0, C0)), ag fChs C C0), ∀ {s0 : Int32} {C : Mm} (_ : fX11_both_b32 n z k5 s0 C = some (r0, C0)), ag fChs C C0 := by
    intro k5 hk5 s0 C h
    unfold fX11_both_b32 at h
    exact ag_tr ag_rf (hk5 h)
  have bl31 : ∀ {k5 : Int32 → Mm → Option (Int32 × Mm)} (hk5 : ∀ {y1 : Int32} {C : Mm} (_ : k5 y1 C = some (r0, C0)), ag fChs C C0), ∀ {C : Mm} (_ : fX11_both_b31 n z k5 C = some (r0, C0)), ag fChs C C0 := by
    intro k5 hk5 C h
    unfold fX11_both_b31 at h
    exact ag_tr ag_rf (bl32 hk5 h)
  have bl5 : ∀ (fu : Nat), ∀ {y1 : Int32} {C : Mm} (_ : fX11_both_h5 n z fu y1 C = some (r0, C0)), ag fChs C C0 := by
    intro fu
    induction fu with
    | zero =>
      intro y1 C h
      rw [fX11_both_h5.eq_1] at h
      cases h
    | succ fu ih =>
      intro y1 C h
      rw [fX11_both_h5.eq_2] at h
      obtain ⟨r2, C3, q1, h⟩ := bp_x h
      have a2 : ag fChs C C3 := ag_tr ag_rf (gh_X11_takes q1)
      by_cases c3 : r2 = 0
      · replace h := it_t c3 h
        rw [← pr_2 h]
        exact a2
      · replace h := it_f c3 h
        obtain ⟨r7, C8, q4, h⟩ := bp_x h
        have a5 : ag fChs C C8 := ag_tr a2 (gh_X11_compared hz q4)
        by_cases c6 : y1 = 0
        · replace h := it_t c6 h
          exact ag_tr a5 (bl31 ih h)
        · replace h := it_f c6 h
          by_cases c7 : r7 = 0
          · replace h := it_t c7 h
            exact ag_tr a5 (bl31 ih h)
          · replace h := it_f c7 h
            exact ag_tr a5 (bl32 ih h)
  unfold fX11_both at h
  obtain ⟨r13, C14, q8, h⟩ := bp_x h
  have a9 : ag fChs C C14 := ag_tr ag_rf (gh_X11_compared hz q8)
  exact ag_tr a9 (bl5 _ h)
theorem gh_X11_either {n : Nat} {z : Mm → Option (Int32 × Mm)} (hz : ∀ {C : Mm} {r0 : Int32} {C0 : Mm} (_ : z C = some (r0, C0)), ag fChs C C0) {C : Mm} {r0 : Int32} {C0 : Mm} (h : fX11_either n z C = some (r0, C0)) : ag fChs C C0 := by
  have bl32 : ∀ {k5 : Int32 → Mm → Option (Int32 × Mm)} (hk5 : ∀ {y1 : Int32} {C : Mm} (_ : k5 y1 C = some (r0, C0)), ag fChs C C0), ∀ {s0 : Int32} {C : Mm} (_ : fX11_either_b32 n z k5 s0 C = some (r0, C0)), ag fChs C C0 := by
    intro k5 hk5 s0 C h
    unfold fX11_either_b32 at h
    exact ag_tr ag_rf (hk5 h)
  have bl27 : ∀ {k5 : Int32 → Mm → Option (Int32 × Mm)} (hk5 : ∀ {y1 : Int32} {C : Mm} (_ : k5 y1 C = some (r0, C0)), ag fChs C C0), ∀ {C : Mm} (_ : fX11_either_b27 n z k5 C = some (r0, C0)), ag fChs C C0 := by
    intro k5 hk5 C h
    unfold fX11_either_b27 at h
    exact ag_tr ag_rf (bl32 hk5 h)
  have bl5 : ∀ (fu : Nat), ∀ {y1 : Int32} {C : Mm} (_ : fX11_either_h5 n z fu y1 C = some (r0, C0)), ag fChs C C0 := by
    intro fu
    induction fu with
    | zero =>
      intro y1 C h
      rw [fX11_either_h5.eq_1] at h
      cases h
    | succ fu ih =>
      intro y1 C h
      rw [fX11_either_h5.eq_2] at h
      obtain ⟨r2, C3, q1, h⟩ := bp_x h
      have a2 : ag fChs C C3 := ag_tr ag_rf (gh_X11_takes q1)
      by_cases c3 : r2 = 0
      · replace h := it_t c3 h
        rw [← pr_2 h]
        exact a2
      · replace h := it_f c3 h
        obtain ⟨r7, C8, q4, h⟩ := bp_x h
        have a5 : ag fChs C C8 := ag_tr a2 (gh_X11_both hz q4)
        by_cases c6 : y1 = 0
        · replace h := it_t c6 h
          by_cases c7 : r7 = 0
          · replace h := it_t c7 h
            exact ag_tr a5 (bl32 ih h)
          · replace h := it_f c7 h
            exact ag_tr a5 (bl27 ih h)
        · replace h := it_f c6 h
          exact ag_tr a5 (bl27 ih h)
  unfold fX11_either at h
  obtain ⟨r13, C14, q8, h⟩ := bp_x h
  have a9 : ag fChs C C14 := ag_tr ag_rf (gh_X11_both hz q8)
  exact ag_tr a9 (bl5 _ h)
theorem gh_X11_one_w {n : Nat} {z : Mm → Option (Int32 × Mm)} (hz : ∀ {C : Mm} {r0 : Int32} {C0 : Mm} (_ : z C = some (r0, C0)), ag fChs C C0) {C : Mm} {r0 : Int32} {C0 : Mm} (h : fX11_one_w n z C = some (r0, C0)) : ag fChs C C0 := by
  have bl229 : ∀ {y3 : Int32} {y4 : Int32} {C : Mm} (_ : fX11_one_b229 n z y3 y4 C = some (r0, C0)), ag fChs C C0 := by
    intro y3 y4 C h
    unfold fX11_one_b229 at h
    by_cases c1 : y4 = 0
    · replace h := it_t c1 h
      obtain ⟨r3, C4, q2, h⟩ := bp_x h
      have a3 : ag fChs C C4 := ag_tr ag_rf (gh_X11_wrong q2)
      rw [← pr_2 h]
      exact a3
    · replace h := it_f c1 h
      rw [← pr_2 h]
      exact ag_rf
  have bl176 : ∀ (fu : Nat), ∀ {y3 : Int32} {y4 : Int32} {C : Mm} (_ : fX11_one_h176 n z fu y3 y4 C = some (r0, C0)), ag fChs C C0 := by
    intro fu
    induction fu with
    | zero =>
      intro y3 y4 C h
      rw [fX11_one_h176.eq_1] at h
      cases h
    | succ fu ih =>
      intro y3 y4 C h
      rw [fX11_one_h176.eq_2] at h
      by_cases c4 : 4 ≤ y4
      · replace h := it_t c4 h
        exact ag_tr ag_rf (bl229 h)
      · replace h := it_f c4 h
        obtain ⟨r8, q5, h⟩ := bn_x h
        by_cases c6 : r8 < 48
        · replace h := it_t c6 h
          exact ag_tr ag_rf (bl229 h)
        · replace h := it_f c6 h
          obtain ⟨r12, q7, h⟩ := bn_x h
          by_cases c8 : 57 < r12
          · replace h := it_t c8 h
            exact ag_tr ag_rf (bl229 h)
          · replace h := it_f c8 h
            obtain ⟨r16, q9, h⟩ := bn_x h
            obtain ⟨x18, e10, h⟩ := lt_z h
            obtain ⟨x19, e11, h⟩ := lt_z h
            obtain ⟨C20, e12, h⟩ := lt_z h
            have a13 : ag fChs C C20 := ag_tr ag_rf (by rw [e12]; exact ag_wrI (by unfold fChs; omega))
            exact ag_tr a13 (ih h)
  have bl104 : ∀ {y1 : Int32} {y2 : Int32} {C : Mm} (_ : fX11_one_b104 n z y1 y2 C = some (r0, C0)), ag fChs C C0 := by
    intro y1 y2 C h
    unfold fX11_one_b104 at h
    obtain ⟨C21, e14, h⟩ := lt_z h
    have a15 : ag fChs C C21 := ag_tr ag_rf (by rw [e14]; exact ag_wrI (by unfold fChs; omega))
    by_cases c16 : y1 = 40
    · replace h := it_t c16 h
      rw [← pr_2 h]
      exact a15
    · replace h := it_f c16 h
      by_cases c17 : y1 = 45
      · replace h := it_t c17 h
        rw [← pr_2 h]
        exact a15
      · replace h := it_f c17 h
        by_cases c18 : y2 = 0
        · replace h := it_t c18 h
          rw [← pr_2 h]
          exact a15
        · replace h := it_f c18 h
          rw [← pr_2 h]
          exact a15
  have bl83 : ∀ {y1 : Int32} {s0 : Int32} {C : Mm} (_ : fX11_one_b83 n z y1 s0 C = some (r0, C0)), ag fChs C C0 := by
    intro y1 s0 C h
    unfold fX11_one_b83 at h
    by_cases c19 : y1 = 40
    · replace h := it_t c19 h
      obtain ⟨r27, C28, q20, h⟩ := bp_x h
      have a21 : ag fChs C C28 := ag_tr ag_rf (gh_X11_takes q20)
      by_cases c22 : r27 = 0
      · replace h := it_t c22 h
        obtain ⟨r32, C33, q23, h⟩ := bp_x h
        have a24 : ag fChs C C33 := ag_tr a21 (gh_X11_wrong q23)
        rw [← pr_2 h]
        exact a24
      · replace h := it_f c22 h
        exact ag_tr a21 (bl104 h)
    · replace h := it_f c19 h
      exact ag_tr ag_rf (bl104 h)
  have bl32 : ∀ {y1 : Int32} {C : Mm} (_ : fX11_one_b32 n z y1 C = some (r0, C0)), ag fChs C C0 := by
    intro y1 C h
    unfold fX11_one_b32 at h
    by_cases c25 : (C.1 72 14) = 6
    · replace h := it_t c25 h
      obtain ⟨r48, C49, q26, h⟩ := bp_x h
      have a27 : ag fChs C C49 := ag_tr ag_rf (gh_X11_wrong q26)
      rw [← pr_2 h]
      exact a27
    · replace h := it_f c25 h
      obtain ⟨C36, e28, h⟩ := lt_z h
      have a29 : ag fChs C C36 := ag_tr ag_rf (by rw [e28]; exact ag_wrI (by unfold fChs; omega))
      obtain ⟨C37, e30, h⟩ := lt_z h
      have a31 : ag fChs C C37 := ag_tr a29 (by rw [e30]; exact ag_wrI (by unfold fChs; omega))
      by_cases c32 : y1 = 40
      · replace h := it_t c32 h
        obtain ⟨r44, C45, q33, h⟩ := bp_x h
        have a34 : ag fChs C C45 := ag_tr a31 (gh_X11_either hz q33)
        exact ag_tr a34 (bl83 h)
      · replace h := it_f c32 h
        obtain ⟨r40, C41, q35, h⟩ := bp_x h
        have a36 : ag fChs C C41 := ag_tr a31 (hz q35)
        exact ag_tr a36 (bl83 h)
  unfold fX11_one_w at h
  by_cases c37 : (C.1 72 13) < 0
  · replace h := it_t c37 h
    obtain ⟨r53, q38, h⟩ := bn_x h
    by_cases c39 : r53 = 33
    · replace h := it_t c39 h
      exact ag_tr ag_rf (bl32 h)
    · replace h := it_f c39 h
      by_cases c40 : r53 = 45
      · replace h := it_t c40 h
        exact ag_tr ag_rf (bl32 h)
      · replace h := it_f c40 h
        by_cases c41 : r53 = 40
        · replace h := it_t c41 h
          exact ag_tr ag_rf (bl32 h)
        · replace h := it_f c41 h
          obtain ⟨x60, e42, h⟩ := lt_z h
          by_cases c43 : x60 < 0
          · replace h := it_t c43 h
            exact ag_tr ag_rf (bl176 _ h)
          · replace h := it_f c43 h
            obtain ⟨C62, e44, h⟩ := lt_z h
            have a45 : ag fChs C C62 := ag_tr ag_rf (by rw [e44]; exact ag_wrI (by unfold fChs; omega))
            by_cases c46 : x60 < (0 : Int32) ∨ 8 ≤ Int32.toNatClampNeg x60
            · cases it_t c46 h
            replace h := it_f c46 h
            rw [← pr_2 h]
            exact a45
  · replace h := it_f c37 h
    rw [← pr_2 h]
    exact ag_rf
theorem gh_X11_one {n : Nat} : ∀ (d : Nat), ∀ {C : Mm} {r0 : Int32} {C0 : Mm} (_ : fX11_one n d C = some (r0, C0)), ag fChs C C0 := by
  intro d
  induction d with
  | zero =>
    intro C r0 C0 h
    rw [fX11_one.eq_1] at h
    cases h
  | succ d ih =>
    intro C r0 C0 h
    rw [fX11_one.eq_2] at h
    exact gh_X11_one_w ih h
theorem gh_X11_workOut {n : Nat} {p1 : Int32} {p2 : Int32} {C : Mm} {r0 : Int32} {C0 : Mm} (h : fX11_workOut n p1 p2 C = some (r0, C0)) : ag fChs C C0 := by
  have bl96 : ∀ {k33 : Int32 → Int32 → Int32 → Mm → Option (Int32 × Mm)} (hk33 : ∀ {y3 : Int32} {y4 : Int32} {y5 : Int32} {C : Mm} (_ : k33 y3 y4 y5 C = some (r0, C0)), ag fChs C C0), ∀ {y3 : Int32} {y4 : Int32} {C : Mm} (_ : fX11_workOut_b96 n k33 y3 y4 C = some (r0, C0)), ag fChs C C0 := by
    intro k33 hk33 y3 y4 C h
    unfold fX11_workOut_b96 at h
    obtain ⟨r2, C3, q1, h⟩ := bp_x h
    have a2 : ag fChs C C3 := ag_tr ag_rf (gh_X11_takes q1)
    exact ag_tr a2 (hk33 h)
  have bl74 : ∀ {k33 : Int32 → Int32 → Int32 → Mm → Option (Int32 × Mm)} (hk33 : ∀ {y3 : Int32} {y4 : Int32} {y5 : Int32} {C : Mm} (_ : k33 y3 y4 y5 C = some (r0, C0)), ag fChs C C0), ∀ {y3 : Int32} {y4 : Int32} {y6 : Int32} {y7 : Int32} {C : Mm} (_ : fX11_workOut_b74 n k33 y3 y4 y6 y7 C = some (r0, C0)), ag fChs C C0 := by
    intro k33 hk33 y3 y4 y6 y7 C h
    unfold fX11_workOut_b74 at h
    by_cases c3 : 0 ≤ (C.1 72 13)
    · replace h := it_t c3 h
      exact ag_tr ag_rf (bl96 hk33 h)
    · replace h := it_f c3 h
      by_cases c4 : y7 = 0
      · replace h := it_t c4 h
        exact ag_tr ag_rf (bl96 hk33 h)
      · replace h := it_f c4 h
        by_cases c5 : y3 = 0
        · replace h := it_t c5 h
          exact ag_tr ag_rf (bl96 hk33 h)
        · replace h := it_f c5 h
          exact ag_tr ag_rf (bl96 hk33 h)
  have bl66 : ∀ {k33 : Int32 → Int32 → Int32 → Mm → Option (Int32 × Mm)} (hk33 : ∀ {y3 : Int32} {y4 : Int32} {y5 : Int32} {C : Mm} (_ : k33 y3 y4 y5 C = some (r0, C0)), ag fChs C C0), ∀ {y3 : Int32} {y4 : Int32} {s0 : Int32} {C : Mm} (_ : fX11_workOut_b66 n k33 y3 y4 s0 C = some (r0, C0)), ag fChs C C0 := by
    intro k33 hk33 y3 y4 s0 C h
    unfold fX11_workOut_b66 at h
    obtain ⟨r9, C10, q6, h⟩ := bp_x h
    have a7 : ag fChs C C10 := ag_tr ag_rf (gh_X11_either (gh_X11_one 12) q6)
    exact ag_tr a7 (bl74 hk33 h)
  have bl33 : ∀ (fu : Nat), ∀ {y3 : Int32} {y4 : Int32} {y5 : Int32} {C : Mm} (_ : fX11_workOut_h33 n fu y3 y4 y5 C = some (r0, C0)), ag fChs C C0 := by
    intro fu
    induction fu with
    | zero =>
      intro y3 y4 y5 C h
      rw [fX11_workOut_h33.eq_1] at h
      cases h
    | succ fu ih =>
      intro y3 y4 y5 C h
      rw [fX11_workOut_h33.eq_2] at h
      by_cases c8 : y5 = 0
      · replace h := it_t c8 h
        by_cases c9 : 0 ≤ (C.1 72 13)
        · replace h := it_t c9 h
          rw [← pr_2 h]
          exact ag_rf
        · replace h := it_f c9 h
          by_cases c10 : (C.1 72 12) ≤ (C.1 72 11)
          · replace h := it_t c10 h
            rw [← pr_2 h]
            exact ag_rf
          · replace h := it_f c10 h
            obtain ⟨r16, C17, q11, h⟩ := bp_x h
            have a12 : ag fChs C C17 := ag_tr ag_rf (gh_X11_wrong q11)
            rw [← pr_2 h]
            exact a12
      · replace h := it_f c8 h
        obtain ⟨r20, C21, q13, h⟩ := bp_x h
        have a14 : ag fChs C C21 := ag_tr ag_rf (gh_X11_either (gh_X11_one 12) q13)
        obtain ⟨r24, C25, q15, h⟩ := bp_x h
        have a16 : ag fChs C C25 := ag_tr a14 (gh_X11_takes q15)
        by_cases c17 : r24 = 0
        · replace h := it_t c17 h
          exact ag_tr a16 (bl74 ih h)
        · replace h := it_f c17 h
          by_cases c18 : r20 = 0
          · replace h := it_t c18 h
            exact ag_tr a16 (bl66 ih h)
          · replace h := it_f c18 h
            exact ag_tr a16 (bl66 ih h)
  unfold fX11_workOut at h
  obtain ⟨C29, e19, h⟩ := lt_z h
  have a20 : ag fChs C C29 := ag_tr ag_rf (by rw [e19]; exact ag_wrI (by unfold fChs; omega))
  obtain ⟨C30, e21, h⟩ := lt_z h
  have a22 : ag fChs C C30 := ag_tr a20 (by rw [e21]; exact ag_wrI (by unfold fChs; omega))
  obtain ⟨C31, e23, h⟩ := lt_z h
  have a24 : ag fChs C C31 := ag_tr a22 (by rw [e23]; exact ag_wrI (by unfold fChs; omega))
  obtain ⟨C32, e25, h⟩ := lt_z h
  have a26 : ag fChs C C32 := ag_tr a24 (by rw [e25]; exact ag_wrI (by unfold fChs; omega))
  obtain ⟨C33, e27, h⟩ := lt_z h
  have a28 : ag fChs C C33 := ag_tr a26 (by rw [e27]; exact ag_wrI (by unfold fChs; omega))
  exact ag_tr a28 (bl33 _ h)
theorem gh_X11_acts {n : Nat} {p1 : Int32} {p2 : Int32} {p3 : Int32} {p4 : Int32} {C : Mm} {C0 : Mm} (h : fX11_acts n p1 p2 p3 p4 C = some C0) : ag fChs C C0 := by
  have bl72 : ∀ {y3 : Int32} {y4 : Int32} {y5 : Int32} {s0 : Int32} {s1 : Int32} {C : Mm} (_ : fX11_acts_b72 n y3 y4 y5 s0 s1 C = some C0), ag fChs C C0 := by
    intro y3 y4 y5 s0 s1 C h
    unfold fX11_acts_b72 at h
    by_cases c1 : s1 < (0 : Int32) ∨ 200 ≤ Int32.toNatClampNeg s1
    · cases it_t c1 h
    replace h := it_f c1 h
    obtain ⟨C2, e2, h⟩ := lt_z h
    have a3 : ag fChs C C2 := ag_tr ag_rf (by rw [e2]; exact ag_wrI (by unfold fChs; omega))
    obtain ⟨r4, q4, h⟩ := bn_x h
    by_cases c5 : y5 < (0 : Int32) ∨ 200 ≤ Int32.toNatClampNeg y5
    · cases it_t c5 h
    replace h := it_f c5 h
    obtain ⟨C7, e6, h⟩ := lt_z h
    have a7 : ag fChs C C7 := ag_tr a3 (by rw [e6]; exact ag_wrI (by unfold fChs; omega))
    by_cases c8 : y5 < (0 : Int32) ∨ 200 ≤ Int32.toNatClampNeg y5
    · cases it_t c8 h
    replace h := it_f c8 h
    obtain ⟨C9, e9, h⟩ := lt_z h
    have a10 : ag fChs C C9 := ag_tr a7 (by rw [e9]; exact ag_wrI (by unfold fChs; omega))
    by_cases c11 : y5 < (0 : Int32) ∨ 200 ≤ Int32.toNatClampNeg y5
    · cases it_t c11 h
    replace h := it_f c11 h
    obtain ⟨C11, e12, h⟩ := lt_z h
    have a13 : ag fChs C C11 := ag_tr a10 (by rw [e12]; exact ag_wrI (by unfold fChs; omega))
    obtain ⟨C12, e14, h⟩ := lt_z h
    have a15 : ag fChs C C12 := ag_tr a13 (by rw [e14]; exact ag_wrI (by unfold fChs; omega))
    rw [← Option.some.inj h]
    exact a15
  have bl71 : ∀ {y3 : Int32} {y4 : Int32} {y5 : Int32} {s0 : Int32} {s1 : Int32} {s2 : Int32} {C : Mm} (_ : fX11_acts_b71 n y3 y4 y5 s0 s1 s2 C = some C0), ag fChs C C0 := by
    intro y3 y4 y5 s0 s1 s2 C h
    unfold fX11_acts_b71 at h
    exact ag_tr ag_rf (bl72 h)
  have bl67 : ∀ {y2 : Int32} {y3 : Int32} {y4 : Int32} {y5 : Int32} {s0 : Int32} {s1 : Int32} {C : Mm} (_ : fX11_acts_b67 n y2 y3 y4 y5 s0 s1 C = some C0), ag fChs C C0 := by
    intro y2 y3 y4 y5 s0 s1 C h
    unfold fX11_acts_b67 at h
    obtain ⟨r14, q16, h⟩ := bn_x h
    exact ag_tr ag_rf (bl71 h)
  unfold fX11_acts at h
  obtain ⟨x16, e17, h⟩ := lt_z h
  by_cases c18 : ((5 * (C.1 72 30)) + p1) < (0 : Int32) ∨ 30 ≤ Int32.toNatClampNeg ((5 * (C.1 72 30)) + p1)
  · cases it_t c18 h
  replace h := it_f c18 h
  obtain ⟨x18, e19, h⟩ := lt_z h
  by_cases c20 : x16 < (0 : Int32) ∨ 200 ≤ Int32.toNatClampNeg x16
  · cases it_t c20 h
  replace h := it_f c20 h
  obtain ⟨C20, e21, h⟩ := lt_z h
  have a22 : ag fChs C C20 := ag_tr ag_rf (by rw [e21]; exact ag_wrI (by unfold fChs; omega))
  by_cases c23 : x16 < (0 : Int32) ∨ 200 ≤ Int32.toNatClampNeg x16
  · cases it_t c23 h
  replace h := it_f c23 h
  obtain ⟨C22, e24, h⟩ := lt_z h
  have a25 : ag fChs C C22 := ag_tr a22 (by rw [e24]; exact ag_wrI (by unfold fChs; omega))
  by_cases c26 : p1 = 0
  · replace h := it_t c26 h
    exact ag_tr a25 (bl72 h)
  · replace h := it_f c26 h
    by_cases c27 : p1 = 2
    · replace h := it_t c27 h
      by_cases c28 : p2 = 0
      · replace h := it_t c28 h
        exact ag_tr a25 (bl71 h)
      · replace h := it_f c28 h
        exact ag_tr a25 (bl67 h)
    · replace h := it_f c27 h
      exact ag_tr a25 (bl67 h)
theorem gh_X11_holds {n : Nat} {C : Mm} {C0 : Mm} (h : fX11_holds n C = some C0) : ag fChs C C0 := by
  unfold fX11_holds at h
  obtain ⟨x1, e1, h⟩ := lt_z h
  obtain ⟨r3, q2, h⟩ := bn_x h
  obtain ⟨C5, e3, h⟩ := lt_z h
  have a4 : ag fChs C C5 := ag_tr ag_rf (by rw [e3]; exact ag_wrI (by unfold fChs; omega))
  obtain ⟨C6, e5, h⟩ := lt_z h
  have a6 : ag fChs C C6 := ag_tr a4 (by rw [e5]; exact ag_wrI (by unfold fChs; omega))
  obtain ⟨C8, q7, h⟩ := bn_x h
  have a8 : ag fChs C C8 := ag_tr a6 (gh_X11_acts q7)
  rw [← Option.some.inj h]
  exact a8
theorem gh_X11_lookAndAdd {n : Nat} {p1 : Int32} {p2 : Int32} {p3 : Int32} {p4 : Int32} {p5 : Int32} {C : Mm} {r0 : Int32} {C0 : Mm} (h : fX11_lookAndAdd n p1 p2 p3 p4 p5 C = some (r0, C0)) : ag fChs C C0 := by
  have bl35 : ∀ {y3 : Int32} {y4 : Int32} {y5 : Int32} {y6 : Int32} {s0 : Int32} {s1 : Int32} {s2 : Int32} {C : Mm} (_ : fX11_lookAndAdd_b35 n y3 y4 y5 y6 s0 s1 s2 C = some (r0, C0)), ag fChs C C0 := by
    intro y3 y4 y5 y6 s0 s1 s2 C h
    unfold fX11_lookAndAdd_b35 at h
    obtain ⟨r2, q1, h⟩ := bn_x h
    obtain ⟨r5, q2, h⟩ := bn_x h
    obtain ⟨C8, q3, h⟩ := bn_x h
    have a4 : ag fChs C C8 := ag_tr ag_rf (gh_X11_acts q3)
    by_cases c5 : y4 = 0
    · replace h := it_t c5 h
      obtain ⟨C10, e6, h⟩ := lt_z h
      have a7 : ag fChs C C10 := ag_tr a4 (by rw [e6]; exact ag_wrI (by unfold fChs; omega))
      obtain ⟨C12, q8, h⟩ := bn_x h
      have a9 : ag fChs C C12 := ag_tr a7 (gh_X11_acts q8)
      rw [← pr_2 h]
      exact a9
    · replace h := it_f c5 h
      rw [← pr_2 h]
      exact a4
  have bl21 : ∀ {y1 : Int32} {y2 : Int32} {y3 : Int32} {y4 : Int32} {y5 : Int32} {y6 : Int32} {C : Mm} (_ : fX11_lookAndAdd_b21 n y1 y2 y3 y4 y5 y6 C = some (r0, C0)), ag fChs C C0 := by
    intro y1 y2 y3 y4 y5 y6 C h
    unfold fX11_lookAndAdd_b21 at h
    by_cases c10 : y2 ≤ y1
    · replace h := it_t c10 h
      exact ag_tr ag_rf (bl35 h)
    · replace h := it_f c10 h
      exact ag_tr ag_rf (bl35 h)
  unfold fX11_lookAndAdd at h
  obtain ⟨r15, q11, h⟩ := bn_x h
  obtain ⟨x17, e12, h⟩ := lt_z h
  by_cases c13 : p4 = 0
  · replace h := it_t c13 h
    exact ag_tr ag_rf (bl21 h)
  · replace h := it_f c13 h
    obtain ⟨C19, e14, h⟩ := lt_z h
    have a15 : ag fChs C C19 := ag_tr ag_rf (by rw [e14]; exact ag_wrI (by unfold fChs; omega))
    exact ag_tr a15 (bl21 h)
theorem gh_X11_goLeft {n : Nat} {p1 : Int32} {p2 : Int32} {C : Mm} {C0 : Mm} (h : fX11_goLeft n p1 p2 C = some C0) : ag fChs C C0 := by
  have bl70 : ∀ {k10 : Int32 → Int32 → Int32 → Int32 → Mm → Option Mm} (hk10 : ∀ {y1 : Int32} {y2 : Int32} {y3 : Int32} {y4 : Int32} {C : Mm} (_ : k10 y1 y2 y3 y4 C = some C0), ag fChs C C0) {k23 : Int32 → Int32 → Int32 → Int32 → Int32 → Mm → Option Mm} (hk23 : ∀ {y1 : Int32} {y2 : Int32} {y3 : Int32} {y4 : Int32} {y5 : Int32} {C : Mm} (_ : k23 y1 y2 y3 y4 y5 C = some C0), ag fChs C C0), ∀ {y1 : Int32} {y2 : Int32} {y3 : Int32} {y4 : Int32} {y5 : Int32} {C : Mm} (_ : fX11_goLeft_b70 n k10 k23 y1 y2 y3 y4 y5 C = some C0), ag fChs C C0 := by
    intro k10 hk10 k23 hk23 y1 y2 y3 y4 y5 C h
    unfold fX11_goLeft_b70 at h
    obtain ⟨x1, e1, h⟩ := lt_z h
    exact ag_tr ag_rf (hk23 h)
  have bl23 : ∀ {k10 : Int32 → Int32 → Int32 → Int32 → Mm → Option Mm} (hk10 : ∀ {y1 : Int32} {y2 : Int32} {y3 : Int32} {y4 : Int32} {C : Mm} (_ : k10 y1 y2 y3 y4 C = some C0), ag fChs C C0) (fu : Nat), ∀ {y1 : Int32} {y2 : Int32} {y3 : Int32} {y4 : Int32} {y5 : Int32} {C : Mm} (_ : fX11_goLeft_h23 n k10 fu y1 y2 y3 y4 y5 C = some C0), ag fChs C C0 := by
    intro k10 hk10
    intro fu
    induction fu with
    | zero =>
      intro y1 y2 y3 y4 y5 C h
      rw [fX11_goLeft_h23.eq_1] at h
      cases h
    | succ fu ih =>
      intro y1 y2 y3 y4 y5 C h
      rw [fX11_goLeft_h23.eq_2] at h
      by_cases c2 : y5 < 0
      · replace h := it_t c2 h
        obtain ⟨x3, e3, h⟩ := lt_z h
        exact ag_tr ag_rf (hk10 h)
      · replace h := it_f c2 h
        obtain ⟨r5, q4, h⟩ := bn_x h
        by_cases c5 : r5 ≤ 0
        · replace h := it_t c5 h
          exact ag_tr ag_rf (bl70 hk10 ih h)
        · replace h := it_f c5 h
          obtain ⟨r9, q6, h⟩ := bn_x h
          by_cases c7 : r9 ≤ 0
          · replace h := it_t c7 h
            exact ag_tr ag_rf (bl70 hk10 ih h)
          · replace h := it_f c7 h
            obtain ⟨r13, q8, h⟩ := bn_x h
            obtain ⟨r16, q9, h⟩ := bn_x h
            obtain ⟨r19, C20, q10, h⟩ := bp_x h
            have a11 : ag fChs C C20 := ag_tr ag_rf (gh_X11_lookAndAdd q10)
            exact ag_tr a11 (bl70 hk10 ih h)
  have bl10 : ∀ (fu : Nat), ∀ {y1 : Int32} {y2 : Int32} {y3 : Int32} {y4 : Int32} {C : Mm} (_ : fX11_goLeft_h10 n fu y1 y2 y3 y4 C = some C0), ag fChs C C0 := by
    intro fu
    induction fu with
    | zero =>
      intro y1 y2 y3 y4 C h
      rw [fX11_goLeft_h10.eq_1] at h
      cases h
    | succ fu ih =>
      intro y1 y2 y3 y4 C h
      rw [fX11_goLeft_h10.eq_2] at h
      by_cases c12 : y4 < 0
      · replace h := it_t c12 h
        rw [← Option.some.inj h]
        exact ag_rf
      · replace h := it_f c12 h
        obtain ⟨r24, q13, h⟩ := bn_x h
        obtain ⟨x26, e14, h⟩ := lt_z h
        exact ag_tr ag_rf (bl23 ih _ h)
  unfold fX11_goLeft at h
  obtain ⟨r28, q15, h⟩ := bn_x h
  obtain ⟨x30, e16, h⟩ := lt_z h
  exact ag_tr ag_rf (bl10 _ h)
theorem gh_X11_goRight {n : Nat} {p1 : Int32} {p2 : Int32} {C : Mm} {C0 : Mm} (h : fX11_goRight n p1 p2 C = some C0) : ag fChs C C0 := by
  have bl98 : ∀ (fu : Nat), ∀ {y3 : Int32} {y4 : Int32} {C : Mm} (_ : fX11_goRight_h98 n fu y3 y4 C = some C0), ag fChs C C0 := by
    intro fu
    induction fu with
    | zero =>
      intro y3 y4 C h
      rw [fX11_goRight_h98.eq_1] at h
      cases h
    | succ fu ih =>
      intro y3 y4 C h
      rw [fX11_goRight_h98.eq_2] at h
      by_cases c1 : y3 ≤ y4
      · replace h := it_t c1 h
        rw [← Option.some.inj h]
        exact ag_rf
      · replace h := it_f c1 h
        by_cases c2 : y4 < (0 : Int32) ∨ 4 ≤ Int32.toNatClampNeg y4
        · cases it_t c2 h
        replace h := it_f c2 h
        obtain ⟨C3, e3, h⟩ := lt_z h
        have a4 : ag fChs C C3 := ag_tr ag_rf (by rw [e3]; exact ag_wrI (by unfold fChs; omega))
        by_cases c5 : y4 < (0 : Int32) ∨ 4 ≤ Int32.toNatClampNeg y4
        · cases it_t c5 h
        replace h := it_f c5 h
        obtain ⟨r6, q6, h⟩ := bn_x h
        obtain ⟨C8, e7, h⟩ := lt_z h
        have a8 : ag fChs C C8 := ag_tr a4 (by rw [e7]; exact ag_wrI (by unfold fChs; omega))
        obtain ⟨C10, q9, h⟩ := bn_x h
        have a10 : ag fChs C C10 := ag_tr a8 (gh_X11_acts q9)
        obtain ⟨x11, e11, h⟩ := lt_z h
        exact ag_tr a10 (ih h)
  have bl57 : ∀ {k5 : Int32 → Int32 → Int32 → Int32 → Mm → Option Mm} (hk5 : ∀ {y1 : Int32} {y2 : Int32} {y3 : Int32} {y4 : Int32} {C : Mm} (_ : k5 y1 y2 y3 y4 C = some C0), ag fChs C C0), ∀ {y1 : Int32} {y2 : Int32} {y3 : Int32} {y4 : Int32} {C : Mm} (_ : fX11_goRight_b57 n k5 y1 y2 y3 y4 C = some C0), ag fChs C C0 := by
    intro k5 hk5 y1 y2 y3 y4 C h
    unfold fX11_goRight_b57 at h
    obtain ⟨x12, e12, h⟩ := lt_z h
    exact ag_tr ag_rf (hk5 h)
  have bl5 : ∀ (fu : Nat), ∀ {y1 : Int32} {y2 : Int32} {y3 : Int32} {y4 : Int32} {C : Mm} (_ : fX11_goRight_h5 n fu y1 y2 y3 y4 C = some C0), ag fChs C C0 := by
    intro fu
    induction fu with
    | zero =>
      intro y1 y2 y3 y4 C h
      rw [fX11_goRight_h5.eq_1] at h
      cases h
    | succ fu ih =>
      intro y1 y2 y3 y4 C h
      rw [fX11_goRight_h5.eq_2] at h
      obtain ⟨r14, q13, h⟩ := bn_x h
      by_cases c14 : r14 ≤ y4
      · replace h := it_t c14 h
        by_cases c15 : 2 ≤ y3
        · replace h := it_t c15 h
          by_cases c16 : 0 < (0 : Int32) ∨ 4 ≤ Int32.toNatClampNeg 0
          · cases it_t c16 h
          replace h := it_f c16 h
          obtain ⟨C19, e17, h⟩ := lt_z h
          have a18 : ag fChs C C19 := ag_tr ag_rf (by rw [e17]; exact ag_wrI (by unfold fChs; omega))
          obtain ⟨r21, q19, h⟩ := bn_x h
          obtain ⟨C23, e20, h⟩ := lt_z h
          have a21 : ag fChs C C23 := ag_tr a18 (by rw [e20]; exact ag_wrI (by unfold fChs; omega))
          exact ag_tr a21 (bl98 _ h)
        · replace h := it_f c15 h
          rw [← Option.some.inj h]
          exact ag_rf
      · replace h := it_f c14 h
        obtain ⟨r25, q22, h⟩ := bn_x h
        by_cases c23 : r25 ≤ 0
        · replace h := it_t c23 h
          exact ag_tr ag_rf (bl57 ih h)
        · replace h := it_f c23 h
          obtain ⟨r29, q24, h⟩ := bn_x h
          obtain ⟨r32, q25, h⟩ := bn_x h
          obtain ⟨C35, q26, h⟩ := bn_x h
          have a27 : ag fChs C C35 := ag_tr ag_rf (gh_X11_goLeft q26)
          by_cases c28 : y3 < (0 : Int32) ∨ 4 ≤ Int32.toNatClampNeg y3
          · cases it_t c28 h
          replace h := it_f c28 h
          obtain ⟨C37, e29, h⟩ := lt_z h
          have a30 : ag fChs C C37 := ag_tr a27 (by rw [e29]; exact ag_wrI (by unfold fChs; omega))
          obtain ⟨x38, e31, h⟩ := lt_z h
          obtain ⟨C40, q32, h⟩ := bn_x h
          have a33 : ag fChs C C40 := ag_tr a30 (gh_X11_holds q32)
          exact ag_tr a33 (bl57 ih h)
  unfold fX11_goRight at h
  exact ag_tr ag_rf (bl5 _ h)
theorem gh_X11_goCrossed {n : Nat} {p1 : Int32} {p2 : Int32} {C : Mm} {C0 : Mm} (h : fX11_goCrossed n p1 p2 C = some C0) : ag fChs C C0 := by
  have bl166 : ∀ {k5 : Int32 → Int32 → Int32 → Int32 → Mm → Option Mm} (hk5 : ∀ {y1 : Int32} {y2 : Int32} {y3 : Int32} {y4 : Int32} {C : Mm} (_ : k5 y1 y2 y3 y4 C = some C0), ag fChs C C0) {k24 : Int32 → Int32 → Int32 → Int32 → Int32 → Mm → Option Mm} (hk24 : ∀ {y1 : Int32} {y2 : Int32} {y3 : Int32} {y4 : Int32} {y5 : Int32} {C : Mm} (_ : k24 y1 y2 y3 y4 y5 C = some C0), ag fChs C C0), ∀ {y1 : Int32} {y2 : Int32} {y3 : Int32} {y4 : Int32} {y5 : Int32} {C : Mm} (_ : fX11_goCrossed_b166 n k5 k24 y1 y2 y3 y4 y5 C = some C0), ag fChs C C0 := by
    intro k5 hk5 k24 hk24 y1 y2 y3 y4 y5 C h
    unfold fX11_goCrossed_b166 at h
    obtain ⟨x1, e1, h⟩ := lt_z h
    exact ag_tr ag_rf (hk24 h)
  have bl164 : ∀ {k5 : Int32 → Int32 → Int32 → Int32 → Mm → Option Mm} (hk5 : ∀ {y1 : Int32} {y2 : Int32} {y3 : Int32} {y4 : Int32} {C : Mm} (_ : k5 y1 y2 y3 y4 C = some C0), ag fChs C C0) {k24 : Int32 → Int32 → Int32 → Int32 → Int32 → Mm → Option Mm} (hk24 : ∀ {y1 : Int32} {y2 : Int32} {y3 : Int32} {y4 : Int32} {y5 : Int32} {C : Mm} (_ : k24 y1 y2 y3 y4 y5 C = some C0), ag fChs C C0), ∀ {y1 : Int32} {y2 : Int32} {y4 : Int32} {y5 : Int32} {C : Mm} (_ : fX11_goCrossed_b164 n k5 k24 y1 y2 y4 y5 C = some C0), ag fChs C C0 := by
    intro k5 hk5 k24 hk24 y1 y2 y4 y5 C h
    unfold fX11_goCrossed_b164 at h
    exact ag_tr ag_rf (bl166 hk5 hk24 h)
  have bl121 : ∀ {k5 : Int32 → Int32 → Int32 → Int32 → Mm → Option Mm} (hk5 : ∀ {y1 : Int32} {y2 : Int32} {y3 : Int32} {y4 : Int32} {C : Mm} (_ : k5 y1 y2 y3 y4 C = some C0), ag fChs C C0) {k24 : Int32 → Int32 → Int32 → Int32 → Int32 → Mm → Option Mm} (hk24 : ∀ {y1 : Int32} {y2 : Int32} {y3 : Int32} {y4 : Int32} {y5 : Int32} {C : Mm} (_ : k24 y1 y2 y3 y4 y5 C = some C0), ag fChs C C0), ∀ {y1 : Int32} {y2 : Int32} {y3 : Int32} {y4 : Int32} {y5 : Int32} {y6 : Int32} {y7 : Int32} {C : Mm} (_ : fX11_goCrossed_b121 n k5 k24 y1 y2 y3 y4 y5 y6 y7 C = some C0), ag fChs C C0 := by
    intro k5 hk5 k24 hk24 y1 y2 y3 y4 y5 y6 y7 C h
    unfold fX11_goCrossed_b121 at h
    obtain ⟨r3, q2, h⟩ := bn_x h
    obtain ⟨C6, q3, h⟩ := bn_x h
    have a4 : ag fChs C C6 := ag_tr ag_rf (gh_X11_acts q3)
    by_cases c5 : y3 = 0
    · replace h := it_t c5 h
      obtain ⟨C8, e6, h⟩ := lt_z h
      have a7 : ag fChs C C8 := ag_tr a4 (by rw [e6]; exact ag_wrI (by unfold fChs; omega))
      obtain ⟨C10, q8, h⟩ := bn_x h
      have a9 : ag fChs C C10 := ag_tr a7 (gh_X11_acts q8)
      exact ag_tr a9 (bl164 hk5 hk24 h)
    · replace h := it_f c5 h
      exact ag_tr a4 (bl164 hk5 hk24 h)
  have bl109 : ∀ {k5 : Int32 → Int32 → Int32 → Int32 → Mm → Option Mm} (hk5 : ∀ {y1 : Int32} {y2 : Int32} {y3 : Int32} {y4 : Int32} {C : Mm} (_ : k5 y1 y2 y3 y4 C = some C0), ag fChs C C0) {k24 : Int32 → Int32 → Int32 → Int32 → Int32 → Mm → Option Mm} (hk24 : ∀ {y1 : Int32} {y2 : Int32} {y3 : Int32} {y4 : Int32} {y5 : Int32} {C : Mm} (_ : k24 y1 y2 y3 y4 y5 C = some C0), ag fChs C C0), ∀ {y1 : Int32} {y2 : Int32} {y3 : Int32} {y4 : Int32} {y5 : Int32} {y6 : Int32} {s0 : Int32} {C : Mm} (_ : fX11_goCrossed_b109 n k5 k24 y1 y2 y3 y4 y5 y6 s0 C = some C0), ag fChs C C0 := by
    intro k5 hk5 k24 hk24 y1 y2 y3 y4 y5 y6 s0 C h
    unfold fX11_goCrossed_b109 at h
    by_cases c10 : y3 = 0
    · replace h := it_t c10 h
      exact ag_tr ag_rf (bl121 hk5 hk24 h)
    · replace h := it_f c10 h
      obtain ⟨C12, e11, h⟩ := lt_z h
      have a12 : ag fChs C C12 := ag_tr ag_rf (by rw [e11]; exact ag_wrI (by unfold fChs; omega))
      exact ag_tr a12 (bl121 hk5 hk24 h)
  have bl24 : ∀ {k5 : Int32 → Int32 → Int32 → Int32 → Mm → Option Mm} (hk5 : ∀ {y1 : Int32} {y2 : Int32} {y3 : Int32} {y4 : Int32} {C : Mm} (_ : k5 y1 y2 y3 y4 C = some C0), ag fChs C C0) (fu : Nat), ∀ {y1 : Int32} {y2 : Int32} {y3 : Int32} {y4 : Int32} {y5 : Int32} {C : Mm} (_ : fX11_goCrossed_h24 n k5 fu y1 y2 y3 y4 y5 C = some C0), ag fChs C C0 := by
    intro k5 hk5
    intro fu
    induction fu with
    | zero =>
      intro y1 y2 y3 y4 y5 C h
      rw [fX11_goCrossed_h24.eq_1] at h
      cases h
    | succ fu ih =>
      intro y1 y2 y3 y4 y5 C h
      rw [fX11_goCrossed_h24.eq_2] at h
      by_cases c13 : y4 < y5
      · replace h := it_t c13 h
        obtain ⟨x14, e14, h⟩ := lt_z h
        obtain ⟨C15, e15, h⟩ := lt_z h
        have a16 : ag fChs C C15 := ag_tr ag_rf (by rw [e15]; exact ag_wrI (by unfold fChs; omega))
        obtain ⟨C16, e17, h⟩ := lt_z h
        have a18 : ag fChs C C16 := ag_tr a16 (by rw [e17]; exact ag_wrI (by unfold fChs; omega))
        obtain ⟨C18, q19, h⟩ := bn_x h
        have a20 : ag fChs C C18 := ag_tr a18 (gh_X11_acts q19)
        obtain ⟨x19, e21, h⟩ := lt_z h
        exact ag_tr a20 (hk5 h)
      · replace h := it_f c13 h
        obtain ⟨r21, q22, h⟩ := bn_x h
        by_cases c23 : r21 = 0
        · replace h := it_t c23 h
          exact ag_tr ag_rf (bl166 hk5 ih h)
        · replace h := it_f c23 h
          obtain ⟨r25, q24, h⟩ := bn_x h
          by_cases c25 : r25 = 0
          · replace h := it_t c25 h
            exact ag_tr ag_rf (bl166 hk5 ih h)
          · replace h := it_f c25 h
            obtain ⟨r29, q26, h⟩ := bn_x h
            obtain ⟨r32, q27, h⟩ := bn_x h
            obtain ⟨x34, e28, h⟩ := lt_z h
            obtain ⟨r36, q29, h⟩ := bn_x h
            obtain ⟨r39, q30, h⟩ := bn_x h
            by_cases c31 : r39 ≤ r36
            · replace h := it_t c31 h
              obtain ⟨r43, q32, h⟩ := bn_x h
              exact ag_tr ag_rf (bl109 hk5 ih h)
            · replace h := it_f c31 h
              obtain ⟨r46, q33, h⟩ := bn_x h
              exact ag_tr ag_rf (bl109 hk5 ih h)
  have bl5 : ∀ (fu : Nat), ∀ {y1 : Int32} {y2 : Int32} {y3 : Int32} {y4 : Int32} {C : Mm} (_ : fX11_goCrossed_h5 n fu y1 y2 y3 y4 C = some C0), ag fChs C C0 := by
    intro fu
    induction fu with
    | zero =>
      intro y1 y2 y3 y4 C h
      rw [fX11_goCrossed_h5.eq_1] at h
      cases h
    | succ fu ih =>
      intro y1 y2 y3 y4 C h
      rw [fX11_goCrossed_h5.eq_2] at h
      obtain ⟨r49, q34, h⟩ := bn_x h
      obtain ⟨r52, q35, h⟩ := bn_x h
      by_cases c36 : ((r49 + r52) - 2) < y4
      · replace h := it_t c36 h
        rw [← Option.some.inj h]
        exact ag_rf
      · replace h := it_f c36 h
        exact ag_tr ag_rf (bl24 ih _ h)
  unfold fX11_goCrossed at h
  exact ag_tr ag_rf (bl5 _ h)
theorem gh_X11_goSquared {n : Nat} {p1 : Int32} {p2 : Int32} {C : Mm} {r0 : Int32} {C0 : Mm} (h : fX11_goSquared n p1 p2 C = some (r0, C0)) : ag fChs C C0 := by
  unfold fX11_goSquared at h
  by_cases c1 : (irm (p1 + p2) 2) = 1
  · replace h := it_t c1 h
    rw [← pr_2 h]
    exact ag_rf
  · replace h := it_f c1 h
    obtain ⟨x2, e2, h⟩ := lt_z h
    obtain ⟨x5, e3, h⟩ := lt_z h
    obtain ⟨C7, q4, h⟩ := bn_x h
    have a5 : ag fChs C C7 := ag_tr ag_rf (gh_X11_goLeft q4)
    obtain ⟨C9, q6, h⟩ := bn_x h
    have a7 : ag fChs C C9 := ag_tr a5 (gh_X11_holds q6)
    obtain ⟨C11, q8, h⟩ := bn_x h
    have a9 : ag fChs C C11 := ag_tr a7 (gh_X11_goLeft q8)
    obtain ⟨C12, e10, h⟩ := lt_z h
    have a11 : ag fChs C C12 := ag_tr a9 (by rw [e10]; exact ag_wrI (by unfold fChs; omega))
    obtain ⟨C13, e12, h⟩ := lt_z h
    have a13 : ag fChs C C13 := ag_tr a11 (by rw [e12]; exact ag_wrI (by unfold fChs; omega))
    obtain ⟨C15, q14, h⟩ := bn_x h
    have a15 : ag fChs C C15 := ag_tr a13 (gh_X11_acts q14)
    rw [← pr_2 h]
    exact a15
theorem gh_X11_goSplit {n : Nat} {p1 : Int32} {p2 : Int32} {C : Mm} {r0 : Int32} {C0 : Mm} (h : fX11_goSplit n p1 p2 C = some (r0, C0)) : ag fChs C C0 := by
  have bl45 : ∀ {k5 : Int32 → Int32 → Int32 → Mm → Option (Int32 × Mm)} (hk5 : ∀ {y1 : Int32} {y2 : Int32} {y3 : Int32} {C : Mm} (_ : k5 y1 y2 y3 C = some (r0, C0)), ag fChs C C0), ∀ {y1 : Int32} {y2 : Int32} {y3 : Int32} {C : Mm} (_ : fX11_goSplit_b45 n k5 y1 y2 y3 C = some (r0, C0)), ag fChs C C0 := by
    intro k5 hk5 y1 y2 y3 C h
    unfold fX11_goSplit_b45 at h
    obtain ⟨x1, e1, h⟩ := lt_z h
    exact ag_tr ag_rf (hk5 h)
  have bl5 : ∀ (fu : Nat), ∀ {y1 : Int32} {y2 : Int32} {y3 : Int32} {C : Mm} (_ : fX11_goSplit_h5 n fu y1 y2 y3 C = some (r0, C0)), ag fChs C C0 := by
    intro fu
    induction fu with
    | zero =>
      intro y1 y2 y3 C h
      rw [fX11_goSplit_h5.eq_1] at h
      cases h
    | succ fu ih =>
      intro y1 y2 y3 C h
      rw [fX11_goSplit_h5.eq_2] at h
      by_cases c2 : y3 < 2
      · replace h := it_t c2 h
        rw [← pr_2 h]
        exact ag_rf
      · replace h := it_f c2 h
        by_cases c3 : y3 = 0
        · cases it_t c3 h
        replace h := it_f c3 h
        by_cases c4 : (irm y2 y3) = 0
        · replace h := it_t c4 h
          by_cases c5 : y3 = 0
          · cases it_t c5 h
          replace h := it_f c5 h
          by_cases c6 : (y2 / y3) ≤ 1
          · replace h := it_t c6 h
            exact ag_tr ag_rf (bl45 ih h)
          · replace h := it_f c6 h
            obtain ⟨C8, q7, h⟩ := bn_x h
            have a8 : ag fChs C C8 := ag_tr ag_rf (gh_X11_goLeft q7)
            obtain ⟨C10, q9, h⟩ := bn_x h
            have a10 : ag fChs C C10 := ag_tr a8 (gh_X11_holds q9)
            by_cases c11 : y3 = 0
            · cases it_t c11 h
            replace h := it_f c11 h
            obtain ⟨C13, q12, h⟩ := bn_x h
            have a13 : ag fChs C C13 := ag_tr a10 (gh_X11_goLeft q12)
            rw [← pr_2 h]
            exact a13
        · replace h := it_f c4 h
          exact ag_tr ag_rf (bl45 ih h)
  unfold fX11_goSplit at h
  obtain ⟨x14, e14, h⟩ := lt_z h
  exact ag_tr ag_rf (bl5 _ h)
theorem gh_X11_layOut {n : Nat} {p1 : Int32} {p2 : Int32} {p3 : Int32} {p4 : Int32} {C : Mm} {r0 : Int32} {C0 : Mm} (h : fX11_layOut n p1 p2 p3 p4 C = some (r0, C0)) : ag fChs C C0 := by
  have bl138 : ∀ {s0 : Int32} {s1 : Int32} {s2 : Int32} {C : Mm} (_ : fX11_layOut_b138 n s0 s1 s2 C = some (r0, C0)), ag fChs C C0 := by
    intro s0 s1 s2 C h
    unfold fX11_layOut_b138 at h
    obtain ⟨C2, q1, h⟩ := bn_x h
    have a2 : ag fChs C C2 := ag_tr ag_rf (gh_X11_acts q1)
    rw [← pr_2 h]
    exact a2
  have bl26 : ∀ {y2 : Int32} {y3 : Int32} {s0 : Int32} {C : Mm} (_ : fX11_layOut_b26 n y2 y3 s0 C = some (r0, C0)), ag fChs C C0 := by
    intro y2 y3 s0 C h
    unfold fX11_layOut_b26 at h
    obtain ⟨C3, e3, h⟩ := lt_z h
    have a4 : ag fChs C C3 := ag_tr ag_rf (by rw [e3]; exact ag_wrI (by unfold fChs; omega))
    obtain ⟨C4, e5, h⟩ := lt_z h
    have a6 : ag fChs C C4 := ag_tr a4 (by rw [e5]; exact ag_wrI (by unfold fChs; omega))
    obtain ⟨C5, e7, h⟩ := lt_z h
    have a8 : ag fChs C C5 := ag_tr a6 (by rw [e7]; exact ag_wrI (by unfold fChs; omega))
    obtain ⟨C6, e9, h⟩ := lt_z h
    have a10 : ag fChs C C6 := ag_tr a8 (by rw [e9]; exact ag_wrI (by unfold fChs; omega))
    obtain ⟨x7, e11, h⟩ := lt_z h
    obtain ⟨x8, e12, h⟩ := lt_z h
    by_cases c13 : y2 = 0
    · replace h := it_t c13 h
      obtain ⟨r11, q14, h⟩ := bn_x h
      by_cases c15 : r11 = 0
      · replace h := it_t c15 h
        rw [← pr_2 h]
        exact a10
      · replace h := it_f c15 h
        obtain ⟨C14, e16, h⟩ := lt_z h
        have a17 : ag fChs C C14 := ag_tr a10 (by rw [e16]; exact ag_wrI (by unfold fChs; omega))
        by_cases c18 : x8 ≤ x7
        · replace h := it_t c18 h
          exact ag_tr a17 (bl138 h)
        · replace h := it_f c18 h
          exact ag_tr a17 (bl138 h)
    · replace h := it_f c13 h
      by_cases c19 : y2 = 1
      · replace h := it_t c19 h
        obtain ⟨C18, q20, h⟩ := bn_x h
        have a21 : ag fChs C C18 := ag_tr a10 (gh_X11_goLeft q20)
        rw [← pr_2 h]
        exact a21
      · replace h := it_f c19 h
        by_cases c22 : y2 = 2
        · replace h := it_t c22 h
          obtain ⟨C21, q23, h⟩ := bn_x h
          have a24 : ag fChs C C21 := ag_tr a10 (gh_X11_goRight q23)
          rw [← pr_2 h]
          exact a24
        · replace h := it_f c22 h
          by_cases c25 : y2 = 3
          · replace h := it_t c25 h
            obtain ⟨C24, q26, h⟩ := bn_x h
            have a27 : ag fChs C C24 := ag_tr a10 (gh_X11_goCrossed q26)
            rw [← pr_2 h]
            exact a27
          · replace h := it_f c25 h
            by_cases c28 : y2 = 4
            · replace h := it_t c28 h
              obtain ⟨r27, C28, q29, h⟩ := bp_x h
              have a30 : ag fChs C C28 := ag_tr a10 (gh_X11_goSquared q29)
              rw [← pr_2 h]
              exact a30
            · replace h := it_f c28 h
              by_cases c31 : y2 = 5
              · replace h := it_t c31 h
                obtain ⟨r32, C33, q32, h⟩ := bp_x h
                have a33 : ag fChs C C33 := ag_tr a10 (gh_X11_goSplit q32)
                rw [← pr_2 h]
                exact a33
              · replace h := it_f c31 h
                obtain ⟨C36, q34, h⟩ := bn_x h
                have a35 : ag fChs C C36 := ag_tr a10 (gh_X11_goRight q34)
                rw [← pr_2 h]
                exact a35
  unfold fX11_layOut at h
  obtain ⟨C37, e36, h⟩ := lt_z h
  have a37 : ag fChs C C37 := ag_tr ag_rf (by rw [e36]; exact ag_wrI (by unfold fChs; omega))
  by_cases c38 : p4 ≤ 0
  · replace h := it_t c38 h
    by_cases c39 : ((5 * p1) + 3) < (0 : Int32) ∨ 30 ≤ Int32.toNatClampNeg ((5 * p1) + 3)
    · cases it_t c39 h
    replace h := it_f c39 h
    exact ag_tr a37 (bl26 h)
  · replace h := it_f c38 h
    exact ag_tr a37 (bl26 h)
theorem gh_X11_chosenBy {n : Nat} {p1 : Int32} {p2 : Int32} {p3 : Int32} {C : Mm} {r0 : Int32} {C0 : Mm} (h : fX11_chosenBy n p1 p2 p3 C = some (r0, C0)) : ag fChs C C0 := by
  have bl177 : ∀ {y1 : Int32} {y2 : Int32} {y3 : Int32} {C : Mm} (_ : fX11_chosenBy_b177 n y1 y2 y3 C = some (r0, C0)), ag fChs C C0 := by
    intro y1 y2 y3 C h
    unfold fX11_chosenBy_b177 at h
    obtain ⟨r2, C3, q1, h⟩ := bp_x h
    have a2 : ag fChs C C3 := ag_tr ag_rf (gh_X11_layOut q1)
    rw [← pr_2 h]
    exact a2
  have bl152 : ∀ {y1 : Int32} {y2 : Int32} {y3 : Int32} {y4 : Int32} {C : Mm} (_ : fX11_chosenBy_b152 n y1 y2 y3 y4 C = some (r0, C0)), ag fChs C C0 := by
    intro y1 y2 y3 y4 C h
    unfold fX11_chosenBy_b152 at h
    by_cases c3 : (fX11_within (Int32.toInt64 y4) 0 6) = 0
    · replace h := it_t c3 h
      exact ag_tr ag_rf (bl177 h)
    · replace h := it_f c3 h
      obtain ⟨r9, C10, q4, h⟩ := bp_x h
      have a5 : ag fChs C C10 := ag_tr ag_rf (gh_X11_layOut q4)
      by_cases c6 : r9 = 0
      · replace h := it_t c6 h
        exact ag_tr a5 (bl177 h)
      · replace h := it_f c6 h
        rw [← pr_2 h]
        exact a5
  have bl123 : ∀ {y1 : Int32} {y2 : Int32} {y3 : Int32} {s0 : Int32} {s1 : Int32} {C : Mm} (_ : fX11_chosenBy_b123 n y1 y2 y3 s0 s1 C = some (r0, C0)), ag fChs C C0 := by
    intro y1 y2 y3 s0 s1 C h
    unfold fX11_chosenBy_b123 at h
    by_cases c7 : s1 < (0 : Int32) ∨ 8 ≤ Int32.toNatClampNeg s1
    · cases it_t c7 h
    replace h := it_f c7 h
    obtain ⟨C14, e8, h⟩ := lt_z h
    have a9 : ag fChs C C14 := ag_tr ag_rf (by rw [e8]; exact ag_wrI (by unfold fChs; omega))
    by_cases c10 : ((5 * y1) + 4) < (0 : Int32) ∨ 30 ≤ Int32.toNatClampNeg ((5 * y1) + 4)
    · cases it_t c10 h
    replace h := it_f c10 h
    by_cases c11 : 7 < (0 : Int32) ∨ 8 ≤ Int32.toNatClampNeg 7
    · cases it_t c11 h
    replace h := it_f c11 h
    obtain ⟨C17, e12, h⟩ := lt_z h
    have a13 : ag fChs C C17 := ag_tr a9 (by rw [e12]; exact ag_wrI (by unfold fChs; omega))
    obtain ⟨r19, C20, q14, h⟩ := bp_x h
    have a15 : ag fChs C C20 := ag_tr a13 (gh_X11_workOut q14)
    exact ag_tr a15 (bl152 h)
  unfold fX11_chosenBy at h
  by_cases c16 : (C.1 72 9) < 0
  · replace h := it_t c16 h
    exact ag_tr ag_rf (bl152 h)
  · replace h := it_f c16 h
    obtain ⟨x23, e17, h⟩ := lt_z h
    obtain ⟨x24, e18, h⟩ := lt_z h
    obtain ⟨r26, q19, h⟩ := bn_x h
    by_cases c20 : 0 < (0 : Int32) ∨ 8 ≤ Int32.toNatClampNeg 0
    · cases it_t c20 h
    replace h := it_f c20 h
    obtain ⟨C29, e21, h⟩ := lt_z h
    have a22 : ag fChs C C29 := ag_tr ag_rf (by rw [e21]; exact ag_wrI (by unfold fChs; omega))
    obtain ⟨r31, q23, h⟩ := bn_x h
    by_cases c24 : 1 < (0 : Int32) ∨ 8 ≤ Int32.toNatClampNeg 1
    · cases it_t c24 h
    replace h := it_f c24 h
    obtain ⟨C34, e25, h⟩ := lt_z h
    have a26 : ag fChs C C34 := ag_tr a22 (by rw [e25]; exact ag_wrI (by unfold fChs; omega))
    by_cases c27 : 2 < (0 : Int32) ∨ 8 ≤ Int32.toNatClampNeg 2
    · cases it_t c27 h
    replace h := it_f c27 h
    obtain ⟨C36, e28, h⟩ := lt_z h
    have a29 : ag fChs C C36 := ag_tr a26 (by rw [e28]; exact ag_wrI (by unfold fChs; omega))
    by_cases c30 : 3 < (0 : Int32) ∨ 8 ≤ Int32.toNatClampNeg 3
    · cases it_t c30 h
    replace h := it_f c30 h
    obtain ⟨C38, e31, h⟩ := lt_z h
    have a32 : ag fChs C C38 := ag_tr a29 (by rw [e31]; exact ag_wrI (by unfold fChs; omega))
    by_cases c33 : 4 < (0 : Int32) ∨ 8 ≤ Int32.toNatClampNeg 4
    · cases it_t c33 h
    replace h := it_f c33 h
    obtain ⟨C42, e34, h⟩ := lt_z h
    have a35 : ag fChs C C42 := ag_tr a32 (by rw [e34]; exact ag_wrI (by unfold fChs; omega))
    obtain ⟨r44, q36, h⟩ := bn_x h
    obtain ⟨r47, q37, h⟩ := bn_x h
    by_cases c38 : 5 < (0 : Int32) ∨ 8 ≤ Int32.toNatClampNeg 5
    · cases it_t c38 h
    replace h := it_f c38 h
    obtain ⟨C50, e39, h⟩ := lt_z h
    have a40 : ag fChs C C50 := ag_tr a35 (by rw [e39]; exact ag_wrI (by unfold fChs; omega))
    by_cases c41 : p3 ≤ 0
    · replace h := it_t c41 h
      by_cases c42 : ((5 * p1) + 3) < (0 : Int32) ∨ 30 ≤ Int32.toNatClampNeg ((5 * p1) + 3)
      · cases it_t c42 h
      replace h := it_f c42 h
      exact ag_tr a40 (bl123 h)
    · replace h := it_f c41 h
      exact ag_tr a40 (bl123 h)
