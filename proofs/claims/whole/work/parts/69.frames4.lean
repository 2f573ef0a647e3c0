/-! further frames, printed by gen_frame4.py -/
def fPaq (q i : Nat) : Prop := (q = 32 ∧ (i = 3 ∨ i = 7)) ∨ q = 34 ∨ q = 103 ∨ q = 104
theorem gq_X3_writeCode {p1 : Int32} {C : Mm} {C0 : Mm} (h : fX3_writeCode p1 C = some C0) : ag fPaq C C0 := by
  unfold fX3_writeCode at h
  by_cases c1 : 128 ≤ (C.1 32 3)
  · replace h := it_t c1 h
    rw [← Option.some.inj h]
    exact ag_rf
  · replace h := it_f c1 h
    by_cases c2 : (C.1 32 3) < (0 : Int32) ∨ 128 ≤ Int32.toNatClampNeg (C.1 32 3)
    · cases it_t c2 h
    replace h := it_f c2 h
    obtain ⟨C3, e3, h⟩ := lt_z h
    have a4 : ag fPaq C C3 := ag_tr ag_rf (by rw [e3]; exact ag_wrI (by unfold fPaq; omega))
    obtain ⟨C4, e5, h⟩ := lt_z h
    have a6 : ag fPaq C C4 := ag_tr a4 (by rw [e5]; exact ag_wrI (by unfold fPaq; omega))
    rw [← Option.some.inj h]
    exact a6
theorem gq_X3_readNumber {n : Nat} {C : Mm} {C0 : Mm} (h : fX3_readNumber n C = some C0) : ag fPaq C C0 := by
  have bl62 : ∀ {y1 : Int32} {C : Mm} (_ : fX3_readNumber_b62 n y1 C = some C0), ag fPaq C C0 := by
    intro y1 C h
    unfold fX3_readNumber_b62 at h
    obtain ⟨C2, q1, h⟩ := bn_x h
    have a2 : ag fPaq C C2 := ag_tr ag_rf (gq_X3_writeCode q1)
    rw [← Option.some.inj h]
    exact a2
  have bl4 : ∀ (fu : Nat), ∀ {y1 : Int32} {y2 : Int32} {C : Mm} (_ : fX3_readNumber_h4 n fu y1 y2 C = some C0), ag fPaq C C0 := by
    intro fu
    induction fu with
    | zero =>
      intro y1 y2 C h
      rw [fX3_readNumber_h4.eq_1] at h
      cases h
    | succ fu ih =>
      intro y1 y2 C h
      rw [fX3_readNumber_h4.eq_2] at h
      by_cases c3 : 4 ≤ y2
      · replace h := it_t c3 h
        exact ag_tr ag_rf (bl62 h)
      · replace h := it_f c3 h
        obtain ⟨r5, q4, h⟩ := bn_x h
        by_cases c5 : (fX4_isDigit r5) = 0
        · replace h := it_t c5 h
          exact ag_tr ag_rf (bl62 h)
        · replace h := it_f c5 h
          obtain ⟨r11, q6, h⟩ := bn_x h
          obtain ⟨x13, e7, h⟩ := lt_z h
          obtain ⟨C14, e8, h⟩ := lt_z h
          have a9 : ag fPaq C C14 := ag_tr ag_rf (by rw [e8]; exact ag_wrI (by unfold fPaq; omega))
          obtain ⟨x15, e10, h⟩ := lt_z h
          exact ag_tr a9 (ih h)
  unfold fX3_readNumber at h
  exact ag_tr ag_rf (bl4 _ h)
theorem gq_X3_write {p1 : Int32} {C : Mm} {C0 : Mm} (h : fX3_write p1 C = some C0) : ag fPaq C C0 := by
  unfold fX3_write at h
  obtain ⟨C2, q1, h⟩ := bn_x h
  have a2 : ag fPaq C C2 := ag_tr ag_rf (gq_X3_writeCode q1)
  rw [← Option.some.inj h]
  exact a2
theorem gq_X3_readOperand {n : Nat} {z : Int32 → Mm → Option (Int32 × Mm)} (hz : ∀ {p1 : Int32} {C : Mm} {r0 : Int32} {C0 : Mm} (_ : z p1 C = some (r0, C0)), ag fPaq C C0) {p1 : Int32} {C : Mm} {r0 : Int32} {C0 : Mm} (h : fX3_readOperand n z p1 C = some (r0, C0)) : ag fPaq C C0 := by
  have bl30 : ∀ {y1 : Int32} {C : Mm} (_ : fX3_readOperand_b30 n z y1 C = some (r0, C0)), ag fPaq C C0 := by
    intro y1 C h
    unfold fX3_readOperand_b30 at h
    by_cases c1 : 6 ≤ y1
    · replace h := it_t c1 h
      rw [← pr_2 h]
      exact ag_rf
    · replace h := it_f c1 h
      obtain ⟨r3, C4, q2, h⟩ := bp_x h
      have a3 : ag fPaq C C4 := ag_tr ag_rf (hz q2)
      by_cases c4 : r3 = 0
      · replace h := it_t c4 h
        rw [← pr_2 h]
        exact a3
      · replace h := it_f c4 h
        rw [← pr_2 h]
        exact a3
  unfold fX3_readOperand at h
  obtain ⟨r8, q5, h⟩ := bn_x h
  by_cases c6 : r8 = 40
  · replace h := it_t c6 h
    exact ag_tr ag_rf (bl30 h)
  · replace h := it_f c6 h
    by_cases c7 : r8 = 33
    · replace h := it_t c7 h
      exact ag_tr ag_rf (bl30 h)
    · replace h := it_f c7 h
      by_cases c8 : r8 = 45
      · replace h := it_t c8 h
        exact ag_tr ag_rf (bl30 h)
      · replace h := it_f c8 h
        by_cases c9 : (fX4_isDigit r8) = 0
        · replace h := it_t c9 h
          by_cases c10 : (fX3_isName r8) = 0
          · replace h := it_t c10 h
            rw [← pr_2 h]
            exact ag_rf
          · replace h := it_f c10 h
            obtain ⟨C19, e11, h⟩ := lt_z h
            have a12 : ag fPaq C C19 := ag_tr ag_rf (by rw [e11]; exact ag_wrI (by unfold fPaq; omega))
            obtain ⟨C21, q13, h⟩ := bn_x h
            have a14 : ag fPaq C C21 := ag_tr a12 (gq_X3_write q13)
            rw [← pr_2 h]
            exact a14
        · replace h := it_f c9 h
          obtain ⟨C23, q15, h⟩ := bn_x h
          have a16 : ag fPaq C C23 := ag_tr ag_rf (gq_X3_readNumber q15)
          rw [← pr_2 h]
          exact a16
theorem gq_X3_readProduct {n : Nat} {z : Int32 → Mm → Option (Int32 × Mm)} (hz : ∀ {p1 : Int32} {C : Mm} {r0 : Int32} {C0 : Mm} (_ : z p1 C = some (r0, C0)), ag fPaq C C0) {p1 : Int32} {C : Mm} {r0 : Int32} {C0 : Mm} (h : fX3_readProduct n z p1 C = some (r0, C0)) : ag fPaq C C0 := by
  have bl55 : ∀ {k12 : Int32 → Int32 → Mm → Option (Int32 × Mm)} (hk12 : ∀ {y1 : Int32} {y2 : Int32} {C : Mm} (_ : k12 y1 y2 C = some (r0, C0)), ag fPaq C C0), ∀ {y1 : Int32} {y2 : Int32} {y3 : Int32} {C : Mm} (_ : fX3_readProduct_b55 n z k12 y1 y2 y3 C = some (r0, C0)), ag fPaq C C0 := by
    intro k12 hk12 y1 y2 y3 C h
    unfold fX3_readProduct_b55 at h
    obtain ⟨C1, e1, h⟩ := lt_z h
    have a2 : ag fPaq C C1 := ag_tr ag_rf (by rw [e1]; exact ag_wrI (by unfold fPaq; omega))
    obtain ⟨r3, C4, q3, h⟩ := bp_x h
    have a4 : ag fPaq C C4 := ag_tr a2 (gq_X3_readOperand hz q3)
    by_cases c5 : r3 = 0
    · replace h := it_t c5 h
      rw [← pr_2 h]
      exact a4
    · replace h := it_f c5 h
      obtain ⟨C8, q6, h⟩ := bn_x h
      have a7 : ag fPaq C C8 := ag_tr a4 (gq_X3_write q6)
      obtain ⟨x9, e8, h⟩ := lt_z h
      exact ag_tr a7 (hk12 h)
  have bl12 : ∀ (fu : Nat), ∀ {y1 : Int32} {y2 : Int32} {C : Mm} (_ : fX3_readProduct_h12 n z fu y1 y2 C = some (r0, C0)), ag fPaq C C0 := by
    intro fu
    induction fu with
    | zero =>
      intro y1 y2 C h
      rw [fX3_readProduct_h12.eq_1] at h
      cases h
    | succ fu ih =>
      intro y1 y2 C h
      rw [fX3_readProduct_h12.eq_2] at h
      by_cases c9 : (fX9t_length C) ≤ y2
      · replace h := it_t c9 h
        rw [← pr_2 h]
        exact ag_rf
      · replace h := it_f c9 h
        obtain ⟨r14, q10, h⟩ := bn_x h
        by_cases c11 : r14 = 42
        · replace h := it_t c11 h
          exact ag_tr ag_rf (bl55 ih h)
        · replace h := it_f c11 h
          by_cases c12 : r14 = 47
          · replace h := it_t c12 h
            exact ag_tr ag_rf (bl55 ih h)
          · replace h := it_f c12 h
            by_cases c13 : r14 = 37
            · replace h := it_t c13 h
              exact ag_tr ag_rf (bl55 ih h)
            · replace h := it_f c13 h
              rw [← pr_2 h]
              exact ag_rf
  unfold fX3_readProduct at h
  obtain ⟨r20, C21, q14, h⟩ := bp_x h
  have a15 : ag fPaq C C21 := ag_tr ag_rf (gq_X3_readOperand hz q14)
  by_cases c16 : r20 = 0
  · replace h := it_t c16 h
    rw [← pr_2 h]
    exact a15
  · replace h := it_f c16 h
    exact ag_tr a15 (bl12 _ h)
theorem gq_X3_readSum {n : Nat} {z : Int32 → Mm → Option (Int32 × Mm)} (hz : ∀ {p1 : Int32} {C : Mm} {r0 : Int32} {C0 : Mm} (_ : z p1 C = some (r0, C0)), ag fPaq C C0) {p1 : Int32} {C : Mm} {r0 : Int32} {C0 : Mm} (h : fX3_readSum n z p1 C = some (r0, C0)) : ag fPaq C C0 := by
  have bl49 : ∀ {k12 : Int32 → Int32 → Mm → Option (Int32 × Mm)} (hk12 : ∀ {y1 : Int32} {y2 : Int32} {C : Mm} (_ : k12 y1 y2 C = some (r0, C0)), ag fPaq C C0), ∀ {y1 : Int32} {y2 : Int32} {y3 : Int32} {C : Mm} (_ : fX3_readSum_b49 n z k12 y1 y2 y3 C = some (r0, C0)), ag fPaq C C0 := by
    intro k12 hk12 y1 y2 y3 C h
    unfold fX3_readSum_b49 at h
    obtain ⟨C1, e1, h⟩ := lt_z h
    have a2 : ag fPaq C C1 := ag_tr ag_rf (by rw [e1]; exact ag_wrI (by unfold fPaq; omega))
    obtain ⟨r3, C4, q3, h⟩ := bp_x h
    have a4 : ag fPaq C C4 := ag_tr a2 (gq_X3_readProduct hz q3)
    by_cases c5 : r3 = 0
    · replace h := it_t c5 h
      rw [← pr_2 h]
      exact a4
    · replace h := it_f c5 h
      obtain ⟨C8, q6, h⟩ := bn_x h
      have a7 : ag fPaq C C8 := ag_tr a4 (gq_X3_write q6)
      obtain ⟨x9, e8, h⟩ := lt_z h
      exact ag_tr a7 (hk12 h)
  have bl12 : ∀ (fu : Nat), ∀ {y1 : Int32} {y2 : Int32} {C : Mm} (_ : fX3_readSum_h12 n z fu y1 y2 C = some (r0, C0)), ag fPaq C C0 := by
    intro fu
    induction fu with
    | zero =>
      intro y1 y2 C h
      rw [fX3_readSum_h12.eq_1] at h
      cases h
    | succ fu ih =>
      intro y1 y2 C h
      rw [fX3_readSum_h12.eq_2] at h
      by_cases c9 : (fX9t_length C) ≤ y2
      · replace h := it_t c9 h
        rw [← pr_2 h]
        exact ag_rf
      · replace h := it_f c9 h
        obtain ⟨r14, q10, h⟩ := bn_x h
        by_cases c11 : r14 = 43
        · replace h := it_t c11 h
          exact ag_tr ag_rf (bl49 ih h)
        · replace h := it_f c11 h
          by_cases c12 : r14 = 45
          · replace h := it_t c12 h
            exact ag_tr ag_rf (bl49 ih h)
          · replace h := it_f c12 h
            rw [← pr_2 h]
            exact ag_rf
  unfold fX3_readSum at h
  obtain ⟨r19, C20, q13, h⟩ := bp_x h
  have a14 : ag fPaq C C20 := ag_tr ag_rf (gq_X3_readProduct hz q13)
  by_cases c15 : r19 = 0
  · replace h := it_t c15 h
    rw [← pr_2 h]
    exact a14
  · replace h := it_f c15 h
    exact ag_tr a14 (bl12 _ h)
theorem gq_X3_readCompared {n : Nat} {z : Int32 → Mm → Option (Int32 × Mm)} (hz : ∀ {p1 : Int32} {C : Mm} {r0 : Int32} {C0 : Mm} (_ : z p1 C = some (r0, C0)), ag fPaq C C0) {p1 : Int32} {C : Mm} {r0 : Int32} {C0 : Mm} (h : fX3_readCompared n z p1 C = some (r0, C0)) : ag fPaq C C0 := by
  have bl42 : ∀ {y1 : Int32} {y2 : Int32} {C : Mm} (_ : fX3_readCompared_b42 n z y1 y2 C = some (r0, C0)), ag fPaq C C0 := by
    intro y1 y2 C h
    unfold fX3_readCompared_b42 at h
    obtain ⟨C1, e1, h⟩ := lt_z h
    have a2 : ag fPaq C C1 := ag_tr ag_rf (by rw [e1]; exact ag_wrI (by unfold fPaq; omega))
    obtain ⟨r3, C4, q3, h⟩ := bp_x h
    have a4 : ag fPaq C C4 := ag_tr a2 (gq_X3_readSum hz q3)
    by_cases c5 : r3 = 0
    · replace h := it_t c5 h
      rw [← pr_2 h]
      exact a4
    · replace h := it_f c5 h
      obtain ⟨C8, q6, h⟩ := bn_x h
      have a7 : ag fPaq C C8 := ag_tr a4 (gq_X3_write q6)
      rw [← pr_2 h]
      exact a7
  unfold fX3_readCompared at h
  obtain ⟨r10, C11, q8, h⟩ := bp_x h
  have a9 : ag fPaq C C11 := ag_tr ag_rf (gq_X3_readSum hz q8)
  by_cases c10 : r10 = 0
  · replace h := it_t c10 h
    rw [← pr_2 h]
    exact a9
  · replace h := it_f c10 h
    obtain ⟨r15, q11, h⟩ := bn_x h
    by_cases c12 : r15 = 60
    · replace h := it_t c12 h
      exact ag_tr a9 (bl42 h)
    · replace h := it_f c12 h
      by_cases c13 : r15 = 61
      · replace h := it_t c13 h
        exact ag_tr a9 (bl42 h)
      · replace h := it_f c13 h
        by_cases c14 : r15 = 62
        · replace h := it_t c14 h
          exact ag_tr a9 (bl42 h)
        · replace h := it_f c14 h
          rw [← pr_2 h]
          exact a9
theorem gq_X3_goesOnWith {p1 : Int32} {C : Mm} {r0 : Int32} {C0 : Mm} (h : fX3_goesOnWith p1 C = some (r0, C0)) : ag fPaq C C0 := by
  unfold fX3_goesOnWith at h
  obtain ⟨r2, q1, h⟩ := bn_x h
  by_cases c2 : r2 = p1
  · replace h := it_t c2 h
    obtain ⟨C5, e3, h⟩ := lt_z h
    have a4 : ag fPaq C C5 := ag_tr ag_rf (by rw [e3]; exact ag_wrI (by unfold fPaq; omega))
    rw [← pr_2 h]
    exact a4
  · replace h := it_f c2 h
    rw [← pr_2 h]
    exact ag_rf
theorem gq_X3_readAll {n : Nat} {z : Int32 → Mm → Option (Int32 × Mm)} (hz : ∀ {p1 : Int32} {C : Mm} {r0 : Int32} {C0 : Mm} (_ : z p1 C = some (r0, C0)), ag fPaq C C0) {p1 : Int32} {C : Mm} {r0 : Int32} {C0 : Mm} (h : fX3_readAll n z p1 C = some (r0, C0)) : ag fPaq C C0 := by
  have bl12 : ∀ (fu : Nat), ∀ {y1 : Int32} {y2 : Int32} {C : Mm} (_ : fX3_readAll_h12 n z fu y1 y2 C = some (r0, C0)), ag fPaq C C0 := by
    intro fu
    induction fu with
    | zero =>
      intro y1 y2 C h
      rw [fX3_readAll_h12.eq_1] at h
      cases h
    | succ fu ih =>
      intro y1 y2 C h
      rw [fX3_readAll_h12.eq_2] at h
      by_cases c1 : (fX9t_length C) ≤ y2
      · replace h := it_t c1 h
        rw [← pr_2 h]
        exact ag_rf
      · replace h := it_f c1 h
        obtain ⟨r5, C6, q2, h⟩ := bp_x h
        have a3 : ag fPaq C C6 := ag_tr ag_rf (gq_X3_goesOnWith q2)
        by_cases c4 : r5 = 0
        · replace h := it_t c4 h
          rw [← pr_2 h]
          exact a3
        · replace h := it_f c4 h
          obtain ⟨r10, C11, q5, h⟩ := bp_x h
          have a6 : ag fPaq C C11 := ag_tr a3 (gq_X3_readCompared hz q5)
          by_cases c7 : r10 = 0
          · replace h := it_t c7 h
            rw [← pr_2 h]
            exact a6
          · replace h := it_f c7 h
            obtain ⟨C15, q8, h⟩ := bn_x h
            have a9 : ag fPaq C C15 := ag_tr a6 (gq_X3_write q8)
            obtain ⟨x16, e10, h⟩ := lt_z h
            exact ag_tr a9 (ih h)
  unfold fX3_readAll at h
  obtain ⟨r18, C19, q11, h⟩ := bp_x h
  have a12 : ag fPaq C C19 := ag_tr ag_rf (gq_X3_readCompared hz q11)
  by_cases c13 : r18 = 0
  · replace h := it_t c13 h
    rw [← pr_2 h]
    exact a12
  · replace h := it_f c13 h
    exact ag_tr a12 (bl12 _ h)
theorem gq_X3_readAny {n : Nat} {z : Int32 → Mm → Option (Int32 × Mm)} (hz : ∀ {p1 : Int32} {C : Mm} {r0 : Int32} {C0 : Mm} (_ : z p1 C = some (r0, C0)), ag fPaq C C0) {p1 : Int32} {C : Mm} {r0 : Int32} {C0 : Mm} (h : fX3_readAny n z p1 C = some (r0, C0)) : ag fPaq C C0 := by
  have bl12 : ∀ (fu : Nat), ∀ {y1 : Int32} {y2 : Int32} {C : Mm} (_ : fX3_readAny_h12 n z fu y1 y2 C = some (r0, C0)), ag fPaq C C0 := by
    intro fu
    induction fu with
    | zero =>
      intro y1 y2 C h
      rw [fX3_readAny_h12.eq_1] at h
      cases h
    | succ fu ih =>
      intro y1 y2 C h
      rw [fX3_readAny_h12.eq_2] at h
      by_cases c1 : (fX9t_length C) ≤ y2
      · replace h := it_t c1 h
        rw [← pr_2 h]
        exact ag_rf
      · replace h := it_f c1 h
        obtain ⟨r5, C6, q2, h⟩ := bp_x h
        have a3 : ag fPaq C C6 := ag_tr ag_rf (gq_X3_goesOnWith q2)
        by_cases c4 : r5 = 0
        · replace h := it_t c4 h
          rw [← pr_2 h]
          exact a3
        · replace h := it_f c4 h
          obtain ⟨r10, C11, q5, h⟩ := bp_x h
          have a6 : ag fPaq C C11 := ag_tr a3 (gq_X3_readAll hz q5)
          by_cases c7 : r10 = 0
          · replace h := it_t c7 h
            rw [← pr_2 h]
            exact a6
          · replace h := it_f c7 h
            obtain ⟨C15, q8, h⟩ := bn_x h
            have a9 : ag fPaq C C15 := ag_tr a6 (gq_X3_write q8)
            obtain ⟨x16, e10, h⟩ := lt_z h
            exact ag_tr a9 (ih h)
  unfold fX3_readAny at h
  obtain ⟨r18, C19, q11, h⟩ := bp_x h
  have a12 : ag fPaq C C19 := ag_tr ag_rf (gq_X3_readAll hz q11)
  by_cases c13 : r18 = 0
  · replace h := it_t c13 h
    rw [← pr_2 h]
    exact a12
  · replace h := it_f c13 h
    exact ag_tr a12 (bl12 _ h)
theorem gq_X3_readOpened_w {n : Nat} {z : Int32 → Mm → Option (Int32 × Mm)} (hz : ∀ {p1 : Int32} {C : Mm} {r0 : Int32} {C0 : Mm} (_ : z p1 C = some (r0, C0)), ag fPaq C C0) {p1 : Int32} {C : Mm} {r0 : Int32} {C0 : Mm} (h : fX3_readOpened_w n z p1 C = some (r0, C0)) : ag fPaq C C0 := by
  have bl74 : ∀ {s0 : Int32} {C : Mm} (_ : fX3_readOpened_b74 n z s0 C = some (r0, C0)), ag fPaq C C0 := by
    intro s0 C h
    unfold fX3_readOpened_b74 at h
    obtain ⟨C2, q1, h⟩ := bn_x h
    have a2 : ag fPaq C C2 := ag_tr ag_rf (gq_X3_write q1)
    rw [← pr_2 h]
    exact a2
  unfold fX3_readOpened_w at h
  obtain ⟨r4, q3, h⟩ := bn_x h
  obtain ⟨C6, e4, h⟩ := lt_z h
  have a5 : ag fPaq C C6 := ag_tr ag_rf (by rw [e4]; exact ag_wrI (by unfold fPaq; omega))
  by_cases c6 : r4 = 40
  · replace h := it_t c6 h
    obtain ⟨r15, C16, q7, h⟩ := bp_x h
    have a8 : ag fPaq C C16 := ag_tr a5 (gq_X3_readAny hz q7)
    by_cases c9 : r15 = 0
    · replace h := it_t c9 h
      rw [← pr_2 h]
      exact a8
    · replace h := it_f c9 h
      obtain ⟨r20, C21, q10, h⟩ := bp_x h
      have a11 : ag fPaq C C21 := ag_tr a8 (gq_X3_goesOnWith q10)
      by_cases c12 : r20 = 0
      · replace h := it_t c12 h
        rw [← pr_2 h]
        exact a11
      · replace h := it_f c12 h
        rw [← pr_2 h]
        exact a11
  · replace h := it_f c6 h
    obtain ⟨r9, C10, q13, h⟩ := bp_x h
    have a14 : ag fPaq C C10 := ag_tr a5 (gq_X3_readOperand hz q13)
    by_cases c15 : r9 = 0
    · replace h := it_t c15 h
      rw [← pr_2 h]
      exact a14
    · replace h := it_f c15 h
      by_cases c16 : r4 = 45
      · replace h := it_t c16 h
        exact ag_tr a14 (bl74 h)
      · replace h := it_f c16 h
        exact ag_tr a14 (bl74 h)
theorem gq_X3_readOpened {n : Nat} : ∀ (d : Nat), ∀ {p1 : Int32} {C : Mm} {r0 : Int32} {C0 : Mm} (_ : fX3_readOpened n d p1 C = some (r0, C0)), ag fPaq C C0 := by
  intro d
  induction d with
  | zero =>
    intro p1 C r0 C0 h
    rw [fX3_readOpened.eq_1] at h
    cases h
  | succ d ih =>
    intro p1 C r0 C0 h
    rw [fX3_readOpened.eq_2] at h
    exact gq_X3_readOpened_w ih h
theorem gq_X3_readLine {n : Nat} {C : Mm} {r0 : Int32} {C0 : Mm} (h : fX3_readLine n C = some (r0, C0)) : ag fPaq C C0 := by
  have bl35 : ∀ {C : Mm} (_ : fX3_readLine_b35 n C = some (r0, C0)), ag fPaq C C0 := by
    intro C h
    unfold fX3_readLine_b35 at h
    obtain ⟨C2, q1, h⟩ := bn_x h
    have a2 : ag fPaq C C2 := ag_tr ag_rf (gq_X3_write q1)
    rw [← pr_2 h]
    exact a2
  unfold fX3_readLine at h
  obtain ⟨r4, C5, q3, h⟩ := bp_x h
  have a4 : ag fPaq C C5 := ag_tr ag_rf (gq_X3_readAny (gq_X3_readOpened 12) q3)
  by_cases c5 : r4 = 0
  · replace h := it_t c5 h
    rw [← pr_2 h]
    exact a4
  · replace h := it_f c5 h
    obtain ⟨r9, C10, q6, h⟩ := bp_x h
    have a7 : ag fPaq C C10 := ag_tr a4 (gq_X3_goesOnWith q6)
    by_cases c8 : r9 = 0
    · replace h := it_t c8 h
      exact ag_tr a7 (bl35 h)
    · replace h := it_f c8 h
      obtain ⟨C14, q9, h⟩ := bn_x h
      have a10 : ag fPaq C C14 := ag_tr a7 (gq_X3_write q9)
      obtain ⟨r16, C17, q11, h⟩ := bp_x h
      have a12 : ag fPaq C C17 := ag_tr a10 (gq_X3_readAny (gq_X3_readOpened 12) q11)
      by_cases c13 : r16 = 0
      · replace h := it_t c13 h
        rw [← pr_2 h]
        exact a12
      · replace h := it_f c13 h
        exact ag_tr a12 (bl35 h)
theorem gq_X3_readLines {n : Nat} {C : Mm} {r0 : Int32} {C0 : Mm} (h : fX3_readLines n C = some (r0, C0)) : ag fPaq C C0 := by
  have bl2 : ∀ (fu : Nat), ∀ {y1 : Int32} {C : Mm} (_ : fX3_readLines_h2 n fu y1 C = some (r0, C0)), ag fPaq C C0 := by
    intro fu
    induction fu with
    | zero =>
      intro y1 C h
      rw [fX3_readLines_h2.eq_1] at h
      cases h
    | succ fu ih =>
      intro y1 C h
      rw [fX3_readLines_h2.eq_2] at h
      by_cases c1 : (fX9t_length C) < y1
      · replace h := it_t c1 h
        rw [← pr_2 h]
        exact ag_rf
      · replace h := it_f c1 h
        obtain ⟨r5, C6, q2, h⟩ := bp_x h
        have a3 : ag fPaq C C6 := ag_tr ag_rf (gq_X3_readLine q2)
        by_cases c4 : r5 = 0
        · replace h := it_t c4 h
          rw [← pr_2 h]
          exact a3
        · replace h := it_f c4 h
          obtain ⟨r10, C11, q5, h⟩ := bp_x h
          have a6 : ag fPaq C C11 := ag_tr a3 (gq_X3_goesOnWith q5)
          by_cases c7 : r10 = 0
          · replace h := it_t c7 h
            by_cases c8 : (C11.1 32 7) = (fX9t_length C11)
            · replace h := it_t c8 h
              rw [← pr_2 h]
              exact a6
            · replace h := it_f c8 h
              rw [← pr_2 h]
              exact a6
          · replace h := it_f c7 h
            obtain ⟨x14, e9, h⟩ := lt_z h
            exact ag_tr a6 (ih h)
  unfold fX3_readLines at h
  exact ag_tr ag_rf (bl2 _ h)
theorem gq_X9t_become {C : Mm} {C0 : Mm} (h : fX9t_become C = some C0) : ag fPaq C C0 := by
  unfold fX9t_become at h
  by_cases c1 : 0 < (0 : Int32) ∨ 0 < (0 : Int32) ∨ (C.1 1 1) < (0 : Int32) ∨ 120 < (Int32.toNatClampNeg 0) + (Int32.toNatClampNeg (C.1 1 1)) ∨ 120 < (Int32.toNatClampNeg 0) + (Int32.toNatClampNeg (C.1 1 1))
  · cases it_t c1 h
  replace h := it_f c1 h
  obtain ⟨C2, e2, h⟩ := lt_z h
  have a3 : ag fPaq C C2 := ag_tr ag_rf (by rw [e2]; exact ag_cpI (fun i => (by unfold fPaq; omega)))
  obtain ⟨C3, e4, h⟩ := lt_z h
  have a5 : ag fPaq C C3 := ag_tr a3 (by rw [e4]; exact ag_wrI (by unfold fPaq; omega))
  rw [← Option.some.inj h]
  exact a5
