/-! further frames, printed by gen_frame2.py -/
def fAcu (q _i : Nat) : Prop := 36 ≤ q ∧ q ≤ 41
theorem gu_X0_beginAnew {C : Mm} {C0 : Mm} (h : fX0_beginAnew C = C0) : ag fAcu C C0 := by
  unfold fX0_beginAnew at h
  obtain ⟨C1, e1, h⟩ := lt_z h
  have a2 : ag fAcu C C1 := ag_tr ag_rf (by rw [e1]; exact ag_wrI (by unfold fAcu; omega))
  obtain ⟨C2, e3, h⟩ := lt_z h
  have a4 : ag fAcu C C2 := ag_tr a2 (by rw [e3]; exact ag_wrI (by unfold fAcu; omega))
  obtain ⟨C3, e5, h⟩ := lt_z h
  have a6 : ag fAcu C C3 := ag_tr a4 (by rw [e5]; exact ag_wrI (by unfold fAcu; omega))
  rw [← h]
  exact a6
theorem gu_X0_run {n : Nat} {p1 : Int32} {C : Mm} {C0 : Mm} (h : fX0_run n p1 C = some C0) : ag fAcu C C0 := by
  have bl12 : ∀ (fu : Nat), ∀ {y2 : Int32} {C : Mm} (_ : fX0_run_h12 n fu y2 C = some C0), ag fAcu C C0 := by
    intro fu
    induction fu with
    | zero =>
      intro y2 C h
      rw [fX0_run_h12.eq_1] at h
      cases h
    | succ fu ih =>
      intro y2 C h
      rw [fX0_run_h12.eq_2] at h
      by_cases c1 : y2 ≤ 0
      · replace h := it_t c1 h
        obtain ⟨C2, e2, h⟩ := lt_z h
        have a3 : ag fAcu C C2 := ag_tr ag_rf (by rw [e2]; exact ag_wrI (by unfold fAcu; omega))
        rw [← Option.some.inj h]
        exact a3
      · replace h := it_f c1 h
        obtain ⟨C3, e4, h⟩ := lt_z h
        have a5 : ag fAcu C C3 := ag_tr ag_rf (by rw [e4]; exact ag_wrI (by unfold fAcu; omega))
        obtain ⟨x4, e6, h⟩ := lt_z h
        exact ag_tr a5 (ih h)
  unfold fX0_run at h
  obtain ⟨C5, e7, h⟩ := lt_z h
  have a8 : ag fAcu C C5 := ag_tr ag_rf (by rw [e7]; exact ag_wrI (by unfold fAcu; omega))
  obtain ⟨C6, e9, h⟩ := lt_z h
  have a10 : ag fAcu C C6 := ag_tr a8 (by rw [e9]; exact ag_wrI (by unfold fAcu; omega))
  exact ag_tr a10 (bl12 _ h)
theorem gu_X0_note {p1 : Int32} {p2 : Int32} {p3 : Int32} {p4 : Int32} {C : Mm} {C0 : Mm} (h : fX0_note p1 p2 p3 p4 C = some C0) : ag fAcu C C0 := by
  have bl108 : ∀ {C : Mm} (_ : fX0_note_b108 C = some C0), ag fAcu C C0 := by
    intro C h
    unfold fX0_note_b108 at h
    obtain ⟨C1, e1, h⟩ := lt_z h
    have a2 : ag fAcu C C1 := ag_tr ag_rf (by rw [e1]; exact ag_wrI (by unfold fAcu; omega))
    rw [← Option.some.inj h]
    exact a2
  unfold fX0_note at h
  by_cases c3 : (C.1 36 6) < 80
  · replace h := it_t c3 h
    by_cases c4 : (C.1 36 6) < (0 : Int32) ∨ 80 ≤ Int32.toNatClampNeg (C.1 36 6)
    · cases it_t c4 h
    replace h := it_f c4 h
    obtain ⟨C4, e5, h⟩ := lt_z h
    have a6 : ag fAcu C C4 := ag_tr ag_rf (by rw [e5]; exact ag_wrI (by unfold fAcu; omega))
    by_cases c7 : (C4.1 36 6) < (0 : Int32) ∨ 80 ≤ Int32.toNatClampNeg (C4.1 36 6)
    · cases it_t c7 h
    replace h := it_f c7 h
    obtain ⟨C6, e8, h⟩ := lt_z h
    have a9 : ag fAcu C C6 := ag_tr a6 (by rw [e8]; exact ag_wrI (by unfold fAcu; omega))
    by_cases c10 : (C6.1 36 6) < (0 : Int32) ∨ 80 ≤ Int32.toNatClampNeg (C6.1 36 6)
    · cases it_t c10 h
    replace h := it_f c10 h
    obtain ⟨C8, e11, h⟩ := lt_z h
    have a12 : ag fAcu C C8 := ag_tr a9 (by rw [e11]; exact ag_wrI (by unfold fAcu; omega))
    by_cases c13 : (C8.1 36 6) < (0 : Int32) ∨ 80 ≤ Int32.toNatClampNeg (C8.1 36 6)
    · cases it_t c13 h
    replace h := it_f c13 h
    obtain ⟨C10, e14, h⟩ := lt_z h
    have a15 : ag fAcu C C10 := ag_tr a12 (by rw [e14]; exact ag_wrI (by unfold fAcu; omega))
    by_cases c16 : (C10.1 36 6) < (0 : Int32) ∨ 80 ≤ Int32.toNatClampNeg (C10.1 36 6)
    · cases it_t c16 h
    replace h := it_f c16 h
    obtain ⟨C12, e17, h⟩ := lt_z h
    have a18 : ag fAcu C C12 := ag_tr a15 (by rw [e17]; exact ag_wrI (by unfold fAcu; omega))
    obtain ⟨C13, e19, h⟩ := lt_z h
    have a20 : ag fAcu C C13 := ag_tr a18 (by rw [e19]; exact ag_wrI (by unfold fAcu; omega))
    by_cases c21 : (C13.1 36 6) < (0 : Int32) ∨ 80 ≤ Int32.toNatClampNeg (C13.1 36 6)
    · cases it_t c21 h
    replace h := it_f c21 h
    by_cases c22 : (C13.1 40 (Int32.toNatClampNeg (C13.1 36 6))) ≤ (C13.1 36 8)
    · replace h := it_t c22 h
      exact ag_tr a20 (bl108 h)
    · replace h := it_f c22 h
      by_cases c23 : (C13.1 36 6) < (0 : Int32) ∨ 80 ≤ Int32.toNatClampNeg (C13.1 36 6)
      · cases it_t c23 h
      replace h := it_f c23 h
      obtain ⟨C17, e24, h⟩ := lt_z h
      have a25 : ag fAcu C C17 := ag_tr a20 (by rw [e24]; exact ag_wrI (by unfold fAcu; omega))
      exact ag_tr a25 (bl108 h)
  · replace h := it_f c3 h
    rw [← Option.some.inj h]
    exact ag_rf
theorem gu_X0_lookAndAdd {n : Nat} {p1 : Int32} {p2 : Int32} {p3 : Int32} {p4 : Int32} {C : Mm} {C0 : Mm} (h : fX0_lookAndAdd n p1 p2 p3 p4 C = some C0) : ag fAcu C C0 := by
  have bl33 : ∀ {y1 : Int32} {y2 : Int32} {y3 : Int32} {y4 : Int32} {y5 : Int32} {y6 : Int32} {C : Mm} (_ : fX0_lookAndAdd_b33 n y1 y2 y3 y4 y5 y6 C = some C0), ag fAcu C C0 := by
    intro y1 y2 y3 y4 y5 y6 C h
    unfold fX0_lookAndAdd_b33 at h
    obtain ⟨C2, q1, h⟩ := bn_x h
    have a2 : ag fAcu C C2 := ag_tr ag_rf (gu_X0_note q1)
    by_cases c3 : y6 = 0
    · replace h := it_t c3 h
      rw [← Option.some.inj h]
      exact a2
    · replace h := it_f c3 h
      obtain ⟨C5, q4, h⟩ := bn_x h
      have a5 : ag fAcu C C5 := ag_tr a2 (gu_X0_run q4)
      obtain ⟨C7, q6, h⟩ := bn_x h
      have a7 : ag fAcu C C7 := ag_tr a5 (gu_X0_note q6)
      rw [← Option.some.inj h]
      exact a7
  unfold fX0_lookAndAdd at h
  by_cases c8 : p1 = 0
  · replace h := it_t c8 h
    rw [← Option.some.inj h]
    exact ag_rf
  · replace h := it_f c8 h
    by_cases c9 : p2 = 0
    · replace h := it_t c9 h
      rw [← Option.some.inj h]
      exact ag_rf
    · replace h := it_f c9 h
      obtain ⟨x10, e10, h⟩ := lt_z h
      obtain ⟨x11, e11, h⟩ := lt_z h
      by_cases c12 : x11 = 0
      · replace h := it_t c12 h
        obtain ⟨C14, q13, h⟩ := bn_x h
        have a14 : ag fAcu C C14 := ag_tr ag_rf (gu_X0_run q13)
        exact ag_tr a14 (bl33 h)
      · replace h := it_f c12 h
        exact ag_tr ag_rf (bl33 h)
theorem gu_X0_goLeft {n : Nat} {p1 : Int32} {p2 : Int32} {C : Mm} {r0 : Int32} {C0 : Mm} (h : fX0_goLeft n p1 p2 C = some (r0, C0)) : ag fAcu C C0 := by
  have bl21 : ∀ {k8 : Int32 → Int32 → Int32 → Mm → Option (Int32 × Mm)} (hk8 : ∀ {y1 : Int32} {y2 : Int32} {y3 : Int32} {C : Mm} (_ : k8 y1 y2 y3 C = some (r0, C0)), ag fAcu C C0) (fu : Nat), ∀ {y1 : Int32} {y2 : Int32} {y3 : Int32} {y4 : Int32} {C : Mm} (_ : fX0_goLeft_h21 n k8 fu y1 y2 y3 y4 C = some (r0, C0)), ag fAcu C C0 := by
    intro k8 hk8
    intro fu
    induction fu with
    | zero =>
      intro y1 y2 y3 y4 C h
      rw [fX0_goLeft_h21.eq_1] at h
      cases h
    | succ fu ih =>
      intro y1 y2 y3 y4 C h
      rw [fX0_goLeft_h21.eq_2] at h
      by_cases c1 : y4 < 0
      · replace h := it_t c1 h
        obtain ⟨x2, e2, h⟩ := lt_z h
        exact ag_tr ag_rf (hk8 h)
      · replace h := it_f c1 h
        obtain ⟨r4, q3, h⟩ := bn_x h
        obtain ⟨r7, q4, h⟩ := bn_x h
        obtain ⟨r10, q5, h⟩ := bn_x h
        obtain ⟨C13, q6, h⟩ := bn_x h
        have a7 : ag fAcu C C13 := ag_tr ag_rf (gu_X0_lookAndAdd q6)
        obtain ⟨x14, e8, h⟩ := lt_z h
        exact ag_tr a7 (ih h)
  have bl8 : ∀ (fu : Nat), ∀ {y1 : Int32} {y2 : Int32} {y3 : Int32} {C : Mm} (_ : fX0_goLeft_h8 n fu y1 y2 y3 C = some (r0, C0)), ag fAcu C C0 := by
    intro fu
    induction fu with
    | zero =>
      intro y1 y2 y3 C h
      rw [fX0_goLeft_h8.eq_1] at h
      cases h
    | succ fu ih =>
      intro y1 y2 y3 C h
      rw [fX0_goLeft_h8.eq_2] at h
      by_cases c9 : y3 < 0
      · replace h := it_t c9 h
        rw [← pr_2 h]
        exact ag_rf
      · replace h := it_f c9 h
        obtain ⟨r17, q10, h⟩ := bn_x h
        obtain ⟨x19, e11, h⟩ := lt_z h
        exact ag_tr ag_rf (bl21 ih _ h)
  unfold fX0_goLeft at h
  obtain ⟨r21, q12, h⟩ := bn_x h
  obtain ⟨x23, e13, h⟩ := lt_z h
  exact ag_tr ag_rf (bl8 _ h)
theorem gu_X0_holdRunning {C : Mm} {C0 : Mm} (h : fX0_holdRunning C = some C0) : ag fAcu C C0 := by
  unfold fX0_holdRunning at h
  obtain ⟨x1, e1, h⟩ := lt_z h
  obtain ⟨x2, e2, h⟩ := lt_z h
  obtain ⟨C3, e3, h⟩ := lt_z h
  have a4 : ag fAcu C C3 := ag_tr ag_rf (by rw [e3]; exact ag_wrI (by unfold fAcu; omega))
  obtain ⟨C5, e5, h⟩ := lt_z h
  have a6 : ag fAcu C C5 := ag_tr a4 (gu_X0_beginAnew e5.symm)
  obtain ⟨C7, q7, h⟩ := bn_x h
  have a8 : ag fAcu C C7 := ag_tr a6 (gu_X0_note q7)
  rw [← Option.some.inj h]
  exact a8
theorem gu_X0_letGo {n : Nat} {p1 : Int32} {C : Mm} {C0 : Mm} (h : fX0_letGo n p1 C = some C0) : ag fAcu C C0 := by
  unfold fX0_letGo at h
  obtain ⟨r2, q1, h⟩ := bn_x h
  obtain ⟨C4, e2, h⟩ := lt_z h
  have a3 : ag fAcu C C4 := ag_tr ag_rf (by rw [e2]; exact ag_wrI (by unfold fAcu; omega))
  rw [← Option.some.inj h]
  exact a3
theorem gu_X0_add {n : Nat} {p1 : Int32} {p2 : Int32} {C : Mm} {C0 : Mm} (h : fX0_add n p1 p2 C = some C0) : ag fAcu C C0 := by
  unfold fX0_add at h
  obtain ⟨C2, q1, h⟩ := bn_x h
  have a2 : ag fAcu C C2 := ag_tr ag_rf (gu_X0_run q1)
  obtain ⟨C4, q3, h⟩ := bn_x h
  have a4 : ag fAcu C C4 := ag_tr a2 (gu_X0_note q3)
  rw [← Option.some.inj h]
  exact a4
def fLau (q i : Nat) : Prop := (q = 72 ∧ (i = 21 ∨ (28 ≤ i ∧ i ≤ 31))) ∨ (84 ≤ q ∧ q ≤ 89)
theorem gv_X11_acts {n : Nat} {p1 : Int32} {p2 : Int32} {p3 : Int32} {p4 : Int32} {C : Mm} {C0 : Mm} (h : fX11_acts n p1 p2 p3 p4 C = some C0) : ag fLau C C0 := by
  have bl72 : ∀ {y3 : Int32} {y4 : Int32} {y5 : Int32} {s0 : Int32} {s1 : Int32} {C : Mm} (_ : fX11_acts_b72 n y3 y4 y5 s0 s1 C = some C0), ag fLau C C0 := by
    intro y3 y4 y5 s0 s1 C h
    unfold fX11_acts_b72 at h
    by_cases c1 : s1 < (0 : Int32) ∨ 200 ≤ Int32.toNatClampNeg s1
    · cases it_t c1 h
    replace h := it_f c1 h
    obtain ⟨C2, e2, h⟩ := lt_z h
    have a3 : ag fLau C C2 := ag_tr ag_rf (by rw [e2]; exact ag_wrI (by unfold fLau; omega))
    obtain ⟨r4, q4, h⟩ := bn_x h
    by_cases c5 : y5 < (0 : Int32) ∨ 200 ≤ Int32.toNatClampNeg y5
    · cases it_t c5 h
    replace h := it_f c5 h
    obtain ⟨C7, e6, h⟩ := lt_z h
    have a7 : ag fLau C C7 := ag_tr a3 (by rw [e6]; exact ag_wrI (by unfold fLau; omega))
    by_cases c8 : y5 < (0 : Int32) ∨ 200 ≤ Int32.toNatClampNeg y5
    · cases it_t c8 h
    replace h := it_f c8 h
    obtain ⟨C9, e9, h⟩ := lt_z h
    have a10 : ag fLau C C9 := ag_tr a7 (by rw [e9]; exact ag_wrI (by unfold fLau; omega))
    by_cases c11 : y5 < (0 : Int32) ∨ 200 ≤ Int32.toNatClampNeg y5
    · cases it_t c11 h
    replace h := it_f c11 h
    obtain ⟨C11, e12, h⟩ := lt_z h
    have a13 : ag fLau C C11 := ag_tr a10 (by rw [e12]; exact ag_wrI (by unfold fLau; omega))
    obtain ⟨C12, e14, h⟩ := lt_z h
    have a15 : ag fLau C C12 := ag_tr a13 (by rw [e14]; exact ag_wrI (by unfold fLau; omega))
    rw [← Option.some.inj h]
    exact a15
  have bl71 : ∀ {y3 : Int32} {y4 : Int32} {y5 : Int32} {s0 : Int32} {s1 : Int32} {s2 : Int32} {C : Mm} (_ : fX11_acts_b71 n y3 y4 y5 s0 s1 s2 C = some C0), ag fLau C C0 := by
    intro y3 y4 y5 s0 s1 s2 C h
    unfold fX11_acts_b71 at h
    exact ag_tr ag_rf (bl72 h)
  have bl67 : ∀ {y2 : Int32} {y3 : Int32} {y4 : Int32} {y5 : Int32} {s0 : Int32} {s1 : Int32} {C : Mm} (_ : fX11_acts_b67 n y2 y3 y4 y5 s0 s1 C = some C0), ag fLau C C0 := by
    intro y2 y3 y4 y5 s0 s1 C h
    unfold fX11_acts_b67 at h
    obtain ⟨r14, q16, h⟩ := bn_x h
    exact ag_tr ag_rf (bl71 h)
  unfold fX11_acts at h
  obtain ⟨x16, e17, h⟩ := lt_z h
  by_cases c18 : ((5 * (C.1 72 30)) + p1) < (0 : Int32) ∨ 30 ≤ Int32.toNatClampNeg ((5 * (C.1 72 30)) + p1)
  · cases it_t c18 h
  replace h := it_f c18 h
  obtain ⟨x18, e19, h⟩ := lt_z h
  by_cases c20 : x16 < (0 : Int32) ∨ 200 ≤ Int32.toNatClampNeg x16
  · cases it_t c20 h
  replace h := it_f c20 h
  obtain ⟨C20, e21, h⟩ := lt_z h
  have a22 : ag fLau C C20 := ag_tr ag_rf (by rw [e21]; exact ag_wrI (by unfold fLau; omega))
  by_cases c23 : x16 < (0 : Int32) ∨ 200 ≤ Int32.toNatClampNeg x16
  · cases it_t c23 h
  replace h := it_f c23 h
  obtain ⟨C22, e24, h⟩ := lt_z h
  have a25 : ag fLau C C22 := ag_tr a22 (by rw [e24]; exact ag_wrI (by unfold fLau; omega))
  by_cases c26 : p1 = 0
  · replace h := it_t c26 h
    exact ag_tr a25 (bl72 h)
  · replace h := it_f c26 h
    by_cases c27 : p1 = 2
    · replace h := it_t c27 h
      by_cases c28 : p2 = 0
      · replace h := it_t c28 h
        exact ag_tr a25 (bl71 h)
      · replace h := it_f c28 h
        exact ag_tr a25 (bl67 h)
    · replace h := it_f c27 h
      exact ag_tr a25 (bl67 h)
theorem gv_X11_holds {n : Nat} {C : Mm} {C0 : Mm} (h : fX11_holds n C = some C0) : ag fLau C C0 := by
  unfold fX11_holds at h
  obtain ⟨x1, e1, h⟩ := lt_z h
  obtain ⟨r3, q2, h⟩ := bn_x h
  obtain ⟨C5, e3, h⟩ := lt_z h
  have a4 : ag fLau C C5 := ag_tr ag_rf (by rw [e3]; exact ag_wrI (by unfold fLau; omega))
  obtain ⟨C6, e5, h⟩ := lt_z h
  have a6 : ag fLau C C6 := ag_tr a4 (by rw [e5]; exact ag_wrI (by unfold fLau; omega))
  obtain ⟨C8, q7, h⟩ := bn_x h
  have a8 : ag fLau C C8 := ag_tr a6 (gv_X11_acts q7)
  rw [← Option.some.inj h]
  exact a8
theorem gv_X11_lookAndAdd {n : Nat} {p1 : Int32} {p2 : Int32} {p3 : Int32} {p4 : Int32} {p5 : Int32} {C : Mm} {r0 : Int32} {C0 : Mm} (h : fX11_lookAndAdd n p1 p2 p3 p4 p5 C = some (r0, C0)) : ag fLau C C0 := by
  have bl35 : ∀ {y3 : Int32} {y4 : Int32} {y5 : Int32} {y6 : Int32} {s0 : Int32} {s1 : Int32} {s2 : Int32} {C : Mm} (_ : fX11_lookAndAdd_b35 n y3 y4 y5 y6 s0 s1 s2 C = some (r0, C0)), ag fLau C C0 := by
    intro y3 y4 y5 y6 s0 s1 s2 C h
    unfold fX11_lookAndAdd_b35 at h
    obtain ⟨r2, q1, h⟩ := bn_x h
    obtain ⟨r5, q2, h⟩ := bn_x h
    obtain ⟨C8, q3, h⟩ := bn_x h
    have a4 : ag fLau C C8 := ag_tr ag_rf (gv_X11_acts q3)
    by_cases c5 : y4 = 0
    · replace h := it_t c5 h
      obtain ⟨C10, e6, h⟩ := lt_z h
      have a7 : ag fLau C C10 := ag_tr a4 (by rw [e6]; exact ag_wrI (by unfold fLau; omega))
      obtain ⟨C12, q8, h⟩ := bn_x h
      have a9 : ag fLau C C12 := ag_tr a7 (gv_X11_acts q8)
      rw [← pr_2 h]
      exact a9
    · replace h := it_f c5 h
      rw [← pr_2 h]
      exact a4
  have bl21 : ∀ {y1 : Int32} {y2 : Int32} {y3 : Int32} {y4 : Int32} {y5 : Int32} {y6 : Int32} {C : Mm} (_ : fX11_lookAndAdd_b21 n y1 y2 y3 y4 y5 y6 C = some (r0, C0)), ag fLau C C0 := by
    intro y1 y2 y3 y4 y5 y6 C h
    unfold fX11_lookAndAdd_b21 at h
    by_cases c10 : y2 ≤ y1
    · replace h := it_t c10 h
      exact ag_tr ag_rf (bl35 h)
    · replace h := it_f c10 h
      exact ag_tr ag_rf (bl35 h)
  unfold fX11_lookAndAdd at h
  obtain ⟨r15, q11, h⟩ := bn_x h
  obtain ⟨x17, e12, h⟩ := lt_z h
  by_cases c13 : p4 = 0
  · replace h := it_t c13 h
    exact ag_tr ag_rf (bl21 h)
  · replace h := it_f c13 h
    obtain ⟨C19, e14, h⟩ := lt_z h
    have a15 : ag fLau C C19 := ag_tr ag_rf (by rw [e14]; exact ag_wrI (by unfold fLau; omega))
    exact ag_tr a15 (bl21 h)
theorem gv_X11_goLeft {n : Nat} {p1 : Int32} {p2 : Int32} {C : Mm} {C0 : Mm} (h : fX11_goLeft n p1 p2 C = some C0) : ag fLau C C0 := by
  have bl70 : ∀ {k10 : Int32 → Int32 → Int32 → Int32 → Mm → Option Mm} (hk10 : ∀ {y1 : Int32} {y2 : Int32} {y3 : Int32} {y4 : Int32} {C : Mm} (_ : k10 y1 y2 y3 y4 C = some C0), ag fLau C C0) {k23 : Int32 → Int32 → Int32 → Int32 → Int32 → Mm → Option Mm} (hk23 : ∀ {y1 : Int32} {y2 : Int32} {y3 : Int32} {y4 : Int32} {y5 : Int32} {C : Mm} (_ : k23 y1 y2 y3 y4 y5 C = some C0), ag fLau C C0), ∀ {y1 : Int32} {y2 : Int32} {y3 : Int32} {y4 : Int32} {y5 : Int32} {C : Mm} (_ : fX11_goLeft_b70 n k10 k23 y1 y2 y3 y4 y5 C = some C0), ag fLau C C0 := by
    intro k10 hk10 k23 hk23 y1 y2 y3 y4 y5 C h
    unfold fX11_goLeft_b70 at h
    obtain ⟨x1, e1, h⟩ := lt_z h
    exact ag_tr ag_rf (hk23 h)
  have bl23 : ∀ {k10 : Int32 → Int32 → Int32 → Int32 → Mm → Option Mm} (hk10 : ∀ {y1 : Int32} {y2 : Int32} {y3 : Int32} {y4 : Int32} {C : Mm} (_ : k10 y1 y2 y3 y4 C = some C0), ag fLau C C0) (fu : Nat), ∀ {y1 : Int32} {y2 : Int32} {y3 : Int32} {y4 : Int32} {y5 : Int32} {C : Mm} (_ : fX11_goLeft_h23 n k10 fu y1 y2 y3 y4 y5 C = some C0), ag fLau C C0 := by
    intro k10 hk10
    intro fu
    induction fu with
    | zero =>
      intro y1 y2 y3 y4 y5 C h
      rw [fX11_goLeft_h23.eq_1] at h
      cases h
    | succ fu ih =>
      intro y1 y2 y3 y4 y5 C h
      rw [fX11_goLeft_h23.eq_2] at h
      by_cases c2 : y5 < 0
      · replace h := it_t c2 h
        obtain ⟨x3, e3, h⟩ := lt_z h
        exact ag_tr ag_rf (hk10 h)
      · replace h := it_f c2 h
        obtain ⟨r5, q4, h⟩ := bn_x h
        by_cases c5 : r5 ≤ 0
        · replace h := it_t c5 h
          exact ag_tr ag_rf (bl70 hk10 ih h)
        · replace h := it_f c5 h
          obtain ⟨r9, q6, h⟩ := bn_x h
          by_cases c7 : r9 ≤ 0
          · replace h := it_t c7 h
            exact ag_tr ag_rf (bl70 hk10 ih h)
          · replace h := it_f c7 h
            obtain ⟨r13, q8, h⟩ := bn_x h
            obtain ⟨r16, q9, h⟩ := bn_x h
            obtain ⟨r19, C20, q10, h⟩ := bp_x h
            have a11 : ag fLau C C20 := ag_tr ag_rf (gv_X11_lookAndAdd q10)
            exact ag_tr a11 (bl70 hk10 ih h)
  have bl10 : ∀ (fu : Nat), ∀ {y1 : Int32} {y2 : Int32} {y3 : Int32} {y4 : Int32} {C : Mm} (_ : fX11_goLeft_h10 n fu y1 y2 y3 y4 C = some C0), ag fLau C C0 := by
    intro fu
    induction fu with
    | zero =>
      intro y1 y2 y3 y4 C h
      rw [fX11_goLeft_h10.eq_1] at h
      cases h
    | succ fu ih =>
      intro y1 y2 y3 y4 C h
      rw [fX11_goLeft_h10.eq_2] at h
      by_cases c12 : y4 < 0
      · replace h := it_t c12 h
        rw [← Option.some.inj h]
        exact ag_rf
      · replace h := it_f c12 h
        obtain ⟨r24, q13, h⟩ := bn_x h
        obtain ⟨x26, e14, h⟩ := lt_z h
        exact ag_tr ag_rf (bl23 ih _ h)
  unfold fX11_goLeft at h
  obtain ⟨r28, q15, h⟩ := bn_x h
  obtain ⟨x30, e16, h⟩ := lt_z h
  exact ag_tr ag_rf (bl10 _ h)
