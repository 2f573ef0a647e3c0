/-! frames, printed by gen_frame.py: outside F nothing changes -/
def ag (F : Nat → Nat → Prop) (C C' : Mm) : Prop := (∀ q i, ¬ F q i → C'.1 q i = C.1 q i) ∧ ∀ q i, ¬ F q i → C'.2 q i = C.2 q i
theorem ag_rf {F : Nat → Nat → Prop} {C : Mm} : ag F C C := ⟨fun _ _ _ => rfl, fun _ _ _ => rfl⟩
theorem ag_tr {F : Nat → Nat → Prop} {A B C : Mm} (h : ag F A B) (g : ag F B C) : ag F A C := ⟨fun q i z => (g.1 q i z).trans (h.1 q i z), fun q i z => (g.2 q i z).trans (h.2 q i z)⟩
theorem ag_wrI {F : Nat → Nat → Prop} {C : Mm} {q i : Nat} {v : Int32} (h : F q i) : ag F C (wrI C q i v) := ⟨fun q' i' z => by
  rw [wrI_at, if_neg]
  rintro ⟨rfl, rfl⟩
  exact z h, fun _ _ _ => rfl⟩
theorem ag_wrL {F : Nat → Nat → Prop} {C : Mm} {q i : Nat} {v : Int64} (h : F q i) : ag F C (wrL C q i v) := ⟨fun _ _ _ => rfl, fun q' i' z => by
  rw [wrL_at, if_neg]
  rintro ⟨rfl, rfl⟩
  exact z h⟩
theorem ag_cpI {F : Nat → Nat → Prop} {C : Mm} {q0 sp q dp n : Nat} (h : ∀ i, F q i) : ag F C (cpI C q0 sp q dp n) := ⟨fun q' i' z => by
  show (if q' = q ∧ dp ≤ i' ∧ i' < dp + n then C.1 q0 (sp + (i' - dp)) else C.1 q' i') = C.1 q' i'
  rw [if_neg]
  rintro ⟨rfl, -⟩
  exact z (h i'), fun _ _ _ => rfl⟩
theorem ag_cpL {F : Nat → Nat → Prop} {C : Mm} {q0 sp q dp n : Nat} (h : ∀ i, F q i) : ag F C (cpL C q0 sp q dp n) := ⟨fun _ _ _ => rfl, fun q' i' z => by
  show (if q' = q ∧ dp ≤ i' ∧ i' < dp + n then C.2 q0 (sp + (i' - dp)) else C.2 q' i') = C.2 q' i'
  rw [if_neg]
  rintro ⟨rfl, -⟩
  exact z (h i')⟩
theorem ag_mono {F F' : Nat → Nat → Prop} {C C' : Mm} (hF : ∀ q i, F q i → F' q i) (h : ag F C C') : ag F' C C' := ⟨fun q i z => h.1 q i (fun w => z (hF q i w)), fun q i z => h.2 q i (fun w => z (hF q i w))⟩
theorem lt_z {α β : Type} {a : α} {f : α → β} {r : β} (h : lt' a f = r) : ∃ x, x = a ∧ f x = r := ⟨a, rfl, h⟩

def fAct (q _i : Nat) : Prop := 36 ≤ q ∧ q ≤ 42
theorem ga_X0_beginAnew {C : Mm} {C0 : Mm} (h : fX0_beginAnew C = C0) : ag fAct C C0 := by
  unfold fX0_beginAnew at h
  obtain ⟨C1, e1, h⟩ := lt_z h
  have a2 : ag fAct C C1 := ag_tr ag_rf (by rw [e1]; exact ag_wrI (by unfold fAct; omega))
  obtain ⟨C2, e3, h⟩ := lt_z h
  have a4 : ag fAct C C2 := ag_tr a2 (by rw [e3]; exact ag_wrI (by unfold fAct; omega))
  obtain ⟨C3, e5, h⟩ := lt_z h
  have a6 : ag fAct C C3 := ag_tr a4 (by rw [e5]; exact ag_wrI (by unfold fAct; omega))
  rw [← h]
  exact a6
theorem ga_X0_begin {j1 : Nat} (hj1 : j1 < 7) {C : Mm} {C0 : Mm} (h : fX0_begin j1 C = some C0) : ag fAct C C0 := by
  unfold fX0_begin at h
  obtain ⟨r2, q1, h⟩ := bn_x h
  obtain ⟨C4, e2, h⟩ := lt_z h
  have a3 : ag fAct C C4 := ag_tr ag_rf (by rw [e2]; exact ag_wrI (by unfold fAct; omega))
  obtain ⟨r6, q4, h⟩ := bn_x h
  obtain ⟨C8, e5, h⟩ := lt_z h
  have a6 : ag fAct C C8 := ag_tr a3 (by rw [e5]; exact ag_wrI (by unfold fAct; omega))
  obtain ⟨r10, q7, h⟩ := bn_x h
  obtain ⟨C12, e8, h⟩ := lt_z h
  have a9 : ag fAct C C12 := ag_tr a6 (by rw [e8]; exact ag_wrI (by unfold fAct; omega))
  obtain ⟨C13, e10, h⟩ := lt_z h
  have a11 : ag fAct C C13 := ag_tr a9 (by rw [e10]; exact ag_wrI (by unfold fAct; omega))
  obtain ⟨C14, e12, h⟩ := lt_z h
  have a13 : ag fAct C C14 := ag_tr a11 (by rw [e12]; exact ag_wrI (by unfold fAct; omega))
  obtain ⟨C15, e14, h⟩ := lt_z h
  have a15 : ag fAct C C15 := ag_tr a13 (by rw [e14]; exact ag_wrI (by unfold fAct; omega))
  obtain ⟨C16, e16, h⟩ := lt_z h
  have a17 : ag fAct C C16 := ag_tr a15 (by rw [e16]; exact ag_wrI (by unfold fAct; omega))
  obtain ⟨C18, e18, h⟩ := lt_z h
  have a19 : ag fAct C C18 := ag_tr a17 (ga_X0_beginAnew e18.symm)
  rw [← Option.some.inj h]
  exact a19
theorem ga_X0_run {n : Nat} {p1 : Int32} {C : Mm} {C0 : Mm} (h : fX0_run n p1 C = some C0) : ag fAct C C0 := by
  have bl12 : ∀ (fu : Nat), ∀ {y2 : Int32} {C : Mm} (_ : fX0_run_h12 n fu y2 C = some C0), ag fAct C C0 := by
    intro fu
    induction fu with
    | zero =>
      intro y2 C h
      rw [fX0_run_h12.eq_1] at h
      cases h
    | succ fu ih =>
      intro y2 C h
      rw [fX0_run_h12.eq_2] at h
      by_cases c1 : y2 ≤ 0
      · replace h := it_t c1 h
        obtain ⟨C2, e2, h⟩ := lt_z h
        have a3 : ag fAct C C2 := ag_tr ag_rf (by rw [e2]; exact ag_wrI (by unfold fAct; omega))
        rw [← Option.some.inj h]
        exact a3
      · replace h := it_f c1 h
        obtain ⟨C3, e4, h⟩ := lt_z h
        have a5 : ag fAct C C3 := ag_tr ag_rf (by rw [e4]; exact ag_wrI (by unfold fAct; omega))
        obtain ⟨x4, e6, h⟩ := lt_z h
        exact ag_tr a5 (ih h)
  unfold fX0_run at h
  obtain ⟨C5, e7, h⟩ := lt_z h
  have a8 : ag fAct C C5 := ag_tr ag_rf (by rw [e7]; exact ag_wrI (by unfold fAct; omega))
  obtain ⟨C6, e9, h⟩ := lt_z h
  have a10 : ag fAct C C6 := ag_tr a8 (by rw [e9]; exact ag_wrI (by unfold fAct; omega))
  exact ag_tr a10 (bl12 _ h)
theorem ga_X0_note {p1 : Int32} {p2 : Int32} {p3 : Int32} {p4 : Int32} {C : Mm} {C0 : Mm} (h : fX0_note p1 p2 p3 p4 C = some C0) : ag fAct C C0 := by
  have bl108 : ∀ {C : Mm} (_ : fX0_note_b108 C = some C0), ag fAct C C0 := by
    intro C h
    unfold fX0_note_b108 at h
    obtain ⟨C1, e1, h⟩ := lt_z h
    have a2 : ag fAct C C1 := ag_tr ag_rf (by rw [e1]; exact ag_wrI (by unfold fAct; omega))
    rw [← Option.some.inj h]
    exact a2
  unfold fX0_note at h
  by_cases c3 : (C.1 36 6) < 80
  · replace h := it_t c3 h
    by_cases c4 : (C.1 36 6) < (0 : Int32) ∨ 80 ≤ Int32.toNatClampNeg (C.1 36 6)
    · cases it_t c4 h
    replace h := it_f c4 h
    obtain ⟨C4, e5, h⟩ := lt_z h
    have a6 : ag fAct C C4 := ag_tr ag_rf (by rw [e5]; exact ag_wrI (by unfold fAct; omega))
    by_cases c7 : (C4.1 36 6) < (0 : Int32) ∨ 80 ≤ Int32.toNatClampNeg (C4.1 36 6)
    · cases it_t c7 h
    replace h := it_f c7 h
    obtain ⟨C6, e8, h⟩ := lt_z h
    have a9 : ag fAct C C6 := ag_tr a6 (by rw [e8]; exact ag_wrI (by unfold fAct; omega))
    by_cases c10 : (C6.1 36 6) < (0 : Int32) ∨ 80 ≤ Int32.toNatClampNeg (C6.1 36 6)
    · cases it_t c10 h
    replace h := it_f c10 h
    obtain ⟨C8, e11, h⟩ := lt_z h
    have a12 : ag fAct C C8 := ag_tr a9 (by rw [e11]; exact ag_wrI (by unfold fAct; omega))
    by_cases c13 : (C8.1 36 6) < (0 : Int32) ∨ 80 ≤ Int32.toNatClampNeg (C8.1 36 6)
    · cases it_t c13 h
    replace h := it_f c13 h
    obtain ⟨C10, e14, h⟩ := lt_z h
    have a15 : ag fAct C C10 := ag_tr a12 (by rw [e14]; exact ag_wrI (by unfold fAct; omega))
    by_cases c16 : (C10.1 36 6) < (0 : Int32) ∨ 80 ≤ Int32.toNatClampNeg (C10.1 36 6)
    · cases it_t c16 h
    replace h := it_f c16 h
    obtain ⟨C12, e17, h⟩ := lt_z h
    have a18 : ag fAct C C12 := ag_tr a15 (by rw [e17]; exact ag_wrI (by unfold fAct; omega))
    obtain ⟨C13, e19, h⟩ := lt_z h
    have a20 : ag fAct C C13 := ag_tr a18 (by rw [e19]; exact ag_wrI (by unfold fAct; omega))
    by_cases c21 : (C13.1 36 6) < (0 : Int32) ∨ 80 ≤ Int32.toNatClampNeg (C13.1 36 6)
    · cases it_t c21 h
    replace h := it_f c21 h
    by_cases c22 : (C13.1 40 (Int32.toNatClampNeg (C13.1 36 6))) ≤ (C13.1 36 8)
    · replace h := it_t c22 h
      exact ag_tr a20 (bl108 h)
    · replace h := it_f c22 h
      by_cases c23 : (C13.1 36 6) < (0 : Int32) ∨ 80 ≤ Int32.toNatClampNeg (C13.1 36 6)
      · cases it_t c23 h
      replace h := it_f c23 h
      obtain ⟨C17, e24, h⟩ := lt_z h
      have a25 : ag fAct C C17 := ag_tr a20 (by rw [e24]; exact ag_wrI (by unfold fAct; omega))
      exact ag_tr a25 (bl108 h)
  · replace h := it_f c3 h
    rw [← Option.some.inj h]
    exact ag_rf
theorem ga_X0_goKnown {n : Nat} {p1 : Int32} {p2 : Int32} {C : Mm} {r0 : Int32} {C0 : Mm} (h : fX0_goKnown n p1 p2 C = some (r0, C0)) : ag fAct C C0 := by
  unfold fX0_goKnown at h
  obtain ⟨C2, q1, h⟩ := bn_x h
  have a2 : ag fAct C C2 := ag_tr ag_rf (ga_X0_run q1)
  obtain ⟨C4, q3, h⟩ := bn_x h
  have a4 : ag fAct C C4 := ag_tr a2 (ga_X0_note q3)
  rw [← pr_2 h]
  exact a4
theorem ga_X0_lookAndAdd {n : Nat} {p1 : Int32} {p2 : Int32} {p3 : Int32} {p4 : Int32} {C : Mm} {C0 : Mm} (h : fX0_lookAndAdd n p1 p2 p3 p4 C = some C0) : ag fAct C C0 := by
  have bl33 : ∀ {y1 : Int32} {y2 : Int32} {y3 : Int32} {y4 : Int32} {y5 : Int32} {y6 : Int32} {C : Mm} (_ : fX0_lookAndAdd_b33 n y1 y2 y3 y4 y5 y6 C = some C0), ag fAct C C0 := by
    intro y1 y2 y3 y4 y5 y6 C h
    unfold fX0_lookAndAdd_b33 at h
    obtain ⟨C2, q1, h⟩ := bn_x h
    have a2 : ag fAct C C2 := ag_tr ag_rf (ga_X0_note q1)
    by_cases c3 : y6 = 0
    · replace h := it_t c3 h
      rw [← Option.some.inj h]
      exact a2
    · replace h := it_f c3 h
      obtain ⟨C5, q4, h⟩ := bn_x h
      have a5 : ag fAct C C5 := ag_tr a2 (ga_X0_run q4)
      obtain ⟨C7, q6, h⟩ := bn_x h
      have a7 : ag fAct C C7 := ag_tr a5 (ga_X0_note q6)
      rw [← Option.some.inj h]
      exact a7
  unfold fX0_lookAndAdd at h
  by_cases c8 : p1 = 0
  · replace h := it_t c8 h
    rw [← Option.some.inj h]
    exact ag_rf
  · replace h := it_f c8 h
    by_cases c9 : p2 = 0
    · replace h := it_t c9 h
      rw [← Option.some.inj h]
      exact ag_rf
    · replace h := it_f c9 h
      obtain ⟨x10, e10, h⟩ := lt_z h
      obtain ⟨x11, e11, h⟩ := lt_z h
      by_cases c12 : x11 = 0
      · replace h := it_t c12 h
        obtain ⟨C14, q13, h⟩ := bn_x h
        have a14 : ag fAct C C14 := ag_tr ag_rf (ga_X0_run q13)
        exact ag_tr a14 (bl33 h)
      · replace h := it_f c12 h
        exact ag_tr ag_rf (bl33 h)
theorem ga_X0_goLeft {n : Nat} {p1 : Int32} {p2 : Int32} {C : Mm} {r0 : Int32} {C0 : Mm} (h : fX0_goLeft n p1 p2 C = some (r0, C0)) : ag fAct C C0 := by
  have bl21 : ∀ {k8 : Int32 → Int32 → Int32 → Mm → Option (Int32 × Mm)} (hk8 : ∀ {y1 : Int32} {y2 : Int32} {y3 : Int32} {C : Mm} (_ : k8 y1 y2 y3 C = some (r0, C0)), ag fAct C C0) (fu : Nat), ∀ {y1 : Int32} {y2 : Int32} {y3 : Int32} {y4 : Int32} {C : Mm} (_ : fX0_goLeft_h21 n k8 fu y1 y2 y3 y4 C = some (r0, C0)), ag fAct C C0 := by
    intro k8 hk8
    intro fu
    induction fu with
    | zero =>
      intro y1 y2 y3 y4 C h
      rw [fX0_goLeft_h21.eq_1] at h
      cases h
    | succ fu ih =>
      intro y1 y2 y3 y4 C h
      rw [fX0_goLeft_h21.eq_2] at h
      by_cases c1 : y4 < 0
      · replace h := it_t c1 h
        obtain ⟨x2, e2, h⟩ := lt_z h
        exact ag_tr ag_rf (hk8 h)
      · replace h := it_f c1 h
        obtain ⟨r4, q3, h⟩ := bn_x h
        obtain ⟨r7, q4, h⟩ := bn_x h
        obtain ⟨r10, q5, h⟩ := bn_x h
        obtain ⟨C13, q6, h⟩ := bn_x h
        have a7 : ag fAct C C13 := ag_tr ag_rf (ga_X0_lookAndAdd q6)
        obtain ⟨x14, e8, h⟩ := lt_z h
        exact ag_tr a7 (ih h)
  have bl8 : ∀ (fu : Nat), ∀ {y1 : Int32} {y2 : Int32} {y3 : Int32} {C : Mm} (_ : fX0_goLeft_h8 n fu y1 y2 y3 C = some (r0, C0)), ag fAct C C0 := by
    intro fu
    induction fu with
    | zero =>
      intro y1 y2 y3 C h
      rw [fX0_goLeft_h8.eq_1] at h
      cases h
    | succ fu ih =>
      intro y1 y2 y3 C h
      rw [fX0_goLeft_h8.eq_2] at h
      by_cases c9 : y3 < 0
      · replace h := it_t c9 h
        rw [← pr_2 h]
        exact ag_rf
      · replace h := it_f c9 h
        obtain ⟨r17, q10, h⟩ := bn_x h
        obtain ⟨x19, e11, h⟩ := lt_z h
        exact ag_tr ag_rf (bl21 ih _ h)
  unfold fX0_goLeft at h
  obtain ⟨r21, q12, h⟩ := bn_x h
  obtain ⟨x23, e13, h⟩ := lt_z h
  exact ag_tr ag_rf (bl8 _ h)
theorem ga_X0_holdRunning {C : Mm} {C0 : Mm} (h : fX0_holdRunning C = some C0) : ag fAct C C0 := by
  unfold fX0_holdRunning at h
  obtain ⟨x1, e1, h⟩ := lt_z h
  obtain ⟨x2, e2, h⟩ := lt_z h
  obtain ⟨C3, e3, h⟩ := lt_z h
  have a4 : ag fAct C C3 := ag_tr ag_rf (by rw [e3]; exact ag_wrI (by unfold fAct; omega))
  obtain ⟨C5, e5, h⟩ := lt_z h
  have a6 : ag fAct C C5 := ag_tr a4 (ga_X0_beginAnew e5.symm)
  obtain ⟨C7, q7, h⟩ := bn_x h
  have a8 : ag fAct C C7 := ag_tr a6 (ga_X0_note q7)
  rw [← Option.some.inj h]
  exact a8
theorem ga_X0_letGo {n : Nat} {p1 : Int32} {C : Mm} {C0 : Mm} (h : fX0_letGo n p1 C = some C0) : ag fAct C C0 := by
  unfold fX0_letGo at h
  obtain ⟨r2, q1, h⟩ := bn_x h
  obtain ⟨C4, e2, h⟩ := lt_z h
  have a3 : ag fAct C C4 := ag_tr ag_rf (by rw [e2]; exact ag_wrI (by unfold fAct; omega))
  rw [← Option.some.inj h]
  exact a3
theorem ga_X0_add {n : Nat} {p1 : Int32} {p2 : Int32} {C : Mm} {C0 : Mm} (h : fX0_add n p1 p2 C = some C0) : ag fAct C C0 := by
  unfold fX0_add at h
  obtain ⟨C2, q1, h⟩ := bn_x h
  have a2 : ag fAct C C2 := ag_tr ag_rf (ga_X0_run q1)
  obtain ⟨C4, q3, h⟩ := bn_x h
  have a4 : ag fAct C C4 := ag_tr a2 (ga_X0_note q3)
  rw [← Option.some.inj h]
  exact a4
theorem ga_X0_addRows {n : Nat} {p1 : Int32} {C : Mm} {C0 : Mm} (h : fX0_addRows n p1 C = some C0) : ag fAct C C0 := by
  have bl22 : ∀ (fu : Nat), ∀ {y1 : Int32} {y2 : Int32} {C : Mm} (_ : fX0_addRows_h22 n fu y1 y2 C = some C0), ag fAct C C0 := by
    intro fu
    induction fu with
    | zero =>
      intro y1 y2 C h
      rw [fX0_addRows_h22.eq_1] at h
      cases h
    | succ fu ih =>
      intro y1 y2 C h
      rw [fX0_addRows_h22.eq_2] at h
      by_cases c1 : y1 ≤ y2
      · replace h := it_t c1 h
        rw [← Option.some.inj h]
        exact ag_rf
      · replace h := it_f c1 h
        by_cases c2 : y2 < (0 : Int32) ∨ 4 ≤ Int32.toNatClampNeg y2
        · cases it_t c2 h
        replace h := it_f c2 h
        obtain ⟨C4, q3, h⟩ := bn_x h
        have a4 : ag fAct C C4 := ag_tr ag_rf (ga_X0_letGo q3)
        by_cases c5 : y2 < (0 : Int32) ∨ 4 ≤ Int32.toNatClampNeg y2
        · cases it_t c5 h
        replace h := it_f c5 h
        obtain ⟨C7, q6, h⟩ := bn_x h
        have a7 : ag fAct C C7 := ag_tr a4 (ga_X0_add q6)
        obtain ⟨x8, e8, h⟩ := lt_z h
        exact ag_tr a7 (ih h)
  unfold fX0_addRows at h
  by_cases c9 : 0 < (0 : Int32) ∨ 4 ≤ Int32.toNatClampNeg 0
  · cases it_t c9 h
  replace h := it_f c9 h
  obtain ⟨C11, q10, h⟩ := bn_x h
  have a11 : ag fAct C C11 := ag_tr ag_rf (ga_X0_letGo q10)
  by_cases c12 : 0 < (0 : Int32) ∨ 4 ≤ Int32.toNatClampNeg 0
  · cases it_t c12 h
  replace h := it_f c12 h
  obtain ⟨C14, q13, h⟩ := bn_x h
  have a14 : ag fAct C C14 := ag_tr a11 (ga_X0_run q13)
  exact ag_tr a14 (bl22 _ h)
theorem ga_X0_goRight {n : Nat} {p1 : Int32} {p2 : Int32} {C : Mm} {r0 : Int32} {C0 : Mm} (h : fX0_goRight n p1 p2 C = some (r0, C0)) : ag fAct C C0 := by
  have bl70 : ∀ {y3 : Int32} {C : Mm} (_ : fX0_goRight_b70 n y3 C = some (r0, C0)), ag fAct C C0 := by
    intro y3 C h
    unfold fX0_goRight_b70 at h
    by_cases c1 : y3 ≤ 1
    · replace h := it_t c1 h
      rw [← pr_2 h]
      exact ag_rf
    · replace h := it_f c1 h
      obtain ⟨C3, q2, h⟩ := bn_x h
      have a3 : ag fAct C C3 := ag_tr ag_rf (ga_X0_addRows q2)
      rw [← pr_2 h]
      exact a3
  have bl64 : ∀ {k5 : Int32 → Int32 → Int32 → Int32 → Mm → Option (Int32 × Mm)} (hk5 : ∀ {y1 : Int32} {y2 : Int32} {y3 : Int32} {y4 : Int32} {C : Mm} (_ : k5 y1 y2 y3 y4 C = some (r0, C0)), ag fAct C C0), ∀ {y1 : Int32} {y2 : Int32} {y3 : Int32} {y4 : Int32} {C : Mm} (_ : fX0_goRight_b64 n k5 y1 y2 y3 y4 C = some (r0, C0)), ag fAct C C0 := by
    intro k5 hk5 y1 y2 y3 y4 C h
    unfold fX0_goRight_b64 at h
    obtain ⟨x4, e4, h⟩ := lt_z h
    exact ag_tr ag_rf (hk5 h)
  have bl5 : ∀ (fu : Nat), ∀ {y1 : Int32} {y2 : Int32} {y3 : Int32} {y4 : Int32} {C : Mm} (_ : fX0_goRight_h5 n fu y1 y2 y3 y4 C = some (r0, C0)), ag fAct C C0 := by
    intro fu
    induction fu with
    | zero =>
      intro y1 y2 y3 y4 C h
      rw [fX0_goRight_h5.eq_1] at h
      cases h
    | succ fu ih =>
      intro y1 y2 y3 y4 C h
      rw [fX0_goRight_h5.eq_2] at h
      obtain ⟨r6, q5, h⟩ := bn_x h
      by_cases c6 : r6 ≤ y4
      · replace h := it_t c6 h
        exact ag_tr ag_rf (bl70 h)
      · replace h := it_f c6 h
        by_cases c7 : 4 ≤ y3
        · replace h := it_t c7 h
          exact ag_tr ag_rf (bl70 h)
        · replace h := it_f c7 h
          obtain ⟨r11, q8, h⟩ := bn_x h
          by_cases c9 : r11 = 0
          · replace h := it_t c9 h
            exact ag_tr ag_rf (bl64 ih h)
          · replace h := it_f c9 h
            obtain ⟨r15, q10, h⟩ := bn_x h
            obtain ⟨r18, C19, q11, h⟩ := bp_x h
            have a12 : ag fAct C C19 := ag_tr ag_rf (ga_X0_goLeft q11)
            by_cases c13 : y3 < (0 : Int32) ∨ 4 ≤ Int32.toNatClampNeg y3
            · cases it_t c13 h
            replace h := it_f c13 h
            obtain ⟨C22, e14, h⟩ := lt_z h
            have a15 : ag fAct C C22 := ag_tr a12 (by rw [e14]; exact ag_wrI (by unfold fAct; omega))
            obtain ⟨x23, e16, h⟩ := lt_z h
            obtain ⟨C25, q17, h⟩ := bn_x h
            have a18 : ag fAct C C25 := ag_tr a15 (ga_X0_holdRunning q17)
            exact ag_tr a18 (bl64 ih h)
  unfold fX0_goRight at h
  exact ag_tr ag_rf (bl5 _ h)
theorem ga_X0_holdLastFigure {C : Mm} {C0 : Mm} (h : fX0_holdLastFigure C = some C0) : ag fAct C C0 := by
  unfold fX0_holdLastFigure at h
  obtain ⟨x1, e1, h⟩ := lt_z h
  obtain ⟨C2, e2, h⟩ := lt_z h
  have a3 : ag fAct C C2 := ag_tr ag_rf (by rw [e2]; exact ag_wrI (by unfold fAct; omega))
  obtain ⟨C3, e4, h⟩ := lt_z h
  have a5 : ag fAct C C3 := ag_tr a3 (by rw [e4]; exact ag_wrI (by unfold fAct; omega))
  obtain ⟨C4, e6, h⟩ := lt_z h
  have a7 : ag fAct C C4 := ag_tr a5 (by rw [e6]; exact ag_wrI (by unfold fAct; omega))
  obtain ⟨C6, q8, h⟩ := bn_x h
  have a9 : ag fAct C C6 := ag_tr a7 (ga_X0_note q8)
  rw [← Option.some.inj h]
  exact a9
theorem ga_X0_goCrossed {n : Nat} {p1 : Int32} {p2 : Int32} {C : Mm} {r0 : Int32} {C0 : Mm} (h : fX0_goCrossed n p1 p2 C = some (r0, C0)) : ag fAct C C0 := by
  have bl26 : ∀ {k17 : Int32 → Int32 → Int32 → Int32 → Mm → Option (Int32 × Mm)} (hk17 : ∀ {y1 : Int32} {y2 : Int32} {y3 : Int32} {y4 : Int32} {C : Mm} (_ : k17 y1 y2 y3 y4 C = some (r0, C0)), ag fAct C C0) (fu : Nat), ∀ {y1 : Int32} {y2 : Int32} {y3 : Int32} {y4 : Int32} {y5 : Int32} {C : Mm} (_ : fX0_goCrossed_h26 n k17 fu y1 y2 y3 y4 y5 C = some (r0, C0)), ag fAct C C0 := by
    intro k17 hk17
    intro fu
    induction fu with
    | zero =>
      intro y1 y2 y3 y4 y5 C h
      rw [fX0_goCrossed_h26.eq_1] at h
      cases h
    | succ fu ih =>
      intro y1 y2 y3 y4 y5 C h
      rw [fX0_goCrossed_h26.eq_2] at h
      by_cases c1 : y4 < y5
      · replace h := it_t c1 h
        obtain ⟨C3, q2, h⟩ := bn_x h
        have a3 : ag fAct C C3 := ag_tr ag_rf (ga_X0_holdLastFigure q2)
        obtain ⟨x4, e4, h⟩ := lt_z h
        exact ag_tr a3 (hk17 h)
      · replace h := it_f c1 h
        obtain ⟨r6, q5, h⟩ := bn_x h
        obtain ⟨r9, q6, h⟩ := bn_x h
        obtain ⟨r12, q7, h⟩ := bn_x h
        obtain ⟨C15, q8, h⟩ := bn_x h
        have a9 : ag fAct C C15 := ag_tr ag_rf (ga_X0_lookAndAdd q8)
        obtain ⟨x16, e10, h⟩ := lt_z h
        exact ag_tr a9 (ih h)
  have bl17 : ∀ (fu : Nat), ∀ {y1 : Int32} {y2 : Int32} {y3 : Int32} {y4 : Int32} {C : Mm} (_ : fX0_goCrossed_h17 n fu y1 y2 y3 y4 C = some (r0, C0)), ag fAct C C0 := by
    intro fu
    induction fu with
    | zero =>
      intro y1 y2 y3 y4 C h
      rw [fX0_goCrossed_h17.eq_1] at h
      cases h
    | succ fu ih =>
      intro y1 y2 y3 y4 C h
      rw [fX0_goCrossed_h17.eq_2] at h
      by_cases c11 : y3 < y4
      · replace h := it_t c11 h
        rw [← pr_2 h]
        exact ag_rf
      · replace h := it_f c11 h
        exact ag_tr ag_rf (bl26 ih _ h)
  unfold fX0_goCrossed at h
  obtain ⟨r19, q12, h⟩ := bn_x h
  obtain ⟨r22, q13, h⟩ := bn_x h
  obtain ⟨x24, e14, h⟩ := lt_z h
  exact ag_tr ag_rf (bl17 _ h)
theorem ga_X0_goSquared {n : Nat} {p1 : Int32} {p2 : Int32} {C : Mm} {r0 : Int32} {C0 : Mm} (h : fX0_goSquared n p1 p2 C = some (r0, C0)) : ag fAct C C0 := by
  have bl47 : ∀ {y5 : Int32} {C : Mm} (_ : fX0_goSquared_b47 n y5 C = some (r0, C0)), ag fAct C C0 := by
    intro y5 C h
    unfold fX0_goSquared_b47 at h
    obtain ⟨C2, q1, h⟩ := bn_x h
    have a2 : ag fAct C C2 := ag_tr ag_rf (ga_X0_letGo q1)
    obtain ⟨C4, q3, h⟩ := bn_x h
    have a4 : ag fAct C C4 := ag_tr a2 (ga_X0_add q3)
    rw [← pr_2 h]
    exact a4
  unfold fX0_goSquared at h
  obtain ⟨x5, e5, h⟩ := lt_z h
  obtain ⟨x6, e6, h⟩ := lt_z h
  obtain ⟨r8, C9, q7, h⟩ := bp_x h
  have a8 : ag fAct C C9 := ag_tr ag_rf (ga_X0_goLeft q7)
  obtain ⟨x11, e9, h⟩ := lt_z h
  obtain ⟨C13, q10, h⟩ := bn_x h
  have a11 : ag fAct C C13 := ag_tr a8 (ga_X0_holdRunning q10)
  by_cases c12 : x6 ≤ 0
  · replace h := it_t c12 h
    exact ag_tr a11 (bl47 h)
  · replace h := it_f c12 h
    obtain ⟨r16, C17, q13, h⟩ := bp_x h
    have a14 : ag fAct C C17 := ag_tr a11 (ga_X0_goLeft q13)
    exact ag_tr a14 (bl47 h)
theorem ga_X0_goSplit {n : Nat} {p1 : Int32} {p2 : Int32} {p3 : Int32} {C : Mm} {r0 : Int32} {C0 : Mm} (h : fX0_goSplit n p1 p2 p3 C = some (r0, C0)) : ag fAct C C0 := by
  have bl53 : ∀ {k3 : Int32 → Int32 → Int32 → Mm → Option (Int32 × Mm)} (hk3 : ∀ {y1 : Int32} {y2 : Int32} {y4 : Int32} {C : Mm} (_ : k3 y1 y2 y4 C = some (r0, C0)), ag fAct C C0), ∀ {y1 : Int32} {y2 : Int32} {y4 : Int32} {C : Mm} (_ : fX0_goSplit_b53 n k3 y1 y2 y4 C = some (r0, C0)), ag fAct C C0 := by
    intro k3 hk3 y1 y2 y4 C h
    unfold fX0_goSplit_b53 at h
    obtain ⟨x1, e1, h⟩ := lt_z h
    exact ag_tr ag_rf (hk3 h)
  have bl3 : ∀ (fu : Nat), ∀ {y1 : Int32} {y2 : Int32} {y4 : Int32} {C : Mm} (_ : fX0_goSplit_h3 n fu y1 y2 y4 C = some (r0, C0)), ag fAct C C0 := by
    intro fu
    induction fu with
    | zero =>
      intro y1 y2 y4 C h
      rw [fX0_goSplit_h3.eq_1] at h
      cases h
    | succ fu ih =>
      intro y1 y2 y4 C h
      rw [fX0_goSplit_h3.eq_2] at h
      by_cases c2 : y4 < 2
      · replace h := it_t c2 h
        rw [← pr_2 h]
        exact ag_rf
      · replace h := it_f c2 h
        by_cases c3 : y4 = 0
        · cases it_t c3 h
        replace h := it_f c3 h
        by_cases c4 : (irm y2 y4) = 0
        · replace h := it_t c4 h
          by_cases c5 : y4 = 0
          · cases it_t c5 h
          replace h := it_f c5 h
          by_cases c6 : (y2 / y4) ≤ 1
          · replace h := it_t c6 h
            exact ag_tr ag_rf (bl53 ih h)
          · replace h := it_f c6 h
            obtain ⟨r8, C9, q7, h⟩ := bp_x h
            have a8 : ag fAct C C9 := ag_tr ag_rf (ga_X0_goLeft q7)
            obtain ⟨x11, e9, h⟩ := lt_z h
            obtain ⟨C13, q10, h⟩ := bn_x h
            have a11 : ag fAct C C13 := ag_tr a8 (ga_X0_holdRunning q10)
            by_cases c12 : y4 = 0
            · cases it_t c12 h
            replace h := it_f c12 h
            obtain ⟨r16, C17, q13, h⟩ := bp_x h
            have a14 : ag fAct C C17 := ag_tr a11 (ga_X0_goLeft q13)
            rw [← pr_2 h]
            exact a14
        · replace h := it_f c4 h
          exact ag_tr ag_rf (bl53 ih h)
  unfold fX0_goSplit at h
  exact ag_tr ag_rf (bl3 _ h)
theorem ga_X0_reckon {n : Nat} {j1 : Nat} (hj1 : j1 < 7) {p2 : Int32} {p3 : Int32} {C : Mm} {r0 : Int32} {C0 : Mm} (h : fX0_reckon n j1 p2 p3 C = some (r0, C0)) : ag fAct C C0 := by
  unfold fX0_reckon at h
  obtain ⟨x1, e1, h⟩ := lt_z h
  obtain ⟨x2, e2, h⟩ := lt_z h
  obtain ⟨C4, q3, h⟩ := bn_x h
  have a4 : ag fAct C C4 := ag_tr ag_rf (ga_X0_begin (by omega) q3)
  by_cases c5 : p2 = 0
  · replace h := it_t c5 h
    obtain ⟨r7, q6, h⟩ := bn_x h
    by_cases c7 : r7 = 0
    · replace h := it_t c7 h
      rw [← pr_2 h]
      exact a4
    · replace h := it_f c7 h
      obtain ⟨r11, C12, q8, h⟩ := bp_x h
      have a9 : ag fAct C C12 := ag_tr a4 (ga_X0_goKnown q8)
      by_cases c10 : r11 = 0
      · replace h := it_t c10 h
        rw [← pr_2 h]
        exact a9
      · replace h := it_f c10 h
        rw [← pr_2 h]
        exact a9
  · replace h := it_f c5 h
    by_cases c11 : p2 = 1
    · replace h := it_t c11 h
      obtain ⟨r17, C18, q12, h⟩ := bp_x h
      have a13 : ag fAct C C18 := ag_tr a4 (ga_X0_goLeft q12)
      rw [← pr_2 h]
      exact a13
    · replace h := it_f c11 h
      by_cases c14 : p2 = 2
      · replace h := it_t c14 h
        obtain ⟨r22, C23, q15, h⟩ := bp_x h
        have a16 : ag fAct C C23 := ag_tr a4 (ga_X0_goRight q15)
        rw [← pr_2 h]
        exact a16
      · replace h := it_f c14 h
        by_cases c17 : p2 = 3
        · replace h := it_t c17 h
          obtain ⟨r27, C28, q18, h⟩ := bp_x h
          have a19 : ag fAct C C28 := ag_tr a4 (ga_X0_goCrossed q18)
          rw [← pr_2 h]
          exact a19
        · replace h := it_f c17 h
          by_cases c20 : p2 = 4
          · replace h := it_t c20 h
            by_cases c21 : (irm (x1 + x2) 2) = 0
            · replace h := it_t c21 h
              obtain ⟨r33, C34, q22, h⟩ := bp_x h
              have a23 : ag fAct C C34 := ag_tr a4 (ga_X0_goSquared q22)
              by_cases c24 : r33 = 0
              · replace h := it_t c24 h
                rw [← pr_2 h]
                exact a23
              · replace h := it_f c24 h
                rw [← pr_2 h]
                exact a23
            · replace h := it_f c21 h
              rw [← pr_2 h]
              exact a4
          · replace h := it_f c20 h
            by_cases c25 : p2 = 5
            · replace h := it_t c25 h
              obtain ⟨r39, q26, h⟩ := bn_x h
              obtain ⟨r42, C43, q27, h⟩ := bp_x h
              have a28 : ag fAct C C43 := ag_tr a4 (ga_X0_goSplit q27)
              rw [← pr_2 h]
              exact a28
            · replace h := it_f c25 h
              by_cases c29 : p2 = 6
              · replace h := it_t c29 h
                obtain ⟨r47, C48, q30, h⟩ := bp_x h
                have a31 : ag fAct C C48 := ag_tr a4 (ga_X0_goRight q30)
                rw [← pr_2 h]
                exact a31
              · replace h := it_f c29 h
                rw [← pr_2 h]
                exact a4
def fStk (q i : Nat) : Prop := q = 35 ∨ (q = 32 ∧ i = 5)
theorem gs_X3_pop {C : Mm} {r0 : Int32} {C0 : Mm} (h : fX3_pop C = some (r0, C0)) : ag fStk C C0 := by
  unfold fX3_pop at h
  by_cases c1 : (C.1 32 5) = 0
  · replace h := it_t c1 h
    rw [← pr_2 h]
    exact ag_rf
  · replace h := it_f c1 h
    obtain ⟨C2, e2, h⟩ := lt_z h
    have a3 : ag fStk C C2 := ag_tr ag_rf (by rw [e2]; exact ag_wrI (by unfold fStk; omega))
    by_cases c4 : (C2.1 32 5) < (0 : Int32) ∨ 128 ≤ Int32.toNatClampNeg (C2.1 32 5)
    · cases it_t c4 h
    replace h := it_f c4 h
    rw [← pr_2 h]
    exact a3
theorem gs_X3_push {p1 : Int32} {C : Mm} {C0 : Mm} (h : fX3_push p1 C = some C0) : ag fStk C C0 := by
  unfold fX3_push at h
  by_cases c1 : 128 ≤ (C.1 32 5)
  · replace h := it_t c1 h
    rw [← Option.some.inj h]
    exact ag_rf
  · replace h := it_f c1 h
    by_cases c2 : (C.1 32 5) < (0 : Int32) ∨ 128 ≤ Int32.toNatClampNeg (C.1 32 5)
    · cases it_t c2 h
    replace h := it_f c2 h
    obtain ⟨C3, e3, h⟩ := lt_z h
    have a4 : ag fStk C C3 := ag_tr ag_rf (by rw [e3]; exact ag_wrI (by unfold fStk; omega))
    obtain ⟨C4, e5, h⟩ := lt_z h
    have a6 : ag fStk C C4 := ag_tr a4 (by rw [e5]; exact ag_wrI (by unfold fStk; omega))
    rw [← Option.some.inj h]
    exact a6
theorem gs_X3_workOut {n : Nat} {j2 : Nat} (hj2 : j2 < 7) {p1 : Int32} {p3 : Int32} {C : Mm} {C0 : Mm} (h : fX3_workOut n j2 p1 p3 C = some C0) : ag fStk C C0 := by
  have bl62 : ∀ {s0 : Int32} {C : Mm} (_ : fX3_workOut_b62 n j2 s0 C = some C0), ag fStk C C0 := by
    intro s0 C h
    unfold fX3_workOut_b62 at h
    obtain ⟨C2, q1, h⟩ := bn_x h
    have a2 : ag fStk C C2 := ag_tr ag_rf (gs_X3_push q1)
    rw [← Option.some.inj h]
    exact a2
  unfold fX3_workOut at h
  by_cases c3 : p1 < 0
  · replace h := it_t c3 h
    by_cases c4 : (fX3_isName (-p1)) = 0
    · replace h := it_t c4 h
      by_cases c5 : p1 = (-33)
      · replace h := it_t c5 h
        obtain ⟨r29, C30, q6, h⟩ := bp_x h
        have a7 : ag fStk C C30 := ag_tr ag_rf (gs_X3_pop q6)
        by_cases c8 : r29 = 0
        · replace h := it_t c8 h
          exact ag_tr a7 (bl62 h)
        · replace h := it_f c8 h
          exact ag_tr a7 (bl62 h)
      · replace h := it_f c5 h
        by_cases c9 : p1 = (-126)
        · replace h := it_t c9 h
          obtain ⟨r23, C24, q10, h⟩ := bp_x h
          have a11 : ag fStk C C24 := ag_tr ag_rf (gs_X3_pop q10)
          obtain ⟨C27, q12, h⟩ := bn_x h
          have a13 : ag fStk C C27 := ag_tr a11 (gs_X3_push q12)
          rw [← Option.some.inj h]
          exact a13
        · replace h := it_f c9 h
          obtain ⟨r10, C11, q14, h⟩ := bp_x h
          have a15 : ag fStk C C11 := ag_tr ag_rf (gs_X3_pop q14)
          obtain ⟨r14, C15, q16, h⟩ := bp_x h
          have a17 : ag fStk C C15 := ag_tr a15 (gs_X3_pop q16)
          obtain ⟨r18, q18, h⟩ := bn_x h
          obtain ⟨C21, q19, h⟩ := bn_x h
          have a20 : ag fStk C C21 := ag_tr a17 (gs_X3_push q19)
          rw [← Option.some.inj h]
          exact a20
    · replace h := it_f c4 h
      obtain ⟨r34, q21, h⟩ := bn_x h
      obtain ⟨C37, q22, h⟩ := bn_x h
      have a23 : ag fStk C C37 := ag_tr ag_rf (gs_X3_push q22)
      rw [← Option.some.inj h]
      exact a23
  · replace h := it_f c3 h
    obtain ⟨C39, q24, h⟩ := bn_x h
    have a25 : ag fStk C C39 := ag_tr ag_rf (gs_X3_push q24)
    rw [← Option.some.inj h]
    exact a25
theorem gs_X3_numberFor {n : Nat} {j1 : Nat} (hj1 : j1 < 7) {p2 : Int32} {C : Mm} {r0 : Int32} {C0 : Mm} (h : fX3_numberFor n j1 p2 C = some (r0, C0)) : ag fStk C C0 := by
  have bl100 : ∀ {k19 : Int32 → Int32 → Int32 → Mm → Option (Int32 × Mm)} (hk19 : ∀ {y2 : Int32} {y3 : Int32} {y4 : Int32} {C : Mm} (_ : k19 y2 y3 y4 C = some (r0, C0)), ag fStk C C0), ∀ {y2 : Int32} {y3 : Int32} {y4 : Int32} {C : Mm} (_ : fX3_numberFor_b100 n j1 k19 y2 y3 y4 C = some (r0, C0)), ag fStk C C0 := by
    intro k19 hk19 y2 y3 y4 C h
    unfold fX3_numberFor_b100 at h
    obtain ⟨x1, e1, h⟩ := lt_z h
    exact ag_tr ag_rf (hk19 h)
  have bl88 : ∀ {k19 : Int32 → Int32 → Int32 → Mm → Option (Int32 × Mm)} (hk19 : ∀ {y2 : Int32} {y3 : Int32} {y4 : Int32} {C : Mm} (_ : k19 y2 y3 y4 C = some (r0, C0)), ag fStk C C0), ∀ {y2 : Int32} {y4 : Int32} {s0 : Int32} {C : Mm} (_ : fX3_numberFor_b88 n j1 k19 y2 y4 s0 C = some (r0, C0)), ag fStk C C0 := by
    intro k19 hk19 y2 y4 s0 C h
    unfold fX3_numberFor_b88 at h
    exact ag_tr ag_rf (bl100 hk19 h)
  have bl53 : ∀ {k19 : Int32 → Int32 → Int32 → Mm → Option (Int32 × Mm)} (hk19 : ∀ {y2 : Int32} {y3 : Int32} {y4 : Int32} {C : Mm} (_ : k19 y2 y3 y4 C = some (r0, C0)), ag fStk C C0), ∀ {y2 : Int32} {y4 : Int32} {s0 : Int32} {C : Mm} (_ : fX3_numberFor_b53 n j1 k19 y2 y4 s0 C = some (r0, C0)), ag fStk C C0 := by
    intro k19 hk19 y2 y4 s0 C h
    unfold fX3_numberFor_b53 at h
    exact ag_tr ag_rf (bl100 hk19 h)
  have bl19 : ∀ (fu : Nat), ∀ {y2 : Int32} {y3 : Int32} {y4 : Int32} {C : Mm} (_ : fX3_numberFor_h19 n j1 fu y2 y3 y4 C = some (r0, C0)), ag fStk C C0 := by
    intro fu
    induction fu with
    | zero =>
      intro y2 y3 y4 C h
      rw [fX3_numberFor_h19.eq_1] at h
      cases h
    | succ fu ih =>
      intro y2 y3 y4 C h
      rw [fX3_numberFor_h19.eq_2] at h
      by_cases c2 : (C.1 32 1) ≤ y4
      · replace h := it_t c2 h
        rw [← pr_2 h]
        exact ag_rf
      · replace h := it_f c2 h
        by_cases c3 : y4 < (0 : Int32) ∨ 128 ≤ Int32.toNatClampNeg y4
        · cases it_t c3 h
        replace h := it_f c3 h
        obtain ⟨x4, e4, h⟩ := lt_z h
        by_cases c5 : y3 = 0
        · replace h := it_t c5 h
          by_cases c6 : x4 = (-59)
          · replace h := it_t c6 h
            obtain ⟨r16, C17, q7, h⟩ := bp_x h
            have a8 : ag fStk C C17 := ag_tr ag_rf (gs_X3_pop q7)
            rw [← pr_2 h]
            exact a8
          · replace h := it_f c6 h
            by_cases c9 : x4 = (-63)
            · replace h := it_t c9 h
              obtain ⟨r11, C12, q10, h⟩ := bp_x h
              have a11 : ag fStk C C12 := ag_tr ag_rf (gs_X3_pop q10)
              by_cases c12 : r11 = 0
              · replace h := it_t c12 h
                exact ag_tr a11 (bl88 ih h)
              · replace h := it_f c12 h
                exact ag_tr a11 (bl88 ih h)
            · replace h := it_f c9 h
              obtain ⟨C9, q13, h⟩ := bn_x h
              have a14 : ag fStk C C9 := ag_tr ag_rf (gs_X3_workOut (by omega) q13)
              exact ag_tr a14 (bl100 ih h)
        · replace h := it_f c5 h
          by_cases c15 : x4 = (-59)
          · replace h := it_t c15 h
            exact ag_tr ag_rf (bl53 ih h)
          · replace h := it_f c15 h
            exact ag_tr ag_rf (bl53 ih h)
  unfold fX3_numberFor at h
  by_cases c16 : (C.1 32 1) = 0
  · replace h := it_t c16 h
    rw [← pr_2 h]
    exact ag_rf
  · replace h := it_f c16 h
    obtain ⟨C21, e17, h⟩ := lt_z h
    have a18 : ag fStk C C21 := ag_tr ag_rf (by rw [e17]; exact ag_wrI (by unfold fStk; omega))
    exact ag_tr a18 (bl19 _ h)
def fScr (q i : Nat) : Prop := ¬ lastC q i ∧ (q < 60 ∨ 72 ≤ q)
theorem gc_X0_beginAnew {C : Mm} {C0 : Mm} (h : fX0_beginAnew C = C0) : ag fScr C C0 := by
  unfold fX0_beginAnew at h
  obtain ⟨C1, e1, h⟩ := lt_z h
  have a2 : ag fScr C C1 := ag_tr ag_rf (by rw [e1]; exact ag_wrI (by unfold fScr lastC; omega))
  obtain ⟨C2, e3, h⟩ := lt_z h
  have a4 : ag fScr C C2 := ag_tr a2 (by rw [e3]; exact ag_wrI (by unfold fScr lastC; omega))
  obtain ⟨C3, e5, h⟩ := lt_z h
  have a6 : ag fScr C C3 := ag_tr a4 (by rw [e5]; exact ag_wrI (by unfold fScr lastC; omega))
  rw [← h]
  exact a6
theorem gc_X0_begin {j1 : Nat} (hj1 : j1 < 7) {C : Mm} {C0 : Mm} (h : fX0_begin j1 C = some C0) : ag fScr C C0 := by
  unfold fX0_begin at h
  obtain ⟨r2, q1, h⟩ := bn_x h
  obtain ⟨C4, e2, h⟩ := lt_z h
  have a3 : ag fScr C C4 := ag_tr ag_rf (by rw [e2]; exact ag_wrI (by unfold fScr lastC; omega))
  obtain ⟨r6, q4, h⟩ := bn_x h
  obtain ⟨C8, e5, h⟩ := lt_z h
  have a6 : ag fScr C C8 := ag_tr a3 (by rw [e5]; exact ag_wrI (by unfold fScr lastC; omega))
  obtain ⟨r10, q7, h⟩ := bn_x h
  obtain ⟨C12, e8, h⟩ := lt_z h
  have a9 : ag fScr C C12 := ag_tr a6 (by rw [e8]; exact ag_wrI (by unfold fScr lastC; omega))
  obtain ⟨C13, e10, h⟩ := lt_z h
  have a11 : ag fScr C C13 := ag_tr a9 (by rw [e10]; exact ag_wrI (by unfold fScr lastC; omega))
  obtain ⟨C14, e12, h⟩ := lt_z h
  have a13 : ag fScr C C14 := ag_tr a11 (by rw [e12]; exact ag_wrI (by unfold fScr lastC; omega))
  obtain ⟨C15, e14, h⟩ := lt_z h
  have a15 : ag fScr C C15 := ag_tr a13 (by rw [e14]; exact ag_wrI (by unfold fScr lastC; omega))
  obtain ⟨C16, e16, h⟩ := lt_z h
  have a17 : ag fScr C C16 := ag_tr a15 (by rw [e16]; exact ag_wrI (by unfold fScr lastC; omega))
  obtain ⟨C18, e18, h⟩ := lt_z h
  have a19 : ag fScr C C18 := ag_tr a17 (gc_X0_beginAnew e18.symm)
  rw [← Option.some.inj h]
  exact a19
theorem gc_X0_run {n : Nat} {p1 : Int32} {C : Mm} {C0 : Mm} (h : fX0_run n p1 C = some C0) : ag fScr C C0 := by
  have bl12 : ∀ (fu : Nat), ∀ {y2 : Int32} {C : Mm} (_ : fX0_run_h12 n fu y2 C = some C0), ag fScr C C0 := by
    intro fu
    induction fu with
    | zero =>
      intro y2 C h
      rw [fX0_run_h12.eq_1] at h
      cases h
    | succ fu ih =>
      intro y2 C h
      rw [fX0_run_h12.eq_2] at h
      by_cases c1 : y2 ≤ 0
      · replace h := it_t c1 h
        obtain ⟨C2, e2, h⟩ := lt_z h
        have a3 : ag fScr C C2 := ag_tr ag_rf (by rw [e2]; exact ag_wrI (by unfold fScr lastC; omega))
        rw [← Option.some.inj h]
        exact a3
      · replace h := it_f c1 h
        obtain ⟨C3, e4, h⟩ := lt_z h
        have a5 : ag fScr C C3 := ag_tr ag_rf (by rw [e4]; exact ag_wrI (by unfold fScr lastC; omega))
        obtain ⟨x4, e6, h⟩ := lt_z h
        exact ag_tr a5 (ih h)
  unfold fX0_run at h
  obtain ⟨C5, e7, h⟩ := lt_z h
  have a8 : ag fScr C C5 := ag_tr ag_rf (by rw [e7]; exact ag_wrI (by unfold fScr lastC; omega))
  obtain ⟨C6, e9, h⟩ := lt_z h
  have a10 : ag fScr C C6 := ag_tr a8 (by rw [e9]; exact ag_wrI (by unfold fScr lastC; omega))
  exact ag_tr a10 (bl12 _ h)
theorem gc_X0_note {p1 : Int32} {p2 : Int32} {p3 : Int32} {p4 : Int32} {C : Mm} {C0 : Mm} (h : fX0_note p1 p2 p3 p4 C = some C0) : ag fScr C C0 := by
  have bl108 : ∀ {C : Mm} (_ : fX0_note_b108 C = some C0), ag fScr C C0 := by
    intro C h
    unfold fX0_note_b108 at h
    obtain ⟨C1, e1, h⟩ := lt_z h
    have a2 : ag fScr C C1 := ag_tr ag_rf (by rw [e1]; exact ag_wrI (by unfold fScr lastC; omega))
    rw [← Option.some.inj h]
    exact a2
  unfold fX0_note at h
  by_cases c3 : (C.1 36 6) < 80
  · replace h := it_t c3 h
    by_cases c4 : (C.1 36 6) < (0 : Int32) ∨ 80 ≤ Int32.toNatClampNeg (C.1 36 6)
    · cases it_t c4 h
    replace h := it_f c4 h
    obtain ⟨C4, e5, h⟩ := lt_z h
    have a6 : ag fScr C C4 := ag_tr ag_rf (by rw [e5]; exact ag_wrI (by unfold fScr lastC; omega))
    by_cases c7 : (C4.1 36 6) < (0 : Int32) ∨ 80 ≤ Int32.toNatClampNeg (C4.1 36 6)
    · cases it_t c7 h
    replace h := it_f c7 h
    obtain ⟨C6, e8, h⟩ := lt_z h
    have a9 : ag fScr C C6 := ag_tr a6 (by rw [e8]; exact ag_wrI (by unfold fScr lastC; omega))
    by_cases c10 : (C6.1 36 6) < (0 : Int32) ∨ 80 ≤ Int32.toNatClampNeg (C6.1 36 6)
    · cases it_t c10 h
    replace h := it_f c10 h
    obtain ⟨C8, e11, h⟩ := lt_z h
    have a12 : ag fScr C C8 := ag_tr a9 (by rw [e11]; exact ag_wrI (by unfold fScr lastC; omega))
    by_cases c13 : (C8.1 36 6) < (0 : Int32) ∨ 80 ≤ Int32.toNatClampNeg (C8.1 36 6)
    · cases it_t c13 h
    replace h := it_f c13 h
    obtain ⟨C10, e14, h⟩ := lt_z h
    have a15 : ag fScr C C10 := ag_tr a12 (by rw [e14]; exact ag_wrI (by unfold fScr lastC; omega))
    by_cases c16 : (C10.1 36 6) < (0 : Int32) ∨ 80 ≤ Int32.toNatClampNeg (C10.1 36 6)
    · cases it_t c16 h
    replace h := it_f c16 h
    obtain ⟨C12, e17, h⟩ := lt_z h
    have a18 : ag fScr C C12 := ag_tr a15 (by rw [e17]; exact ag_wrI (by unfold fScr lastC; omega))
    obtain ⟨C13, e19, h⟩ := lt_z h
    have a20 : ag fScr C C13 := ag_tr a18 (by rw [e19]; exact ag_wrI (by unfold fScr lastC; omega))
    by_cases c21 : (C13.1 36 6) < (0 : Int32) ∨ 80 ≤ Int32.toNatClampNeg (C13.1 36 6)
    · cases it_t c21 h
    replace h := it_f c21 h
    by_cases c22 : (C13.1 40 (Int32.toNatClampNeg (C13.1 36 6))) ≤ (C13.1 36 8)
    · replace h := it_t c22 h
      exact ag_tr a20 (bl108 h)
    · replace h := it_f c22 h
      by_cases c23 : (C13.1 36 6) < (0 : Int32) ∨ 80 ≤ Int32.toNatClampNeg (C13.1 36 6)
      · cases it_t c23 h
      replace h := it_f c23 h
      obtain ⟨C17, e24, h⟩ := lt_z h
      have a25 : ag fScr C C17 := ag_tr a20 (by rw [e24]; exact ag_wrI (by unfold fScr lastC; omega))
      exact ag_tr a25 (bl108 h)
  · replace h := it_f c3 h
    rw [← Option.some.inj h]
    exact ag_rf
theorem gc_X0_goKnown {n : Nat} {p1 : Int32} {p2 : Int32} {C : Mm} {r0 : Int32} {C0 : Mm} (h : fX0_goKnown n p1 p2 C = some (r0, C0)) : ag fScr C C0 := by
  unfold fX0_goKnown at h
  obtain ⟨C2, q1, h⟩ := bn_x h
  have a2 : ag fScr C C2 := ag_tr ag_rf (gc_X0_run q1)
  obtain ⟨C4, q3, h⟩ := bn_x h
  have a4 : ag fScr C C4 := ag_tr a2 (gc_X0_note q3)
  rw [← pr_2 h]
  exact a4
theorem gc_X0_lookAndAdd {n : Nat} {p1 : Int32} {p2 : Int32} {p3 : Int32} {p4 : Int32} {C : Mm} {C0 : Mm} (h : fX0_lookAndAdd n p1 p2 p3 p4 C = some C0) : ag fScr C C0 := by
  have bl33 : ∀ {y1 : Int32} {y2 : Int32} {y3 : Int32} {y4 : Int32} {y5 : Int32} {y6 : Int32} {C : Mm} (_ : fX0_lookAndAdd_b33 n y1 y2 y3 y4 y5 y6 C = some C0), ag fScr C C0 := by
    intro y1 y2 y3 y4 y5 y6 C h
    unfold fX0_lookAndAdd_b33 at h
    obtain ⟨C2, q1, h⟩ := bn_x h
    have a2 : ag fScr C C2 := ag_tr ag_rf (gc_X0_note q1)
    by_cases c3 : y6 = 0
    · replace h := it_t c3 h
      rw [← Option.some.inj h]
      exact a2
    · replace h := it_f c3 h
      obtain ⟨C5, q4, h⟩ := bn_x h
      have a5 : ag fScr C C5 := ag_tr a2 (gc_X0_run q4)
      obtain ⟨C7, q6, h⟩ := bn_x h
      have a7 : ag fScr C C7 := ag_tr a5 (gc_X0_note q6)
      rw [← Option.some.inj h]
      exact a7
  unfold fX0_lookAndAdd at h
  by_cases c8 : p1 = 0
  · replace h := it_t c8 h
    rw [← Option.some.inj h]
    exact ag_rf
  · replace h := it_f c8 h
    by_cases c9 : p2 = 0
    · replace h := it_t c9 h
      rw [← Option.some.inj h]
      exact ag_rf
    · replace h := it_f c9 h
      obtain ⟨x10, e10, h⟩ := lt_z h
      obtain ⟨x11, e11, h⟩ := lt_z h
      by_cases c12 : x11 = 0
      · replace h := it_t c12 h
        obtain ⟨C14, q13, h⟩ := bn_x h
        have a14 : ag fScr C C14 := ag_tr ag_rf (gc_X0_run q13)
        exact ag_tr a14 (bl33 h)
      · replace h := it_f c12 h
        exact ag_tr ag_rf (bl33 h)
theorem gc_X0_goLeft {n : Nat} {p1 : Int32} {p2 : Int32} {C : Mm} {r0 : Int32} {C0 : Mm} (h : fX0_goLeft n p1 p2 C = some (r0, C0)) : ag fScr C C0 := by
  have bl21 : ∀ {k8 : Int32 → Int32 → Int32 → Mm → Option (Int32 × Mm)} (hk8 : ∀ {y1 : Int32} {y2 : Int32} {y3 : Int32} {C : Mm} (_ : k8 y1 y2 y3 C = some (r0, C0)), ag fScr C C0) (fu : Nat), ∀ {y1 : Int32} {y2 : Int32} {y3 : Int32} {y4 : Int32} {C : Mm} (_ : fX0_goLeft_h21 n k8 fu y1 y2 y3 y4 C = some (r0, C0)), ag fScr C C0 := by
    intro k8 hk8
    intro fu
    induction fu with
    | zero =>
      intro y1 y2 y3 y4 C h
      rw [fX0_goLeft_h21.eq_1] at h
      cases h
    | succ fu ih =>
      intro y1 y2 y3 y4 C h
      rw [fX0_goLeft_h21.eq_2] at h
      by_cases c1 : y4 < 0
      · replace h := it_t c1 h
        obtain ⟨x2, e2, h⟩ := lt_z h
        exact ag_tr ag_rf (hk8 h)
      · replace h := it_f c1 h
        obtain ⟨r4, q3, h⟩ := bn_x h
        obtain ⟨r7, q4, h⟩ := bn_x h
        obtain ⟨r10, q5, h⟩ := bn_x h
        obtain ⟨C13, q6, h⟩ := bn_x h
        have a7 : ag fScr C C13 := ag_tr ag_rf (gc_X0_lookAndAdd q6)
        obtain ⟨x14, e8, h⟩ := lt_z h
        exact ag_tr a7 (ih h)
  have bl8 : ∀ (fu : Nat), ∀ {y1 : Int32} {y2 : Int32} {y3 : Int32} {C : Mm} (_ : fX0_goLeft_h8 n fu y1 y2 y3 C = some (r0, C0)), ag fScr C C0 := by
    intro fu
    induction fu with
    | zero =>
      intro y1 y2 y3 C h
      rw [fX0_goLeft_h8.eq_1] at h
      cases h
    | succ fu ih =>
      intro y1 y2 y3 C h
      rw [fX0_goLeft_h8.eq_2] at h
      by_cases c9 : y3 < 0
      · replace h := it_t c9 h
        rw [← pr_2 h]
        exact ag_rf
      · replace h := it_f c9 h
        obtain ⟨r17, q10, h⟩ := bn_x h
        obtain ⟨x19, e11, h⟩ := lt_z h
        exact ag_tr ag_rf (bl21 ih _ h)
  unfold fX0_goLeft at h
  obtain ⟨r21, q12, h⟩ := bn_x h
  obtain ⟨x23, e13, h⟩ := lt_z h
  exact ag_tr ag_rf (bl8 _ h)
theorem gc_X0_holdRunning {C : Mm} {C0 : Mm} (h : fX0_holdRunning C = some C0) : ag fScr C C0 := by
  unfold fX0_holdRunning at h
  obtain ⟨x1, e1, h⟩ := lt_z h
  obtain ⟨x2, e2, h⟩ := lt_z h
  obtain ⟨C3, e3, h⟩ := lt_z h
  have a4 : ag fScr C C3 := ag_tr ag_rf (by rw [e3]; exact ag_wrI (by unfold fScr lastC; omega))
  obtain ⟨C5, e5, h⟩ := lt_z h
  have a6 : ag fScr C C5 := ag_tr a4 (gc_X0_beginAnew e5.symm)
  obtain ⟨C7, q7, h⟩ := bn_x h
  have a8 : ag fScr C C7 := ag_tr a6 (gc_X0_note q7)
  rw [← Option.some.inj h]
  exact a8
theorem gc_X0_letGo {n : Nat} {p1 : Int32} {C : Mm} {C0 : Mm} (h : fX0_letGo n p1 C = some C0) : ag fScr C C0 := by
  unfold fX0_letGo at h
  obtain ⟨r2, q1, h⟩ := bn_x h
  obtain ⟨C4, e2, h⟩ := lt_z h
  have a3 : ag fScr C C4 := ag_tr ag_rf (by rw [e2]; exact ag_wrI (by unfold fScr lastC; omega))
  rw [← Option.some.inj h]
  exact a3
theorem gc_X0_add {n : Nat} {p1 : Int32} {p2 : Int32} {C : Mm} {C0 : Mm} (h : fX0_add n p1 p2 C = some C0) : ag fScr C C0 := by
  unfold fX0_add at h
  obtain ⟨C2, q1, h⟩ := bn_x h
  have a2 : ag fScr C C2 := ag_tr ag_rf (gc_X0_run q1)
  obtain ⟨C4, q3, h⟩ := bn_x h
  have a4 : ag fScr C C4 := ag_tr a2 (gc_X0_note q3)
  rw [← Option.some.inj h]
  exact a4
theorem gc_X0_addRows {n : Nat} {p1 : Int32} {C : Mm} {C0 : Mm} (h : fX0_addRows n p1 C = some C0) : ag fScr C C0 := by
  have bl22 : ∀ (fu : Nat), ∀ {y1 : Int32} {y2 : Int32} {C : Mm} (_ : fX0_addRows_h22 n fu y1 y2 C = some C0), ag fScr C C0 := by
    intro fu
    induction fu with
    | zero =>
      intro y1 y2 C h
      rw [fX0_addRows_h22.eq_1] at h
      cases h
    | succ fu ih =>
      intro y1 y2 C h
      rw [fX0_addRows_h22.eq_2] at h
      by_cases c1 : y1 ≤ y2
      · replace h := it_t c1 h
        rw [← Option.some.inj h]
        exact ag_rf
      · replace h := it_f c1 h
        by_cases c2 : y2 < (0 : Int32) ∨ 4 ≤ Int32.toNatClampNeg y2
        · cases it_t c2 h
        replace h := it_f c2 h
        obtain ⟨C4, q3, h⟩ := bn_x h
        have a4 : ag fScr C C4 := ag_tr ag_rf (gc_X0_letGo q3)
        by_cases c5 : y2 < (0 : Int32) ∨ 4 ≤ Int32.toNatClampNeg y2
        · cases it_t c5 h
        replace h := it_f c5 h
        obtain ⟨C7, q6, h⟩ := bn_x h
        have a7 : ag fScr C C7 := ag_tr a4 (gc_X0_add q6)
        obtain ⟨x8, e8, h⟩ := lt_z h
        exact ag_tr a7 (ih h)
  unfold fX0_addRows at h
  by_cases c9 : 0 < (0 : Int32) ∨ 4 ≤ Int32.toNatClampNeg 0
  · cases it_t c9 h
  replace h := it_f c9 h
  obtain ⟨C11, q10, h⟩ := bn_x h
  have a11 : ag fScr C C11 := ag_tr ag_rf (gc_X0_letGo q10)
  by_cases c12 : 0 < (0 : Int32) ∨ 4 ≤ Int32.toNatClampNeg 0
  · cases it_t c12 h
  replace h := it_f c12 h
  obtain ⟨C14, q13, h⟩ := bn_x h
  have a14 : ag fScr C C14 := ag_tr a11 (gc_X0_run q13)
  exact ag_tr a14 (bl22 _ h)
theorem gc_X0_goRight {n : Nat} {p1 : Int32} {p2 : Int32} {C : Mm} {r0 : Int32} {C0 : Mm} (h : fX0_goRight n p1 p2 C = some (r0, C0)) : ag fScr C C0 := by
  have bl70 : ∀ {y3 : Int32} {C : Mm} (_ : fX0_goRight_b70 n y3 C = some (r0, C0)), ag fScr C C0 := by
    intro y3 C h
    unfold fX0_goRight_b70 at h
    by_cases c1 : y3 ≤ 1
    · replace h := it_t c1 h
      rw [← pr_2 h]
      exact ag_rf
    · replace h := it_f c1 h
      obtain ⟨C3, q2, h⟩ := bn_x h
      have a3 : ag fScr C C3 := ag_tr ag_rf (gc_X0_addRows q2)
      rw [← pr_2 h]
      exact a3
  have bl64 : ∀ {k5 : Int32 → Int32 → Int32 → Int32 → Mm → Option (Int32 × Mm)} (hk5 : ∀ {y1 : Int32} {y2 : Int32} {y3 : Int32} {y4 : Int32} {C : Mm} (_ : k5 y1 y2 y3 y4 C = some (r0, C0)), ag fScr C C0), ∀ {y1 : Int32} {y2 : Int32} {y3 : Int32} {y4 : Int32} {C : Mm} (_ : fX0_goRight_b64 n k5 y1 y2 y3 y4 C = some (r0, C0)), ag fScr C C0 := by
    intro k5 hk5 y1 y2 y3 y4 C h
    unfold fX0_goRight_b64 at h
    obtain ⟨x4, e4, h⟩ := lt_z h
    exact ag_tr ag_rf (hk5 h)
  have bl5 : ∀ (fu : Nat), ∀ {y1 : Int32} {y2 : Int32} {y3 : Int32} {y4 : Int32} {C : Mm} (_ : fX0_goRight_h5 n fu y1 y2 y3 y4 C = some (r0, C0)), ag fScr C C0 := by
    intro fu
    induction fu with
    | zero =>
      intro y1 y2 y3 y4 C h
      rw [fX0_goRight_h5.eq_1] at h
      cases h
    | succ fu ih =>
      intro y1 y2 y3 y4 C h
      rw [fX0_goRight_h5.eq_2] at h
      obtain ⟨r6, q5, h⟩ := bn_x h
      by_cases c6 : r6 ≤ y4
      · replace h := it_t c6 h
        exact ag_tr ag_rf (bl70 h)
      · replace h := it_f c6 h
        by_cases c7 : 4 ≤ y3
        · replace h := it_t c7 h
          exact ag_tr ag_rf (bl70 h)
        · replace h := it_f c7 h
          obtain ⟨r11, q8, h⟩ := bn_x h
          by_cases c9 : r11 = 0
          · replace h := it_t c9 h
            exact ag_tr ag_rf (bl64 ih h)
          · replace h := it_f c9 h
            obtain ⟨r15, q10, h⟩ := bn_x h
            obtain ⟨r18, C19, q11, h⟩ := bp_x h
            have a12 : ag fScr C C19 := ag_tr ag_rf (gc_X0_goLeft q11)
            by_cases c13 : y3 < (0 : Int32) ∨ 4 ≤ Int32.toNatClampNeg y3
            · cases it_t c13 h
            replace h := it_f c13 h
            obtain ⟨C22, e14, h⟩ := lt_z h
            have a15 : ag fScr C C22 := ag_tr a12 (by rw [e14]; exact ag_wrI (by unfold fScr lastC; omega))
            obtain ⟨x23, e16, h⟩ := lt_z h
            obtain ⟨C25, q17, h⟩ := bn_x h
            have a18 : ag fScr C C25 := ag_tr a15 (gc_X0_holdRunning q17)
            exact ag_tr a18 (bl64 ih h)
  unfold fX0_goRight at h
  exact ag_tr ag_rf (bl5 _ h)
theorem gc_X0_holdLastFigure {C : Mm} {C0 : Mm} (h : fX0_holdLastFigure C = some C0) : ag fScr C C0 := by
  unfold fX0_holdLastFigure at h
  obtain ⟨x1, e1, h⟩ := lt_z h
  obtain ⟨C2, e2, h⟩ := lt_z h
  have a3 : ag fScr C C2 := ag_tr ag_rf (by rw [e2]; exact ag_wrI (by unfold fScr lastC; omega))
  obtain ⟨C3, e4, h⟩ := lt_z h
  have a5 : ag fScr C C3 := ag_tr a3 (by rw [e4]; exact ag_wrI (by unfold fScr lastC; omega))
  obtain ⟨C4, e6, h⟩ := lt_z h
  have a7 : ag fScr C C4 := ag_tr a5 (by rw [e6]; exact ag_wrI (by unfold fScr lastC; omega))
  obtain ⟨C6, q8, h⟩ := bn_x h
  have a9 : ag fScr C C6 := ag_tr a7 (gc_X0_note q8)
  rw [← Option.some.inj h]
  exact a9
theorem gc_X0_goCrossed {n : Nat} {p1 : Int32} {p2 : Int32} {C : Mm} {r0 : Int32} {C0 : Mm} (h : fX0_goCrossed n p1 p2 C = some (r0, C0)) : ag fScr C C0 := by
  have bl26 : ∀ {k17 : Int32 → Int32 → Int32 → Int32 → Mm → Option (Int32 × Mm)} (hk17 : ∀ {y1 : Int32} {y2 : Int32} {y3 : Int32} {y4 : Int32} {C : Mm} (_ : k17 y1 y2 y3 y4 C = some (r0, C0)), ag fScr C C0) (fu : Nat), ∀ {y1 : Int32} {y2 : Int32} {y3 : Int32} {y4 : Int32} {y5 : Int32} {C : Mm} (_ : fX0_goCrossed_h26 n k17 fu y1 y2 y3 y4 y5 C = some (r0, C0)), ag fScr C C0 := by
    intro k17 hk17
    intro fu
    induction fu with
    | zero =>
      intro y1 y2 y3 y4 y5 C h
      rw [fX0_goCrossed_h26.eq_1] at h
      cases h
    | succ fu ih =>
      intro y1 y2 y3 y4 y5 C h
      rw [fX0_goCrossed_h26.eq_2] at h
      by_cases c1 : y4 < y5
      · replace h := it_t c1 h
        obtain ⟨C3, q2, h⟩ := bn_x h
        have a3 : ag fScr C C3 := ag_tr ag_rf (gc_X0_holdLastFigure q2)
        obtain ⟨x4, e4, h⟩ := lt_z h
        exact ag_tr a3 (hk17 h)
      · replace h := it_f c1 h
        obtain ⟨r6, q5, h⟩ := bn_x h
        obtain ⟨r9, q6, h⟩ := bn_x h
        obtain ⟨r12, q7, h⟩ := bn_x h
        obtain ⟨C15, q8, h⟩ := bn_x h
        have a9 : ag fScr C C15 := ag_tr ag_rf (gc_X0_lookAndAdd q8)
        obtain ⟨x16, e10, h⟩ := lt_z h
        exact ag_tr a9 (ih h)
  have bl17 : ∀ (fu : Nat), ∀ {y1 : Int32} {y2 : Int32} {y3 : Int32} {y4 : Int32} {C : Mm} (_ : fX0_goCrossed_h17 n fu y1 y2 y3 y4 C = some (r0, C0)), ag fScr C C0 := by
    intro fu
    induction fu with
    | zero =>
      intro y1 y2 y3 y4 C h
      rw [fX0_goCrossed_h17.eq_1] at h
      cases h
    | succ fu ih =>
      intro y1 y2 y3 y4 C h
      rw [fX0_goCrossed_h17.eq_2] at h
      by_cases c11 : y3 < y4
      · replace h := it_t c11 h
        rw [← pr_2 h]
        exact ag_rf
      · replace h := it_f c11 h
        exact ag_tr ag_rf (bl26 ih _ h)
  unfold fX0_goCrossed at h
  obtain ⟨r19, q12, h⟩ := bn_x h
  obtain ⟨r22, q13, h⟩ := bn_x h
  obtain ⟨x24, e14, h⟩ := lt_z h
  exact ag_tr ag_rf (bl17 _ h)
theorem gc_X0_goSquared {n : Nat} {p1 : Int32} {p2 : Int32} {C : Mm} {r0 : Int32} {C0 : Mm} (h : fX0_goSquared n p1 p2 C = some (r0, C0)) : ag fScr C C0 := by
  have bl47 : ∀ {y5 : Int32} {C : Mm} (_ : fX0_goSquared_b47 n y5 C = some (r0, C0)), ag fScr C C0 := by
    intro y5 C h
    unfold fX0_goSquared_b47 at h
    obtain ⟨C2, q1, h⟩ := bn_x h
    have a2 : ag fScr C C2 := ag_tr ag_rf (gc_X0_letGo q1)
    obtain ⟨C4, q3, h⟩ := bn_x h
    have a4 : ag fScr C C4 := ag_tr a2 (gc_X0_add q3)
    rw [← pr_2 h]
    exact a4
  unfold fX0_goSquared at h
  obtain ⟨x5, e5, h⟩ := lt_z h
  obtain ⟨x6, e6, h⟩ := lt_z h
  obtain ⟨r8, C9, q7, h⟩ := bp_x h
  have a8 : ag fScr C C9 := ag_tr ag_rf (gc_X0_goLeft q7)
  obtain ⟨x11, e9, h⟩ := lt_z h
  obtain ⟨C13, q10, h⟩ := bn_x h
  have a11 : ag fScr C C13 := ag_tr a8 (gc_X0_holdRunning q10)
  by_cases c12 : x6 ≤ 0
  · replace h := it_t c12 h
    exact ag_tr a11 (bl47 h)
  · replace h := it_f c12 h
    obtain ⟨r16, C17, q13, h⟩ := bp_x h
    have a14 : ag fScr C C17 := ag_tr a11 (gc_X0_goLeft q13)
    exact ag_tr a14 (bl47 h)
theorem gc_X0_goSplit {n : Nat} {p1 : Int32} {p2 : Int32} {p3 : Int32} {C : Mm} {r0 : Int32} {C0 : Mm} (h : fX0_goSplit n p1 p2 p3 C = some (r0, C0)) : ag fScr C C0 := by
  have bl53 : ∀ {k3 : Int32 → Int32 → Int32 → Mm → Option (Int32 × Mm)} (hk3 : ∀ {y1 : Int32} {y2 : Int32} {y4 : Int32} {C : Mm} (_ : k3 y1 y2 y4 C = some (r0, C0)), ag fScr C C0), ∀ {y1 : Int32} {y2 : Int32} {y4 : Int32} {C : Mm} (_ : fX0_goSplit_b53 n k3 y1 y2 y4 C = some (r0, C0)), ag fScr C C0 := by
    intro k3 hk3 y1 y2 y4 C h
    unfold fX0_goSplit_b53 at h
    obtain ⟨x1, e1, h⟩ := lt_z h
    exact ag_tr ag_rf (hk3 h)
  have bl3 : ∀ (fu : Nat), ∀ {y1 : Int32} {y2 : Int32} {y4 : Int32} {C : Mm} (_ : fX0_goSplit_h3 n fu y1 y2 y4 C = some (r0, C0)), ag fScr C C0 := by
    intro fu
    induction fu with
    | zero =>
      intro y1 y2 y4 C h
      rw [fX0_goSplit_h3.eq_1] at h
      cases h
    | succ fu ih =>
      intro y1 y2 y4 C h
      rw [fX0_goSplit_h3.eq_2] at h
      by_cases c2 : y4 < 2
      · replace h := it_t c2 h
        rw [← pr_2 h]
        exact ag_rf
      · replace h := it_f c2 h
        by_cases c3 : y4 = 0
        · cases it_t c3 h
        replace h := it_f c3 h
        by_cases c4 : (irm y2 y4) = 0
        · replace h := it_t c4 h
          by_cases c5 : y4 = 0
          · cases it_t c5 h
          replace h := it_f c5 h
          by_cases c6 : (y2 / y4) ≤ 1
          · replace h := it_t c6 h
            exact ag_tr ag_rf (bl53 ih h)
          · replace h := it_f c6 h
            obtain ⟨r8, C9, q7, h⟩ := bp_x h
            have a8 : ag fScr C C9 := ag_tr ag_rf (gc_X0_goLeft q7)
            obtain ⟨x11, e9, h⟩ := lt_z h
            obtain ⟨C13, q10, h⟩ := bn_x h
            have a11 : ag fScr C C13 := ag_tr a8 (gc_X0_holdRunning q10)
            by_cases c12 : y4 = 0
            · cases it_t c12 h
            replace h := it_f c12 h
            obtain ⟨r16, C17, q13, h⟩ := bp_x h
            have a14 : ag fScr C C17 := ag_tr a11 (gc_X0_goLeft q13)
            rw [← pr_2 h]
            exact a14
        · replace h := it_f c4 h
          exact ag_tr ag_rf (bl53 ih h)
  unfold fX0_goSplit at h
  exact ag_tr ag_rf (bl3 _ h)
theorem gc_X0_reckon {n : Nat} {j1 : Nat} (hj1 : j1 < 7) {p2 : Int32} {p3 : Int32} {C : Mm} {r0 : Int32} {C0 : Mm} (h : fX0_reckon n j1 p2 p3 C = some (r0, C0)) : ag fScr C C0 := by
  unfold fX0_reckon at h
  obtain ⟨x1, e1, h⟩ := lt_z h
  obtain ⟨x2, e2, h⟩ := lt_z h
  obtain ⟨C4, q3, h⟩ := bn_x h
  have a4 : ag fScr C C4 := ag_tr ag_rf (gc_X0_begin (by omega) q3)
  by_cases c5 : p2 = 0
  · replace h := it_t c5 h
    obtain ⟨r7, q6, h⟩ := bn_x h
    by_cases c7 : r7 = 0
    · replace h := it_t c7 h
      rw [← pr_2 h]
      exact a4
    · replace h := it_f c7 h
      obtain ⟨r11, C12, q8, h⟩ := bp_x h
      have a9 : ag fScr C C12 := ag_tr a4 (gc_X0_goKnown q8)
      by_cases c10 : r11 = 0
      · replace h := it_t c10 h
        rw [← pr_2 h]
        exact a9
      · replace h := it_f c10 h
        rw [← pr_2 h]
        exact a9
  · replace h := it_f c5 h
    by_cases c11 : p2 = 1
    · replace h := it_t c11 h
      obtain ⟨r17, C18, q12, h⟩ := bp_x h
      have a13 : ag fScr C C18 := ag_tr a4 (gc_X0_goLeft q12)
      rw [← pr_2 h]
      exact a13
    · replace h := it_f c11 h
      by_cases c14 : p2 = 2
      · replace h := it_t c14 h
        obtain ⟨r22, C23, q15, h⟩ := bp_x h
        have a16 : ag fScr C C23 := ag_tr a4 (gc_X0_goRight q15)
        rw [← pr_2 h]
        exact a16
      · replace h := it_f c14 h
        by_cases c17 : p2 = 3
        · replace h := it_t c17 h
          obtain ⟨r27, C28, q18, h⟩ := bp_x h
          have a19 : ag fScr C C28 := ag_tr a4 (gc_X0_goCrossed q18)
          rw [← pr_2 h]
          exact a19
        · replace h := it_f c17 h
          by_cases c20 : p2 = 4
          · replace h := it_t c20 h
            by_cases c21 : (irm (x1 + x2) 2) = 0
            · replace h := it_t c21 h
              obtain ⟨r33, C34, q22, h⟩ := bp_x h
              have a23 : ag fScr C C34 := ag_tr a4 (gc_X0_goSquared q22)
              by_cases c24 : r33 = 0
              · replace h := it_t c24 h
                rw [← pr_2 h]
                exact a23
              · replace h := it_f c24 h
                rw [← pr_2 h]
                exact a23
            · replace h := it_f c21 h
              rw [← pr_2 h]
              exact a4
          · replace h := it_f c20 h
            by_cases c25 : p2 = 5
            · replace h := it_t c25 h
              obtain ⟨r39, q26, h⟩ := bn_x h
              obtain ⟨r42, C43, q27, h⟩ := bp_x h
              have a28 : ag fScr C C43 := ag_tr a4 (gc_X0_goSplit q27)
              rw [← pr_2 h]
              exact a28
            · replace h := it_f c25 h
              by_cases c29 : p2 = 6
              · replace h := it_t c29 h
                obtain ⟨r47, C48, q30, h⟩ := bp_x h
                have a31 : ag fScr C C48 := ag_tr a4 (gc_X0_goRight q30)
                rw [← pr_2 h]
                exact a31
              · replace h := it_f c29 h
                rw [← pr_2 h]
                exact a4
theorem gc_X5_setNumber {j0 : Nat} (hj0 : j0 < 7) (hs : 6 ≤ j0) {p1 : Int32} {p2 : Int32} {C : Mm} {C0 : Mm} (h : fX5_setNumber j0 p1 p2 C = some C0) : ag fScr C C0 := by
  unfold fX5_setNumber at h
  by_cases c1 : p1 < 0
  · replace h := it_t c1 h
    rw [← Option.some.inj h]
    exact ag_rf
  · replace h := it_f c1 h
    by_cases c2 : 5 ≤ p1
    · replace h := it_t c2 h
      rw [← Option.some.inj h]
      exact ag_rf
    · replace h := it_f c2 h
      by_cases c3 : p1 < (0 : Int32) ∨ 5 ≤ Int32.toNatClampNeg p1
      · cases it_t c3 h
      replace h := it_f c3 h
      obtain ⟨C4, e4, h⟩ := lt_z h
      have a5 : ag fScr C C4 := ag_tr ag_rf (by rw [e4]; exact ag_wrI (by unfold fScr lastC hdn; omega))
      rw [← Option.some.inj h]
      exact a5
theorem gc_X3_pop {C : Mm} {r0 : Int32} {C0 : Mm} (h : fX3_pop C = some (r0, C0)) : ag fScr C C0 := by
  unfold fX3_pop at h
  by_cases c1 : (C.1 32 5) = 0
  · replace h := it_t c1 h
    rw [← pr_2 h]
    exact ag_rf
  · replace h := it_f c1 h
    obtain ⟨C2, e2, h⟩ := lt_z h
    have a3 : ag fScr C C2 := ag_tr ag_rf (by rw [e2]; exact ag_wrI (by unfold fScr lastC; omega))
    by_cases c4 : (C2.1 32 5) < (0 : Int32) ∨ 128 ≤ Int32.toNatClampNeg (C2.1 32 5)
    · cases it_t c4 h
    replace h := it_f c4 h
    rw [← pr_2 h]
    exact a3
theorem gc_X3_push {p1 : Int32} {C : Mm} {C0 : Mm} (h : fX3_push p1 C = some C0) : ag fScr C C0 := by
  unfold fX3_push at h
  by_cases c1 : 128 ≤ (C.1 32 5)
  · replace h := it_t c1 h
    rw [← Option.some.inj h]
    exact ag_rf
  · replace h := it_f c1 h
    by_cases c2 : (C.1 32 5) < (0 : Int32) ∨ 128 ≤ Int32.toNatClampNeg (C.1 32 5)
    · cases it_t c2 h
    replace h := it_f c2 h
    obtain ⟨C3, e3, h⟩ := lt_z h
    have a4 : ag fScr C C3 := ag_tr ag_rf (by rw [e3]; exact ag_wrI (by unfold fScr lastC; omega))
    obtain ⟨C4, e5, h⟩ := lt_z h
    have a6 : ag fScr C C4 := ag_tr a4 (by rw [e5]; exact ag_wrI (by unfold fScr lastC; omega))
    rw [← Option.some.inj h]
    exact a6
theorem gc_X3_workOut {n : Nat} {j2 : Nat} (hj2 : j2 < 7) {p1 : Int32} {p3 : Int32} {C : Mm} {C0 : Mm} (h : fX3_workOut n j2 p1 p3 C = some C0) : ag fScr C C0 := by
  have bl62 : ∀ {s0 : Int32} {C : Mm} (_ : fX3_workOut_b62 n j2 s0 C = some C0), ag fScr C C0 := by
    intro s0 C h
    unfold fX3_workOut_b62 at h
    obtain ⟨C2, q1, h⟩ := bn_x h
    have a2 : ag fScr C C2 := ag_tr ag_rf (gc_X3_push q1)
    rw [← Option.some.inj h]
    exact a2
  unfold fX3_workOut at h
  by_cases c3 : p1 < 0
  · replace h := it_t c3 h
    by_cases c4 : (fX3_isName (-p1)) = 0
    · replace h := it_t c4 h
      by_cases c5 : p1 = (-33)
      · replace h := it_t c5 h
        obtain ⟨r29, C30, q6, h⟩ := bp_x h
        have a7 : ag fScr C C30 := ag_tr ag_rf (gc_X3_pop q6)
        by_cases c8 : r29 = 0
        · replace h := it_t c8 h
          exact ag_tr a7 (bl62 h)
        · replace h := it_f c8 h
          exact ag_tr a7 (bl62 h)
      · replace h := it_f c5 h
        by_cases c9 : p1 = (-126)
        · replace h := it_t c9 h
          obtain ⟨r23, C24, q10, h⟩ := bp_x h
          have a11 : ag fScr C C24 := ag_tr ag_rf (gc_X3_pop q10)
          obtain ⟨C27, q12, h⟩ := bn_x h
          have a13 : ag fScr C C27 := ag_tr a11 (gc_X3_push q12)
          rw [← Option.some.inj h]
          exact a13
        · replace h := it_f c9 h
          obtain ⟨r10, C11, q14, h⟩ := bp_x h
          have a15 : ag fScr C C11 := ag_tr ag_rf (gc_X3_pop q14)
          obtain ⟨r14, C15, q16, h⟩ := bp_x h
          have a17 : ag fScr C C15 := ag_tr a15 (gc_X3_pop q16)
          obtain ⟨r18, q18, h⟩ := bn_x h
          obtain ⟨C21, q19, h⟩ := bn_x h
          have a20 : ag fScr C C21 := ag_tr a17 (gc_X3_push q19)
          rw [← Option.some.inj h]
          exact a20
    · replace h := it_f c4 h
      obtain ⟨r34, q21, h⟩ := bn_x h
      obtain ⟨C37, q22, h⟩ := bn_x h
      have a23 : ag fScr C C37 := ag_tr ag_rf (gc_X3_push q22)
      rw [← Option.some.inj h]
      exact a23
  · replace h := it_f c3 h
    obtain ⟨C39, q24, h⟩ := bn_x h
    have a25 : ag fScr C C39 := ag_tr ag_rf (gc_X3_push q24)
    rw [← Option.some.inj h]
    exact a25
theorem gc_X3_numberFor {n : Nat} {j1 : Nat} (hj1 : j1 < 7) {p2 : Int32} {C : Mm} {r0 : Int32} {C0 : Mm} (h : fX3_numberFor n j1 p2 C = some (r0, C0)) : ag fScr C C0 := by
  have bl100 : ∀ {k19 : Int32 → Int32 → Int32 → Mm → Option (Int32 × Mm)} (hk19 : ∀ {y2 : Int32} {y3 : Int32} {y4 : Int32} {C : Mm} (_ : k19 y2 y3 y4 C = some (r0, C0)), ag fScr C C0), ∀ {y2 : Int32} {y3 : Int32} {y4 : Int32} {C : Mm} (_ : fX3_numberFor_b100 n j1 k19 y2 y3 y4 C = some (r0, C0)), ag fScr C C0 := by
    intro k19 hk19 y2 y3 y4 C h
    unfold fX3_numberFor_b100 at h
    obtain ⟨x1, e1, h⟩ := lt_z h
    exact ag_tr ag_rf (hk19 h)
  have bl88 : ∀ {k19 : Int32 → Int32 → Int32 → Mm → Option (Int32 × Mm)} (hk19 : ∀ {y2 : Int32} {y3 : Int32} {y4 : Int32} {C : Mm} (_ : k19 y2 y3 y4 C = some (r0, C0)), ag fScr C C0), ∀ {y2 : Int32} {y4 : Int32} {s0 : Int32} {C : Mm} (_ : fX3_numberFor_b88 n j1 k19 y2 y4 s0 C = some (r0, C0)), ag fScr C C0 := by
    intro k19 hk19 y2 y4 s0 C h
    unfold fX3_numberFor_b88 at h
    exact ag_tr ag_rf (bl100 hk19 h)
  have bl53 : ∀ {k19 : Int32 → Int32 → Int32 → Mm → Option (Int32 × Mm)} (hk19 : ∀ {y2 : Int32} {y3 : Int32} {y4 : Int32} {C : Mm} (_ : k19 y2 y3 y4 C = some (r0, C0)), ag fScr C C0), ∀ {y2 : Int32} {y4 : Int32} {s0 : Int32} {C : Mm} (_ : fX3_numberFor_b53 n j1 k19 y2 y4 s0 C = some (r0, C0)), ag fScr C C0 := by
    intro k19 hk19 y2 y4 s0 C h
    unfold fX3_numberFor_b53 at h
    exact ag_tr ag_rf (bl100 hk19 h)
  have bl19 : ∀ (fu : Nat), ∀ {y2 : Int32} {y3 : Int32} {y4 : Int32} {C : Mm} (_ : fX3_numberFor_h19 n j1 fu y2 y3 y4 C = some (r0, C0)), ag fScr C C0 := by
    intro fu
    induction fu with
    | zero =>
      intro y2 y3 y4 C h
      rw [fX3_numberFor_h19.eq_1] at h
      cases h
    | succ fu ih =>
      intro y2 y3 y4 C h
      rw [fX3_numberFor_h19.eq_2] at h
      by_cases c2 : (C.1 32 1) ≤ y4
      · replace h := it_t c2 h
        rw [← pr_2 h]
        exact ag_rf
      · replace h := it_f c2 h
        by_cases c3 : y4 < (0 : Int32) ∨ 128 ≤ Int32.toNatClampNeg y4
        · cases it_t c3 h
        replace h := it_f c3 h
        obtain ⟨x4, e4, h⟩ := lt_z h
        by_cases c5 : y3 = 0
        · replace h := it_t c5 h
          by_cases c6 : x4 = (-59)
          · replace h := it_t c6 h
            obtain ⟨r16, C17, q7, h⟩ := bp_x h
            have a8 : ag fScr C C17 := ag_tr ag_rf (gc_X3_pop q7)
            rw [← pr_2 h]
            exact a8
          · replace h := it_f c6 h
            by_cases c9 : x4 = (-63)
            · replace h := it_t c9 h
              obtain ⟨r11, C12, q10, h⟩ := bp_x h
              have a11 : ag fScr C C12 := ag_tr ag_rf (gc_X3_pop q10)
              by_cases c12 : r11 = 0
              · replace h := it_t c12 h
                exact ag_tr a11 (bl88 ih h)
              · replace h := it_f c12 h
                exact ag_tr a11 (bl88 ih h)
            · replace h := it_f c9 h
              obtain ⟨C9, q13, h⟩ := bn_x h
              have a14 : ag fScr C C9 := ag_tr ag_rf (gc_X3_workOut (by omega) q13)
              exact ag_tr a14 (bl100 ih h)
        · replace h := it_f c5 h
          by_cases c15 : x4 = (-59)
          · replace h := it_t c15 h
            exact ag_tr ag_rf (bl53 ih h)
          · replace h := it_f c15 h
            exact ag_tr ag_rf (bl53 ih h)
  unfold fX3_numberFor at h
  by_cases c16 : (C.1 32 1) = 0
  · replace h := it_t c16 h
    rw [← pr_2 h]
    exact ag_rf
  · replace h := it_f c16 h
    obtain ⟨C21, e17, h⟩ := lt_z h
    have a18 : ag fScr C C21 := ag_tr ag_rf (by rw [e17]; exact ag_wrI (by unfold fScr lastC; omega))
    exact ag_tr a18 (bl19 _ h)
theorem gc_X5_become {j0 : Nat} {j1 : Nat} (hj0 : j0 < 7) (hj1 : j1 < 7) (hs : 6 ≤ j0) {C : Mm} {C0 : Mm} (h : fX5_become j0 j1 C = some C0) : ag fScr C C0 := by
  unfold fX5_become at h
  by_cases c1 : 0 < (0 : Int32) ∨ 0 < (0 : Int32) ∨ 5 < (0 : Int32) ∨ 5 < (Int32.toNatClampNeg 0) + (Int32.toNatClampNeg 5) ∨ 5 < (Int32.toNatClampNeg 0) + (Int32.toNatClampNeg 5)
  · cases it_t c1 h
  replace h := it_f c1 h
  obtain ⟨C2, e2, h⟩ := lt_z h
  have a3 : ag fScr C C2 := ag_tr ag_rf (by rw [e2]; exact ag_cpI (fun i => (by unfold fScr lastC hdn; omega)))
  by_cases c4 : 0 < (0 : Int32) ∨ 0 < (0 : Int32) ∨ (C2.1 (hdc j1) 3) < (0 : Int32) ∨ 60 < (Int32.toNatClampNeg 0) + (Int32.toNatClampNeg (C2.1 (hdc j1) 3)) ∨ 60 < (Int32.toNatClampNeg 0) + (Int32.toNatClampNeg (C2.1 (hdc j1) 3))
  · cases it_t c4 h
  replace h := it_f c4 h
  obtain ⟨C4, e5, h⟩ := lt_z h
  have a6 : ag fScr C C4 := ag_tr a3 (by rw [e5]; exact ag_cpI (fun i => (by unfold fScr lastC hdp; omega)))
  by_cases c7 : 0 < (0 : Int32) ∨ 0 < (0 : Int32) ∨ (C4.1 (hdc j1) 3) < (0 : Int32) ∨ 60 < (Int32.toNatClampNeg 0) + (Int32.toNatClampNeg (C4.1 (hdc j1) 3)) ∨ 60 < (Int32.toNatClampNeg 0) + (Int32.toNatClampNeg (C4.1 (hdc j1) 3))
  · cases it_t c7 h
  replace h := it_f c7 h
  obtain ⟨C6, e8, h⟩ := lt_z h
  have a9 : ag fScr C C6 := ag_tr a6 (by rw [e8]; exact ag_cpI (fun i => (by unfold fScr lastC hdk; omega)))
  obtain ⟨C7, e10, h⟩ := lt_z h
  have a11 : ag fScr C C7 := ag_tr a9 (by rw [e10]; exact ag_wrI (by unfold fScr lastC hdc; omega))
  rw [← Option.some.inj h]
  exact a11
theorem gc_X5_hear {n : Nat} {j0 : Nat} (hj0 : j0 < 7) (hs : 6 ≤ j0) {p1 : Int32} {C : Mm} {r0 : Int32} {C0 : Mm} (h : fX5_hear n j0 p1 C = some (r0, C0)) : ag fScr C C0 := by
  have bl53 : ∀ {y2 : Int32} {C : Mm} (_ : fX5_hear_b53 n j0 y2 C = some (r0, C0)), ag fScr C C0 := by
    intro y2 C h
    unfold fX5_hear_b53 at h
    by_cases c1 : y2 < (0 : Int32) ∨ 60 ≤ Int32.toNatClampNeg y2
    · cases it_t c1 h
    replace h := it_f c1 h
    by_cases c2 : y2 < (0 : Int32) ∨ 60 ≤ Int32.toNatClampNeg y2
    · cases it_t c2 h
    replace h := it_f c2 h
    obtain ⟨C3, e3, h⟩ := lt_z h
    have a4 : ag fScr C C3 := ag_tr ag_rf (by rw [e3]; exact ag_wrI (by unfold fScr lastC hdk; omega))
    by_cases c5 : y2 < (0 : Int32) ∨ 60 ≤ Int32.toNatClampNeg y2
    · cases it_t c5 h
    replace h := it_f c5 h
    rw [← pr_2 h]
    exact a4
  unfold fX5_hear at h
  obtain ⟨r6, q6, h⟩ := bn_x h
  by_cases c7 : (fX10_canBeTaught p1) = 0
  · replace h := it_t c7 h
    rw [← pr_2 h]
    exact ag_rf
  · replace h := it_f c7 h
    by_cases c8 : r6 < 60
    · replace h := it_t c8 h
      by_cases c9 : r6 = (C.1 (hdc j0) 3)
      · replace h := it_t c9 h
        by_cases c10 : r6 < (0 : Int32) ∨ 60 ≤ Int32.toNatClampNeg r6
        · cases it_t c10 h
        replace h := it_f c10 h
        obtain ⟨C14, e11, h⟩ := lt_z h
        have a12 : ag fScr C C14 := ag_tr ag_rf (by rw [e11]; exact ag_wrI (by unfold fScr lastC hdp; omega))
        by_cases c13 : r6 < (0 : Int32) ∨ 60 ≤ Int32.toNatClampNeg r6
        · cases it_t c13 h
        replace h := it_f c13 h
        obtain ⟨C16, e14, h⟩ := lt_z h
        have a15 : ag fScr C C16 := ag_tr a12 (by rw [e14]; exact ag_wrI (by unfold fScr lastC hdk; omega))
        obtain ⟨C17, e16, h⟩ := lt_z h
        have a17 : ag fScr C C17 := ag_tr a15 (by rw [e16]; exact ag_wrI (by unfold fScr lastC hdc; omega))
        exact ag_tr a17 (bl53 h)
      · replace h := it_f c9 h
        exact ag_tr ag_rf (bl53 h)
    · replace h := it_f c8 h
      rw [← pr_2 h]
      exact ag_rf
theorem gc_X10_way {n : Nat} {p1 : Int32} {p2 : Int32} {p3 : Int32} {C : Mm} {r0 : Int32} {C0 : Mm} (h : fX10_way n p1 p2 p3 C = some (r0, C0)) : ag fScr C C0 := by
  unfold fX10_way at h
  by_cases c1 : (fX10_isHeadAndWay p1 C) = 0
  · replace h := it_t c1 h
    rw [← pr_2 h]
    exact ag_rf
  · replace h := it_f c1 h
    by_cases c2 : (fX10_isPair p2) = 0
    · replace h := it_t c2 h
      rw [← pr_2 h]
      exact ag_rf
    · replace h := it_f c2 h
      by_cases c3 : p3 < 0
      · replace h := it_t c3 h
        rw [← pr_2 h]
        exact ag_rf
      · replace h := it_f c3 h
        by_cases c4 : p3 ≤ 2
        · replace h := it_t c4 h
          by_cases c5 : (p1 / 10) < (0 : Int32) ∨ 6 ≤ Int32.toNatClampNeg (p1 / 10)
          · cases it_t c5 h
          replace h := it_f c5 h
          obtain ⟨r12, C13, q6, h⟩ := bp_x h
          have a7 : ag fScr C C13 := ag_tr ag_rf (gc_X0_reckon (by omega) q6)
          by_cases c8 : r12 = 0
          · replace h := it_t c8 h
            rw [← pr_2 h]
            exact a7
          · replace h := it_f c8 h
            by_cases c9 : p3 = 0
            · replace h := it_t c9 h
              rw [← pr_2 h]
              exact a7
            · replace h := it_f c9 h
              by_cases c10 : p3 = 1
              · replace h := it_t c10 h
                rw [← pr_2 h]
                exact a7
              · replace h := it_f c10 h
                rw [← pr_2 h]
                exact a7
        · replace h := it_f c4 h
          rw [← pr_2 h]
          exact ag_rf
theorem gc_X10_step {n : Nat} {p1 : Int32} {p2 : Int32} {p3 : Int32} {p4 : Int32} {C : Mm} {r0 : Int32} {C0 : Mm} (h : fX10_step n p1 p2 p3 p4 C = some (r0, C0)) : ag fScr C C0 := by
  unfold fX10_step at h
  by_cases c1 : (fX10_isHeadAndWay p1 C) = 0
  · replace h := it_t c1 h
    rw [← pr_2 h]
    exact ag_rf
  · replace h := it_f c1 h
    by_cases c2 : (fX10_isPair p2) = 0
    · replace h := it_t c2 h
      rw [← pr_2 h]
      exact ag_rf
    · replace h := it_f c2 h
      by_cases c3 : p4 < 0
      · replace h := it_t c3 h
        rw [← pr_2 h]
        exact ag_rf
      · replace h := it_f c3 h
        by_cases c4 : p4 ≤ 3
        · replace h := it_t c4 h
          by_cases c5 : (p1 / 10) < (0 : Int32) ∨ 6 ≤ Int32.toNatClampNeg (p1 / 10)
          · cases it_t c5 h
          replace h := it_f c5 h
          obtain ⟨r12, C13, q6, h⟩ := bp_x h
          have a7 : ag fScr C C13 := ag_tr ag_rf (gc_X0_reckon (by omega) q6)
          by_cases c8 : r12 = 0
          · replace h := it_t c8 h
            rw [← pr_2 h]
            exact a7
          · replace h := it_f c8 h
            by_cases c9 : p3 < 0
            · replace h := it_t c9 h
              rw [← pr_2 h]
              exact a7
            · replace h := it_f c9 h
              by_cases c10 : p3 < (fX0_size C13)
              · replace h := it_t c10 h
                obtain ⟨r21, q11, h⟩ := bn_x h
                rw [← pr_2 h]
                exact a7
              · replace h := it_f c10 h
                rw [← pr_2 h]
                exact a7
        · replace h := it_f c4 h
          rw [← pr_2 h]
          exact ag_rf
theorem gc_X10_reckonChosen {n : Nat} {j1 : Nat} (hj1 : j1 < 7) {p2 : Int32} {C : Mm} {r0 : Int32} {C0 : Mm} (h : fX10_reckonChosen n j1 p2 C = some (r0, C0)) : ag fScr C C0 := by
  unfold fX10_reckonChosen at h
  obtain ⟨r2, C3, q1, h⟩ := bp_x h
  have a2 : ag fScr C C3 := ag_tr ag_rf (gc_X3_numberFor (by omega) q1)
  obtain ⟨r6, C7, q3, h⟩ := bp_x h
  have a4 : ag fScr C C7 := ag_tr a2 (gc_X0_reckon (by omega) q3)
  by_cases c5 : r6 = 0
  · replace h := it_t c5 h
    obtain ⟨r11, C12, q6, h⟩ := bp_x h
    have a7 : ag fScr C C12 := ag_tr a4 (gc_X0_reckon (by omega) q6)
    rw [← pr_2 h]
    exact a7
  · replace h := it_f c5 h
    rw [← pr_2 h]
    exact a4
theorem gc_X10_chosen {n : Nat} {p1 : Int32} {p2 : Int32} {C : Mm} {r0 : Int32} {C0 : Mm} (h : fX10_chosen n p1 p2 C = some (r0, C0)) : ag fScr C C0 := by
  unfold fX10_chosen at h
  by_cases c1 : (fX10_isHead p1 C) = 0
  · replace h := it_t c1 h
    rw [← pr_2 h]
    exact ag_rf
  · replace h := it_f c1 h
    by_cases c2 : (fX10_isPair p2) = 0
    · replace h := it_t c2 h
      rw [← pr_2 h]
      exact ag_rf
    · replace h := it_f c2 h
      by_cases c3 : p1 < (0 : Int32) ∨ 6 ≤ Int32.toNatClampNeg p1
      · cases it_t c3 h
      replace h := it_f c3 h
      obtain ⟨r10, C11, q4, h⟩ := bp_x h
      have a5 : ag fScr C C11 := ag_tr ag_rf (gc_X10_reckonChosen (by omega) q4)
      rw [← pr_2 h]
      exact a5
theorem gc_X10_answer {n : Nat} {p1 : Int32} {p2 : Int32} {p3 : Int32} {C : Mm} {r0 : Int32} {C0 : Mm} (h : fX10_answer n p1 p2 p3 C = some (r0, C0)) : ag fScr C C0 := by
  unfold fX10_answer at h
  by_cases c1 : (fX10_isHeadAndWay p1 C) = 0
  · replace h := it_t c1 h
    rw [← pr_2 h]
    exact ag_rf
  · replace h := it_f c1 h
    by_cases c2 : (fX10_isPair p2) = 0
    · replace h := it_t c2 h
      rw [← pr_2 h]
      exact ag_rf
    · replace h := it_f c2 h
      by_cases c3 : (p1 / 10) < (0 : Int32) ∨ 6 ≤ Int32.toNatClampNeg (p1 / 10)
      · cases it_t c3 h
      replace h := it_f c3 h
      obtain ⟨r10, C11, q4, h⟩ := bp_x h
      have a5 : ag fScr C C11 := ag_tr ag_rf (gc_X0_reckon (by omega) q4)
      by_cases c6 : r10 = 0
      · replace h := it_t c6 h
        rw [← pr_2 h]
        exact a5
      · replace h := it_f c6 h
        obtain ⟨r17, q7, h⟩ := bn_x h
        obtain ⟨r20, q8, h⟩ := bn_x h
        rw [← pr_2 h]
        exact a5
theorem gc_X10_quickest {n : Nat} {p1 : Int32} {p2 : Int32} {p3 : Int32} {C : Mm} {r0 : Int32} {C0 : Mm} (h : fX10_quickest n p1 p2 p3 C = some (r0, C0)) : ag fScr C C0 := by
  have bl107 : ∀ {k38 : Int32 → Int32 → Int32 → Int32 → Int32 → Int32 → Mm → Option (Int32 × Mm)} (hk38 : ∀ {y1 : Int32} {y2 : Int32} {y3 : Int32} {y4 : Int32} {y5 : Int32} {y6 : Int32} {C : Mm} (_ : k38 y1 y2 y3 y4 y5 y6 C = some (r0, C0)), ag fScr C C0), ∀ {y1 : Int32} {y2 : Int32} {y3 : Int32} {y4 : Int32} {y5 : Int32} {y6 : Int32} {C : Mm} (_ : fX10_quickest_b107 n k38 y1 y2 y3 y4 y5 y6 C = some (r0, C0)), ag fScr C C0 := by
    intro k38 hk38 y1 y2 y3 y4 y5 y6 C h
    unfold fX10_quickest_b107 at h
    obtain ⟨x1, e1, h⟩ := lt_z h
    exact ag_tr ag_rf (hk38 h)
  have bl94 : ∀ {k38 : Int32 → Int32 → Int32 → Int32 → Int32 → Int32 → Mm → Option (Int32 × Mm)} (hk38 : ∀ {y1 : Int32} {y2 : Int32} {y3 : Int32} {y4 : Int32} {y5 : Int32} {y6 : Int32} {C : Mm} (_ : k38 y1 y2 y3 y4 y5 y6 C = some (r0, C0)), ag fScr C C0), ∀ {y1 : Int32} {y2 : Int32} {y3 : Int32} {y6 : Int32} {C : Mm} (_ : fX10_quickest_b94 n k38 y1 y2 y3 y6 C = some (r0, C0)), ag fScr C C0 := by
    intro k38 hk38 y1 y2 y3 y6 C h
    unfold fX10_quickest_b94 at h
    obtain ⟨x4, e2, h⟩ := lt_z h
    exact ag_tr ag_rf (bl107 hk38 h)
  have bl38 : ∀ (fu : Nat), ∀ {y1 : Int32} {y2 : Int32} {y3 : Int32} {y4 : Int32} {y5 : Int32} {y6 : Int32} {C : Mm} (_ : fX10_quickest_h38 n fu y1 y2 y3 y4 y5 y6 C = some (r0, C0)), ag fScr C C0 := by
    intro fu
    induction fu with
    | zero =>
      intro y1 y2 y3 y4 y5 y6 C h
      rw [fX10_quickest_h38.eq_1] at h
      cases h
    | succ fu ih =>
      intro y1 y2 y3 y4 y5 y6 C h
      rw [fX10_quickest_h38.eq_2] at h
      by_cases c3 : 7 ≤ y6
      · replace h := it_t c3 h
        rw [← pr_2 h]
        exact ag_rf
      · replace h := it_f c3 h
        by_cases c4 : y1 < (0 : Int32) ∨ 6 ≤ Int32.toNatClampNeg y1
        · cases it_t c4 h
        replace h := it_f c4 h
        obtain ⟨r9, C10, q5, h⟩ := bp_x h
        have a6 : ag fScr C C10 := ag_tr ag_rf (gc_X0_reckon (by omega) q5)
        by_cases c7 : r9 = 0
        · replace h := it_t c7 h
          exact ag_tr a6 (bl107 ih h)
        · replace h := it_f c7 h
          by_cases c8 : y3 < (fX0_holds C10)
          · replace h := it_t c8 h
            exact ag_tr a6 (bl107 ih h)
          · replace h := it_f c8 h
            by_cases c9 : y4 = (-2)
            · replace h := it_t c9 h
              exact ag_tr a6 (bl94 ih h)
            · replace h := it_f c9 h
              by_cases c10 : y5 ≤ (fX0_seconds C10)
              · replace h := it_t c10 h
                exact ag_tr a6 (bl107 ih h)
              · replace h := it_f c10 h
                exact ag_tr a6 (bl94 ih h)
  unfold fX10_quickest at h
  by_cases c11 : (fX10_isHead p1 C) = 0
  · replace h := it_t c11 h
    rw [← pr_2 h]
    exact ag_rf
  · replace h := it_f c11 h
    by_cases c12 : (fX10_isPair p2) = 0
    · replace h := it_t c12 h
      rw [← pr_2 h]
      exact ag_rf
    · replace h := it_f c12 h
      by_cases c13 : p3 < 1
      · replace h := it_t c13 h
        rw [← pr_2 h]
        exact ag_rf
      · replace h := it_f c13 h
        by_cases c14 : p3 ≤ 99
        · replace h := it_t c14 h
          exact ag_tr ag_rf (bl38 _ h)
        · replace h := it_f c14 h
          rw [← pr_2 h]
          exact ag_rf
theorem gc_X10_table {n : Nat} {p1 : Int32} {p2 : Int32} {p3 : Int32} {C : Mm} {r0 : Int32} {C0 : Mm} (h : fX10_table n p1 p2 p3 C = some (r0, C0)) : ag fScr C C0 := by
  have bl34 : ∀ (fu : Nat), ∀ {y2 : Int32} {y3 : Int32} {y4 : Int32} {C : Mm} (_ : fX10_table_h34 n fu y2 y3 y4 C = some (r0, C0)), ag fScr C C0 := by
    intro fu
    induction fu with
    | zero =>
      intro y2 y3 y4 C h
      rw [fX10_table_h34.eq_1] at h
      cases h
    | succ fu ih =>
      intro y2 y3 y4 C h
      rw [fX10_table_h34.eq_2] at h
      by_cases c1 : 99 < y4
      · replace h := it_t c1 h
        rw [← pr_2 h]
        exact ag_rf
      · replace h := it_f c1 h
        obtain ⟨C3, q2, h⟩ := bn_x h
        have a3 : ag fScr C C3 := ag_tr ag_rf (gc_X5_setNumber (by omega) (by omega) q2)
        obtain ⟨r5, C6, q4, h⟩ := bp_x h
        have a5 : ag fScr C C6 := ag_tr a3 (gc_X10_reckonChosen (by omega) q4)
        by_cases c6 : y3 < (fX0_seconds C6)
        · replace h := it_t c6 h
          obtain ⟨x11, e7, h⟩ := lt_z h
          exact ag_tr a5 (ih h)
        · replace h := it_f c6 h
          rw [← pr_2 h]
          exact a5
  unfold fX10_table at h
  by_cases c8 : (fX10_isHead p1 C) = 0
  · replace h := it_t c8 h
    rw [← pr_2 h]
    exact ag_rf
  · replace h := it_f c8 h
    by_cases c9 : (fX10_isPair p2) = 0
    · replace h := it_t c9 h
      rw [← pr_2 h]
      exact ag_rf
    · replace h := it_f c9 h
      by_cases c10 : p1 < (0 : Int32) ∨ 6 ≤ Int32.toNatClampNeg p1
      · cases it_t c10 h
      replace h := it_f c10 h
      obtain ⟨C21, q11, h⟩ := bn_x h
      have a12 : ag fScr C C21 := ag_tr ag_rf (gc_X5_become (by omega) (by omega) (by omega) q11)
      exact ag_tr a12 (bl34 _ h)
theorem gc_X10_fitsAll {n : Nat} {j1 : Nat} (hj1 : j1 < 7) {p2 : Int32} {p3 : Int32} {C : Mm} {r0 : Int32} {C0 : Mm} (h : fX10_fitsAll n j1 p2 p3 C = some (r0, C0)) : ag fScr C C0 := by
  have bl70 : ∀ {k3 : Int32 → Int32 → Int32 → Mm → Option (Int32 × Mm)} (hk3 : ∀ {y2 : Int32} {y3 : Int32} {y4 : Int32} {C : Mm} (_ : k3 y2 y3 y4 C = some (r0, C0)), ag fScr C C0), ∀ {y2 : Int32} {y3 : Int32} {y4 : Int32} {s0 : Int32} {C : Mm} (_ : fX10_fitsAll_b70 n j1 k3 y2 y3 y4 s0 C = some (r0, C0)), ag fScr C C0 := by
    intro k3 hk3 y2 y3 y4 s0 C h
    unfold fX10_fitsAll_b70 at h
    by_cases c1 : s0 = 0
    · replace h := it_t c1 h
      rw [← pr_2 h]
      exact ag_rf
    · replace h := it_f c1 h
      obtain ⟨r5, q2, h⟩ := bn_x h
      by_cases c3 : (iabs ((fX0_seconds C) - r5)) ≤ y3
      · replace h := it_t c3 h
        obtain ⟨x8, e4, h⟩ := lt_z h
        exact ag_tr ag_rf (hk3 h)
      · replace h := it_f c3 h
        rw [← pr_2 h]
        exact ag_rf
  have bl65 : ∀ {k3 : Int32 → Int32 → Int32 → Mm → Option (Int32 × Mm)} (hk3 : ∀ {y2 : Int32} {y3 : Int32} {y4 : Int32} {C : Mm} (_ : k3 y2 y3 y4 C = some (r0, C0)), ag fScr C C0), ∀ {y2 : Int32} {y3 : Int32} {y4 : Int32} {C : Mm} (_ : fX10_fitsAll_b65 n j1 k3 y2 y3 y4 C = some (r0, C0)), ag fScr C C0 := by
    intro k3 hk3 y2 y3 y4 C h
    unfold fX10_fitsAll_b65 at h
    exact ag_tr ag_rf (bl70 hk3 h)
  have bl3 : ∀ (fu : Nat), ∀ {y2 : Int32} {y3 : Int32} {y4 : Int32} {C : Mm} (_ : fX10_fitsAll_h3 n j1 fu y2 y3 y4 C = some (r0, C0)), ag fScr C C0 := by
    intro fu
    induction fu with
    | zero =>
      intro y2 y3 y4 C h
      rw [fX10_fitsAll_h3.eq_1] at h
      cases h
    | succ fu ih =>
      intro y2 y3 y4 C h
      rw [fX10_fitsAll_h3.eq_2] at h
      by_cases c5 : (fX7_size C) ≤ y4
      · replace h := it_t c5 h
        rw [← pr_2 h]
        exact ag_rf
      · replace h := it_f c5 h
        obtain ⟨r13, q6, h⟩ := bn_x h
        obtain ⟨r16, C17, q7, h⟩ := bp_x h
        have a8 : ag fScr C C17 := ag_tr ag_rf (gc_X0_reckon (by omega) q7)
        by_cases c9 : r16 = 0
        · replace h := it_t c9 h
          rw [← pr_2 h]
          exact a8
        · replace h := it_f c9 h
          obtain ⟨r21, q10, h⟩ := bn_x h
          by_cases c11 : r21 = 0
          · replace h := it_t c11 h
            exact ag_tr a8 (bl65 ih h)
          · replace h := it_f c11 h
            obtain ⟨r25, q12, h⟩ := bn_x h
            by_cases c13 : r25 = (-2)
            · replace h := it_t c13 h
              exact ag_tr a8 (bl70 ih h)
            · replace h := it_f c13 h
              exact ag_tr a8 (bl65 ih h)
  unfold fX10_fitsAll at h
  exact ag_tr ag_rf (bl3 _ h)
theorem gc_X10_fits {n : Nat} {p1 : Int32} {p2 : Int32} {C : Mm} {r0 : Int32} {C0 : Mm} (h : fX10_fits n p1 p2 C = some (r0, C0)) : ag fScr C C0 := by
  have bl69 : ∀ {k39 : Int32 → Int32 → Int32 → Int32 → Mm → Option (Int32 × Mm)} (hk39 : ∀ {y1 : Int32} {y2 : Int32} {y3 : Int32} {y4 : Int32} {C : Mm} (_ : k39 y1 y2 y3 y4 C = some (r0, C0)), ag fScr C C0), ∀ {y1 : Int32} {y2 : Int32} {y3 : Int32} {y4 : Int32} {C : Mm} (_ : fX10_fits_b69 n k39 y1 y2 y3 y4 C = some (r0, C0)), ag fScr C C0 := by
    intro k39 hk39 y1 y2 y3 y4 C h
    unfold fX10_fits_b69 at h
    obtain ⟨x1, e1, h⟩ := lt_z h
    exact ag_tr ag_rf (hk39 h)
  have bl39 : ∀ (fu : Nat), ∀ {y1 : Int32} {y2 : Int32} {y3 : Int32} {y4 : Int32} {C : Mm} (_ : fX10_fits_h39 n fu y1 y2 y3 y4 C = some (r0, C0)), ag fScr C C0 := by
    intro fu
    induction fu with
    | zero =>
      intro y1 y2 y3 y4 C h
      rw [fX10_fits_h39.eq_1] at h
      cases h
    | succ fu ih =>
      intro y1 y2 y3 y4 C h
      rw [fX10_fits_h39.eq_2] at h
      by_cases c2 : 7 ≤ y4
      · replace h := it_t c2 h
        rw [← pr_2 h]
        exact ag_rf
      · replace h := it_f c2 h
        by_cases c3 : y1 < (0 : Int32) ∨ 6 ≤ Int32.toNatClampNeg y1
        · cases it_t c3 h
        replace h := it_f c3 h
        obtain ⟨r6, C7, q4, h⟩ := bp_x h
        have a5 : ag fScr C C7 := ag_tr ag_rf (gc_X10_fitsAll (by omega) q4)
        by_cases c6 : r6 = 0
        · replace h := it_t c6 h
          exact ag_tr a5 (bl69 ih h)
        · replace h := it_f c6 h
          obtain ⟨x10, e7, h⟩ := lt_z h
          exact ag_tr a5 (bl69 ih h)
  unfold fX10_fits at h
  by_cases c8 : (fX10_isHead p1 C) = 0
  · replace h := it_t c8 h
    rw [← pr_2 h]
    exact ag_rf
  · replace h := it_f c8 h
    by_cases c9 : p2 < 0
    · replace h := it_t c9 h
      rw [← pr_2 h]
      exact ag_rf
    · replace h := it_f c9 h
      by_cases c10 : p2 ≤ 9999
      · replace h := it_t c10 h
        by_cases c11 : (fX7_size C) = 0
        · replace h := it_t c11 h
          rw [← pr_2 h]
          exact ag_rf
        · replace h := it_f c11 h
          exact ag_tr ag_rf (bl39 _ h)
      · replace h := it_f c10 h
        rw [← pr_2 h]
        exact ag_rf
theorem gc_X10_sumOfDifferences {n : Nat} {j1 : Nat} (hj1 : j1 < 7) {p2 : Int32} {C : Mm} {r0 : Int32} {C0 : Mm} (h : fX10_sumOfDifferences n j1 p2 C = some (r0, C0)) : ag fScr C C0 := by
  have bl65 : ∀ {k5 : Int32 → Int32 → Int32 → Mm → Option (Int32 × Mm)} (hk5 : ∀ {y2 : Int32} {y3 : Int32} {y4 : Int32} {C : Mm} (_ : k5 y2 y3 y4 C = some (r0, C0)), ag fScr C C0), ∀ {y2 : Int32} {y3 : Int32} {y4 : Int32} {C : Mm} (_ : fX10_sumOfDifferences_b65 n j1 k5 y2 y3 y4 C = some (r0, C0)), ag fScr C C0 := by
    intro k5 hk5 y2 y3 y4 C h
    unfold fX10_sumOfDifferences_b65 at h
    obtain ⟨r4, q1, h⟩ := bn_x h
    obtain ⟨x6, e2, h⟩ := lt_z h
    obtain ⟨x7, e3, h⟩ := lt_z h
    exact ag_tr ag_rf (hk5 h)
  have bl5 : ∀ (fu : Nat), ∀ {y2 : Int32} {y3 : Int32} {y4 : Int32} {C : Mm} (_ : fX10_sumOfDifferences_h5 n j1 fu y2 y3 y4 C = some (r0, C0)), ag fScr C C0 := by
    intro fu
    induction fu with
    | zero =>
      intro y2 y3 y4 C h
      rw [fX10_sumOfDifferences_h5.eq_1] at h
      cases h
    | succ fu ih =>
      intro y2 y3 y4 C h
      rw [fX10_sumOfDifferences_h5.eq_2] at h
      by_cases c4 : (fX7_size C) ≤ y4
      · replace h := it_t c4 h
        rw [← pr_2 h]
        exact ag_rf
      · replace h := it_f c4 h
        by_cases c5 : y2 = 7
        · replace h := it_t c5 h
          obtain ⟨r21, q6, h⟩ := bn_x h
          obtain ⟨r24, C25, q7, h⟩ := bp_x h
          have a8 : ag fScr C C25 := ag_tr ag_rf (gc_X10_reckonChosen (by omega) q7)
          exact ag_tr a8 (bl65 ih h)
        · replace h := it_f c5 h
          obtain ⟨r13, q9, h⟩ := bn_x h
          obtain ⟨r16, C17, q10, h⟩ := bp_x h
          have a11 : ag fScr C C17 := ag_tr ag_rf (gc_X0_reckon (by omega) q10)
          by_cases c12 : r16 = 0
          · replace h := it_t c12 h
            rw [← pr_2 h]
            exact a11
          · replace h := it_f c12 h
            exact ag_tr a11 (bl65 ih h)
  unfold fX10_sumOfDifferences at h
  exact ag_tr ag_rf (bl5 _ h)
theorem gc_X10_best {n : Nat} {p1 : Int32} {p2 : Int32} {C : Mm} {r0 : Int32} {C0 : Mm} (h : fX10_best n p1 p2 C = some (r0, C0)) : ag fScr C C0 := by
  have bl93 : ∀ {k53 : Int32 → Int32 → Int32 → Int32 → Int32 → Mm → Option (Int32 × Mm)} (hk53 : ∀ {y1 : Int32} {y2 : Int32} {y3 : Int32} {y4 : Int32} {y5 : Int32} {C : Mm} (_ : k53 y1 y2 y3 y4 y5 C = some (r0, C0)), ag fScr C C0), ∀ {y1 : Int32} {y2 : Int32} {y3 : Int32} {y4 : Int32} {y5 : Int32} {C : Mm} (_ : fX10_best_b93 n k53 y1 y2 y3 y4 y5 C = some (r0, C0)), ag fScr C C0 := by
    intro k53 hk53 y1 y2 y3 y4 y5 C h
    unfold fX10_best_b93 at h
    obtain ⟨x1, e1, h⟩ := lt_z h
    exact ag_tr ag_rf (hk53 h)
  have bl53 : ∀ (fu : Nat), ∀ {y1 : Int32} {y2 : Int32} {y3 : Int32} {y4 : Int32} {y5 : Int32} {C : Mm} (_ : fX10_best_h53 n fu y1 y2 y3 y4 y5 C = some (r0, C0)), ag fScr C C0 := by
    intro fu
    induction fu with
    | zero =>
      intro y1 y2 y3 y4 y5 C h
      rw [fX10_best_h53.eq_1] at h
      cases h
    | succ fu ih =>
      intro y1 y2 y3 y4 y5 C h
      rw [fX10_best_h53.eq_2] at h
      by_cases c2 : y5 < 0
      · replace h := it_t c2 h
        by_cases c3 : y2 = 0
        · replace h := it_t c3 h
          rw [← pr_2 h]
          exact ag_rf
        · replace h := it_f c3 h
          rw [← pr_2 h]
          exact ag_rf
      · replace h := it_f c2 h
        by_cases c4 : y1 < (0 : Int32) ∨ 6 ≤ Int32.toNatClampNeg y1
        · cases it_t c4 h
        replace h := it_f c4 h
        obtain ⟨r7, C8, q5, h⟩ := bp_x h
        have a6 : ag fScr C C8 := ag_tr ag_rf (gc_X10_sumOfDifferences (by omega) q5)
        by_cases c7 : r7 = (-2)
        · replace h := it_t c7 h
          exact ag_tr a6 (bl93 ih h)
        · replace h := it_f c7 h
          by_cases c8 : y4 < r7
          · replace h := it_t c8 h
            exact ag_tr a6 (bl93 ih h)
          · replace h := it_f c8 h
            exact ag_tr a6 (bl93 ih h)
  unfold fX10_best at h
  by_cases c9 : (fX10_isHead p1 C) = 0
  · replace h := it_t c9 h
    rw [← pr_2 h]
    exact ag_rf
  · replace h := it_f c9 h
    by_cases c10 : p2 < 0
    · replace h := it_t c10 h
      rw [← pr_2 h]
      exact ag_rf
    · replace h := it_f c10 h
      by_cases c11 : p2 ≤ 1
      · replace h := it_t c11 h
        by_cases c12 : (fX7_size C) = 0
        · replace h := it_t c12 h
          rw [← pr_2 h]
          exact ag_rf
        · replace h := it_f c12 h
          by_cases c13 : p1 < (0 : Int32) ∨ 6 ≤ Int32.toNatClampNeg p1
          · cases it_t c13 h
          replace h := it_f c13 h
          obtain ⟨r23, C24, q14, h⟩ := bp_x h
          have a15 : ag fScr C C24 := ag_tr ag_rf (gc_X10_sumOfDifferences (by omega) q14)
          exact ag_tr a15 (bl53 _ h)
      · replace h := it_f c11 h
        rw [← pr_2 h]
        exact ag_rf
theorem gc_X10_slip {n : Nat} {p1 : Int32} {p2 : Int32} {p3 : Int32} {C : Mm} {r0 : Int32} {C0 : Mm} (h : fX10_slip n p1 p2 p3 C = some (r0, C0)) : ag fScr C C0 := by
  unfold fX10_slip at h
  by_cases c1 : (fX10_isHeadAndWay p1 C) = 0
  · replace h := it_t c1 h
    rw [← pr_2 h]
    exact ag_rf
  · replace h := it_f c1 h
    by_cases c2 : (fX7_has p2 C) = 0
    · replace h := it_t c2 h
      rw [← pr_2 h]
      exact ag_rf
    · replace h := it_f c2 h
      by_cases c3 : p3 < 0
      · replace h := it_t c3 h
        rw [← pr_2 h]
        exact ag_rf
      · replace h := it_f c3 h
        by_cases c4 : p3 ≤ 1
        · replace h := it_t c4 h
          obtain ⟨r10, q5, h⟩ := bn_x h
          by_cases c6 : r10 = 0
          · replace h := it_t c6 h
            rw [← pr_2 h]
            exact ag_rf
          · replace h := it_f c6 h
            by_cases c7 : (p1 / 10) < (0 : Int32) ∨ 6 ≤ Int32.toNatClampNeg (p1 / 10)
            · cases it_t c7 h
            replace h := it_f c7 h
            obtain ⟨r16, q8, h⟩ := bn_x h
            obtain ⟨r19, C20, q9, h⟩ := bp_x h
            have a10 : ag fScr C C20 := ag_tr ag_rf (gc_X0_reckon (by omega) q9)
            by_cases c11 : r19 = 0
            · replace h := it_t c11 h
              rw [← pr_2 h]
              exact a10
            · replace h := it_f c11 h
              by_cases c12 : p3 = 0
              · replace h := it_t c12 h
                obtain ⟨r28, q13, h⟩ := bn_x h
                rw [← pr_2 h]
                exact a10
              · replace h := it_f c12 h
                obtain ⟨r25, q14, h⟩ := bn_x h
                rw [← pr_2 h]
                exact a10
        · replace h := it_f c4 h
          rw [← pr_2 h]
          exact ag_rf
theorem gc_X10_suits {n : Nat} {p1 : Int32} {C : Mm} {r0 : Int32} {C0 : Mm} (h : fX10_suits n p1 C = some (r0, C0)) : ag fScr C C0 := by
  have bl106 : ∀ {k30 : Int32 → Int32 → Int32 → Int32 → Mm → Option (Int32 × Mm)} (hk30 : ∀ {y1 : Int32} {y2 : Int32} {y3 : Int32} {y4 : Int32} {C : Mm} (_ : k30 y1 y2 y3 y4 C = some (r0, C0)), ag fScr C C0), ∀ {y1 : Int32} {y2 : Int32} {y3 : Int32} {y4 : Int32} {C : Mm} (_ : fX10_suits_b106 n k30 y1 y2 y3 y4 C = some (r0, C0)), ag fScr C C0 := by
    intro k30 hk30 y1 y2 y3 y4 C h
    unfold fX10_suits_b106 at h
    obtain ⟨x1, e1, h⟩ := lt_z h
    exact ag_tr ag_rf (hk30 h)
  have bl30 : ∀ (fu : Nat), ∀ {y1 : Int32} {y2 : Int32} {y3 : Int32} {y4 : Int32} {C : Mm} (_ : fX10_suits_h30 n fu y1 y2 y3 y4 C = some (r0, C0)), ag fScr C C0 := by
    intro fu
    induction fu with
    | zero =>
      intro y1 y2 y3 y4 C h
      rw [fX10_suits_h30.eq_1] at h
      cases h
    | succ fu ih =>
      intro y1 y2 y3 y4 C h
      rw [fX10_suits_h30.eq_2] at h
      by_cases c2 : y2 ≤ y4
      · replace h := it_t c2 h
        by_cases c3 : y2 = 0
        · cases it_t c3 h
        replace h := it_f c3 h
        rw [← pr_2 h]
        exact ag_rf
      · replace h := it_f c2 h
        by_cases c4 : y1 < (0 : Int32) ∨ 6 ≤ Int32.toNatClampNeg y1
        · cases it_t c4 h
        replace h := it_f c4 h
        obtain ⟨r7, q5, h⟩ := bn_x h
        obtain ⟨r10, C11, q6, h⟩ := bp_x h
        have a7 : ag fScr C C11 := ag_tr ag_rf (gc_X0_reckon (by omega) q6)
        obtain ⟨x15, e8, h⟩ := lt_z h
        by_cases c9 : y1 < (0 : Int32) ∨ 6 ≤ Int32.toNatClampNeg y1
        · cases it_t c9 h
        replace h := it_f c9 h
        obtain ⟨r19, q10, h⟩ := bn_x h
        obtain ⟨r22, C23, q11, h⟩ := bp_x h
        have a12 : ag fScr C C23 := ag_tr a7 (gc_X10_reckonChosen (by omega) q11)
        by_cases c13 : x15 < (fX0_seconds C23)
        · replace h := it_t c13 h
          exact ag_tr a12 (bl106 ih h)
        · replace h := it_f c13 h
          obtain ⟨x28, e14, h⟩ := lt_z h
          exact ag_tr a12 (bl106 ih h)
  unfold fX10_suits at h
  by_cases c15 : (fX10_isHead p1 C) = 0
  · replace h := it_t c15 h
    rw [← pr_2 h]
    exact ag_rf
  · replace h := it_f c15 h
    obtain ⟨x34, e16, h⟩ := lt_z h
    by_cases c17 : x34 = 0
    · replace h := it_t c17 h
      rw [← pr_2 h]
      exact ag_rf
    · replace h := it_f c17 h
      exact ag_tr ag_rf (bl30 _ h)
theorem gc_X10_spreadOf {n : Nat} {j1 : Nat} (hj1 : j1 < 7) {p2 : Int32} {p3 : Int32} {C : Mm} {r0 : Int32} {C0 : Mm} (h : fX10_spreadOf n j1 p2 p3 C = some (r0, C0)) : ag fScr C C0 := by
  have bl83 : ∀ {k11 : Int32 → Int32 → Int32 → Int32 → Int32 → Mm → Option (Int32 × Mm)} (hk11 : ∀ {y2 : Int32} {y3 : Int32} {y4 : Int32} {y5 : Int32} {y6 : Int32} {C : Mm} (_ : k11 y2 y3 y4 y5 y6 C = some (r0, C0)), ag fScr C C0), ∀ {y2 : Int32} {y3 : Int32} {y4 : Int32} {y5 : Int32} {y6 : Int32} {C : Mm} (_ : fX10_spreadOf_b83 n j1 k11 y2 y3 y4 y5 y6 C = some (r0, C0)), ag fScr C C0 := by
    intro k11 hk11 y2 y3 y4 y5 y6 C h
    unfold fX10_spreadOf_b83 at h
    obtain ⟨x1, e1, h⟩ := lt_z h
    exact ag_tr ag_rf (hk11 h)
  have bl72 : ∀ {k11 : Int32 → Int32 → Int32 → Int32 → Int32 → Mm → Option (Int32 × Mm)} (hk11 : ∀ {y2 : Int32} {y3 : Int32} {y4 : Int32} {y5 : Int32} {y6 : Int32} {C : Mm} (_ : k11 y2 y3 y4 y5 y6 C = some (r0, C0)), ag fScr C C0), ∀ {y2 : Int32} {y3 : Int32} {y5 : Int32} {y6 : Int32} {y7 : Int32} {s0 : Int32} {C : Mm} (_ : fX10_spreadOf_b72 n j1 k11 y2 y3 y5 y6 y7 s0 C = some (r0, C0)), ag fScr C C0 := by
    intro k11 hk11 y2 y3 y5 y6 y7 s0 C h
    unfold fX10_spreadOf_b72 at h
    obtain ⟨x2, e2, h⟩ := lt_z h
    exact ag_tr ag_rf (bl83 hk11 h)
  have bl11 : ∀ (fu : Nat), ∀ {y2 : Int32} {y3 : Int32} {y4 : Int32} {y5 : Int32} {y6 : Int32} {C : Mm} (_ : fX10_spreadOf_h11 n j1 fu y2 y3 y4 y5 y6 C = some (r0, C0)), ag fScr C C0 := by
    intro fu
    induction fu with
    | zero =>
      intro y2 y3 y4 y5 y6 C h
      rw [fX10_spreadOf_h11.eq_1] at h
      cases h
    | succ fu ih =>
      intro y2 y3 y4 y5 y6 C h
      rw [fX10_spreadOf_h11.eq_2] at h
      by_cases c3 : 7 ≤ y6
      · replace h := it_t c3 h
        by_cases c4 : y4 = (-2)
        · replace h := it_t c4 h
          rw [← pr_2 h]
          exact ag_rf
        · replace h := it_f c4 h
          rw [← pr_2 h]
          exact ag_rf
      · replace h := it_f c3 h
        by_cases c5 : ((y2 >>> (y6 &&& 31)) &&& 1) = 0
        · replace h := it_t c5 h
          exact ag_tr ag_rf (bl83 ih h)
        · replace h := it_f c5 h
          obtain ⟨r7, C8, q6, h⟩ := bp_x h
          have a7 : ag fScr C C8 := ag_tr ag_rf (gc_X0_reckon (by omega) q6)
          by_cases c8 : r7 = 0
          · replace h := it_t c8 h
            exact ag_tr a7 (bl83 ih h)
          · replace h := it_f c8 h
            obtain ⟨x13, e9, h⟩ := lt_z h
            by_cases c10 : y4 = (-2)
            · replace h := it_t c10 h
              exact ag_tr a7 (bl72 ih h)
            · replace h := it_f c10 h
              exact ag_tr a7 (bl72 ih h)
  unfold fX10_spreadOf at h
  exact ag_tr ag_rf (bl11 _ h)
theorem gc_X10_parts {n : Nat} {p1 : Int32} {p2 : Int32} {p3 : Int32} {C : Mm} {r0 : Int32} {C0 : Mm} (h : fX10_parts n p1 p2 p3 C = some (r0, C0)) : ag fScr C C0 := by
  have bl95 : ∀ {k51 : Int32 → Int32 → Int32 → Int32 → Int32 → Int32 → Mm → Option (Int32 × Mm)} (hk51 : ∀ {y1 : Int32} {y2 : Int32} {y3 : Int32} {y4 : Int32} {y5 : Int32} {y6 : Int32} {C : Mm} (_ : k51 y1 y2 y3 y4 y5 y6 C = some (r0, C0)), ag fScr C C0), ∀ {y1 : Int32} {y2 : Int32} {y3 : Int32} {y4 : Int32} {y5 : Int32} {y6 : Int32} {C : Mm} (_ : fX10_parts_b95 n k51 y1 y2 y3 y4 y5 y6 C = some (r0, C0)), ag fScr C C0 := by
    intro k51 hk51 y1 y2 y3 y4 y5 y6 C h
    unfold fX10_parts_b95 at h
    obtain ⟨x1, e1, h⟩ := lt_z h
    exact ag_tr ag_rf (hk51 h)
  have bl51 : ∀ (fu : Nat), ∀ {y1 : Int32} {y2 : Int32} {y3 : Int32} {y4 : Int32} {y5 : Int32} {y6 : Int32} {C : Mm} (_ : fX10_parts_h51 n fu y1 y2 y3 y4 y5 y6 C = some (r0, C0)), ag fScr C C0 := by
    intro fu
    induction fu with
    | zero =>
      intro y1 y2 y3 y4 y5 y6 C h
      rw [fX10_parts_h51.eq_1] at h
      cases h
    | succ fu ih =>
      intro y1 y2 y3 y4 y5 y6 C h
      rw [fX10_parts_h51.eq_2] at h
      by_cases c2 : (C.1 0 8) ≤ y6
      · replace h := it_t c2 h
        by_cases c3 : y3 = 0
        · replace h := it_t c3 h
          rw [← pr_2 h]
          exact ag_rf
        · replace h := it_f c3 h
          rw [← pr_2 h]
          exact ag_rf
      · replace h := it_f c2 h
        by_cases c4 : y1 < (0 : Int32) ∨ 6 ≤ Int32.toNatClampNeg y1
        · cases it_t c4 h
        replace h := it_f c4 h
        by_cases c5 : y6 < (0 : Int32) ∨ 8 ≤ Int32.toNatClampNeg y6
        · cases it_t c5 h
        replace h := it_f c5 h
        obtain ⟨r8, C9, q6, h⟩ := bp_x h
        have a7 : ag fScr C C9 := ag_tr ag_rf (gc_X10_spreadOf (by omega) q6)
        by_cases c8 : r8 ≤ y5
        · replace h := it_t c8 h
          exact ag_tr a7 (bl95 ih h)
        · replace h := it_f c8 h
          exact ag_tr a7 (bl95 ih h)
  unfold fX10_parts at h
  by_cases c9 : (fX10_isHead p1 C) = 0
  · replace h := it_t c9 h
    rw [← pr_2 h]
    exact ag_rf
  · replace h := it_f c9 h
    by_cases c10 : p2 < 0
    · replace h := it_t c10 h
      rw [← pr_2 h]
      exact ag_rf
    · replace h := it_f c10 h
      by_cases c11 : 128 ≤ p2
      · replace h := it_t c11 h
        rw [← pr_2 h]
        exact ag_rf
      · replace h := it_f c11 h
        by_cases c12 : p3 < 0
        · replace h := it_t c12 h
          rw [← pr_2 h]
          exact ag_rf
        · replace h := it_f c12 h
          by_cases c13 : p3 ≤ 1
          · replace h := it_t c13 h
            by_cases c14 : (C.1 0 8) = 0
            · replace h := it_t c14 h
              rw [← pr_2 h]
              exact ag_rf
            · replace h := it_f c14 h
              exact ag_tr ag_rf (bl51 _ h)
          · replace h := it_f c13 h
            rw [← pr_2 h]
            exact ag_rf
theorem gc_X10_taught {n : Nat} {p1 : Int32} {p2 : Int32} {p3 : Int32} {C : Mm} {r0 : Int32} {C0 : Mm} (h : fX10_taught n p1 p2 p3 C = some (r0, C0)) : ag fScr C C0 := by
  have bl66 : ∀ (fu : Nat), ∀ {y2 : Int32} {y3 : Int32} {y4 : Int32} {y5 : Int32} {C : Mm} (_ : fX10_taught_h66 n fu y2 y3 y4 y5 C = some (r0, C0)), ag fScr C C0 := by
    intro fu
    induction fu with
    | zero =>
      intro y2 y3 y4 y5 C h
      rw [fX10_taught_h66.eq_1] at h
      cases h
    | succ fu ih =>
      intro y2 y3 y4 y5 C h
      rw [fX10_taught_h66.eq_2] at h
      by_cases c1 : y2 ≤ y5
      · replace h := it_t c1 h
        by_cases c2 : y3 = 0
        · replace h := it_t c2 h
          rw [← pr_2 h]
          exact ag_rf
        · replace h := it_f c2 h
          obtain ⟨r4, q3, h⟩ := bn_x h
          rw [← pr_2 h]
          exact ag_rf
      · replace h := it_f c1 h
        by_cases c4 : (C.1 0 8) = 0
        · cases it_t c4 h
        replace h := it_f c4 h
        by_cases c5 : (irm y5 (C.1 0 8)) < (0 : Int32) ∨ 8 ≤ Int32.toNatClampNeg (irm y5 (C.1 0 8))
        · cases it_t c5 h
        replace h := it_f c5 h
        obtain ⟨x8, e6, h⟩ := lt_z h
        obtain ⟨r10, C11, q7, h⟩ := bp_x h
        have a8 : ag fScr C C11 := ag_tr ag_rf (gc_X10_reckonChosen (by omega) q7)
        obtain ⟨x15, e9, h⟩ := lt_z h
        obtain ⟨r17, C18, q10, h⟩ := bp_x h
        have a11 : ag fScr C C18 := ag_tr a8 (gc_X5_hear (by omega) (by omega) q10)
        obtain ⟨x20, e12, h⟩ := lt_z h
        exact ag_tr a11 (ih h)
  unfold fX10_taught at h
  by_cases c13 : (fX10_isHead p1 C) = 0
  · replace h := it_t c13 h
    rw [← pr_2 h]
    exact ag_rf
  · replace h := it_f c13 h
    by_cases c14 : p2 < 1
    · replace h := it_t c14 h
      rw [← pr_2 h]
      exact ag_rf
    · replace h := it_f c14 h
      by_cases c15 : 50 < p2
      · replace h := it_t c15 h
        rw [← pr_2 h]
        exact ag_rf
      · replace h := it_f c15 h
        by_cases c16 : p3 < 0
        · replace h := it_t c16 h
          rw [← pr_2 h]
          exact ag_rf
        · replace h := it_f c16 h
          by_cases c17 : 1 < p3
          · replace h := it_t c17 h
            rw [← pr_2 h]
            exact ag_rf
          · replace h := it_f c17 h
            obtain ⟨r29, q18, h⟩ := bn_x h
            by_cases c19 : r29 = 0
            · replace h := it_t c19 h
              rw [← pr_2 h]
              exact ag_rf
            · replace h := it_f c19 h
              by_cases c20 : (C.1 0 8) = 0
              · replace h := it_t c20 h
                rw [← pr_2 h]
                exact ag_rf
              · replace h := it_f c20 h
                by_cases c21 : p1 < (0 : Int32) ∨ 6 ≤ Int32.toNatClampNeg p1
                · cases it_t c21 h
                replace h := it_f c21 h
                obtain ⟨C36, q22, h⟩ := bn_x h
                have a23 : ag fScr C C36 := ag_tr ag_rf (gc_X5_become (by omega) (by omega) (by omega) q22)
                exact ag_tr a23 (bl66 _ h)
theorem gc_X10_prepareOrders {n : Nat} {j1 : Nat} (hj1 : j1 < 7) {p2 : Int32} {C : Mm} {C0 : Mm} (h : fX10_prepareOrders n j1 p2 C = some C0) : ag fScr C C0 := by
  have bl53 : ∀ {k2 : Int32 → Int32 → Mm → Option Mm} (hk2 : ∀ {y2 : Int32} {y3 : Int32} {C : Mm} (_ : k2 y2 y3 C = some C0), ag fScr C C0) (fu : Nat), ∀ {y2 : Int32} {y3 : Int32} {y4 : Int32} {C : Mm} (_ : fX10_prepareOrders_h53 n j1 k2 fu y2 y3 y4 C = some C0), ag fScr C C0 := by
    intro k2 hk2
    intro fu
    induction fu with
    | zero =>
      intro y2 y3 y4 C h
      rw [fX10_prepareOrders_h53.eq_1] at h
      cases h
    | succ fu ih =>
      intro y2 y3 y4 C h
      rw [fX10_prepareOrders_h53.eq_2] at h
      by_cases c1 : 3 ≤ y4
      · replace h := it_t c1 h
        by_cases c2 : y3 < (0 : Int32) ∨ 8 ≤ Int32.toNatClampNeg y3
        · cases it_t c2 h
        replace h := it_f c2 h
        obtain ⟨r4, C5, q3, h⟩ := bp_x h
        have a4 : ag fScr C C5 := ag_tr ag_rf (gc_X10_reckonChosen (by omega) q3)
        by_cases c5 : y3 < (0 : Int32) ∨ 5 ≤ Int32.toNatClampNeg y3
        · cases it_t c5 h
        replace h := it_f c5 h
        obtain ⟨C10, e6, h⟩ := lt_z h
        have a7 : ag fScr C C10 := ag_tr a4 (by rw [e6]; exact ag_wrI (by unfold fScr lastC; omega))
        obtain ⟨x11, e8, h⟩ := lt_z h
        exact ag_tr a7 (hk2 h)
      · replace h := it_f c1 h
        by_cases c9 : y3 < (0 : Int32) ∨ 8 ≤ Int32.toNatClampNeg y3
        · cases it_t c9 h
        replace h := it_f c9 h
        obtain ⟨r14, C15, q10, h⟩ := bp_x h
        have a11 : ag fScr C C15 := ag_tr ag_rf (gc_X5_hear (by omega) (by omega) q10)
        obtain ⟨x17, e12, h⟩ := lt_z h
        exact ag_tr a11 (ih h)
  have bl2 : ∀ (fu : Nat), ∀ {y2 : Int32} {y3 : Int32} {C : Mm} (_ : fX10_prepareOrders_h2 n j1 fu y2 y3 C = some C0), ag fScr C C0 := by
    intro fu
    induction fu with
    | zero =>
      intro y2 y3 C h
      rw [fX10_prepareOrders_h2.eq_1] at h
      cases h
    | succ fu ih =>
      intro y2 y3 C h
      rw [fX10_prepareOrders_h2.eq_2] at h
      by_cases c13 : y2 ≤ y3
      · replace h := it_t c13 h
        rw [← Option.some.inj h]
        exact ag_rf
      · replace h := it_f c13 h
        by_cases c14 : y3 < (0 : Int32) ∨ 5 ≤ Int32.toNatClampNeg y3
        · cases it_t c14 h
        replace h := it_f c14 h
        obtain ⟨C20, e15, h⟩ := lt_z h
        have a16 : ag fScr C C20 := ag_tr ag_rf (by rw [e15]; exact ag_wrI (by unfold fScr lastC; omega))
        obtain ⟨C22, q17, h⟩ := bn_x h
        have a18 : ag fScr C C22 := ag_tr a16 (gc_X5_become (by omega) (by omega) (by omega) q17)
        by_cases c19 : y3 < (0 : Int32) ∨ 8 ≤ Int32.toNatClampNeg y3
        · cases it_t c19 h
        replace h := it_f c19 h
        obtain ⟨r25, C26, q20, h⟩ := bp_x h
        have a21 : ag fScr C C26 := ag_tr a18 (gc_X10_reckonChosen (by omega) q20)
        by_cases c22 : y3 < (0 : Int32) ∨ 5 ≤ Int32.toNatClampNeg y3
        · cases it_t c22 h
        replace h := it_f c22 h
        obtain ⟨C31, e23, h⟩ := lt_z h
        have a24 : ag fScr C C31 := ag_tr a21 (by rw [e23]; exact ag_wrI (by unfold fScr lastC; omega))
        exact ag_tr a24 (bl53 ih _ h)
  unfold fX10_prepareOrders at h
  exact ag_tr ag_rf (bl2 _ h)
theorem gc_X10_secondsOfOrder {n : Nat} {j1 : Nat} (hj1 : j1 < 7) {p2 : Int32} {C : Mm} {r0 : Int32} {C0 : Mm} (h : fX10_secondsOfOrder n j1 p2 C = some (r0, C0)) : ag fScr C C0 := by
  have bl85 : ∀ {k13 : Int32 → Int32 → Int32 → Mm → Option (Int32 × Mm)} (hk13 : ∀ {y2 : Int32} {y3 : Int32} {y4 : Int32} {C : Mm} (_ : k13 y2 y3 y4 C = some (r0, C0)), ag fScr C C0) {k31 : Int32 → Int32 → Int32 → Int32 → Int32 → Mm → Option (Int32 × Mm)} (hk31 : ∀ {y2 : Int32} {y3 : Int32} {y4 : Int32} {y5 : Int32} {y6 : Int32} {C : Mm} (_ : k31 y2 y3 y4 y5 y6 C = some (r0, C0)), ag fScr C C0), ∀ {y2 : Int32} {y4 : Int32} {y5 : Int32} {y6 : Int32} {s0 : Int32} {s1 : Int32} {C : Mm} (_ : fX10_secondsOfOrder_b85 n j1 k13 k31 y2 y4 y5 y6 s0 s1 C = some (r0, C0)), ag fScr C C0 := by
    intro k13 hk13 k31 hk31 y2 y4 y5 y6 s0 s1 C h
    unfold fX10_secondsOfOrder_b85 at h
    obtain ⟨x1, e1, h⟩ := lt_z h
    obtain ⟨x2, e2, h⟩ := lt_z h
    exact ag_tr ag_rf (hk31 h)
  have bl60 : ∀ {k13 : Int32 → Int32 → Int32 → Mm → Option (Int32 × Mm)} (hk13 : ∀ {y2 : Int32} {y3 : Int32} {y4 : Int32} {C : Mm} (_ : k13 y2 y3 y4 C = some (r0, C0)), ag fScr C C0) {k31 : Int32 → Int32 → Int32 → Int32 → Int32 → Mm → Option (Int32 × Mm)} (hk31 : ∀ {y2 : Int32} {y3 : Int32} {y4 : Int32} {y5 : Int32} {y6 : Int32} {C : Mm} (_ : k31 y2 y3 y4 y5 y6 C = some (r0, C0)), ag fScr C C0), ∀ {y2 : Int32} {y3 : Int32} {y4 : Int32} {y5 : Int32} {y6 : Int32} {s0 : Int32} {C : Mm} (_ : fX10_secondsOfOrder_b60 n j1 k13 k31 y2 y3 y4 y5 y6 s0 C = some (r0, C0)), ag fScr C C0 := by
    intro k13 hk13 k31 hk31 y2 y3 y4 y5 y6 s0 C h
    unfold fX10_secondsOfOrder_b60 at h
    by_cases c3 : s0 = 0
    · replace h := it_t c3 h
      by_cases c4 : y5 < (0 : Int32) ∨ 5 ≤ Int32.toNatClampNeg y5
      · cases it_t c4 h
      replace h := it_f c4 h
      exact ag_tr ag_rf (bl85 hk13 hk31 h)
    · replace h := it_f c3 h
      by_cases c5 : y5 < (0 : Int32) ∨ 5 ≤ Int32.toNatClampNeg y5
      · cases it_t c5 h
      replace h := it_f c5 h
      exact ag_tr ag_rf (bl85 hk13 hk31 h)
  have bl31 : ∀ {k13 : Int32 → Int32 → Int32 → Mm → Option (Int32 × Mm)} (hk13 : ∀ {y2 : Int32} {y3 : Int32} {y4 : Int32} {C : Mm} (_ : k13 y2 y3 y4 C = some (r0, C0)), ag fScr C C0) (fu : Nat), ∀ {y2 : Int32} {y3 : Int32} {y4 : Int32} {y5 : Int32} {y6 : Int32} {C : Mm} (_ : fX10_secondsOfOrder_h31 n j1 k13 fu y2 y3 y4 y5 y6 C = some (r0, C0)), ag fScr C C0 := by
    intro k13 hk13
    intro fu
    induction fu with
    | zero =>
      intro y2 y3 y4 y5 y6 C h
      rw [fX10_secondsOfOrder_h31.eq_1] at h
      cases h
    | succ fu ih =>
      intro y2 y3 y4 y5 y6 C h
      rw [fX10_secondsOfOrder_h31.eq_2] at h
      by_cases c6 : 3 ≤ y6
      · replace h := it_t c6 h
        obtain ⟨x7, e7, h⟩ := lt_z h
        exact ag_tr ag_rf (hk13 h)
      · replace h := it_f c6 h
        by_cases c8 : y5 < (0 : Int32) ∨ 8 ≤ Int32.toNatClampNeg y5
        · cases it_t c8 h
        replace h := it_f c8 h
        obtain ⟨r10, C11, q9, h⟩ := bp_x h
        have a10 : ag fScr C C11 := ag_tr ag_rf (gc_X5_hear (by omega) (by omega) q9)
        by_cases c11 : r10 ≤ 3
        · replace h := it_t c11 h
          exact ag_tr a10 (bl60 hk13 ih h)
        · replace h := it_f c11 h
          exact ag_tr a10 (bl60 hk13 ih h)
  have bl13 : ∀ (fu : Nat), ∀ {y2 : Int32} {y3 : Int32} {y4 : Int32} {C : Mm} (_ : fX10_secondsOfOrder_h13 n j1 fu y2 y3 y4 C = some (r0, C0)), ag fScr C C0 := by
    intro fu
    induction fu with
    | zero =>
      intro y2 y3 y4 C h
      rw [fX10_secondsOfOrder_h13.eq_1] at h
      cases h
    | succ fu ih =>
      intro y2 y3 y4 C h
      rw [fX10_secondsOfOrder_h13.eq_2] at h
      by_cases c12 : y2 ≤ y4
      · replace h := it_t c12 h
        rw [← pr_2 h]
        exact ag_rf
      · replace h := it_f c12 h
        by_cases c13 : y4 < (0 : Int32) ∨ 5 ≤ Int32.toNatClampNeg y4
        · cases it_t c13 h
        replace h := it_f c13 h
        obtain ⟨x16, e14, h⟩ := lt_z h
        exact ag_tr ag_rf (bl31 ih _ h)
  unfold fX10_secondsOfOrder at h
  obtain ⟨C18, q15, h⟩ := bn_x h
  have a16 : ag fScr C C18 := ag_tr ag_rf (gc_X5_become (by omega) (by omega) (by omega) q15)
  exact ag_tr a16 (bl13 _ h)
theorem gc_X10_swapPlaces {p1 : Int32} {p2 : Int32} {C : Mm} {C0 : Mm} (h : fX10_swapPlaces p1 p2 C = some C0) : ag fScr C C0 := by
  unfold fX10_swapPlaces at h
  by_cases c1 : p1 < (0 : Int32) ∨ 5 ≤ Int32.toNatClampNeg p1
  · cases it_t c1 h
  replace h := it_f c1 h
  obtain ⟨x2, e2, h⟩ := lt_z h
  by_cases c3 : p2 < (0 : Int32) ∨ 5 ≤ Int32.toNatClampNeg p2
  · cases it_t c3 h
  replace h := it_f c3 h
  by_cases c4 : p1 < (0 : Int32) ∨ 5 ≤ Int32.toNatClampNeg p1
  · cases it_t c4 h
  replace h := it_f c4 h
  obtain ⟨C5, e5, h⟩ := lt_z h
  have a6 : ag fScr C C5 := ag_tr ag_rf (by rw [e5]; exact ag_wrI (by unfold fScr lastC; omega))
  by_cases c7 : p2 < (0 : Int32) ∨ 5 ≤ Int32.toNatClampNeg p2
  · cases it_t c7 h
  replace h := it_f c7 h
  obtain ⟨C7, e8, h⟩ := lt_z h
  have a9 : ag fScr C C7 := ag_tr a6 (by rw [e8]; exact ag_wrI (by unfold fScr lastC; omega))
  rw [← Option.some.inj h]
  exact a9
theorem gc_X10_nextOrder {n : Nat} {p1 : Int32} {C : Mm} {r0 : Int32} {C0 : Mm} (h : fX10_nextOrder n p1 C = some (r0, C0)) : ag fScr C C0 := by
  have bl85 : ∀ (fu : Nat), ∀ {y4 : Int32} {y5 : Int32} {C : Mm} (_ : fX10_nextOrder_h85 n fu y4 y5 C = some (r0, C0)), ag fScr C C0 := by
    intro fu
    induction fu with
    | zero =>
      intro y4 y5 C h
      rw [fX10_nextOrder_h85.eq_1] at h
      cases h
    | succ fu ih =>
      intro y4 y5 C h
      rw [fX10_nextOrder_h85.eq_2] at h
      by_cases c1 : y5 ≤ y4
      · replace h := it_t c1 h
        rw [← pr_2 h]
        exact ag_rf
      · replace h := it_f c1 h
        obtain ⟨C3, q2, h⟩ := bn_x h
        have a3 : ag fScr C C3 := ag_tr ag_rf (gc_X10_swapPlaces q2)
        obtain ⟨x4, e4, h⟩ := lt_z h
        obtain ⟨x5, e5, h⟩ := lt_z h
        exact ag_tr a3 (ih h)
  have bl69 : ∀ {y1 : Int32} {y2 : Int32} {y3 : Int32} {C : Mm} (_ : fX10_nextOrder_b69 n y1 y2 y3 C = some (r0, C0)), ag fScr C C0 := by
    intro y1 y2 y3 C h
    unfold fX10_nextOrder_b69 at h
    obtain ⟨C7, q6, h⟩ := bn_x h
    have a7 : ag fScr C C7 := ag_tr ag_rf (gc_X10_swapPlaces q6)
    obtain ⟨x8, e8, h⟩ := lt_z h
    obtain ⟨x9, e9, h⟩ := lt_z h
    exact ag_tr a7 (bl85 _ h)
  have bl41 : ∀ (fu : Nat), ∀ {y1 : Int32} {y2 : Int32} {y3 : Int32} {C : Mm} (_ : fX10_nextOrder_h41 n fu y1 y2 y3 C = some (r0, C0)), ag fScr C C0 := by
    intro fu
    induction fu with
    | zero =>
      intro y1 y2 y3 C h
      rw [fX10_nextOrder_h41.eq_1] at h
      cases h
    | succ fu ih =>
      intro y1 y2 y3 C h
      rw [fX10_nextOrder_h41.eq_2] at h
      by_cases c10 : y3 ≤ (y2 + 1)
      · replace h := it_t c10 h
        exact ag_tr ag_rf (bl69 h)
      · replace h := it_f c10 h
        by_cases c11 : y3 < (0 : Int32) ∨ 5 ≤ Int32.toNatClampNeg y3
        · cases it_t c11 h
        replace h := it_f c11 h
        by_cases c12 : y2 < (0 : Int32) ∨ 5 ≤ Int32.toNatClampNeg y2
        · cases it_t c12 h
        replace h := it_f c12 h
        by_cases c13 : (C.1 50 (Int32.toNatClampNeg y2)) ≤ (C.1 50 (Int32.toNatClampNeg y3))
        · replace h := it_t c13 h
          exact ag_tr ag_rf (bl69 h)
        · replace h := it_f c13 h
          obtain ⟨x14, e14, h⟩ := lt_z h
          exact ag_tr ag_rf (ih h)
  have bl31 : ∀ {y1 : Int32} {y2 : Int32} {C : Mm} (_ : fX10_nextOrder_b31 n y1 y2 C = some (r0, C0)), ag fScr C C0 := by
    intro y1 y2 C h
    unfold fX10_nextOrder_b31 at h
    by_cases c15 : 0 ≤ y2
    · replace h := it_t c15 h
      obtain ⟨x16, e16, h⟩ := lt_z h
      exact ag_tr ag_rf (bl41 _ h)
    · replace h := it_f c15 h
      rw [← pr_2 h]
      exact ag_rf
  have bl4 : ∀ (fu : Nat), ∀ {y1 : Int32} {y2 : Int32} {C : Mm} (_ : fX10_nextOrder_h4 n fu y1 y2 C = some (r0, C0)), ag fScr C C0 := by
    intro fu
    induction fu with
    | zero =>
      intro y1 y2 C h
      rw [fX10_nextOrder_h4.eq_1] at h
      cases h
    | succ fu ih =>
      intro y1 y2 C h
      rw [fX10_nextOrder_h4.eq_2] at h
      by_cases c17 : y2 < 0
      · replace h := it_t c17 h
        exact ag_tr ag_rf (bl31 h)
      · replace h := it_f c17 h
        by_cases c18 : y2 < (0 : Int32) ∨ 5 ≤ Int32.toNatClampNeg y2
        · cases it_t c18 h
        replace h := it_f c18 h
        by_cases c19 : (y2 + 1) < (0 : Int32) ∨ 5 ≤ Int32.toNatClampNeg (y2 + 1)
        · cases it_t c19 h
        replace h := it_f c19 h
        by_cases c20 : (C.1 50 (Int32.toNatClampNeg y2)) ≤ (C.1 50 (Int32.toNatClampNeg (y2 + 1)))
        · replace h := it_t c20 h
          exact ag_tr ag_rf (bl31 h)
        · replace h := it_f c20 h
          obtain ⟨x21, e21, h⟩ := lt_z h
          exact ag_tr ag_rf (ih h)
  unfold fX10_nextOrder at h
  obtain ⟨x22, e22, h⟩ := lt_z h
  exact ag_tr ag_rf (bl4 _ h)
theorem gc_X10_first {n : Nat} {p1 : Int32} {p2 : Int32} {C : Mm} {r0 : Int32} {C0 : Mm} (h : fX10_first n p1 p2 C = some (r0, C0)) : ag fScr C C0 := by
  have bl131 : ∀ {y2 : Int32} {y4 : Int32} {y5 : Int32} {C : Mm} (_ : fX10_first_b131 n y2 y4 y5 C = some (r0, C0)), ag fScr C C0 := by
    intro y2 y4 y5 C h
    unfold fX10_first_b131 at h
    by_cases c1 : y2 = 0
    · replace h := it_t c1 h
      rw [← pr_2 h]
      exact ag_rf
    · replace h := it_f c1 h
      rw [← pr_2 h]
      exact ag_rf
  have bl125 : ∀ {k79 : Int32 → Int32 → Int32 → Int32 → Int32 → Int32 → Mm → Option (Int32 × Mm)} (hk79 : ∀ {y1 : Int32} {y2 : Int32} {y3 : Int32} {y4 : Int32} {y5 : Int32} {y6 : Int32} {C : Mm} (_ : k79 y1 y2 y3 y4 y5 y6 C = some (r0, C0)), ag fScr C C0), ∀ {y1 : Int32} {y2 : Int32} {y3 : Int32} {y4 : Int32} {y5 : Int32} {y6 : Int32} {C : Mm} (_ : fX10_first_b125 n k79 y1 y2 y3 y4 y5 y6 C = some (r0, C0)), ag fScr C C0 := by
    intro k79 hk79 y1 y2 y3 y4 y5 y6 C h
    unfold fX10_first_b125 at h
    obtain ⟨x2, e2, h⟩ := lt_z h
    exact ag_tr ag_rf (hk79 h)
  have bl79 : ∀ (fu : Nat), ∀ {y1 : Int32} {y2 : Int32} {y3 : Int32} {y4 : Int32} {y5 : Int32} {y6 : Int32} {C : Mm} (_ : fX10_first_h79 n fu y1 y2 y3 y4 y5 y6 C = some (r0, C0)), ag fScr C C0 := by
    intro fu
    induction fu with
    | zero =>
      intro y1 y2 y3 y4 y5 y6 C h
      rw [fX10_first_h79.eq_1] at h
      cases h
    | succ fu ih =>
      intro y1 y2 y3 y4 y5 y6 C h
      rw [fX10_first_h79.eq_2] at h
      by_cases c3 : 120 ≤ y6
      · replace h := it_t c3 h
        exact ag_tr ag_rf (bl131 h)
      · replace h := it_f c3 h
        obtain ⟨r5, C6, q4, h⟩ := bp_x h
        have a5 : ag fScr C C6 := ag_tr ag_rf (gc_X10_nextOrder q4)
        by_cases c6 : r5 = 0
        · replace h := it_t c6 h
          exact ag_tr a5 (bl131 h)
        · replace h := it_f c6 h
          by_cases c7 : y1 < (0 : Int32) ∨ 6 ≤ Int32.toNatClampNeg y1
          · cases it_t c7 h
          replace h := it_f c7 h
          obtain ⟨r12, C13, q8, h⟩ := bp_x h
          have a9 : ag fScr C C13 := ag_tr a5 (gc_X10_secondsOfOrder (by omega) q8)
          by_cases c10 : y5 ≤ r12
          · replace h := it_t c10 h
            exact ag_tr a9 (bl125 ih h)
          · replace h := it_f c10 h
            obtain ⟨r17, q11, h⟩ := bn_x h
            exact ag_tr a9 (bl125 ih h)
  unfold fX10_first at h
  by_cases c12 : (fX10_isHead p1 C) = 0
  · replace h := it_t c12 h
    rw [← pr_2 h]
    exact ag_rf
  · replace h := it_f c12 h
    by_cases c13 : p2 < 0
    · replace h := it_t c13 h
      rw [← pr_2 h]
      exact ag_rf
    · replace h := it_f c13 h
      by_cases c14 : 1 < p2
      · replace h := it_t c14 h
        rw [← pr_2 h]
        exact ag_rf
      · replace h := it_f c14 h
        obtain ⟨r25, q15, h⟩ := bn_x h
        by_cases c16 : r25 = 0
        · replace h := it_t c16 h
          rw [← pr_2 h]
          exact ag_rf
        · replace h := it_f c16 h
          by_cases c17 : (C.1 0 8) = 0
          · replace h := it_t c17 h
            rw [← pr_2 h]
            exact ag_rf
          · replace h := it_f c17 h
            obtain ⟨x29, e18, h⟩ := lt_z h
            by_cases c19 : p1 < (0 : Int32) ∨ 6 ≤ Int32.toNatClampNeg p1
            · cases it_t c19 h
            replace h := it_f c19 h
            obtain ⟨C33, q20, h⟩ := bn_x h
            have a21 : ag fScr C C33 := ag_tr ag_rf (gc_X10_prepareOrders (by omega) q20)
            obtain ⟨r35, q22, h⟩ := bn_x h
            by_cases c23 : p1 < (0 : Int32) ∨ 6 ≤ Int32.toNatClampNeg p1
            · cases it_t c23 h
            replace h := it_f c23 h
            obtain ⟨r40, C41, q24, h⟩ := bp_x h
            have a25 : ag fScr C C41 := ag_tr a21 (gc_X10_secondsOfOrder (by omega) q24)
            exact ag_tr a25 (bl79 _ h)
def fScrR (q i : Nat) : Prop := ¬ lastR q i ∧ q ≠ 101
theorem gr_X11_wrong {C : Mm} {r0 : Int32} {C0 : Mm} (h : fX11_wrong C = some (r0, C0)) : ag fScrR C C0 := by
  have bl19 : ∀ {s0 : Int32} {C : Mm} (_ : fX11_wrong_b19 s0 C = some (r0, C0)), ag fScrR C C0 := by
    intro s0 C h
    unfold fX11_wrong_b19 at h
    obtain ⟨C1, e1, h⟩ := lt_z h
    have a2 : ag fScrR C C1 := ag_tr ag_rf (by rw [e1]; exact ag_wrI (by unfold fScrR lastR; omega))
    rw [← pr_2 h]
    exact a2
  unfold fX11_wrong at h
  by_cases c3 : 0 ≤ (C.1 72 13)
  · replace h := it_t c3 h
    exact ag_tr ag_rf (bl19 h)
  · replace h := it_f c3 h
    exact ag_tr ag_rf (bl19 h)
theorem gr_X11_takes {p1 : Int32} {C : Mm} {r0 : Int32} {C0 : Mm} (h : fX11_takes p1 C = some (r0, C0)) : ag fScrR C C0 := by
  unfold fX11_takes at h
  by_cases c1 : 0 ≤ (C.1 72 13)
  · replace h := it_t c1 h
    rw [← pr_2 h]
    exact ag_rf
  · replace h := it_f c1 h
    obtain ⟨r3, q2, h⟩ := bn_x h
    by_cases c3 : r3 = p1
    · replace h := it_t c3 h
      obtain ⟨C6, e4, h⟩ := lt_z h
      have a5 : ag fScrR C C6 := ag_tr ag_rf (by rw [e4]; exact ag_wrI (by unfold fScrR lastR; omega))
      rw [← pr_2 h]
      exact a5
    · replace h := it_f c3 h
      rw [← pr_2 h]
      exact ag_rf
theorem gr_X11_product {n : Nat} {z : Mm → Option (Int32 × Mm)} (hz : ∀ {C : Mm} {r0 : Int32} {C0 : Mm} (_ : z C = some (r0, C0)), ag fScrR C C0) {C : Mm} {r0 : Int32} {C0 : Mm} (h : fX11_product n z C = some (r0, C0)) : ag fScrR C C0 := by
  have bl85 : ∀ {k10 : Int32 → Int32 → Mm → Option (Int32 × Mm)} (hk10 : ∀ {y1 : Int32} {y2 : Int32} {C : Mm} (_ : k10 y1 y2 C = some (r0, C0)), ag fScrR C C0), ∀ {s0 : Int32} {C : Mm} (_ : fX11_product_b85 n z k10 s0 C = some (r0, C0)), ag fScrR C C0 := by
    intro k10 hk10 s0 C h
    unfold fX11_product_b85 at h
    obtain ⟨r2, q1, h⟩ := bn_x h
    exact ag_tr ag_rf (hk10 h)
  have bl35 : ∀ {k10 : Int32 → Int32 → Mm → Option (Int32 × Mm)} (hk10 : ∀ {y1 : Int32} {y2 : Int32} {C : Mm} (_ : k10 y1 y2 C = some (r0, C0)), ag fScrR C C0), ∀ {y1 : Int32} {y2 : Int32} {C : Mm} (_ : fX11_product_b35 n z k10 y1 y2 C = some (r0, C0)), ag fScrR C C0 := by
    intro k10 hk10 y1 y2 C h
    unfold fX11_product_b35 at h
    obtain ⟨C4, e2, h⟩ := lt_z h
    have a3 : ag fScrR C C4 := ag_tr ag_rf (by rw [e2]; exact ag_wrI (by unfold fScrR lastR; omega))
    obtain ⟨r6, C7, q4, h⟩ := bp_x h
    have a5 : ag fScrR C C7 := ag_tr a3 (hz q4)
    by_cases c6 : y2 = 42
    · replace h := it_t c6 h
      exact ag_tr a5 (bl85 hk10 h)
    · replace h := it_f c6 h
      by_cases c7 : r6 = 0
      · replace h := it_t c7 h
        exact ag_tr a5 (bl85 hk10 h)
      · replace h := it_f c7 h
        by_cases c8 : y2 = 47
        · replace h := it_t c8 h
          by_cases c9 : r6 = 0
          · cases it_t c9 h
          replace h := it_f c9 h
          exact ag_tr a5 (bl85 hk10 h)
        · replace h := it_f c8 h
          by_cases c10 : r6 = 0
          · cases it_t c10 h
          replace h := it_f c10 h
          exact ag_tr a5 (bl85 hk10 h)
  have bl10 : ∀ (fu : Nat), ∀ {y1 : Int32} {y2 : Int32} {C : Mm} (_ : fX11_product_h10 n z fu y1 y2 C = some (r0, C0)), ag fScrR C C0 := by
    intro fu
    induction fu with
    | zero =>
      intro y1 y2 C h
      rw [fX11_product_h10.eq_1] at h
      cases h
    | succ fu ih =>
      intro y1 y2 C h
      rw [fX11_product_h10.eq_2] at h
      by_cases c11 : 0 ≤ (C.1 72 13)
      · replace h := it_t c11 h
        rw [← pr_2 h]
        exact ag_rf
      · replace h := it_f c11 h
        by_cases c12 : y2 = 42
        · replace h := it_t c12 h
          exact ag_tr ag_rf (bl35 ih h)
        · replace h := it_f c12 h
          by_cases c13 : y2 = 47
          · replace h := it_t c13 h
            exact ag_tr ag_rf (bl35 ih h)
          · replace h := it_f c13 h
            by_cases c14 : y2 = 37
            · replace h := it_t c14 h
              exact ag_tr ag_rf (bl35 ih h)
            · replace h := it_f c14 h
              rw [← pr_2 h]
              exact ag_rf
  unfold fX11_product at h
  obtain ⟨r19, C20, q15, h⟩ := bp_x h
  have a16 : ag fScrR C C20 := ag_tr ag_rf (hz q15)
  obtain ⟨r23, q17, h⟩ := bn_x h
  exact ag_tr a16 (bl10 _ h)
theorem gr_X11_sums {n : Nat} {z : Mm → Option (Int32 × Mm)} (hz : ∀ {C : Mm} {r0 : Int32} {C0 : Mm} (_ : z C = some (r0, C0)), ag fScrR C C0) {C : Mm} {r0 : Int32} {C0 : Mm} (h : fX11_sums n z C = some (r0, C0)) : ag fScrR C C0 := by
  have bl73 : ∀ {k5 : Int32 → Mm → Option (Int32 × Mm)} (hk5 : ∀ {y1 : Int32} {C : Mm} (_ : k5 y1 C = some (r0, C0)), ag fScrR C C0), ∀ {s0 : Int32} {C : Mm} (_ : fX11_sums_b73 n z k5 s0 C = some (r0, C0)), ag fScrR C C0 := by
    intro k5 hk5 s0 C h
    unfold fX11_sums_b73 at h
    exact ag_tr ag_rf (hk5 h)
  have bl44 : ∀ {k5 : Int32 → Mm → Option (Int32 × Mm)} (hk5 : ∀ {y1 : Int32} {C : Mm} (_ : k5 y1 C = some (r0, C0)), ag fScrR C C0), ∀ {y1 : Int32} {s0 : Int32} {C : Mm} (_ : fX11_sums_b44 n z k5 y1 s0 C = some (r0, C0)), ag fScrR C C0 := by
    intro k5 hk5 y1 s0 C h
    unfold fX11_sums_b44 at h
    obtain ⟨C1, e1, h⟩ := lt_z h
    have a2 : ag fScrR C C1 := ag_tr ag_rf (by rw [e1]; exact ag_wrI (by unfold fScrR lastR; omega))
    obtain ⟨r3, C4, q3, h⟩ := bp_x h
    have a4 : ag fScrR C C4 := ag_tr a2 (gr_X11_product hz q3)
    by_cases c5 : s0 = 0
    · replace h := it_t c5 h
      exact ag_tr a4 (bl73 hk5 h)
    · replace h := it_f c5 h
      exact ag_tr a4 (bl73 hk5 h)
  have bl30 : ∀ {k5 : Int32 → Mm → Option (Int32 × Mm)} (hk5 : ∀ {y1 : Int32} {C : Mm} (_ : k5 y1 C = some (r0, C0)), ag fScrR C C0), ∀ {y1 : Int32} {C : Mm} (_ : fX11_sums_b30 n z k5 y1 C = some (r0, C0)), ag fScrR C C0 := by
    intro k5 hk5 y1 C h
    unfold fX11_sums_b30 at h
    obtain ⟨r8, q6, h⟩ := bn_x h
    by_cases c7 : r8 = 43
    · replace h := it_t c7 h
      exact ag_tr ag_rf (bl44 hk5 h)
    · replace h := it_f c7 h
      exact ag_tr ag_rf (bl44 hk5 h)
  have bl5 : ∀ (fu : Nat), ∀ {y1 : Int32} {C : Mm} (_ : fX11_sums_h5 n z fu y1 C = some (r0, C0)), ag fScrR C C0 := by
    intro fu
    induction fu with
    | zero =>
      intro y1 C h
      rw [fX11_sums_h5.eq_1] at h
      cases h
    | succ fu ih =>
      intro y1 C h
      rw [fX11_sums_h5.eq_2] at h
      by_cases c8 : 0 ≤ (C.1 72 13)
      · replace h := it_t c8 h
        rw [← pr_2 h]
        exact ag_rf
      · replace h := it_f c8 h
        obtain ⟨r13, q9, h⟩ := bn_x h
        by_cases c10 : r13 = 43
        · replace h := it_t c10 h
          exact ag_tr ag_rf (bl30 ih h)
        · replace h := it_f c10 h
          obtain ⟨r17, q11, h⟩ := bn_x h
          by_cases c12 : r17 = 45
          · replace h := it_t c12 h
            exact ag_tr ag_rf (bl30 ih h)
          · replace h := it_f c12 h
            rw [← pr_2 h]
            exact ag_rf
  unfold fX11_sums at h
  obtain ⟨r21, C22, q13, h⟩ := bp_x h
  have a14 : ag fScrR C C22 := ag_tr ag_rf (gr_X11_product hz q13)
  exact ag_tr a14 (bl5 _ h)
theorem gr_X11_compared {n : Nat} {z : Mm → Option (Int32 × Mm)} (hz : ∀ {C : Mm} {r0 : Int32} {C0 : Mm} (_ : z C = some (r0, C0)), ag fScrR C C0) {C : Mm} {r0 : Int32} {C0 : Mm} (h : fX11_compared n z C = some (r0, C0)) : ag fScrR C C0 := by
  have bl37 : ∀ {y1 : Int32} {y2 : Int32} {C : Mm} (_ : fX11_compared_b37 n z y1 y2 C = some (r0, C0)), ag fScrR C C0 := by
    intro y1 y2 C h
    unfold fX11_compared_b37 at h
    obtain ⟨C1, e1, h⟩ := lt_z h
    have a2 : ag fScrR C C1 := ag_tr ag_rf (by rw [e1]; exact ag_wrI (by unfold fScrR lastR; omega))
    obtain ⟨r3, C4, q3, h⟩ := bp_x h
    have a4 : ag fScrR C C4 := ag_tr a2 (gr_X11_sums hz q3)
    by_cases c5 : y2 = 60
    · replace h := it_t c5 h
      by_cases c6 : r3 ≤ y1
      · replace h := it_t c6 h
        rw [← pr_2 h]
        exact a4
      · replace h := it_f c6 h
        rw [← pr_2 h]
        exact a4
    · replace h := it_f c5 h
      by_cases c7 : y2 = 61
      · replace h := it_t c7 h
        by_cases c8 : y1 = r3
        · replace h := it_t c8 h
          rw [← pr_2 h]
          exact a4
        · replace h := it_f c8 h
          rw [← pr_2 h]
          exact a4
      · replace h := it_f c7 h
        by_cases c9 : y1 ≤ r3
        · replace h := it_t c9 h
          rw [← pr_2 h]
          exact a4
        · replace h := it_f c9 h
          rw [← pr_2 h]
          exact a4
  unfold fX11_compared at h
  obtain ⟨r12, C13, q10, h⟩ := bp_x h
  have a11 : ag fScrR C C13 := ag_tr ag_rf (gr_X11_sums hz q10)
  obtain ⟨r16, q12, h⟩ := bn_x h
  by_cases c13 : 0 ≤ (C13.1 72 13)
  · replace h := it_t c13 h
    rw [← pr_2 h]
    exact a11
  · replace h := it_f c13 h
    by_cases c14 : r16 = 60
    · replace h := it_t c14 h
      exact ag_tr a11 (bl37 h)
    · replace h := it_f c14 h
      by_cases c15 : r16 = 61
      · replace h := it_t c15 h
        exact ag_tr a11 (bl37 h)
      · replace h := it_f c15 h
        by_cases c16 : r16 = 62
        · replace h := it_t c16 h
          exact ag_tr a11 (bl37 h)
        · replace h := it_f c16 h
          rw [← pr_2 h]
          exact a11
theorem gr_X11_both {n : Nat} {z : Mm → Option (Int32 × Mm)} (hz : ∀ {C : Mm} {r0 : Int32} {C0 : Mm} (_ : z C = some (r0, C0)), ag fScrR C C0) {C : Mm} {r0 : Int32} {C0 : Mm} (h : fX11_both n z C = some (r0, C0)) : ag fScrR C C0 := by
  have bl32 : ∀ {k5 : Int32 → Mm → Option (Int32 × Mm)} (hk5 : ∀ {y1 : Int32} {C : Mm} (_ : k5 y1 C = some (r0, C0)), ag fScrR C C0), ∀ {s0 : Int32} {C : Mm} (_ : fX11_both_b32 n z k5 s0 C = some (r0, C0)), ag fScrR C C0 := by
    intro k5 hk5 s0 C h
    unfold fX11_both_b32 at h
    exact ag_tr ag_rf (hk5 h)
  have bl31 : ∀ {k5 : Int32 → Mm → Option (Int32 × Mm)} (hk5 : ∀ {y1 : Int32} {C : Mm} (_ : k5 y1 C = some (r0, C0)), ag fScrR C C0), ∀ {C : Mm} (_ : fX11_both_b31 n z k5 C = some (r0, C0)), ag fScrR C C0 := by
    intro k5 hk5 C h
    unfold fX11_both_b31 at h
    exact ag_tr ag_rf (bl32 hk5 h)
  have bl5 : ∀ (fu : Nat), ∀ {y1 : Int32} {C : Mm} (_ : fX11_both_h5 n z fu y1 C = some (r0, C0)), ag fScrR C C0 := by
    intro fu
    induction fu with
    | zero =>
      intro y1 C h
      rw [fX11_both_h5.eq_1] at h
      cases h
    | succ fu ih =>
      intro y1 C h
      rw [fX11_both_h5.eq_2] at h
      obtain ⟨r2, C3, q1, h⟩ := bp_x h
      have a2 : ag fScrR C C3 := ag_tr ag_rf (gr_X11_takes q1)
      by_cases c3 : r2 = 0
      · replace h := it_t c3 h
        rw [← pr_2 h]
        exact a2
      · replace h := it_f c3 h
        obtain ⟨r7, C8, q4, h⟩ := bp_x h
        have a5 : ag fScrR C C8 := ag_tr a2 (gr_X11_compared hz q4)
        by_cases c6 : y1 = 0
        · replace h := it_t c6 h
          exact ag_tr a5 (bl31 ih h)
        · replace h := it_f c6 h
          by_cases c7 : r7 = 0
          · replace h := it_t c7 h
            exact ag_tr a5 (bl31 ih h)
          · replace h := it_f c7 h
            exact ag_tr a5 (bl32 ih h)
  unfold fX11_both at h
  obtain ⟨r13, C14, q8, h⟩ := bp_x h
  have a9 : ag fScrR C C14 := ag_tr ag_rf (gr_X11_compared hz q8)
  exact ag_tr a9 (bl5 _ h)
theorem gr_X11_either {n : Nat} {z : Mm → Option (Int32 × Mm)} (hz : ∀ {C : Mm} {r0 : Int32} {C0 : Mm} (_ : z C = some (r0, C0)), ag fScrR C C0) {C : Mm} {r0 : Int32} {C0 : Mm} (h : fX11_either n z C = some (r0, C0)) : ag fScrR C C0 := by
  have bl32 : ∀ {k5 : Int32 → Mm → Option (Int32 × Mm)} (hk5 : ∀ {y1 : Int32} {C : Mm} (_ : k5 y1 C = some (r0, C0)), ag fScrR C C0), ∀ {s0 : Int32} {C : Mm} (_ : fX11_either_b32 n z k5 s0 C = some (r0, C0)), ag fScrR C C0 := by
    intro k5 hk5 s0 C h
    unfold fX11_either_b32 at h
    exact ag_tr ag_rf (hk5 h)
  have bl27 : ∀ {k5 : Int32 → Mm → Option (Int32 × Mm)} (hk5 : ∀ {y1 : Int32} {C : Mm} (_ : k5 y1 C = some (r0, C0)), ag fScrR C C0), ∀ {C : Mm} (_ : fX11_either_b27 n z k5 C = some (r0, C0)), ag fScrR C C0 := by
    intro k5 hk5 C h
    unfold fX11_either_b27 at h
    exact ag_tr ag_rf (bl32 hk5 h)
  have bl5 : ∀ (fu : Nat), ∀ {y1 : Int32} {C : Mm} (_ : fX11_either_h5 n z fu y1 C = some (r0, C0)), ag fScrR C C0 := by
    intro fu
    induction fu with
    | zero =>
      intro y1 C h
      rw [fX11_either_h5.eq_1] at h
      cases h
    | succ fu ih =>
      intro y1 C h
      rw [fX11_either_h5.eq_2] at h
      obtain ⟨r2, C3, q1, h⟩ := bp_x h
      have a2 : ag fScrR C C3 := ag_tr ag_rf (gr_X11_takes q1)
      by_cases c3 : r2 = 0
      · replace h := it_t c3 h
        rw [← pr_2 h]
        exact a2
      · replace h := it_f c3 h
        obtain ⟨r7, C8, q4, h⟩ := bp_x h
        have a5 : ag fScrR C C8 := ag_tr a2 (gr_X11_both hz q4)
        by_cases c6 : y1 = 0
        · replace h := it_t c6 h
          by_cases c7 : r7 = 0
          · replace h := it_t c7 h
            exact ag_tr a5 (bl32 ih h)
          · replace h := it_f c7 h
            exact ag_tr a5 (bl27 ih h)
        · replace h := it_f c6 h
          exact ag_tr a5 (bl27 ih h)
  unfold fX11_either at h
  obtain ⟨r13, C14, q8, h⟩ := bp_x h
  have a9 : ag fScrR C C14 := ag_tr ag_rf (gr_X11_both hz q8)
  exact ag_tr a9 (bl5 _ h)
theorem gr_X11_one_w {n : Nat} {z : Mm → Option (Int32 × Mm)} (hz : ∀ {C : Mm} {r0 : Int32} {C0 : Mm} (_ : z C = some (r0, C0)), ag fScrR C C0) {C : Mm} {r0 : Int32} {C0 : Mm} (h : fX11_one_w n z C = some (r0, C0)) : ag fScrR C C0 := by
  have bl229 : ∀ {y3 : Int32} {y4 : Int32} {C : Mm} (_ : fX11_one_b229 n z y3 y4 C = some (r0, C0)), ag fScrR C C0 := by
    intro y3 y4 C h
    unfold fX11_one_b229 at h
    by_cases c1 : y4 = 0
    · replace h := it_t c1 h
      obtain ⟨r3, C4, q2, h⟩ := bp_x h
      have a3 : ag fScrR C C4 := ag_tr ag_rf (gr_X11_wrong q2)
      rw [← pr_2 h]
      exact a3
    · replace h := it_f c1 h
      rw [← pr_2 h]
      exact ag_rf
  have bl176 : ∀ (fu : Nat), ∀ {y3 : Int32} {y4 : Int32} {C : Mm} (_ : fX11_one_h176 n z fu y3 y4 C = some (r0, C0)), ag fScrR C C0 := by
    intro fu
    induction fu with
    | zero =>
      intro y3 y4 C h
      rw [fX11_one_h176.eq_1] at h
      cases h
    | succ fu ih =>
      intro y3 y4 C h
      rw [fX11_one_h176.eq_2] at h
      by_cases c4 : 4 ≤ y4
      · replace h := it_t c4 h
        exact ag_tr ag_rf (bl229 h)
      · replace h := it_f c4 h
        obtain ⟨r8, q5, h⟩ := bn_x h
        by_cases c6 : r8 < 48
        · replace h := it_t c6 h
          exact ag_tr ag_rf (bl229 h)
        · replace h := it_f c6 h
          obtain ⟨r12, q7, h⟩ := bn_x h
          by_cases c8 : 57 < r12
          · replace h := it_t c8 h
            exact ag_tr ag_rf (bl229 h)
          · replace h := it_f c8 h
            obtain ⟨r16, q9, h⟩ := bn_x h
            obtain ⟨x18, e10, h⟩ := lt_z h
            obtain ⟨x19, e11, h⟩ := lt_z h
            obtain ⟨C20, e12, h⟩ := lt_z h
            have a13 : ag fScrR C C20 := ag_tr ag_rf (by rw [e12]; exact ag_wrI (by unfold fScrR lastR; omega))
            exact ag_tr a13 (ih h)
  have bl104 : ∀ {y1 : Int32} {y2 : Int32} {C : Mm} (_ : fX11_one_b104 n z y1 y2 C = some (r0, C0)), ag fScrR C C0 := by
    intro y1 y2 C h
    unfold fX11_one_b104 at h
    obtain ⟨C21, e14, h⟩ := lt_z h
    have a15 : ag fScrR C C21 := ag_tr ag_rf (by rw [e14]; exact ag_wrI (by unfold fScrR lastR; omega))
    by_cases c16 : y1 = 40
    · replace h := it_t c16 h
      rw [← pr_2 h]
      exact a15
    · replace h := it_f c16 h
      by_cases c17 : y1 = 45
      · replace h := it_t c17 h
        rw [← pr_2 h]
        exact a15
      · replace h := it_f c17 h
        by_cases c18 : y2 = 0
        · replace h := it_t c18 h
          rw [← pr_2 h]
          exact a15
        · replace h := it_f c18 h
          rw [← pr_2 h]
          exact a15
  have bl83 : ∀ {y1 : Int32} {s0 : Int32} {C : Mm} (_ : fX11_one_b83 n z y1 s0 C = some (r0, C0)), ag fScrR C C0 := by
    intro y1 s0 C h
    unfold fX11_one_b83 at h
    by_cases c19 : y1 = 40
    · replace h := it_t c19 h
      obtain ⟨r27, C28, q20, h⟩ := bp_x h
      have a21 : ag fScrR C C28 := ag_tr ag_rf (gr_X11_takes q20)
      by_cases c22 : r27 = 0
      · replace h := it_t c22 h
        obtain ⟨r32, C33, q23, h⟩ := bp_x h
        have a24 : ag fScrR C C33 := ag_tr a21 (gr_X11_wrong q23)
        rw [← pr_2 h]
        exact a24
      · replace h := it_f c22 h
        exact ag_tr a21 (bl104 h)
    · replace h := it_f c19 h
      exact ag_tr ag_rf (bl104 h)
  have bl32 : ∀ {y1 : Int32} {C : Mm} (_ : fX11_one_b32 n z y1 C = some (r0, C0)), ag fScrR C C0 := by
    intro y1 C h
    unfold fX11_one_b32 at h
    by_cases c25 : (C.1 72 14) = 6
    · replace h := it_t c25 h
      obtain ⟨r48, C49, q26, h⟩ := bp_x h
      have a27 : ag fScrR C C49 := ag_tr ag_rf (gr_X11_wrong q26)
      rw [← pr_2 h]
      exact a27
    · replace h := it_f c25 h
      obtain ⟨C36, e28, h⟩ := lt_z h
      have a29 : ag fScrR C C36 := ag_tr ag_rf (by rw [e28]; exact ag_wrI (by unfold fScrR lastR; omega))
      obtain ⟨C37, e30, h⟩ := lt_z h
      have a31 : ag fScrR C C37 := ag_tr a29 (by rw [e30]; exact ag_wrI (by unfold fScrR lastR; omega))
      by_cases c32 : y1 = 40
      · replace h := it_t c32 h
        obtain ⟨r44, C45, q33, h⟩ := bp_x h
        have a34 : ag fScrR C C45 := ag_tr a31 (gr_X11_either hz q33)
        exact ag_tr a34 (bl83 h)
      · replace h := it_f c32 h
        obtain ⟨r40, C41, q35, h⟩ := bp_x h
        have a36 : ag fScrR C C41 := ag_tr a31 (hz q35)
        exact ag_tr a36 (bl83 h)
  unfold fX11_one_w at h
  by_cases c37 : (C.1 72 13) < 0
  · replace h := it_t c37 h
    obtain ⟨r53, q38, h⟩ := bn_x h
    by_cases c39 : r53 = 33
    · replace h := it_t c39 h
      exact ag_tr ag_rf (bl32 h)
    · replace h := it_f c39 h
      by_cases c40 : r53 = 45
      · replace h := it_t c40 h
        exact ag_tr ag_rf (bl32 h)
      · replace h := it_f c40 h
        by_cases c41 : r53 = 40
        · replace h := it_t c41 h
          exact ag_tr ag_rf (bl32 h)
        · replace h := it_f c41 h
          obtain ⟨x60, e42, h⟩ := lt_z h
          by_cases c43 : x60 < 0
          · replace h := it_t c43 h
            exact ag_tr ag_rf (bl176 _ h)
          · replace h := it_f c43 h
            obtain ⟨C62, e44, h⟩ := lt_z h
            have a45 : ag fScrR C C62 := ag_tr ag_rf (by rw [e44]; exact ag_wrI (by unfold fScrR lastR; omega))
            by_cases c46 : x60 < (0 : Int32) ∨ 8 ≤ Int32.toNatClampNeg x60
            · cases it_t c46 h
            replace h := it_f c46 h
            rw [← pr_2 h]
            exact a45
  · replace h := it_f c37 h
    rw [← pr_2 h]
    exact ag_rf
theorem gr_X11_one {n : Nat} : ∀ (d : Nat), ∀ {C : Mm} {r0 : Int32} {C0 : Mm} (_ : fX11_one n d C = some (r0, C0)), ag fScrR C C0 := by
  intro d
  induction d with
  | zero =>
    intro C r0 C0 h
    rw [fX11_one.eq_1] at h
    cases h
  | succ d ih =>
    intro C r0 C0 h
    rw [fX11_one.eq_2] at h
    exact gr_X11_one_w ih h
theorem gr_X11_workOut {n : Nat} {p1 : Int32} {p2 : Int32} {C : Mm} {r0 : Int32} {C0 : Mm} (h : fX11_workOut n p1 p2 C = some (r0, C0)) : ag fScrR C C0 := by
  have bl96 : ∀ {k33 : Int32 → Int32 → Int32 → Mm → Option (Int32 × Mm)} (hk33 : ∀ {y3 : Int32} {y4 : Int32} {y5 : Int32} {C : Mm} (_ : k33 y3 y4 y5 C = some (r0, C0)), ag fScrR C C0), ∀ {y3 : Int32} {y4 : Int32} {C : Mm} (_ : fX11_workOut_b96 n k33 y3 y4 C = some (r0, C0)), ag fScrR C C0 := by
    intro k33 hk33 y3 y4 C h
    unfold fX11_workOut_b96 at h
    obtain ⟨r2, C3, q1, h⟩ := bp_x h
    have a2 : ag fScrR C C3 := ag_tr ag_rf (gr_X11_takes q1)
    exact ag_tr a2 (hk33 h)
  have bl74 : ∀ {k33 : Int32 → Int32 → Int32 → Mm → Option (Int32 × Mm)} (hk33 : ∀ {y3 : Int32} {y4 : Int32} {y5 : Int32} {C : Mm} (_ : k33 y3 y4 y5 C = some (r0, C0)), ag fScrR C C0), ∀ {y3 : Int32} {y4 : Int32} {y6 : Int32} {y7 : Int32} {C : Mm} (_ : fX11_workOut_b74 n k33 y3 y4 y6 y7 C = some (r0, C0)), ag fScrR C C0 := by
    intro k33 hk33 y3 y4 y6 y7 C h
    unfold fX11_workOut_b74 at h
    by_cases c3 : 0 ≤ (C.1 72 13)
    · replace h := it_t c3 h
      exact ag_tr ag_rf (bl96 hk33 h)
    · replace h := it_f c3 h
      by_cases c4 : y7 = 0
      · replace h := it_t c4 h
        exact ag_tr ag_rf (bl96 hk33 h)
      · replace h := it_f c4 h
        by_cases c5 : y3 = 0
        · replace h := it_t c5 h
          exact ag_tr ag_rf (bl96 hk33 h)
        · replace h := it_f c5 h
          exact ag_tr ag_rf (bl96 hk33 h)
  have bl66 : ∀ {k33 : Int32 → Int32 → Int32 → Mm → Option (Int32 × Mm)} (hk33 : ∀ {y3 : Int32} {y4 : Int32} {y5 : Int32} {C : Mm} (_ : k33 y3 y4 y5 C = some (r0, C0)), ag fScrR C C0), ∀ {y3 : Int32} {y4 : Int32} {s0 : Int32} {C : Mm} (_ : fX11_workOut_b66 n k33 y3 y4 s0 C = some (r0, C0)), ag fScrR C C0 := by
    intro k33 hk33 y3 y4 s0 C h
    unfold fX11_workOut_b66 at h
    obtain ⟨r9, C10, q6, h⟩ := bp_x h
    have a7 : ag fScrR C C10 := ag_tr ag_rf (gr_X11_either (gr_X11_one 12) q6)
    exact ag_tr a7 (bl74 hk33 h)
  have bl33 : ∀ (fu : Nat), ∀ {y3 : Int32} {y4 : Int32} {y5 : Int32} {C : Mm} (_ : fX11_workOut_h33 n fu y3 y4 y5 C = some (r0, C0)), ag fScrR C C0 := by
    intro fu
    induction fu with
    | zero =>
      intro y3 y4 y5 C h
      rw [fX11_workOut_h33.eq_1] at h
      cases h
    | succ fu ih =>
      intro y3 y4 y5 C h
      rw [fX11_workOut_h33.eq_2] at h
      by_cases c8 : y5 = 0
      · replace h := it_t c8 h
        by_cases c9 : 0 ≤ (C.1 72 13)
        · replace h := it_t c9 h
          rw [← pr_2 h]
          exact ag_rf
        · replace h := it_f c9 h
          by_cases c10 : (C.1 72 12) ≤ (C.1 72 11)
          · replace h := it_t c10 h
            rw [← pr_2 h]
            exact ag_rf
          · replace h := it_f c10 h
            obtain ⟨r16, C17, q11, h⟩ := bp_x h
            have a12 : ag fScrR C C17 := ag_tr ag_rf (gr_X11_wrong q11)
            rw [← pr_2 h]
            exact a12
      · replace h := it_f c8 h
        obtain ⟨r20, C21, q13, h⟩ := bp_x h
        have a14 : ag fScrR C C21 := ag_tr ag_rf (gr_X11_either (gr_X11_one 12) q13)
        obtain ⟨r24, C25, q15, h⟩ := bp_x h
        have a16 : ag fScrR C C25 := ag_tr a14 (gr_X11_takes q15)
        by_cases c17 : r24 = 0
        · replace h := it_t c17 h
          exact ag_tr a16 (bl74 ih h)
        · replace h := it_f c17 h
          by_cases c18 : r20 = 0
          · replace h := it_t c18 h
            exact ag_tr a16 (bl66 ih h)
          · replace h := it_f c18 h
            exact ag_tr a16 (bl66 ih h)
  unfold fX11_workOut at h
  obtain ⟨C29, e19, h⟩ := lt_z h
  have a20 : ag fScrR C C29 := ag_tr ag_rf (by rw [e19]; exact ag_wrI (by unfold fScrR lastR; omega))
  obtain ⟨C30, e21, h⟩ := lt_z h
  have a22 : ag fScrR C C30 := ag_tr a20 (by rw [e21]; exact ag_wrI (by unfold fScrR lastR; omega))
  obtain ⟨C31, e23, h⟩ := lt_z h
  have a24 : ag fScrR C C31 := ag_tr a22 (by rw [e23]; exact ag_wrI (by unfold fScrR lastR; omega))
  obtain ⟨C32, e25, h⟩ := lt_z h
  have a26 : ag fScrR C C32 := ag_tr a24 (by rw [e25]; exact ag_wrI (by unfold fScrR lastR; omega))
  obtain ⟨C33, e27, h⟩ := lt_z h
  have a28 : ag fScrR C C33 := ag_tr a26 (by rw [e27]; exact ag_wrI (by unfold fScrR lastR; omega))
  exact ag_tr a28 (bl33 _ h)
theorem gr_X11_acts {n : Nat} {p1 : Int32} {p2 : Int32} {p3 : Int32} {p4 : Int32} {C : Mm} {C0 : Mm} (h : fX11_acts n p1 p2 p3 p4 C = some C0) : ag fScrR C C0 := by
  have bl72 : ∀ {y3 : Int32} {y4 : Int32} {y5 : Int32} {s0 : Int32} {s1 : Int32} {C : Mm} (_ : fX11_acts_b72 n y3 y4 y5 s0 s1 C = some C0), ag fScrR C C0 := by
    intro y3 y4 y5 s0 s1 C h
    unfold fX11_acts_b72 at h
    by_cases c1 : s1 < (0 : Int32) ∨ 200 ≤ Int32.toNatClampNeg s1
    · cases it_t c1 h
    replace h := it_f c1 h
    obtain ⟨C2, e2, h⟩ := lt_z h
    have a3 : ag fScrR C C2 := ag_tr ag_rf (by rw [e2]; exact ag_wrI (by unfold fScrR lastR; omega))
    obtain ⟨r4, q4, h⟩ := bn_x h
    by_cases c5 : y5 < (0 : Int32) ∨ 200 ≤ Int32.toNatClampNeg y5
    · cases it_t c5 h
    replace h := it_f c5 h
    obtain ⟨C7, e6, h⟩ := lt_z h
    have a7 : ag fScrR C C7 := ag_tr a3 (by rw [e6]; exact ag_wrI (by unfold fScrR lastR; omega))
    by_cases c8 : y5 < (0 : Int32) ∨ 200 ≤ Int32.toNatClampNeg y5
    · cases it_t c8 h
    replace h := it_f c8 h
    obtain ⟨C9, e9, h⟩ := lt_z h
    have a10 : ag fScrR C C9 := ag_tr a7 (by rw [e9]; exact ag_wrI (by unfold fScrR lastR; omega))
    by_cases c11 : y5 < (0 : Int32) ∨ 200 ≤ Int32.toNatClampNeg y5
    · cases it_t c11 h
    replace h := it_f c11 h
    obtain ⟨C11, e12, h⟩ := lt_z h
    have a13 : ag fScrR C C11 := ag_tr a10 (by rw [e12]; exact ag_wrI (by unfold fScrR lastR; omega))
    obtain ⟨C12, e14, h⟩ := lt_z h
    have a15 : ag fScrR C C12 := ag_tr a13 (by rw [e14]; exact ag_wrI (by unfold fScrR lastR; omega))
    rw [← Option.some.inj h]
    exact a15
  have bl71 : ∀ {y3 : Int32} {y4 : Int32} {y5 : Int32} {s0 : Int32} {s1 : Int32} {s2 : Int32} {C : Mm} (_ : fX11_acts_b71 n y3 y4 y5 s0 s1 s2 C = some C0), ag fScrR C C0 := by
    intro y3 y4 y5 s0 s1 s2 C h
    unfold fX11_acts_b71 at h
    exact ag_tr ag_rf (bl72 h)
  have bl67 : ∀ {y2 : Int32} {y3 : Int32} {y4 : Int32} {y5 : Int32} {s0 : Int32} {s1 : Int32} {C : Mm} (_ : fX11_acts_b67 n y2 y3 y4 y5 s0 s1 C = some C0), ag fScrR C C0 := by
    intro y2 y3 y4 y5 s0 s1 C h
    unfold fX11_acts_b67 at h
    obtain ⟨r14, q16, h⟩ := bn_x h
    exact ag_tr ag_rf (bl71 h)
  unfold fX11_acts at h
  obtain ⟨x16, e17, h⟩ := lt_z h
  by_cases c18 : ((5 * (C.1 72 30)) + p1) < (0 : Int32) ∨ 30 ≤ Int32.toNatClampNeg ((5 * (C.1 72 30)) + p1)
  · cases it_t c18 h
  replace h := it_f c18 h
  obtain ⟨x18, e19, h⟩ := lt_z h
  by_cases c20 : x16 < (0 : Int32) ∨ 200 ≤ Int32.toNatClampNeg x16
  · cases it_t c20 h
  replace h := it_f c20 h
  obtain ⟨C20, e21, h⟩ := lt_z h
  have a22 : ag fScrR C C20 := ag_tr ag_rf (by rw [e21]; exact ag_wrI (by unfold fScrR lastR; omega))
  by_cases c23 : x16 < (0 : Int32) ∨ 200 ≤ Int32.toNatClampNeg x16
  · cases it_t c23 h
  replace h := it_f c23 h
  obtain ⟨C22, e24, h⟩ := lt_z h
  have a25 : ag fScrR C C22 := ag_tr a22 (by rw [e24]; exact ag_wrI (by unfold fScrR lastR; omega))
  by_cases c26 : p1 = 0
  · replace h := it_t c26 h
    exact ag_tr a25 (bl72 h)
  · replace h := it_f c26 h
    by_cases c27 : p1 = 2
    · replace h := it_t c27 h
      by_cases c28 : p2 = 0
      · replace h := it_t c28 h
        exact ag_tr a25 (bl71 h)
      · replace h := it_f c28 h
        exact ag_tr a25 (bl67 h)
    · replace h := it_f c27 h
      exact ag_tr a25 (bl67 h)
theorem gr_X11_holds {n : Nat} {C : Mm} {C0 : Mm} (h : fX11_holds n C = some C0) : ag fScrR C C0 := by
  unfold fX11_holds at h
  obtain ⟨x1, e1, h⟩ := lt_z h
  obtain ⟨r3, q2, h⟩ := bn_x h
  obtain ⟨C5, e3, h⟩ := lt_z h
  have a4 : ag fScrR C C5 := ag_tr ag_rf (by rw [e3]; exact ag_wrI (by unfold fScrR lastR; omega))
  obtain ⟨C6, e5, h⟩ := lt_z h
  have a6 : ag fScrR C C6 := ag_tr a4 (by rw [e5]; exact ag_wrI (by unfold fScrR lastR; omega))
  obtain ⟨C8, q7, h⟩ := bn_x h
  have a8 : ag fScrR C C8 := ag_tr a6 (gr_X11_acts q7)
  rw [← Option.some.inj h]
  exact a8
theorem gr_X11_lookAndAdd {n : Nat} {p1 : Int32} {p2 : Int32} {p3 : Int32} {p4 : Int32} {p5 : Int32} {C : Mm} {r0 : Int32} {C0 : Mm} (h : fX11_lookAndAdd n p1 p2 p3 p4 p5 C = some (r0, C0)) : ag fScrR C C0 := by
  have bl35 : ∀ {y3 : Int32} {y4 : Int32} {y5 : Int32} {y6 : Int32} {s0 : Int32} {s1 : Int32} {s2 : Int32} {C : Mm} (_ : fX11_lookAndAdd_b35 n y3 y4 y5 y6 s0 s1 s2 C = some (r0, C0)), ag fScrR C C0 := by
    intro y3 y4 y5 y6 s0 s1 s2 C h
    unfold fX11_lookAndAdd_b35 at h
    obtain ⟨r2, q1, h⟩ := bn_x h
    obtain ⟨r5, q2, h⟩ := bn_x h
    obtain ⟨C8, q3, h⟩ := bn_x h
    have a4 : ag fScrR C C8 := ag_tr ag_rf (gr_X11_acts q3)
    by_cases c5 : y4 = 0
    · replace h := it_t c5 h
      obtain ⟨C10, e6, h⟩ := lt_z h
      have a7 : ag fScrR C C10 := ag_tr a4 (by rw [e6]; exact ag_wrI (by unfold fScrR lastR; omega))
      obtain ⟨C12, q8, h⟩ := bn_x h
      have a9 : ag fScrR C C12 := ag_tr a7 (gr_X11_acts q8)
      rw [← pr_2 h]
      exact a9
    · replace h := it_f c5 h
      rw [← pr_2 h]
      exact a4
  have bl21 : ∀ {y1 : Int32} {y2 : Int32} {y3 : Int32} {y4 : Int32} {y5 : Int32} {y6 : Int32} {C : Mm} (_ : fX11_lookAndAdd_b21 n y1 y2 y3 y4 y5 y6 C = some (r0, C0)), ag fScrR C C0 := by
    intro y1 y2 y3 y4 y5 y6 C h
    unfold fX11_lookAndAdd_b21 at h
    by_cases c10 : y2 ≤ y1
    · replace h := it_t c10 h
      exact ag_tr ag_rf (bl35 h)
    · replace h := it_f c10 h
      exact ag_tr ag_rf (bl35 h)
  unfold fX11_lookAndAdd at h
  obtain ⟨r15, q11, h⟩ := bn_x h
  obtain ⟨x17, e12, h⟩ := lt_z h
  by_cases c13 : p4 = 0
  · replace h := it_t c13 h
    exact ag_tr ag_rf (bl21 h)
  · replace h := it_f c13 h
    obtain ⟨C19, e14, h⟩ := lt_z h
    have a15 : ag fScrR C C19 := ag_tr ag_rf (by rw [e14]; exact ag_wrI (by unfold fScrR lastR; omega))
    exact ag_tr a15 (bl21 h)
theorem gr_X11_goLeft {n : Nat} {p1 : Int32} {p2 : Int32} {C : Mm} {C0 : Mm} (h : fX11_goLeft n p1 p2 C = some C0) : ag fScrR C C0 := by
  have bl70 : ∀ {k10 : Int32 → Int32 → Int32 → Int32 → Mm → Option Mm} (hk10 : ∀ {y1 : Int32} {y2 : Int32} {y3 : Int32} {y4 : Int32} {C : Mm} (_ : k10 y1 y2 y3 y4 C = some C0), ag fScrR C C0) {k23 : Int32 → Int32 → Int32 → Int32 → Int32 → Mm → Option Mm} (hk23 : ∀ {y1 : Int32} {y2 : Int32} {y3 : Int32} {y4 : Int32} {y5 : Int32} {C : Mm} (_ : k23 y1 y2 y3 y4 y5 C = some C0), ag fScrR C C0), ∀ {y1 : Int32} {y2 : Int32} {y3 : Int32} {y4 : Int32} {y5 : Int32} {C : Mm} (_ : fX11_goLeft_b70 n k10 k23 y1 y2 y3 y4 y5 C = some C0), ag fScrR C C0 := by
    intro k10 hk10 k23 hk23 y1 y2 y3 y4 y5 C h
    unfold fX11_goLeft_b70 at h
    obtain ⟨x1, e1, h⟩ := lt_z h
    exact ag_tr ag_rf (hk23 h)
  have bl23 : ∀ {k10 : Int32 → Int32 → Int32 → Int32 → Mm → Option Mm} (hk10 : ∀ {y1 : Int32} {y2 : Int32} {y3 : Int32} {y4 : Int32} {C : Mm} (_ : k10 y1 y2 y3 y4 C = some C0), ag fScrR C C0) (fu : Nat), ∀ {y1 : Int32} {y2 : Int32} {y3 : Int32} {y4 : Int32} {y5 : Int32} {C : Mm} (_ : fX11_goLeft_h23 n k10 fu y1 y2 y3 y4 y5 C = some C0), ag fScrR C C0 := by
    intro k10 hk10
    intro fu
    induction fu with
    | zero =>
      intro y1 y2 y3 y4 y5 C h
      rw [fX11_goLeft_h23.eq_1] at h
      cases h
    | succ fu ih =>
      intro y1 y2 y3 y4 y5 C h
      rw [fX11_goLeft_h23.eq_2] at h
      by_cases c2 : y5 < 0
      · replace h := it_t c2 h
        obtain ⟨x3, e3, h⟩ := lt_z h
        exact ag_tr ag_rf (hk10 h)
      · replace h := it_f c2 h
        obtain ⟨r5, q4, h⟩ := bn_x h
        by_cases c5 : r5 ≤ 0
        · replace h := it_t c5 h
          exact ag_tr ag_rf (bl70 hk10 ih h)
        · replace h := it_f c5 h
          obtain ⟨r9, q6, h⟩ := bn_x h
          by_cases c7 : r9 ≤ 0
          · replace h := it_t c7 h
            exact ag_tr ag_rf (bl70 hk10 ih h)
          · replace h := it_f c7 h
            obtain ⟨r13, q8, h⟩ := bn_x h
            obtain ⟨r16, q9, h⟩ := bn_x h
            obtain ⟨r19, C20, q10, h⟩ := bp_x h
            have a11 : ag fScrR C C20 := ag_tr ag_rf (gr_X11_lookAndAdd q10)
            exact ag_tr a11 (bl70 hk10 ih h)
  have bl10 : ∀ (fu : Nat), ∀ {y1 : Int32} {y2 : Int32} {y3 : Int32} {y4 : Int32} {C : Mm} (_ : fX11_goLeft_h10 n fu y1 y2 y3 y4 C = some C0), ag fScrR C C0 := by
    intro fu
    induction fu with
    | zero =>
      intro y1 y2 y3 y4 C h
      rw [fX11_goLeft_h10.eq_1] at h
      cases h
    | succ fu ih =>
      intro y1 y2 y3 y4 C h
      rw [fX11_goLeft_h10.eq_2] at h
      by_cases c12 : y4 < 0
      · replace h := it_t c12 h
        rw [← Option.some.inj h]
        exact ag_rf
      · replace h := it_f c12 h
        obtain ⟨r24, q13, h⟩ := bn_x h
        obtain ⟨x26, e14, h⟩ := lt_z h
        exact ag_tr ag_rf (bl23 ih _ h)
  unfold fX11_goLeft at h
  obtain ⟨r28, q15, h⟩ := bn_x h
  obtain ⟨x30, e16, h⟩ := lt_z h
  exact ag_tr ag_rf (bl10 _ h)
theorem gr_X11_goRight {n : Nat} {p1 : Int32} {p2 : Int32} {C : Mm} {C0 : Mm} (h : fX11_goRight n p1 p2 C = some C0) : ag fScrR C C0 := by
  have bl98 : ∀ (fu : Nat), ∀ {y3 : Int32} {y4 : Int32} {C : Mm} (_ : fX11_goRight_h98 n fu y3 y4 C = some C0), ag fScrR C C0 := by
    intro fu
    induction fu with
    | zero =>
      intro y3 y4 C h
      rw [fX11_goRight_h98.eq_1] at h
      cases h
    | succ fu ih =>
      intro y3 y4 C h
      rw [fX11_goRight_h98.eq_2] at h
      by_cases c1 : y3 ≤ y4
      · replace h := it_t c1 h
        rw [← Option.some.inj h]
        exact ag_rf
      · replace h := it_f c1 h
        by_cases c2 : y4 < (0 : Int32) ∨ 4 ≤ Int32.toNatClampNeg y4
        · cases it_t c2 h
        replace h := it_f c2 h
        obtain ⟨C3, e3, h⟩ := lt_z h
        have a4 : ag fScrR C C3 := ag_tr ag_rf (by rw [e3]; exact ag_wrI (by unfold fScrR lastR; omega))
        by_cases c5 : y4 < (0 : Int32) ∨ 4 ≤ Int32.toNatClampNeg y4
        · cases it_t c5 h
        replace h := it_f c5 h
        obtain ⟨r6, q6, h⟩ := bn_x h
        obtain ⟨C8, e7, h⟩ := lt_z h
        have a8 : ag fScrR C C8 := ag_tr a4 (by rw [e7]; exact ag_wrI (by unfold fScrR lastR; omega))
        obtain ⟨C10, q9, h⟩ := bn_x h
        have a10 : ag fScrR C C10 := ag_tr a8 (gr_X11_acts q9)
        obtain ⟨x11, e11, h⟩ := lt_z h
        exact ag_tr a10 (ih h)
  have bl57 : ∀ {k5 : Int32 → Int32 → Int32 → Int32 → Mm → Option Mm} (hk5 : ∀ {y1 : Int32} {y2 : Int32} {y3 : Int32} {y4 : Int32} {C : Mm} (_ : k5 y1 y2 y3 y4 C = some C0), ag fScrR C C0), ∀ {y1 : Int32} {y2 : Int32} {y3 : Int32} {y4 : Int32} {C : Mm} (_ : fX11_goRight_b57 n k5 y1 y2 y3 y4 C = some C0), ag fScrR C C0 := by
    intro k5 hk5 y1 y2 y3 y4 C h
    unfold fX11_goRight_b57 at h
    obtain ⟨x12, e12, h⟩ := lt_z h
    exact ag_tr ag_rf (hk5 h)
  have bl5 : ∀ (fu : Nat), ∀ {y1 : Int32} {y2 : Int32} {y3 : Int32} {y4 : Int32} {C : Mm} (_ : fX11_goRight_h5 n fu y1 y2 y3 y4 C = some C0), ag fScrR C C0 := by
    intro fu
    induction fu with
    | zero =>
      intro y1 y2 y3 y4 C h
      rw [fX11_goRight_h5.eq_1] at h
      cases h
    | succ fu ih =>
      intro y1 y2 y3 y4 C h
      rw [fX11_goRight_h5.eq_2] at h
      obtain ⟨r14, q13, h⟩ := bn_x h
      by_cases c14 : r14 ≤ y4
      · replace h := it_t c14 h
        by_cases c15 : 2 ≤ y3
        · replace h := it_t c15 h
          by_cases c16 : 0 < (0 : Int32) ∨ 4 ≤ Int32.toNatClampNeg 0
          · cases it_t c16 h
          replace h := it_f c16 h
          obtain ⟨C19, e17, h⟩ := lt_z h
          have a18 : ag fScrR C C19 := ag_tr ag_rf (by rw [e17]; exact ag_wrI (by unfold fScrR lastR; omega))
          obtain ⟨r21, q19, h⟩ := bn_x h
          obtain ⟨C23, e20, h⟩ := lt_z h
          have a21 : ag fScrR C C23 := ag_tr a18 (by rw [e20]; exact ag_wrI (by unfold fScrR lastR; omega))
          exact ag_tr a21 (bl98 _ h)
        · replace h := it_f c15 h
          rw [← Option.some.inj h]
          exact ag_rf
      · replace h := it_f c14 h
        obtain ⟨r25, q22, h⟩ := bn_x h
        by_cases c23 : r25 ≤ 0
        · replace h := it_t c23 h
          exact ag_tr ag_rf (bl57 ih h)
        · replace h := it_f c23 h
          obtain ⟨r29, q24, h⟩ := bn_x h
          obtain ⟨r32, q25, h⟩ := bn_x h
          obtain ⟨C35, q26, h⟩ := bn_x h
          have a27 : ag fScrR C C35 := ag_tr ag_rf (gr_X11_goLeft q26)
          by_cases c28 : y3 < (0 : Int32) ∨ 4 ≤ Int32.toNatClampNeg y3
          · cases it_t c28 h
          replace h := it_f c28 h
          obtain ⟨C37, e29, h⟩ := lt_z h
          have a30 : ag fScrR C C37 := ag_tr a27 (by rw [e29]; exact ag_wrI (by unfold fScrR lastR; omega))
          obtain ⟨x38, e31, h⟩ := lt_z h
          obtain ⟨C40, q32, h⟩ := bn_x h
          have a33 : ag fScrR C C40 := ag_tr a30 (gr_X11_holds q32)
          exact ag_tr a33 (bl57 ih h)
  unfold fX11_goRight at h
  exact ag_tr ag_rf (bl5 _ h)
theorem gr_X11_goCrossed {n : Nat} {p1 : Int32} {p2 : Int32} {C : Mm} {C0 : Mm} (h : fX11_goCrossed n p1 p2 C = some C0) : ag fScrR C C0 := by
  have bl166 : ∀ {k5 : Int32 → Int32 → Int32 → Int32 → Mm → Option Mm} (hk5 : ∀ {y1 : Int32} {y2 : Int32} {y3 : Int32} {y4 : Int32} {C : Mm} (_ : k5 y1 y2 y3 y4 C = some C0), ag fScrR C C0) {k24 : Int32 → Int32 → Int32 → Int32 → Int32 → Mm → Option Mm} (hk24 : ∀ {y1 : Int32} {y2 : Int32} {y3 : Int32} {y4 : Int32} {y5 : Int32} {C : Mm} (_ : k24 y1 y2 y3 y4 y5 C = some C0), ag fScrR C C0), ∀ {y1 : Int32} {y2 : Int32} {y3 : Int32} {y4 : Int32} {y5 : Int32} {C : Mm} (_ : fX11_goCrossed_b166 n k5 k24 y1 y2 y3 y4 y5 C = some C0), ag fScrR C C0 := by
    intro k5 hk5 k24 hk24 y1 y2 y3 y4 y5 C h
    unfold fX11_goCrossed_b166 at h
    obtain ⟨x1, e1, h⟩ := lt_z h
    exact ag_tr ag_rf (hk24 h)
  have bl164 : ∀ {k5 : Int32 → Int32 → Int32 → Int32 → Mm → Option Mm} (hk5 : ∀ {y1 : Int32} {y2 : Int32} {y3 : Int32} {y4 : Int32} {C : Mm} (_ : k5 y1 y2 y3 y4 C = some C0), ag fScrR C C0) {k24 : Int32 → Int32 → Int32 → Int32 → Int32 → Mm → Option Mm} (hk24 : ∀ {y1 : Int32} {y2 : Int32} {y3 : Int32} {y4 : Int32} {y5 : Int32} {C : Mm} (_ : k24 y1 y2 y3 y4 y5 C = some C0), ag fScrR C C0), ∀ {y1 : Int32} {y2 : Int32} {y4 : Int32} {y5 : Int32} {C : Mm} (_ : fX11_goCrossed_b164 n k5 k24 y1 y2 y4 y5 C = some C0), ag fScrR C C0 := by
    intro k5 hk5 k24 hk24 y1 y2 y4 y5 C h
    unfold fX11_goCrossed_b164 at h
    exact ag_tr ag_rf (bl166 hk5 hk24 h)
  have bl121 : ∀ {k5 : Int32 → Int32 → Int32 → Int32 → Mm → Option Mm} (hk5 : ∀ {y1 : Int32} {y2 : Int32} {y3 : Int32} {y4 : Int32} {C : Mm} (_ : k5 y1 y2 y3 y4 C = some C0), ag fScrR C C0) {k24 : Int32 → Int32 → Int32 → Int32 → Int32 → Mm → Option Mm} (hk24 : ∀ {y1 : Int32} {y2 : Int32} {y3 : Int32} {y4 : Int32} {y5 : Int32} {C : Mm} (_ : k24 y1 y2 y3 y4 y5 C = some C0), ag fScrR C C0), ∀ {y1 : Int32} {y2 : Int32} {y3 : Int32} {y4 : Int32} {y5 : Int32} {y6 : Int32} {y7 : Int32} {C : Mm} (_ : fX11_goCrossed_b121 n k5 k24 y1 y2 y3 y4 y5 y6 y7 C = some C0), ag fScrR C C0 := by
    intro k5 hk5 k24 hk24 y1 y2 y3 y4 y5 y6 y7 C h
    unfold fX11_goCrossed_b121 at h
    obtain ⟨r3, q2, h⟩ := bn_x h
    obtain ⟨C6, q3, h⟩ := bn_x h
    have a4 : ag fScrR C C6 := ag_tr ag_rf (gr_X11_acts q3)
    by_cases c5 : y3 = 0
    · replace h := it_t c5 h
      obtain ⟨C8, e6, h⟩ := lt_z h
      have a7 : ag fScrR C C8 := ag_tr a4 (by rw [e6]; exact ag_wrI (by unfold fScrR lastR; omega))
      obtain ⟨C10, q8, h⟩ := bn_x h
      have a9 : ag fScrR C C10 := ag_tr a7 (gr_X11_acts q8)
      exact ag_tr a9 (bl164 hk5 hk24 h)
    · replace h := it_f c5 h
      exact ag_tr a4 (bl164 hk5 hk24 h)
  have bl109 : ∀ {k5 : Int32 → Int32 → Int32 → Int32 → Mm → Option Mm} (hk5 : ∀ {y1 : Int32} {y2 : Int32} {y3 : Int32} {y4 : Int32} {C : Mm} (_ : k5 y1 y2 y3 y4 C = some C0), ag fScrR C C0) {k24 : Int32 → Int32 → Int32 → Int32 → Int32 → Mm → Option Mm} (hk24 : ∀ {y1 : Int32} {y2 : Int32} {y3 : Int32} {y4 : Int32} {y5 : Int32} {C : Mm} (_ : k24 y1 y2 y3 y4 y5 C = some C0), ag fScrR C C0), ∀ {y1 : Int32} {y2 : Int32} {y3 : Int32} {y4 : Int32} {y5 : Int32} {y6 : Int32} {s0 : Int32} {C : Mm} (_ : fX11_goCrossed_b109 n k5 k24 y1 y2 y3 y4 y5 y6 s0 C = some C0), ag fScrR C C0 := by
    intro k5 hk5 k24 hk24 y1 y2 y3 y4 y5 y6 s0 C h
    unfold fX11_goCrossed_b109 at h
    by_cases c10 : y3 = 0
    · replace h := it_t c10 h
      exact ag_tr ag_rf (bl121 hk5 hk24 h)
    · replace h := it_f c10 h
      obtain ⟨C12, e11, h⟩ := lt_z h
      have a12 : ag fScrR C C12 := ag_tr ag_rf (by rw [e11]; exact ag_wrI (by unfold fScrR lastR; omega))
      exact ag_tr a12 (bl121 hk5 hk24 h)
  have bl24 : ∀ {k5 : Int32 → Int32 → Int32 → Int32 → Mm → Option Mm} (hk5 : ∀ {y1 : Int32} {y2 : Int32} {y3 : Int32} {y4 : Int32} {C : Mm} (_ : k5 y1 y2 y3 y4 C = some C0), ag fScrR C C0) (fu : Nat), ∀ {y1 : Int32} {y2 : Int32} {y3 : Int32} {y4 : Int32} {y5 : Int32} {C : Mm} (_ : fX11_goCrossed_h24 n k5 fu y1 y2 y3 y4 y5 C = some C0), ag fScrR C C0 := by
    intro k5 hk5
    intro fu
    induction fu with
    | zero =>
      intro y1 y2 y3 y4 y5 C h
      rw [fX11_goCrossed_h24.eq_1] at h
      cases h
    | succ fu ih =>
      intro y1 y2 y3 y4 y5 C h
      rw [fX11_goCrossed_h24.eq_2] at h
      by_cases c13 : y4 < y5
      · replace h := it_t c13 h
        obtain ⟨x14, e14, h⟩ := lt_z h
        obtain ⟨C15, e15, h⟩ := lt_z h
        have a16 : ag fScrR C C15 := ag_tr ag_rf (by rw [e15]; exact ag_wrI (by unfold fScrR lastR; omega))
        obtain ⟨C16, e17, h⟩ := lt_z h
        have a18 : ag fScrR C C16 := ag_tr a16 (by rw [e17]; exact ag_wrI (by unfold fScrR lastR; omega))
        obtain ⟨C18, q19, h⟩ := bn_x h
        have a20 : ag fScrR C C18 := ag_tr a18 (gr_X11_acts q19)
        obtain ⟨x19, e21, h⟩ := lt_z h
        exact ag_tr a20 (hk5 h)
      · replace h := it_f c13 h
        obtain ⟨r21, q22, h⟩ := bn_x h
        by_cases c23 : r21 = 0
        · replace h := it_t c23 h
          exact ag_tr ag_rf (bl166 hk5 ih h)
        · replace h := it_f c23 h
          obtain ⟨r25, q24, h⟩ := bn_x h
          by_cases c25 : r25 = 0
          · replace h := it_t c25 h
            exact ag_tr ag_rf (bl166 hk5 ih h)
          · replace h := it_f c25 h
            obtain ⟨r29, q26, h⟩ := bn_x h
            obtain ⟨r32, q27, h⟩ := bn_x h
            obtain ⟨x34, e28, h⟩ := lt_z h
            obtain ⟨r36, q29, h⟩ := bn_x h
            obtain ⟨r39, q30, h⟩ := bn_x h
            by_cases c31 : r39 ≤ r36
            · replace h := it_t c31 h
              obtain ⟨r43, q32, h⟩ := bn_x h
              exact ag_tr ag_rf (bl109 hk5 ih h)
            · replace h := it_f c31 h
              obtain ⟨r46, q33, h⟩ := bn_x h
              exact ag_tr ag_rf (bl109 hk5 ih h)
  have bl5 : ∀ (fu : Nat), ∀ {y1 : Int32} {y2 : Int32} {y3 : Int32} {y4 : Int32} {C : Mm} (_ : fX11_goCrossed_h5 n fu y1 y2 y3 y4 C = some C0), ag fScrR C C0 := by
    intro fu
    induction fu with
    | zero =>
      intro y1 y2 y3 y4 C h
      rw [fX11_goCrossed_h5.eq_1] at h
      cases h
    | succ fu ih =>
      intro y1 y2 y3 y4 C h
      rw [fX11_goCrossed_h5.eq_2] at h
      obtain ⟨r49, q34, h⟩ := bn_x h
      obtain ⟨r52, q35, h⟩ := bn_x h
      by_cases c36 : ((r49 + r52) - 2) < y4
      · replace h := it_t c36 h
        rw [← Option.some.inj h]
        exact ag_rf
      · replace h := it_f c36 h
        exact ag_tr ag_rf (bl24 ih _ h)
  unfold fX11_goCrossed at h
  exact ag_tr ag_rf (bl5 _ h)
theorem gr_X11_goSquared {n : Nat} {p1 : Int32} {p2 : Int32} {C : Mm} {r0 : Int32} {C0 : Mm} (h : fX11_goSquared n p1 p2 C = some (r0, C0)) : ag fScrR C C0 := by
  unfold fX11_goSquared at h
  by_cases c1 : (irm (p1 + p2) 2) = 1
  · replace h := it_t c1 h
    rw [← pr_2 h]
    exact ag_rf
  · replace h := it_f c1 h
    obtain ⟨x2, e2, h⟩ := lt_z h
    obtain ⟨x5, e3, h⟩ := lt_z h
    obtain ⟨C7, q4, h⟩ := bn_x h
    have a5 : ag fScrR C C7 := ag_tr ag_rf (gr_X11_goLeft q4)
    obtain ⟨C9, q6, h⟩ := bn_x h
    have a7 : ag fScrR C C9 := ag_tr a5 (gr_X11_holds q6)
    obtain ⟨C11, q8, h⟩ := bn_x h
    have a9 : ag fScrR C C11 := ag_tr a7 (gr_X11_goLeft q8)
    obtain ⟨C12, e10, h⟩ := lt_z h
    have a11 : ag fScrR C C12 := ag_tr a9 (by rw [e10]; exact ag_wrI (by unfold fScrR lastR; omega))
    obtain ⟨C13, e12, h⟩ := lt_z h
    have a13 : ag fScrR C C13 := ag_tr a11 (by rw [e12]; exact ag_wrI (by unfold fScrR lastR; omega))
    obtain ⟨C15, q14, h⟩ := bn_x h
    have a15 : ag fScrR C C15 := ag_tr a13 (gr_X11_acts q14)
    rw [← pr_2 h]
    exact a15
theorem gr_X11_goSplit {n : Nat} {p1 : Int32} {p2 : Int32} {C : Mm} {r0 : Int32} {C0 : Mm} (h : fX11_goSplit n p1 p2 C = some (r0, C0)) : ag fScrR C C0 := by
  have bl45 : ∀ {k5 : Int32 → Int32 → Int32 → Mm → Option (Int32 × Mm)} (hk5 : ∀ {y1 : Int32} {y2 : Int32} {y3 : Int32} {C : Mm} (_ : k5 y1 y2 y3 C = some (r0, C0)), ag fScrR C C0), ∀ {y1 : Int32} {y2 : Int32} {y3 : Int32} {C : Mm} (_ : fX11_goSplit_b45 n k5 y1 y2 y3 C = some (r0, C0)), ag fScrR C C0 := by
    intro k5 hk5 y1 y2 y3 C h
    unfold fX11_goSplit_b45 at h
    obtain ⟨x1, e1, h⟩ := lt_z h
    exact ag_tr ag_rf (hk5 h)
  have bl5 : ∀ (fu : Nat), ∀ {y1 : Int32} {y2 : Int32} {y3 : Int32} {C : Mm} (_ : fX11_goSplit_h5 n fu y1 y2 y3 C = some (r0, C0)), ag fScrR C C0 := by
    intro fu
    induction fu with
    | zero =>
      intro y1 y2 y3 C h
      rw [fX11_goSplit_h5.eq_1] at h
      cases h
    | succ fu ih =>
      intro y1 y2 y3 C h
      rw [fX11_goSplit_h5.eq_2] at h
      by_cases c2 : y3 < 2
      · replace h := it_t c2 h
        rw [← pr_2 h]
        exact ag_rf
      · replace h := it_f c2 h
        by_cases c3 : y3 = 0
        · cases it_t c3 h
        replace h := it_f c3 h
        by_cases c4 : (irm y2 y3) = 0
        · replace h := it_t c4 h
          by_cases c5 : y3 = 0
          · cases it_t c5 h
          replace h := it_f c5 h
          by_cases c6 : (y2 / y3) ≤ 1
          · replace h := it_t c6 h
            exact ag_tr ag_rf (bl45 ih h)
          · replace h := it_f c6 h
            obtain ⟨C8, q7, h⟩ := bn_x h
            have a8 : ag fScrR C C8 := ag_tr ag_rf (gr_X11_goLeft q7)
            obtain ⟨C10, q9, h⟩ := bn_x h
            have a10 : ag fScrR C C10 := ag_tr a8 (gr_X11_holds q9)
            by_cases c11 : y3 = 0
            · cases it_t c11 h
            replace h := it_f c11 h
            obtain ⟨C13, q12, h⟩ := bn_x h
            have a13 : ag fScrR C C13 := ag_tr a10 (gr_X11_goLeft q12)
            rw [← pr_2 h]
            exact a13
        · replace h := it_f c4 h
          exact ag_tr ag_rf (bl45 ih h)
  unfold fX11_goSplit at h
  obtain ⟨x14, e14, h⟩ := lt_z h
  exact ag_tr ag_rf (bl5 _ h)
theorem gr_X11_layOut {n : Nat} {p1 : Int32} {p2 : Int32} {p3 : Int32} {p4 : Int32} {C : Mm} {r0 : Int32} {C0 : Mm} (h : fX11_layOut n p1 p2 p3 p4 C = some (r0, C0)) : ag fScrR C C0 := by
  have bl138 : ∀ {s0 : Int32} {s1 : Int32} {s2 : Int32} {C : Mm} (_ : fX11_layOut_b138 n s0 s1 s2 C = some (r0, C0)), ag fScrR C C0 := by
    intro s0 s1 s2 C h
    unfold fX11_layOut_b138 at h
    obtain ⟨C2, q1, h⟩ := bn_x h
    have a2 : ag fScrR C C2 := ag_tr ag_rf (gr_X11_acts q1)
    rw [← pr_2 h]
    exact a2
  have bl26 : ∀ {y2 : Int32} {y3 : Int32} {s0 : Int32} {C : Mm} (_ : fX11_layOut_b26 n y2 y3 s0 C = some (r0, C0)), ag fScrR C C0 := by
    intro y2 y3 s0 C h
    unfold fX11_layOut_b26 at h
    obtain ⟨C3, e3, h⟩ := lt_z h
    have a4 : ag fScrR C C3 := ag_tr ag_rf (by rw [e3]; exact ag_wrI (by unfold fScrR lastR; omega))
    obtain ⟨C4, e5, h⟩ := lt_z h
    have a6 : ag fScrR C C4 := ag_tr a4 (by rw [e5]; exact ag_wrI (by unfold fScrR lastR; omega))
    obtain ⟨C5, e7, h⟩ := lt_z h
    have a8 : ag fScrR C C5 := ag_tr a6 (by rw [e7]; exact ag_wrI (by unfold fScrR lastR; omega))
    obtain ⟨C6, e9, h⟩ := lt_z h
    have a10 : ag fScrR C C6 := ag_tr a8 (by rw [e9]; exact ag_wrI (by unfold fScrR lastR; omega))
    obtain ⟨x7, e11, h⟩ := lt_z h
    obtain ⟨x8, e12, h⟩ := lt_z h
    by_cases c13 : y2 = 0
    · replace h := it_t c13 h
      obtain ⟨r11, q14, h⟩ := bn_x h
      by_cases c15 : r11 = 0
      · replace h := it_t c15 h
        rw [← pr_2 h]
        exact a10
      · replace h := it_f c15 h
        obtain ⟨C14, e16, h⟩ := lt_z h
        have a17 : ag fScrR C C14 := ag_tr a10 (by rw [e16]; exact ag_wrI (by unfold fScrR lastR; omega))
        by_cases c18 : x8 ≤ x7
        · replace h := it_t c18 h
          exact ag_tr a17 (bl138 h)
        · replace h := it_f c18 h
          exact ag_tr a17 (bl138 h)
    · replace h := it_f c13 h
      by_cases c19 : y2 = 1
      · replace h := it_t c19 h
        obtain ⟨C18, q20, h⟩ := bn_x h
        have a21 : ag fScrR C C18 := ag_tr a10 (gr_X11_goLeft q20)
        rw [← pr_2 h]
        exact a21
      · replace h := it_f c19 h
        by_cases c22 : y2 = 2
        · replace h := it_t c22 h
          obtain ⟨C21, q23, h⟩ := bn_x h
          have a24 : ag fScrR C C21 := ag_tr a10 (gr_X11_goRight q23)
          rw [← pr_2 h]
          exact a24
        · replace h := it_f c22 h
          by_cases c25 : y2 = 3
          · replace h := it_t c25 h
            obtain ⟨C24, q26, h⟩ := bn_x h
            have a27 : ag fScrR C C24 := ag_tr a10 (gr_X11_goCrossed q26)
            rw [← pr_2 h]
            exact a27
          · replace h := it_f c25 h
            by_cases c28 : y2 = 4
            · replace h := it_t c28 h
              obtain ⟨r27, C28, q29, h⟩ := bp_x h
              have a30 : ag fScrR C C28 := ag_tr a10 (gr_X11_goSquared q29)
              rw [← pr_2 h]
              exact a30
            · replace h := it_f c28 h
              by_cases c31 : y2 = 5
              · replace h := it_t c31 h
                obtain ⟨r32, C33, q32, h⟩ := bp_x h
                have a33 : ag fScrR C C33 := ag_tr a10 (gr_X11_goSplit q32)
                rw [← pr_2 h]
                exact a33
              · replace h := it_f c31 h
                obtain ⟨C36, q34, h⟩ := bn_x h
                have a35 : ag fScrR C C36 := ag_tr a10 (gr_X11_goRight q34)
                rw [← pr_2 h]
                exact a35
  unfold fX11_layOut at h
  obtain ⟨C37, e36, h⟩ := lt_z h
  have a37 : ag fScrR C C37 := ag_tr ag_rf (by rw [e36]; exact ag_wrI (by unfold fScrR lastR; omega))
  by_cases c38 : p4 ≤ 0
  · replace h := it_t c38 h
    by_cases c39 : ((5 * p1) + 3) < (0 : Int32) ∨ 30 ≤ Int32.toNatClampNeg ((5 * p1) + 3)
    · cases it_t c39 h
    replace h := it_f c39 h
    exact ag_tr a37 (bl26 h)
  · replace h := it_f c38 h
    exact ag_tr a37 (bl26 h)
theorem gr_X11_way {n : Nat} {p1 : Int32} {p2 : Int32} {p3 : Int32} {C : Mm} {r0 : Int32} {C0 : Mm} (h : fX11_way n p1 p2 p3 C = some (r0, C0)) : ag fScrR C C0 := by
  unfold fX11_way at h
  by_cases c1 : (fX11_isHw p1 C) = 0
  · replace h := it_t c1 h
    rw [← pr_2 h]
    exact ag_rf
  · replace h := it_f c1 h
    by_cases c2 : (fX11_isAsk p2) = 0
    · replace h := it_t c2 h
      rw [← pr_2 h]
      exact ag_rf
    · replace h := it_f c2 h
      by_cases c3 : (fX11_within (Int32.toInt64 p3) 0 2) = 0
      · replace h := it_t c3 h
        rw [← pr_2 h]
        exact ag_rf
      · replace h := it_f c3 h
        obtain ⟨r11, C12, q4, h⟩ := bp_x h
        have a5 : ag fScrR C C12 := ag_tr ag_rf (gr_X11_layOut q4)
        by_cases c6 : r11 = 0
        · replace h := it_t c6 h
          rw [← pr_2 h]
          exact a5
        · replace h := it_f c6 h
          by_cases c7 : p3 = 0
          · replace h := it_t c7 h
            obtain ⟨r21, q8, h⟩ := bn_x h
            rw [← pr_2 h]
            exact a5
          · replace h := it_f c7 h
            by_cases c9 : p3 = 1
            · replace h := it_t c9 h
              obtain ⟨r18, q10, h⟩ := bn_x h
              rw [← pr_2 h]
              exact a5
            · replace h := it_f c9 h
              rw [← pr_2 h]
              exact a5
theorem gr_X11_step {n : Nat} {p1 : Int32} {p2 : Int32} {p3 : Int32} {p4 : Int32} {C : Mm} {r0 : Int32} {C0 : Mm} (h : fX11_step n p1 p2 p3 p4 C = some (r0, C0)) : ag fScrR C C0 := by
  unfold fX11_step at h
  by_cases c1 : (fX11_isHw p1 C) = 0
  · replace h := it_t c1 h
    rw [← pr_2 h]
    exact ag_rf
  · replace h := it_f c1 h
    by_cases c2 : (fX11_isAsk p2) = 0
    · replace h := it_t c2 h
      rw [← pr_2 h]
      exact ag_rf
    · replace h := it_f c2 h
      by_cases c3 : (fX11_within (Int32.toInt64 p4) 0 3) = 0
      · replace h := it_t c3 h
        rw [← pr_2 h]
        exact ag_rf
      · replace h := it_f c3 h
        obtain ⟨r11, C12, q4, h⟩ := bp_x h
        have a5 : ag fScrR C C12 := ag_tr ag_rf (gr_X11_layOut q4)
        by_cases c6 : r11 = 0
        · replace h := it_t c6 h
          rw [← pr_2 h]
          exact a5
        · replace h := it_f c6 h
          by_cases c7 : (fX11_within (Int32.toInt64 p3) 0 (Int32.toInt64 ((C12.1 72 21) - 1))) = 0
          · replace h := it_t c7 h
            rw [← pr_2 h]
            exact a5
          · replace h := it_f c7 h
            by_cases c8 : p4 = 0
            · replace h := it_t c8 h
              by_cases c9 : p3 < (0 : Int32) ∨ 200 ≤ Int32.toNatClampNeg p3
              · cases it_t c9 h
              replace h := it_f c9 h
              rw [← pr_2 h]
              exact a5
            · replace h := it_f c8 h
              by_cases c10 : p4 = 1
              · replace h := it_t c10 h
                by_cases c11 : p3 < (0 : Int32) ∨ 200 ≤ Int32.toNatClampNeg p3
                · cases it_t c11 h
                replace h := it_f c11 h
                rw [← pr_2 h]
                exact a5
              · replace h := it_f c10 h
                by_cases c12 : p4 = 2
                · replace h := it_t c12 h
                  by_cases c13 : p3 < (0 : Int32) ∨ 200 ≤ Int32.toNatClampNeg p3
                  · cases it_t c13 h
                  replace h := it_f c13 h
                  rw [← pr_2 h]
                  exact a5
                · replace h := it_f c12 h
                  by_cases c14 : p3 < (0 : Int32) ∨ 200 ≤ Int32.toNatClampNeg p3
                  · cases it_t c14 h
                  replace h := it_f c14 h
                  rw [← pr_2 h]
                  exact a5
theorem gr_X11_chosenBy {n : Nat} {p1 : Int32} {p2 : Int32} {p3 : Int32} {C : Mm} {r0 : Int32} {C0 : Mm} (h : fX11_chosenBy n p1 p2 p3 C = some (r0, C0)) : ag fScrR C C0 := by
  have bl177 : ∀ {y1 : Int32} {y2 : Int32} {y3 : Int32} {C : Mm} (_ : fX11_chosenBy_b177 n y1 y2 y3 C = some (r0, C0)), ag fScrR C C0 := by
    intro y1 y2 y3 C h
    unfold fX11_chosenBy_b177 at h
    obtain ⟨r2, C3, q1, h⟩ := bp_x h
    have a2 : ag fScrR C C3 := ag_tr ag_rf (gr_X11_layOut q1)
    rw [← pr_2 h]
    exact a2
  have bl152 : ∀ {y1 : Int32} {y2 : Int32} {y3 : Int32} {y4 : Int32} {C : Mm} (_ : fX11_chosenBy_b152 n y1 y2 y3 y4 C = some (r0, C0)), ag fScrR C C0 := by
    intro y1 y2 y3 y4 C h
    unfold fX11_chosenBy_b152 at h
    by_cases c3 : (fX11_within (Int32.toInt64 y4) 0 6) = 0
    · replace h := it_t c3 h
      exact ag_tr ag_rf (bl177 h)
    · replace h := it_f c3 h
      obtain ⟨r9, C10, q4, h⟩ := bp_x h
      have a5 : ag fScrR C C10 := ag_tr ag_rf (gr_X11_layOut q4)
      by_cases c6 : r9 = 0
      · replace h := it_t c6 h
        exact ag_tr a5 (bl177 h)
      · replace h := it_f c6 h
        rw [← pr_2 h]
        exact a5
  have bl123 : ∀ {y1 : Int32} {y2 : Int32} {y3 : Int32} {s0 : Int32} {s1 : Int32} {C : Mm} (_ : fX11_chosenBy_b123 n y1 y2 y3 s0 s1 C = some (r0, C0)), ag fScrR C C0 := by
    intro y1 y2 y3 s0 s1 C h
    unfold fX11_chosenBy_b123 at h
    by_cases c7 : s1 < (0 : Int32) ∨ 8 ≤ Int32.toNatClampNeg s1
    · cases it_t c7 h
    replace h := it_f c7 h
    obtain ⟨C14, e8, h⟩ := lt_z h
    have a9 : ag fScrR C C14 := ag_tr ag_rf (by rw [e8]; exact ag_wrI (by unfold fScrR lastR; omega))
    by_cases c10 : ((5 * y1) + 4) < (0 : Int32) ∨ 30 ≤ Int32.toNatClampNeg ((5 * y1) + 4)
    · cases it_t c10 h
    replace h := it_f c10 h
    by_cases c11 : 7 < (0 : Int32) ∨ 8 ≤ Int32.toNatClampNeg 7
    · cases it_t c11 h
    replace h := it_f c11 h
    obtain ⟨C17, e12, h⟩ := lt_z h
    have a13 : ag fScrR C C17 := ag_tr a9 (by rw [e12]; exact ag_wrI (by unfold fScrR lastR; omega))
    obtain ⟨r19, C20, q14, h⟩ := bp_x h
    have a15 : ag fScrR C C20 := ag_tr a13 (gr_X11_workOut q14)
    exact ag_tr a15 (bl152 h)
  unfold fX11_chosenBy at h
  by_cases c16 : (C.1 72 9) < 0
  · replace h := it_t c16 h
    exact ag_tr ag_rf (bl152 h)
  · replace h := it_f c16 h
    obtain ⟨x23, e17, h⟩ := lt_z h
    obtain ⟨x24, e18, h⟩ := lt_z h
    obtain ⟨r26, q19, h⟩ := bn_x h
    by_cases c20 : 0 < (0 : Int32) ∨ 8 ≤ Int32.toNatClampNeg 0
    · cases it_t c20 h
    replace h := it_f c20 h
    obtain ⟨C29, e21, h⟩ := lt_z h
    have a22 : ag fScrR C C29 := ag_tr ag_rf (by rw [e21]; exact ag_wrI (by unfold fScrR lastR; omega))
    obtain ⟨r31, q23, h⟩ := bn_x h
    by_cases c24 : 1 < (0 : Int32) ∨ 8 ≤ Int32.toNatClampNeg 1
    · cases it_t c24 h
    replace h := it_f c24 h
    obtain ⟨C34, e25, h⟩ := lt_z h
    have a26 : ag fScrR C C34 := ag_tr a22 (by rw [e25]; exact ag_wrI (by unfold fScrR lastR; omega))
    by_cases c27 : 2 < (0 : Int32) ∨ 8 ≤ Int32.toNatClampNeg 2
    · cases it_t c27 h
    replace h := it_f c27 h
    obtain ⟨C36, e28, h⟩ := lt_z h
    have a29 : ag fScrR C C36 := ag_tr a26 (by rw [e28]; exact ag_wrI (by unfold fScrR lastR; omega))
    by_cases c30 : 3 < (0 : Int32) ∨ 8 ≤ Int32.toNatClampNeg 3
    · cases it_t c30 h
    replace h := it_f c30 h
    obtain ⟨C38, e31, h⟩ := lt_z h
    have a32 : ag fScrR C C38 := ag_tr a29 (by rw [e31]; exact ag_wrI (by unfold fScrR lastR; omega))
    by_cases c33 : 4 < (0 : Int32) ∨ 8 ≤ Int32.toNatClampNeg 4
    · cases it_t c33 h
    replace h := it_f c33 h
    obtain ⟨C42, e34, h⟩ := lt_z h
    have a35 : ag fScrR C C42 := ag_tr a32 (by rw [e34]; exact ag_wrI (by unfold fScrR lastR; omega))
    obtain ⟨r44, q36, h⟩ := bn_x h
    obtain ⟨r47, q37, h⟩ := bn_x h
    by_cases c38 : 5 < (0 : Int32) ∨ 8 ≤ Int32.toNatClampNeg 5
    · cases it_t c38 h
    replace h := it_f c38 h
    obtain ⟨C50, e39, h⟩ := lt_z h
    have a40 : ag fScrR C C50 := ag_tr a35 (by rw [e39]; exact ag_wrI (by unfold fScrR lastR; omega))
    by_cases c41 : p3 ≤ 0
    · replace h := it_t c41 h
      by_cases c42 : ((5 * p1) + 3) < (0 : Int32) ∨ 30 ≤ Int32.toNatClampNeg ((5 * p1) + 3)
      · cases it_t c42 h
      replace h := it_f c42 h
      exact ag_tr a40 (bl123 h)
    · replace h := it_f c41 h
      exact ag_tr a40 (bl123 h)
theorem gr_X11_chosen {n : Nat} {p1 : Int32} {p2 : Int32} {C : Mm} {r0 : Int32} {C0 : Mm} (h : fX11_chosen n p1 p2 C = some (r0, C0)) : ag fScrR C C0 := by
  unfold fX11_chosen at h
  by_cases c1 : (fX11_isHead p1 C) = 0
  · replace h := it_t c1 h
    rw [← pr_2 h]
    exact ag_rf
  · replace h := it_f c1 h
    by_cases c2 : (fX11_isAsk p2) = 0
    · replace h := it_t c2 h
      rw [← pr_2 h]
      exact ag_rf
    · replace h := it_f c2 h
      obtain ⟨r8, C9, q3, h⟩ := bp_x h
      have a4 : ag fScrR C C9 := ag_tr ag_rf (gr_X11_chosenBy q3)
      rw [← pr_2 h]
      exact a4
theorem gr_X11_answer {n : Nat} {p1 : Int32} {p2 : Int32} {p3 : Int32} {C : Mm} {r0 : Int32} {C0 : Mm} (h : fX11_answer n p1 p2 p3 C = some (r0, C0)) : ag fScrR C C0 := by
  have bl236 : ∀ {k70 : Int32 → Int32 → Int32 → Int32 → Mm → Option (Int32 × Mm)} (hk70 : ∀ {y4 : Int32} {y5 : Int32} {y6 : Int32} {y7 : Int32} {C : Mm} (_ : k70 y4 y5 y6 y7 C = some (r0, C0)), ag fScrR C C0), ∀ {y4 : Int32} {y5 : Int32} {y6 : Int32} {y7 : Int32} {C : Mm} (_ : fX11_answer_b236 n k70 y4 y5 y6 y7 C = some (r0, C0)), ag fScrR C C0 := by
    intro k70 hk70 y4 y5 y6 y7 C h
    unfold fX11_answer_b236 at h
    obtain ⟨x1, e1, h⟩ := lt_z h
    exact ag_tr ag_rf (hk70 h)
  have bl184 : ∀ {k70 : Int32 → Int32 → Int32 → Int32 → Mm → Option (Int32 × Mm)} (hk70 : ∀ {y4 : Int32} {y5 : Int32} {y6 : Int32} {y7 : Int32} {C : Mm} (_ : k70 y4 y5 y6 y7 C = some (r0, C0)), ag fScrR C C0), ∀ {y4 : Int32} {y5 : Int32} {y7 : Int32} {s0 : Int32} {s1 : Int32} {C : Mm} (_ : fX11_answer_b184 n k70 y4 y5 y7 s0 s1 C = some (r0, C0)), ag fScrR C C0 := by
    intro k70 hk70 y4 y5 y7 s0 s1 C h
    unfold fX11_answer_b184 at h
    obtain ⟨x2, e2, h⟩ := lt_z h
    exact ag_tr ag_rf (bl236 hk70 h)
  have bl137 : ∀ {k70 : Int32 → Int32 → Int32 → Int32 → Mm → Option (Int32 × Mm)} (hk70 : ∀ {y4 : Int32} {y5 : Int32} {y6 : Int32} {y7 : Int32} {C : Mm} (_ : k70 y4 y5 y6 y7 C = some (r0, C0)), ag fScrR C C0), ∀ {y4 : Int32} {y5 : Int32} {y6 : Int32} {y7 : Int32} {s0 : Int32} {s1 : Int32} {C : Mm} (_ : fX11_answer_b137 n k70 y4 y5 y6 y7 s0 s1 C = some (r0, C0)), ag fScrR C C0 := by
    intro k70 hk70 y4 y5 y6 y7 s0 s1 C h
    unfold fX11_answer_b137 at h
    by_cases c3 : s1 < s0
    · replace h := it_t c3 h
      by_cases c4 : y7 < (0 : Int32) ∨ 200 ≤ Int32.toNatClampNeg y7
      · cases it_t c4 h
      replace h := it_f c4 h
      by_cases c5 : (C.1 84 (Int32.toNatClampNeg y7)) = 0
      · replace h := it_t c5 h
        by_cases c6 : (irm (iush y5 20) 2) = 1
        · replace h := it_t c6 h
          by_cases c7 : y7 < (0 : Int32) ∨ 200 ≤ Int32.toNatClampNeg y7
          · cases it_t c7 h
          replace h := it_f c7 h
          exact ag_tr ag_rf (bl184 hk70 h)
        · replace h := it_f c6 h
          by_cases c8 : y7 < (0 : Int32) ∨ 200 ≤ Int32.toNatClampNeg y7
          · cases it_t c8 h
          replace h := it_f c8 h
          exact ag_tr ag_rf (bl184 hk70 h)
      · replace h := it_f c5 h
        by_cases c9 : y7 < (0 : Int32) ∨ 200 ≤ Int32.toNatClampNeg y7
        · cases it_t c9 h
        replace h := it_f c9 h
        by_cases c10 : (C.1 84 (Int32.toNatClampNeg y7)) = 1
        · replace h := it_t c10 h
          by_cases c11 : y7 < (0 : Int32) ∨ 200 ≤ Int32.toNatClampNeg y7
          · cases it_t c11 h
          replace h := it_f c11 h
          obtain ⟨r10, q12, h⟩ := bn_x h
          by_cases c13 : r10 = 0
          · cases it_t c13 h
          replace h := it_f c13 h
          obtain ⟨r14, q14, h⟩ := bn_x h
          by_cases c15 : y7 < (0 : Int32) ∨ 200 ≤ Int32.toNatClampNeg y7
          · cases it_t c15 h
          replace h := it_f c15 h
          obtain ⟨r18, q16, h⟩ := bn_x h
          obtain ⟨x20, e17, h⟩ := lt_z h
          exact ag_tr ag_rf (bl236 hk70 h)
        · replace h := it_f c10 h
          exact ag_tr ag_rf (bl236 hk70 h)
    · replace h := it_f c3 h
      exact ag_tr ag_rf (bl236 hk70 h)
  have bl70 : ∀ (fu : Nat), ∀ {y4 : Int32} {y5 : Int32} {y6 : Int32} {y7 : Int32} {C : Mm} (_ : fX11_answer_h70 n fu y4 y5 y6 y7 C = some (r0, C0)), ag fScrR C C0 := by
    intro fu
    induction fu with
    | zero =>
      intro y4 y5 y6 y7 C h
      rw [fX11_answer_h70.eq_1] at h
      cases h
    | succ fu ih =>
      intro y4 y5 y6 y7 C h
      rw [fX11_answer_h70.eq_2] at h
      by_cases c18 : (C.1 72 21) ≤ y7
      · replace h := it_t c18 h
        rw [← pr_2 h]
        exact ag_rf
      · replace h := it_f c18 h
        by_cases c19 : y7 < (0 : Int32) ∨ 200 ≤ Int32.toNatClampNeg y7
        · cases it_t c19 h
        replace h := it_f c19 h
        obtain ⟨x26, e20, h⟩ := lt_z h
        by_cases c21 : 0 < x26
        · replace h := it_t c21 h
          obtain ⟨x28, e22, h⟩ := lt_z h
          by_cases c23 : (5 * x26) ≤ 95
          · replace h := it_t c23 h
            exact ag_tr ag_rf (bl137 ih h)
          · replace h := it_f c23 h
            exact ag_tr ag_rf (bl137 ih h)
        · replace h := it_f c21 h
          exact ag_tr ag_rf (bl236 ih h)
  unfold fX11_answer at h
  by_cases c24 : (fX11_isHw p1 C) = 0
  · replace h := it_t c24 h
    rw [← pr_2 h]
    exact ag_rf
  · replace h := it_f c24 h
    by_cases c25 : (fX11_isAsk p2) = 0
    · replace h := it_t c25 h
      rw [← pr_2 h]
      exact ag_rf
    · replace h := it_f c25 h
      obtain ⟨r37, C38, q26, h⟩ := bp_x h
      have a27 : ag fScrR C C38 := ag_tr ag_rf (gr_X11_layOut q26)
      by_cases c28 : r37 = 0
      · replace h := it_t c28 h
        rw [← pr_2 h]
        exact a27
      · replace h := it_f c28 h
        by_cases c29 : ((5 * (p1 / 10)) + 4) < (0 : Int32) ∨ 30 ≤ Int32.toNatClampNeg ((5 * (p1 / 10)) + 4)
        · cases it_t c29 h
        replace h := it_f c29 h
        obtain ⟨x42, e30, h⟩ := lt_z h
        obtain ⟨x43, e31, h⟩ := lt_z h
        exact ag_tr a27 (bl70 _ h)
theorem gr_X11_quickest {n : Nat} {p1 : Int32} {p2 : Int32} {p3 : Int32} {C : Mm} {r0 : Int32} {C0 : Mm} (h : fX11_quickest n p1 p2 p3 C = some (r0, C0)) : ag fScrR C C0 := by
  have bl90 : ∀ {k39 : Int32 → Int32 → Int32 → Int32 → Int32 → Int32 → Mm → Option (Int32 × Mm)} (hk39 : ∀ {y1 : Int32} {y2 : Int32} {y3 : Int32} {y4 : Int32} {y5 : Int32} {y6 : Int32} {C : Mm} (_ : k39 y1 y2 y3 y4 y5 y6 C = some (r0, C0)), ag fScrR C C0), ∀ {y1 : Int32} {y2 : Int32} {y3 : Int32} {y4 : Int32} {y5 : Int32} {y6 : Int32} {C : Mm} (_ : fX11_quickest_b90 n k39 y1 y2 y3 y4 y5 y6 C = some (r0, C0)), ag fScrR C C0 := by
    intro k39 hk39 y1 y2 y3 y4 y5 y6 C h
    unfold fX11_quickest_b90 at h
    obtain ⟨x1, e1, h⟩ := lt_z h
    exact ag_tr ag_rf (hk39 h)
  have bl80 : ∀ {k39 : Int32 → Int32 → Int32 → Int32 → Int32 → Int32 → Mm → Option (Int32 × Mm)} (hk39 : ∀ {y1 : Int32} {y2 : Int32} {y3 : Int32} {y4 : Int32} {y5 : Int32} {y6 : Int32} {C : Mm} (_ : k39 y1 y2 y3 y4 y5 y6 C = some (r0, C0)), ag fScrR C C0), ∀ {y1 : Int32} {y2 : Int32} {y3 : Int32} {y6 : Int32} {C : Mm} (_ : fX11_quickest_b80 n k39 y1 y2 y3 y6 C = some (r0, C0)), ag fScrR C C0 := by
    intro k39 hk39 y1 y2 y3 y6 C h
    unfold fX11_quickest_b80 at h
    obtain ⟨r3, q2, h⟩ := bn_x h
    exact ag_tr ag_rf (bl90 hk39 h)
  have bl39 : ∀ (fu : Nat), ∀ {y1 : Int32} {y2 : Int32} {y3 : Int32} {y4 : Int32} {y5 : Int32} {y6 : Int32} {C : Mm} (_ : fX11_quickest_h39 n fu y1 y2 y3 y4 y5 y6 C = some (r0, C0)), ag fScrR C C0 := by
    intro fu
    induction fu with
    | zero =>
      intro y1 y2 y3 y4 y5 y6 C h
      rw [fX11_quickest_h39.eq_1] at h
      cases h
    | succ fu ih =>
      intro y1 y2 y3 y4 y5 y6 C h
      rw [fX11_quickest_h39.eq_2] at h
      by_cases c3 : 7 ≤ y6
      · replace h := it_t c3 h
        rw [← pr_2 h]
        exact ag_rf
      · replace h := it_f c3 h
        obtain ⟨r7, C8, q4, h⟩ := bp_x h
        have a5 : ag fScrR C C8 := ag_tr ag_rf (gr_X11_layOut q4)
        by_cases c6 : r7 = 0
        · replace h := it_t c6 h
          exact ag_tr a5 (bl90 ih h)
        · replace h := it_f c6 h
          obtain ⟨r12, q7, h⟩ := bn_x h
          by_cases c8 : y3 < r12
          · replace h := it_t c8 h
            exact ag_tr a5 (bl90 ih h)
          · replace h := it_f c8 h
            by_cases c9 : y4 < 0
            · replace h := it_t c9 h
              exact ag_tr a5 (bl80 ih h)
            · replace h := it_f c9 h
              obtain ⟨r17, q10, h⟩ := bn_x h
              by_cases c11 : y5 ≤ r17
              · replace h := it_t c11 h
                exact ag_tr a5 (bl90 ih h)
              · replace h := it_f c11 h
                exact ag_tr a5 (bl80 ih h)
  unfold fX11_quickest at h
  by_cases c12 : (fX11_isHead p1 C) = 0
  · replace h := it_t c12 h
    rw [← pr_2 h]
    exact ag_rf
  · replace h := it_f c12 h
    by_cases c13 : (fX11_isAsk p2) = 0
    · replace h := it_t c13 h
      rw [← pr_2 h]
      exact ag_rf
    · replace h := it_f c13 h
      by_cases c14 : (fX11_within (Int32.toInt64 p3) 1 99) = 0
      · replace h := it_t c14 h
        rw [← pr_2 h]
        exact ag_rf
      · replace h := it_f c14 h
        exact ag_tr ag_rf (bl39 _ h)
theorem gr_X11_table {n : Nat} {p1 : Int32} {p2 : Int32} {p3 : Int32} {C : Mm} {r0 : Int32} {C0 : Mm} (h : fX11_table n p1 p2 p3 C = some (r0, C0)) : ag fScrR C C0 := by
  have bl21 : ∀ (fu : Nat), ∀ {y1 : Int32} {y2 : Int32} {y3 : Int32} {y4 : Int32} {C : Mm} (_ : fX11_table_h21 n fu y1 y2 y3 y4 C = some (r0, C0)), ag fScrR C C0 := by
    intro fu
    induction fu with
    | zero =>
      intro y1 y2 y3 y4 C h
      rw [fX11_table_h21.eq_1] at h
      cases h
    | succ fu ih =>
      intro y1 y2 y3 y4 C h
      rw [fX11_table_h21.eq_2] at h
      by_cases c1 : 99 < y4
      · replace h := it_t c1 h
        rw [← pr_2 h]
        exact ag_rf
      · replace h := it_f c1 h
        obtain ⟨r3, C4, q2, h⟩ := bp_x h
        have a3 : ag fScrR C C4 := ag_tr ag_rf (gr_X11_chosenBy q2)
        obtain ⟨r7, q4, h⟩ := bn_x h
        by_cases c5 : y3 < r7
        · replace h := it_t c5 h
          obtain ⟨x10, e6, h⟩ := lt_z h
          exact ag_tr a3 (ih h)
        · replace h := it_f c5 h
          rw [← pr_2 h]
          exact a3
  unfold fX11_table at h
  by_cases c7 : (fX11_isHead p1 C) = 0
  · replace h := it_t c7 h
    rw [← pr_2 h]
    exact ag_rf
  · replace h := it_f c7 h
    by_cases c8 : (fX11_isAsk p2) = 0
    · replace h := it_t c8 h
      rw [← pr_2 h]
      exact ag_rf
    · replace h := it_f c8 h
      exact ag_tr ag_rf (bl21 _ h)
theorem gr_X11_doesFit {n : Nat} {p1 : Int32} {p2 : Int32} {p3 : Int32} {C : Mm} {r0 : Int32} {C0 : Mm} (h : fX11_doesFit n p1 p2 p3 C = some (r0, C0)) : ag fScrR C C0 := by
  have bl74 : ∀ {k3 : Int32 → Int32 → Int32 → Int32 → Mm → Option (Int32 × Mm)} (hk3 : ∀ {y1 : Int32} {y2 : Int32} {y3 : Int32} {y4 : Int32} {C : Mm} (_ : k3 y1 y2 y3 y4 C = some (r0, C0)), ag fScrR C C0), ∀ {y1 : Int32} {y2 : Int32} {y3 : Int32} {y4 : Int32} {C : Mm} (_ : fX11_doesFit_b74 n k3 y1 y2 y3 y4 C = some (r0, C0)), ag fScrR C C0 := by
    intro k3 hk3 y1 y2 y3 y4 C h
    unfold fX11_doesFit_b74 at h
    obtain ⟨x1, e1, h⟩ := lt_z h
    exact ag_tr ag_rf (hk3 h)
  have bl3 : ∀ (fu : Nat), ∀ {y1 : Int32} {y2 : Int32} {y3 : Int32} {y4 : Int32} {C : Mm} (_ : fX11_doesFit_h3 n fu y1 y2 y3 y4 C = some (r0, C0)), ag fScrR C C0 := by
    intro fu
    induction fu with
    | zero =>
      intro y1 y2 y3 y4 C h
      rw [fX11_doesFit_h3.eq_1] at h
      cases h
    | succ fu ih =>
      intro y1 y2 y3 y4 C h
      rw [fX11_doesFit_h3.eq_2] at h
      by_cases c2 : (C.1 72 33) ≤ y4
      · replace h := it_t c2 h
        rw [← pr_2 h]
        exact ag_rf
      · replace h := it_f c2 h
        by_cases c3 : y4 < (0 : Int32) ∨ 40 ≤ Int32.toNatClampNeg y4
        · cases it_t c3 h
        replace h := it_f c3 h
        obtain ⟨r5, C6, q4, h⟩ := bp_x h
        have a5 : ag fScrR C C6 := ag_tr ag_rf (gr_X11_layOut q4)
        by_cases c6 : r5 = 0
        · replace h := it_t c6 h
          rw [← pr_2 h]
          exact a5
        · replace h := it_f c6 h
          obtain ⟨r10, q7, h⟩ := bn_x h
          by_cases c8 : y4 < (0 : Int32) ∨ 40 ≤ Int32.toNatClampNeg y4
          · cases it_t c8 h
          replace h := it_f c8 h
          by_cases c9 : (fX11_size (r10 - (C6.1 92 (Int32.toNatClampNeg y4)))) ≤ y3
          · replace h := it_t c9 h
            obtain ⟨r17, q10, h⟩ := bn_x h
            by_cases c11 : r17 = 0
            · replace h := it_t c11 h
              exact ag_tr a5 (bl74 ih h)
            · replace h := it_f c11 h
              obtain ⟨r21, q12, h⟩ := bn_x h
              obtain ⟨r24, q13, h⟩ := bn_x h
              by_cases c14 : r24 = 0
              · replace h := it_t c14 h
                rw [← pr_2 h]
                exact a5
              · replace h := it_f c14 h
                exact ag_tr a5 (bl74 ih h)
          · replace h := it_f c9 h
            rw [← pr_2 h]
            exact a5
  unfold fX11_doesFit at h
  exact ag_tr ag_rf (bl3 _ h)
theorem gr_X11_fits {n : Nat} {p1 : Int32} {p2 : Int32} {C : Mm} {r0 : Int32} {C0 : Mm} (h : fX11_fits n p1 p2 C = some (r0, C0)) : ag fScrR C C0 := by
  have bl64 : ∀ {k37 : Int32 → Int32 → Int32 → Int32 → Mm → Option (Int32 × Mm)} (hk37 : ∀ {y1 : Int32} {y2 : Int32} {y3 : Int32} {y4 : Int32} {C : Mm} (_ : k37 y1 y2 y3 y4 C = some (r0, C0)), ag fScrR C C0), ∀ {y1 : Int32} {y2 : Int32} {y4 : Int32} {s0 : Int32} {s1 : Int32} {C : Mm} (_ : fX11_fits_b64 n k37 y1 y2 y4 s0 s1 C = some (r0, C0)), ag fScrR C C0 := by
    intro k37 hk37 y1 y2 y4 s0 s1 C h
    unfold fX11_fits_b64 at h
    obtain ⟨x1, e1, h⟩ := lt_z h
    obtain ⟨x2, e2, h⟩ := lt_z h
    exact ag_tr ag_rf (hk37 h)
  have bl37 : ∀ (fu : Nat), ∀ {y1 : Int32} {y2 : Int32} {y3 : Int32} {y4 : Int32} {C : Mm} (_ : fX11_fits_h37 n fu y1 y2 y3 y4 C = some (r0, C0)), ag fScrR C C0 := by
    intro fu
    induction fu with
    | zero =>
      intro y1 y2 y3 y4 C h
      rw [fX11_fits_h37.eq_1] at h
      cases h
    | succ fu ih =>
      intro y1 y2 y3 y4 C h
      rw [fX11_fits_h37.eq_2] at h
      by_cases c3 : 7 ≤ y4
      · replace h := it_t c3 h
        rw [← pr_2 h]
        exact ag_rf
      · replace h := it_f c3 h
        obtain ⟨r5, C6, q4, h⟩ := bp_x h
        have a5 : ag fScrR C C6 := ag_tr ag_rf (gr_X11_doesFit q4)
        by_cases c6 : r5 = 0
        · replace h := it_t c6 h
          exact ag_tr a5 (bl64 ih h)
        · replace h := it_f c6 h
          exact ag_tr a5 (bl64 ih h)
  unfold fX11_fits at h
  by_cases c7 : (fX11_isHead p1 C) = 0
  · replace h := it_t c7 h
    rw [← pr_2 h]
    exact ag_rf
  · replace h := it_f c7 h
    by_cases c8 : (fX11_within (Int32.toInt64 p2) 0 9999) = 0
    · replace h := it_t c8 h
      rw [← pr_2 h]
      exact ag_rf
    · replace h := it_f c8 h
      by_cases c9 : (C.1 72 33) = 0
      · replace h := it_t c9 h
        rw [← pr_2 h]
        exact ag_rf
      · replace h := it_f c9 h
        exact ag_tr ag_rf (bl37 _ h)
theorem gr_X11_offSum {n : Nat} {p1 : Int32} {p2 : Int32} {C : Mm} {r0 : Int32} {C0 : Mm} (h : fX11_offSum n p1 p2 C = some (r0, C0)) : ag fScrR C C0 := by
  have bl57 : ∀ {k5 : Int32 → Int32 → Int32 → Int32 → Mm → Option (Int32 × Mm)} (hk5 : ∀ {y1 : Int32} {y2 : Int32} {y3 : Int32} {y4 : Int32} {C : Mm} (_ : k5 y1 y2 y3 y4 C = some (r0, C0)), ag fScrR C C0), ∀ {y1 : Int32} {y2 : Int32} {y3 : Int32} {y4 : Int32} {y5 : Int32} {C : Mm} (_ : fX11_offSum_b57 n k5 y1 y2 y3 y4 y5 C = some (r0, C0)), ag fScrR C C0 := by
    intro k5 hk5 y1 y2 y3 y4 y5 C h
    unfold fX11_offSum_b57 at h
    by_cases c1 : y5 = 0
    · replace h := it_t c1 h
      rw [← pr_2 h]
      exact ag_rf
    · replace h := it_f c1 h
      obtain ⟨r3, q2, h⟩ := bn_x h
      by_cases c3 : y4 < (0 : Int32) ∨ 40 ≤ Int32.toNatClampNeg y4
      · cases it_t c3 h
      replace h := it_f c3 h
      obtain ⟨x8, e4, h⟩ := lt_z h
      obtain ⟨x9, e5, h⟩ := lt_z h
      exact ag_tr ag_rf (hk5 h)
  have bl5 : ∀ (fu : Nat), ∀ {y1 : Int32} {y2 : Int32} {y3 : Int32} {y4 : Int32} {C : Mm} (_ : fX11_offSum_h5 n fu y1 y2 y3 y4 C = some (r0, C0)), ag fScrR C C0 := by
    intro fu
    induction fu with
    | zero =>
      intro y1 y2 y3 y4 C h
      rw [fX11_offSum_h5.eq_1] at h
      cases h
    | succ fu ih =>
      intro y1 y2 y3 y4 C h
      rw [fX11_offSum_h5.eq_2] at h
      by_cases c6 : (C.1 72 33) ≤ y4
      · replace h := it_t c6 h
        rw [← pr_2 h]
        exact ag_rf
      · replace h := it_f c6 h
        by_cases c7 : y2 = 7
        · replace h := it_t c7 h
          by_cases c8 : y4 < (0 : Int32) ∨ 40 ≤ Int32.toNatClampNeg y4
          · cases it_t c8 h
          replace h := it_f c8 h
          obtain ⟨r19, C20, q9, h⟩ := bp_x h
          have a10 : ag fScrR C C20 := ag_tr ag_rf (gr_X11_chosenBy q9)
          exact ag_tr a10 (bl57 ih h)
        · replace h := it_f c7 h
          by_cases c11 : y4 < (0 : Int32) ∨ 40 ≤ Int32.toNatClampNeg y4
          · cases it_t c11 h
          replace h := it_f c11 h
          obtain ⟨r14, C15, q12, h⟩ := bp_x h
          have a13 : ag fScrR C C15 := ag_tr ag_rf (gr_X11_layOut q12)
          exact ag_tr a13 (bl57 ih h)
  unfold fX11_offSum at h
  exact ag_tr ag_rf (bl5 _ h)
theorem gr_X11_best {n : Nat} {p1 : Int32} {p2 : Int32} {C : Mm} {r0 : Int32} {C0 : Mm} (h : fX11_best n p1 p2 C = some (r0, C0)) : ag fScrR C C0 := by
  have bl77 : ∀ {k38 : Int32 → Int32 → Int32 → Int32 → Int32 → Mm → Option (Int32 × Mm)} (hk38 : ∀ {y1 : Int32} {y2 : Int32} {y3 : Int32} {y4 : Int32} {y5 : Int32} {C : Mm} (_ : k38 y1 y2 y3 y4 y5 C = some (r0, C0)), ag fScrR C C0), ∀ {y1 : Int32} {y2 : Int32} {y3 : Int32} {y4 : Int32} {y5 : Int32} {C : Mm} (_ : fX11_best_b77 n k38 y1 y2 y3 y4 y5 C = some (r0, C0)), ag fScrR C C0 := by
    intro k38 hk38 y1 y2 y3 y4 y5 C h
    unfold fX11_best_b77 at h
    obtain ⟨x1, e1, h⟩ := lt_z h
    exact ag_tr ag_rf (hk38 h)
  have bl70 : ∀ {k38 : Int32 → Int32 → Int32 → Int32 → Int32 → Mm → Option (Int32 × Mm)} (hk38 : ∀ {y1 : Int32} {y2 : Int32} {y3 : Int32} {y4 : Int32} {y5 : Int32} {C : Mm} (_ : k38 y1 y2 y3 y4 y5 C = some (r0, C0)), ag fScrR C C0), ∀ {y1 : Int32} {y2 : Int32} {y5 : Int32} {y6 : Int32} {C : Mm} (_ : fX11_best_b70 n k38 y1 y2 y5 y6 C = some (r0, C0)), ag fScrR C C0 := by
    intro k38 hk38 y1 y2 y5 y6 C h
    unfold fX11_best_b70 at h
    exact ag_tr ag_rf (bl77 hk38 h)
  have bl38 : ∀ (fu : Nat), ∀ {y1 : Int32} {y2 : Int32} {y3 : Int32} {y4 : Int32} {y5 : Int32} {C : Mm} (_ : fX11_best_h38 n fu y1 y2 y3 y4 y5 C = some (r0, C0)), ag fScrR C C0 := by
    intro fu
    induction fu with
    | zero =>
      intro y1 y2 y3 y4 y5 C h
      rw [fX11_best_h38.eq_1] at h
      cases h
    | succ fu ih =>
      intro y1 y2 y3 y4 y5 C h
      rw [fX11_best_h38.eq_2] at h
      by_cases c2 : 7 < y5
      · replace h := it_t c2 h
        by_cases c3 : y2 = 0
        · replace h := it_t c3 h
          rw [← pr_2 h]
          exact ag_rf
        · replace h := it_f c3 h
          rw [← pr_2 h]
          exact ag_rf
      · replace h := it_f c2 h
        obtain ⟨r5, C6, q4, h⟩ := bp_x h
        have a5 : ag fScrR C C6 := ag_tr ag_rf (gr_X11_offSum q4)
        by_cases c6 : r5 < 0
        · replace h := it_t c6 h
          exact ag_tr a5 (bl77 ih h)
        · replace h := it_f c6 h
          by_cases c7 : y3 < 0
          · replace h := it_t c7 h
            exact ag_tr a5 (bl70 ih h)
          · replace h := it_f c7 h
            by_cases c8 : y4 ≤ r5
            · replace h := it_t c8 h
              exact ag_tr a5 (bl77 ih h)
            · replace h := it_f c8 h
              exact ag_tr a5 (bl70 ih h)
  unfold fX11_best at h
  by_cases c9 : (fX11_isHead p1 C) = 0
  · replace h := it_t c9 h
    rw [← pr_2 h]
    exact ag_rf
  · replace h := it_f c9 h
    by_cases c10 : (fX11_within (Int32.toInt64 p2) 0 1) = 0
    · replace h := it_t c10 h
      rw [← pr_2 h]
      exact ag_rf
    · replace h := it_f c10 h
      by_cases c11 : (C.1 72 33) = 0
      · replace h := it_t c11 h
        rw [← pr_2 h]
        exact ag_rf
      · replace h := it_f c11 h
        exact ag_tr ag_rf (bl38 _ h)
theorem gr_X11_slip {n : Nat} {p1 : Int32} {p2 : Int32} {p3 : Int32} {C : Mm} {r0 : Int32} {C0 : Mm} (h : fX11_slip n p1 p2 p3 C = some (r0, C0)) : ag fScrR C C0 := by
  have bl87 : ∀ (fu : Nat), ∀ {y2 : Int32} {y4 : Int32} {C : Mm} (_ : fX11_slip_h87 n fu y2 y4 C = some (r0, C0)), ag fScrR C C0 := by
    intro fu
    induction fu with
    | zero =>
      intro y2 y4 C h
      rw [fX11_slip_h87.eq_1] at h
      cases h
    | succ fu ih =>
      intro y2 y4 C h
      rw [fX11_slip_h87.eq_2] at h
      by_cases c1 : (C.1 72 21) ≤ y4
      · replace h := it_t c1 h
        rw [← pr_2 h]
        exact ag_rf
      · replace h := it_f c1 h
        obtain ⟨r3, q2, h⟩ := bn_x h
        obtain ⟨r6, q3, h⟩ := bn_x h
        by_cases c4 : r6 = 0
        · replace h := it_t c4 h
          obtain ⟨x9, e5, h⟩ := lt_z h
          exact ag_tr ag_rf (ih h)
        · replace h := it_f c4 h
          rw [← pr_2 h]
          exact ag_rf
  unfold fX11_slip at h
  by_cases c6 : (fX11_isHw p1 C) = 0
  · replace h := it_t c6 h
    rw [← pr_2 h]
    exact ag_rf
  · replace h := it_f c6 h
    by_cases c7 : (fX11_within (Int32.toInt64 p2) 0 (Int32.toInt64 ((C.1 72 33) - 1))) = 0
    · replace h := it_t c7 h
      rw [← pr_2 h]
      exact ag_rf
    · replace h := it_f c7 h
      by_cases c8 : (fX11_within (Int32.toInt64 p3) 0 1) = 0
      · replace h := it_t c8 h
        rw [← pr_2 h]
        exact ag_rf
      · replace h := it_f c8 h
        obtain ⟨r20, q9, h⟩ := bn_x h
        by_cases c10 : r20 = 0
        · replace h := it_t c10 h
          rw [← pr_2 h]
          exact ag_rf
        · replace h := it_f c10 h
          by_cases c11 : p2 < (0 : Int32) ∨ 40 ≤ Int32.toNatClampNeg p2
          · cases it_t c11 h
          replace h := it_f c11 h
          obtain ⟨r25, C26, q12, h⟩ := bp_x h
          have a13 : ag fScrR C C26 := ag_tr ag_rf (gr_X11_layOut q12)
          by_cases c14 : r25 = 0
          · replace h := it_t c14 h
            rw [← pr_2 h]
            exact a13
          · replace h := it_f c14 h
            by_cases c15 : p3 = 1
            · replace h := it_t c15 h
              obtain ⟨r31, q16, h⟩ := bn_x h
              obtain ⟨r34, q17, h⟩ := bn_x h
              rw [← pr_2 h]
              exact a13
            · replace h := it_f c15 h
              exact ag_tr a13 (bl87 _ h)
theorem gr_X11_suits {n : Nat} {p1 : Int32} {C : Mm} {r0 : Int32} {C0 : Mm} (h : fX11_suits n p1 C = some (r0, C0)) : ag fScrR C C0 := by
  have bl84 : ∀ {k24 : Int32 → Int32 → Int32 → Mm → Option (Int32 × Mm)} (hk24 : ∀ {y1 : Int32} {y2 : Int32} {y3 : Int32} {C : Mm} (_ : k24 y1 y2 y3 C = some (r0, C0)), ag fScrR C C0), ∀ {y1 : Int32} {y3 : Int32} {s0 : Int32} {s1 : Int32} {C : Mm} (_ : fX11_suits_b84 n k24 y1 y3 s0 s1 C = some (r0, C0)), ag fScrR C C0 := by
    intro k24 hk24 y1 y3 s0 s1 C h
    unfold fX11_suits_b84 at h
    obtain ⟨x1, e1, h⟩ := lt_z h
    obtain ⟨x2, e2, h⟩ := lt_z h
    exact ag_tr ag_rf (hk24 h)
  have bl24 : ∀ (fu : Nat), ∀ {y1 : Int32} {y2 : Int32} {y3 : Int32} {C : Mm} (_ : fX11_suits_h24 n fu y1 y2 y3 C = some (r0, C0)), ag fScrR C C0 := by
    intro fu
    induction fu with
    | zero =>
      intro y1 y2 y3 C h
      rw [fX11_suits_h24.eq_1] at h
      cases h
    | succ fu ih =>
      intro y1 y2 y3 C h
      rw [fX11_suits_h24.eq_2] at h
      by_cases c3 : (C.1 72 33) ≤ y3
      · replace h := it_t c3 h
        by_cases c4 : (C.1 72 33) = 0
        · cases it_t c4 h
        replace h := it_f c4 h
        rw [← pr_2 h]
        exact ag_rf
      · replace h := it_f c3 h
        by_cases c5 : y3 < (0 : Int32) ∨ 40 ≤ Int32.toNatClampNeg y3
        · cases it_t c5 h
        replace h := it_f c5 h
        obtain ⟨r7, C8, q6, h⟩ := bp_x h
        have a7 : ag fScrR C C8 := ag_tr ag_rf (gr_X11_chosenBy q6)
        obtain ⟨r11, q8, h⟩ := bn_x h
        by_cases c9 : y3 < (0 : Int32) ∨ 40 ≤ Int32.toNatClampNeg y3
        · cases it_t c9 h
        replace h := it_f c9 h
        obtain ⟨r15, C16, q10, h⟩ := bp_x h
        have a11 : ag fScrR C C16 := ag_tr a7 (gr_X11_layOut q10)
        obtain ⟨r19, q12, h⟩ := bn_x h
        by_cases c13 : (r19 / 2) < r11
        · replace h := it_t c13 h
          exact ag_tr a11 (bl84 ih h)
        · replace h := it_f c13 h
          exact ag_tr a11 (bl84 ih h)
  unfold fX11_suits at h
  by_cases c14 : (fX11_isHead p1 C) = 0
  · replace h := it_t c14 h
    rw [← pr_2 h]
    exact ag_rf
  · replace h := it_f c14 h
    by_cases c15 : (C.1 72 33) = 0
    · replace h := it_t c15 h
      rw [← pr_2 h]
      exact ag_rf
    · replace h := it_f c15 h
      exact ag_tr ag_rf (bl24 _ h)
theorem gr_X11_parts {n : Nat} {p1 : Int32} {p2 : Int32} {p3 : Int32} {C : Mm} {r0 : Int32} {C0 : Mm} (h : fX11_parts n p1 p2 p3 C = some (r0, C0)) : ag fScrR C C0 := by
  have bl182 : ∀ {k52 : Int32 → Int32 → Int32 → Int32 → Int32 → Int32 → Mm → Option (Int32 × Mm)} (hk52 : ∀ {y1 : Int32} {y2 : Int32} {y3 : Int32} {y4 : Int32} {y5 : Int32} {y6 : Int32} {C : Mm} (_ : k52 y1 y2 y3 y4 y5 y6 C = some (r0, C0)), ag fScrR C C0), ∀ {y1 : Int32} {y2 : Int32} {y3 : Int32} {y4 : Int32} {y5 : Int32} {y6 : Int32} {C : Mm} (_ : fX11_parts_b182 n k52 y1 y2 y3 y4 y5 y6 C = some (r0, C0)), ag fScrR C C0 := by
    intro k52 hk52 y1 y2 y3 y4 y5 y6 C h
    unfold fX11_parts_b182 at h
    obtain ⟨x1, e1, h⟩ := lt_z h
    exact ag_tr ag_rf (hk52 h)
  have bl150 : ∀ {k52 : Int32 → Int32 → Int32 → Int32 → Int32 → Int32 → Mm → Option (Int32 × Mm)} (hk52 : ∀ {y1 : Int32} {y2 : Int32} {y3 : Int32} {y4 : Int32} {y5 : Int32} {y6 : Int32} {C : Mm} (_ : k52 y1 y2 y3 y4 y5 y6 C = some (r0, C0)), ag fScrR C C0) {k70 : Int32 → Int32 → Int32 → Int32 → Int32 → Int32 → Int32 → Int32 → Int32 → Mm → Option (Int32 × Mm)} (hk70 : ∀ {y1 : Int32} {y2 : Int32} {y3 : Int32} {y4 : Int32} {y5 : Int32} {y6 : Int32} {y7 : Int32} {y8 : Int32} {y9 : Int32} {C : Mm} (_ : k70 y1 y2 y3 y4 y5 y6 y7 y8 y9 C = some (r0, C0)), ag fScrR C C0), ∀ {y1 : Int32} {y2 : Int32} {y3 : Int32} {y4 : Int32} {y5 : Int32} {y6 : Int32} {y7 : Int32} {y8 : Int32} {y9 : Int32} {C : Mm} (_ : fX11_parts_b150 n k52 k70 y1 y2 y3 y4 y5 y6 y7 y8 y9 C = some (r0, C0)), ag fScrR C C0 := by
    intro k52 hk52 k70 hk70 y1 y2 y3 y4 y5 y6 y7 y8 y9 C h
    unfold fX11_parts_b150 at h
    obtain ⟨x2, e2, h⟩ := lt_z h
    exact ag_tr ag_rf (hk70 h)
  have bl148 : ∀ {k52 : Int32 → Int32 → Int32 → Int32 → Int32 → Int32 → Mm → Option (Int32 × Mm)} (hk52 : ∀ {y1 : Int32} {y2 : Int32} {y3 : Int32} {y4 : Int32} {y5 : Int32} {y6 : Int32} {C : Mm} (_ : k52 y1 y2 y3 y4 y5 y6 C = some (r0, C0)), ag fScrR C C0) {k70 : Int32 → Int32 → Int32 → Int32 → Int32 → Int32 → Int32 → Int32 → Int32 → Mm → Option (Int32 × Mm)} (hk70 : ∀ {y1 : Int32} {y2 : Int32} {y3 : Int32} {y4 : Int32} {y5 : Int32} {y6 : Int32} {y7 : Int32} {y8 : Int32} {y9 : Int32} {C : Mm} (_ : k70 y1 y2 y3 y4 y5 y6 y7 y8 y9 C = some (r0, C0)), ag fScrR C C0), ∀ {y1 : Int32} {y2 : Int32} {y3 : Int32} {y4 : Int32} {y5 : Int32} {y6 : Int32} {y7 : Int32} {y9 : Int32} {s0 : Int32} {C : Mm} (_ : fX11_parts_b148 n k52 k70 y1 y2 y3 y4 y5 y6 y7 y9 s0 C = some (r0, C0)), ag fScrR C C0 := by
    intro k52 hk52 k70 hk70 y1 y2 y3 y4 y5 y6 y7 y9 s0 C h
    unfold fX11_parts_b148 at h
    exact ag_tr ag_rf (bl150 hk52 hk70 h)
  have bl128 : ∀ {k52 : Int32 → Int32 → Int32 → Int32 → Int32 → Int32 → Mm → Option (Int32 × Mm)} (hk52 : ∀ {y1 : Int32} {y2 : Int32} {y3 : Int32} {y4 : Int32} {y5 : Int32} {y6 : Int32} {C : Mm} (_ : k52 y1 y2 y3 y4 y5 y6 C = some (r0, C0)), ag fScrR C C0) {k70 : Int32 → Int32 → Int32 → Int32 → Int32 → Int32 → Int32 → Int32 → Int32 → Mm → Option (Int32 × Mm)} (hk70 : ∀ {y1 : Int32} {y2 : Int32} {y3 : Int32} {y4 : Int32} {y5 : Int32} {y6 : Int32} {y7 : Int32} {y8 : Int32} {y9 : Int32} {C : Mm} (_ : k70 y1 y2 y3 y4 y5 y6 y7 y8 y9 C = some (r0, C0)), ag fScrR C C0), ∀ {y1 : Int32} {y2 : Int32} {y3 : Int32} {y4 : Int32} {y5 : Int32} {y6 : Int32} {y8 : Int32} {y9 : Int32} {s0 : Int32} {C : Mm} (_ : fX11_parts_b128 n k52 k70 y1 y2 y3 y4 y5 y6 y8 y9 s0 C = some (r0, C0)), ag fScrR C C0 := by
    intro k52 hk52 k70 hk70 y1 y2 y3 y4 y5 y6 y8 y9 s0 C h
    unfold fX11_parts_b128 at h
    obtain ⟨r4, q3, h⟩ := bn_x h
    by_cases c4 : r4 ≤ y8
    · replace h := it_t c4 h
      exact ag_tr ag_rf (bl148 hk52 hk70 h)
    · replace h := it_f c4 h
      obtain ⟨r8, q5, h⟩ := bn_x h
      exact ag_tr ag_rf (bl148 hk52 hk70 h)
  have bl119 : ∀ {k52 : Int32 → Int32 → Int32 → Int32 → Int32 → Int32 → Mm → Option (Int32 × Mm)} (hk52 : ∀ {y1 : Int32} {y2 : Int32} {y3 : Int32} {y4 : Int32} {y5 : Int32} {y6 : Int32} {C : Mm} (_ : k52 y1 y2 y3 y4 y5 y6 C = some (r0, C0)), ag fScrR C C0) {k70 : Int32 → Int32 → Int32 → Int32 → Int32 → Int32 → Int32 → Int32 → Int32 → Mm → Option (Int32 × Mm)} (hk70 : ∀ {y1 : Int32} {y2 : Int32} {y3 : Int32} {y4 : Int32} {y5 : Int32} {y6 : Int32} {y7 : Int32} {y8 : Int32} {y9 : Int32} {C : Mm} (_ : k70 y1 y2 y3 y4 y5 y6 y7 y8 y9 C = some (r0, C0)), ag fScrR C C0), ∀ {y1 : Int32} {y2 : Int32} {y3 : Int32} {y4 : Int32} {y5 : Int32} {y6 : Int32} {y8 : Int32} {y9 : Int32} {C : Mm} (_ : fX11_parts_b119 n k52 k70 y1 y2 y3 y4 y5 y6 y8 y9 C = some (r0, C0)), ag fScrR C C0 := by
    intro k52 hk52 k70 hk70 y1 y2 y3 y4 y5 y6 y8 y9 C h
    unfold fX11_parts_b119 at h
    obtain ⟨r11, q6, h⟩ := bn_x h
    exact ag_tr ag_rf (bl128 hk52 hk70 h)
  have bl70 : ∀ {k52 : Int32 → Int32 → Int32 → Int32 → Int32 → Int32 → Mm → Option (Int32 × Mm)} (hk52 : ∀ {y1 : Int32} {y2 : Int32} {y3 : Int32} {y4 : Int32} {y5 : Int32} {y6 : Int32} {C : Mm} (_ : k52 y1 y2 y3 y4 y5 y6 C = some (r0, C0)), ag fScrR C C0) (fu : Nat), ∀ {y1 : Int32} {y2 : Int32} {y3 : Int32} {y4 : Int32} {y5 : Int32} {y6 : Int32} {y7 : Int32} {y8 : Int32} {y9 : Int32} {C : Mm} (_ : fX11_parts_h70 n k52 fu y1 y2 y3 y4 y5 y6 y7 y8 y9 C = some (r0, C0)), ag fScrR C C0 := by
    intro k52 hk52
    intro fu
    induction fu with
    | zero =>
      intro y1 y2 y3 y4 y5 y6 y7 y8 y9 C h
      rw [fX11_parts_h70.eq_1] at h
      cases h
    | succ fu ih =>
      intro y1 y2 y3 y4 y5 y6 y7 y8 y9 C h
      rw [fX11_parts_h70.eq_2] at h
      by_cases c7 : 7 ≤ y9
      · replace h := it_t c7 h
        by_cases c8 : y7 < 0
        · replace h := it_t c8 h
          exact ag_tr ag_rf (bl182 hk52 h)
        · replace h := it_f c8 h
          by_cases c9 : (y8 - y7) ≤ y5
          · replace h := it_t c9 h
            exact ag_tr ag_rf (bl182 hk52 h)
          · replace h := it_f c9 h
            obtain ⟨x16, e10, h⟩ := lt_z h
            exact ag_tr ag_rf (bl182 hk52 h)
      · replace h := it_f c7 h
        by_cases c11 : ((y2 >>> (y9 &&& 31)) &&& 1) = 1
        · replace h := it_t c11 h
          by_cases c12 : y6 < (0 : Int32) ∨ 8 ≤ Int32.toNatClampNeg y6
          · cases it_t c12 h
          replace h := it_f c12 h
          obtain ⟨r20, C21, q13, h⟩ := bp_x h
          have a14 : ag fScrR C C21 := ag_tr ag_rf (gr_X11_layOut q13)
          by_cases c15 : r20 = 0
          · replace h := it_t c15 h
            exact ag_tr a14 (bl150 hk52 ih h)
          · replace h := it_f c15 h
            by_cases c16 : y7 < 0
            · replace h := it_t c16 h
              exact ag_tr a14 (bl119 hk52 ih h)
            · replace h := it_f c16 h
              obtain ⟨r26, q17, h⟩ := bn_x h
              by_cases c18 : y7 ≤ r26
              · replace h := it_t c18 h
                exact ag_tr a14 (bl128 hk52 ih h)
              · replace h := it_f c18 h
                exact ag_tr a14 (bl119 hk52 ih h)
        · replace h := it_f c11 h
          exact ag_tr ag_rf (bl150 hk52 ih h)
  have bl52 : ∀ (fu : Nat), ∀ {y1 : Int32} {y2 : Int32} {y3 : Int32} {y4 : Int32} {y5 : Int32} {y6 : Int32} {C : Mm} (_ : fX11_parts_h52 n fu y1 y2 y3 y4 y5 y6 C = some (r0, C0)), ag fScrR C C0 := by
    intro fu
    induction fu with
    | zero =>
      intro y1 y2 y3 y4 y5 y6 C h
      rw [fX11_parts_h52.eq_1] at h
      cases h
    | succ fu ih =>
      intro y1 y2 y3 y4 y5 y6 C h
      rw [fX11_parts_h52.eq_2] at h
      by_cases c19 : (C.1 72 37) ≤ y6
      · replace h := it_t c19 h
        by_cases c20 : 0 ≤ y4
        · replace h := it_t c20 h
          by_cases c21 : y3 = 0
          · replace h := it_t c21 h
            rw [← pr_2 h]
            exact ag_rf
          · replace h := it_f c21 h
            rw [← pr_2 h]
            exact ag_rf
        · replace h := it_f c20 h
          rw [← pr_2 h]
          exact ag_rf
      · replace h := it_f c19 h
        exact ag_tr ag_rf (bl70 ih _ h)
  unfold fX11_parts at h
  by_cases c22 : (fX11_isHead p1 C) = 0
  · replace h := it_t c22 h
    rw [← pr_2 h]
    exact ag_rf
  · replace h := it_f c22 h
    by_cases c23 : (fX11_within (Int32.toInt64 p2) 0 127) = 0
    · replace h := it_t c23 h
      rw [← pr_2 h]
      exact ag_rf
    · replace h := it_f c23 h
      by_cases c24 : (fX11_within (Int32.toInt64 p3) 0 1) = 0
      · replace h := it_t c24 h
        rw [← pr_2 h]
        exact ag_rf
      · replace h := it_f c24 h
        by_cases c25 : (C.1 72 37) = 0
        · replace h := it_t c25 h
          rw [← pr_2 h]
          exact ag_rf
        · replace h := it_f c25 h
          exact ag_tr ag_rf (bl52 _ h)
def fLay (q i : Nat) : Prop := (q = 72 ∧ (i = 21 ∨ (28 ≤ i ∧ i ≤ 31))) ∨ (84 ≤ q ∧ q ≤ 90)
theorem gl_X11_acts {n : Nat} {p1 : Int32} {p2 : Int32} {p3 : Int32} {p4 : Int32} {C : Mm} {C0 : Mm} (h : fX11_acts n p1 p2 p3 p4 C = some C0) : ag fLay C C0 := by
  have bl72 : ∀ {y3 : Int32} {y4 : Int32} {y5 : Int32} {s0 : Int32} {s1 : Int32} {C : Mm} (_ : fX11_acts_b72 n y3 y4 y5 s0 s1 C = some C0), ag fLay C C0 := by
    intro y3 y4 y5 s0 s1 C h
    unfold fX11_acts_b72 at h
    by_cases c1 : s1 < (0 : Int32) ∨ 200 ≤ Int32.toNatClampNeg s1
    · cases it_t c1 h
    replace h := it_f c1 h
    obtain ⟨C2, e2, h⟩ := lt_z h
    have a3 : ag fLay C C2 := ag_tr ag_rf (by rw [e2]; exact ag_wrI (by unfold fLay; omega))
    obtain ⟨r4, q4, h⟩ := bn_x h
    by_cases c5 : y5 < (0 : Int32) ∨ 200 ≤ Int32.toNatClampNeg y5
    · cases it_t c5 h
    replace h := it_f c5 h
    obtain ⟨C7, e6, h⟩ := lt_z h
    have a7 : ag fLay C C7 := ag_tr a3 (by rw [e6]; exact ag_wrI (by unfold fLay; omega))
    by_cases c8 : y5 < (0 : Int32) ∨ 200 ≤ Int32.toNatClampNeg y5
    · cases it_t c8 h
    replace h := it_f c8 h
    obtain ⟨C9, e9, h⟩ := lt_z h
    have a10 : ag fLay C C9 := ag_tr a7 (by rw [e9]; exact ag_wrI (by unfold fLay; omega))
    by_cases c11 : y5 < (0 : Int32) ∨ 200 ≤ Int32.toNatClampNeg y5
    · cases it_t c11 h
    replace h := it_f c11 h
    obtain ⟨C11, e12, h⟩ := lt_z h
    have a13 : ag fLay C C11 := ag_tr a10 (by rw [e12]; exact ag_wrI (by unfold fLay; omega))
    obtain ⟨C12, e14, h⟩ := lt_z h
    have a15 : ag fLay C C12 := ag_tr a13 (by rw [e14]; exact ag_wrI (by unfold fLay; omega))
    rw [← Option.some.inj h]
    exact a15
  have bl71 : ∀ {y3 : Int32} {y4 : Int32} {y5 : Int32} {s0 : Int32} {s1 : Int32} {s2 : Int32} {C : Mm} (_ : fX11_acts_b71 n y3 y4 y5 s0 s1 s2 C = some C0), ag fLay C C0 := by
    intro y3 y4 y5 s0 s1 s2 C h
    unfold fX11_acts_b71 at h
    exact ag_tr ag_rf (bl72 h)
  have bl67 : ∀ {y2 : Int32} {y3 : Int32} {y4 : Int32} {y5 : Int32} {s0 : Int32} {s1 : Int32} {C : Mm} (_ : fX11_acts_b67 n y2 y3 y4 y5 s0 s1 C = some C0), ag fLay C C0 := by
    intro y2 y3 y4 y5 s0 s1 C h
    unfold fX11_acts_b67 at h
    obtain ⟨r14, q16, h⟩ := bn_x h
    exact ag_tr ag_rf (bl71 h)
  unfold fX11_acts at h
  obtain ⟨x16, e17, h⟩ := lt_z h
  by_cases c18 : ((5 * (C.1 72 30)) + p1) < (0 : Int32) ∨ 30 ≤ Int32.toNatClampNeg ((5 * (C.1 72 30)) + p1)
  · cases it_t c18 h
  replace h := it_f c18 h
  obtain ⟨x18, e19, h⟩ := lt_z h
  by_cases c20 : x16 < (0 : Int32) ∨ 200 ≤ Int32.toNatClampNeg x16
  · cases it_t c20 h
  replace h := it_f c20 h
  obtain ⟨C20, e21, h⟩ := lt_z h
  have a22 : ag fLay C C20 := ag_tr ag_rf (by rw [e21]; exact ag_wrI (by unfold fLay; omega))
  by_cases c23 : x16 < (0 : Int32) ∨ 200 ≤ Int32.toNatClampNeg x16
  · cases it_t c23 h
  replace h := it_f c23 h
  obtain ⟨C22, e24, h⟩ := lt_z h
  have a25 : ag fLay C C22 := ag_tr a22 (by rw [e24]; exact ag_wrI (by unfold fLay; omega))
  by_cases c26 : p1 = 0
  · replace h := it_t c26 h
    exact ag_tr a25 (bl72 h)
  · replace h := it_f c26 h
    by_cases c27 : p1 = 2
    · replace h := it_t c27 h
      by_cases c28 : p2 = 0
      · replace h := it_t c28 h
        exact ag_tr a25 (bl71 h)
      · replace h := it_f c28 h
        exact ag_tr a25 (bl67 h)
    · replace h := it_f c27 h
      exact ag_tr a25 (bl67 h)
theorem gl_X11_holds {n : Nat} {C : Mm} {C0 : Mm} (h : fX11_holds n C = some C0) : ag fLay C C0 := by
  unfold fX11_holds at h
  obtain ⟨x1, e1, h⟩ := lt_z h
  obtain ⟨r3, q2, h⟩ := bn_x h
  obtain ⟨C5, e3, h⟩ := lt_z h
  have a4 : ag fLay C C5 := ag_tr ag_rf (by rw [e3]; exact ag_wrI (by unfold fLay; omega))
  obtain ⟨C6, e5, h⟩ := lt_z h
  have a6 : ag fLay C C6 := ag_tr a4 (by rw [e5]; exact ag_wrI (by unfold fLay; omega))
  obtain ⟨C8, q7, h⟩ := bn_x h
  have a8 : ag fLay C C8 := ag_tr a6 (gl_X11_acts q7)
  rw [← Option.some.inj h]
  exact a8
theorem gl_X11_lookAndAdd {n : Nat} {p1 : Int32} {p2 : Int32} {p3 : Int32} {p4 : Int32} {p5 : Int32} {C : Mm} {r0 : Int32} {C0 : Mm} (h : fX11_lookAndAdd n p1 p2 p3 p4 p5 C = some (r0, C0)) : ag fLay C C0 := by
  have bl35 : ∀ {y3 : Int32} {y4 : Int32} {y5 : Int32} {y6 : Int32} {s0 : Int32} {s1 : Int32} {s2 : Int32} {C : Mm} (_ : fX11_lookAndAdd_b35 n y3 y4 y5 y6 s0 s1 s2 C = some (r0, C0)), ag fLay C C0 := by
    intro y3 y4 y5 y6 s0 s1 s2 C h
    unfold fX11_lookAndAdd_b35 at h
    obtain ⟨r2, q1, h⟩ := bn_x h
    obtain ⟨r5, q2, h⟩ := bn_x h
    obtain ⟨C8, q3, h⟩ := bn_x h
    have a4 : ag fLay C C8 := ag_tr ag_rf (gl_X11_acts q3)
    by_cases c5 : y4 = 0
    · replace h := it_t c5 h
      obtain ⟨C10, e6, h⟩ := lt_z h
      have a7 : ag fLay C C10 := ag_tr a4 (by rw [e6]; exact ag_wrI (by unfold fLay; omega))
      obtain ⟨C12, q8, h⟩ := bn_x h
      have a9 : ag fLay C C12 := ag_tr a7 (gl_X11_acts q8)
      rw [← pr_2 h]
      exact a9
    · replace h := it_f c5 h
      rw [← pr_2 h]
      exact a4
  have bl21 : ∀ {y1 : Int32} {y2 : Int32} {y3 : Int32} {y4 : Int32} {y5 : Int32} {y6 : Int32} {C : Mm} (_ : fX11_lookAndAdd_b21 n y1 y2 y3 y4 y5 y6 C = some (r0, C0)), ag fLay C C0 := by
    intro y1 y2 y3 y4 y5 y6 C h
    unfold fX11_lookAndAdd_b21 at h
    by_cases c10 : y2 ≤ y1
    · replace h := it_t c10 h
      exact ag_tr ag_rf (bl35 h)
    · replace h := it_f c10 h
      exact ag_tr ag_rf (bl35 h)
  unfold fX11_lookAndAdd at h
  obtain ⟨r15, q11, h⟩ := bn_x h
  obtain ⟨x17, e12, h⟩ := lt_z h
  by_cases c13 : p4 = 0
  · replace h := it_t c13 h
    exact ag_tr ag_rf (bl21 h)
  · replace h := it_f c13 h
    obtain ⟨C19, e14, h⟩ := lt_z h
    have a15 : ag fLay C C19 := ag_tr ag_rf (by rw [e14]; exact ag_wrI (by unfold fLay; omega))
    exact ag_tr a15 (bl21 h)
theorem gl_X11_goLeft {n : Nat} {p1 : Int32} {p2 : Int32} {C : Mm} {C0 : Mm} (h : fX11_goLeft n p1 p2 C = some C0) : ag fLay C C0 := by
  have bl70 : ∀ {k10 : Int32 → Int32 → Int32 → Int32 → Mm → Option Mm} (hk10 : ∀ {y1 : Int32} {y2 : Int32} {y3 : Int32} {y4 : Int32} {C : Mm} (_ : k10 y1 y2 y3 y4 C = some C0), ag fLay C C0) {k23 : Int32 → Int32 → Int32 → Int32 → Int32 → Mm → Option Mm} (hk23 : ∀ {y1 : Int32} {y2 : Int32} {y3 : Int32} {y4 : Int32} {y5 : Int32} {C : Mm} (_ : k23 y1 y2 y3 y4 y5 C = some C0), ag fLay C C0), ∀ {y1 : Int32} {y2 : Int32} {y3 : Int32} {y4 : Int32} {y5 : Int32} {C : Mm} (_ : fX11_goLeft_b70 n k10 k23 y1 y2 y3 y4 y5 C = some C0), ag fLay C C0 := by
    intro k10 hk10 k23 hk23 y1 y2 y3 y4 y5 C h
    unfold fX11_goLeft_b70 at h
    obtain ⟨x1, e1, h⟩ := lt_z h
    exact ag_tr ag_rf (hk23 h)
  have bl23 : ∀ {k10 : Int32 → Int32 → Int32 → Int32 → Mm → Option Mm} (hk10 : ∀ {y1 : Int32} {y2 : Int32} {y3 : Int32} {y4 : Int32} {C : Mm} (_ : k10 y1 y2 y3 y4 C = some C0), ag fLay C C0) (fu : Nat), ∀ {y1 : Int32} {y2 : Int32} {y3 : Int32} {y4 : Int32} {y5 : Int32} {C : Mm} (_ : fX11_goLeft_h23 n k10 fu y1 y2 y3 y4 y5 C = some C0), ag fLay C C0 := by
    intro k10 hk10
    intro fu
    induction fu with
    | zero =>
      intro y1 y2 y3 y4 y5 C h
      rw [fX11_goLeft_h23.eq_1] at h
      cases h
    | succ fu ih =>
      intro y1 y2 y3 y4 y5 C h
      rw [fX11_goLeft_h23.eq_2] at h
      by_cases c2 : y5 < 0
      · replace h := it_t c2 h
        obtain ⟨x3, e3, h⟩ := lt_z h
        exact ag_tr ag_rf (hk10 h)
      · replace h := it_f c2 h
        obtain ⟨r5, q4, h⟩ := bn_x h
        by_cases c5 : r5 ≤ 0
        · replace h := it_t c5 h
          exact ag_tr ag_rf (bl70 hk10 ih h)
        · replace h := it_f c5 h
          obtain ⟨r9, q6, h⟩ := bn_x h
          by_cases c7 : r9 ≤ 0
          · replace h := it_t c7 h
            exact ag_tr ag_rf (bl70 hk10 ih h)
          · replace h := it_f c7 h
            obtain ⟨r13, q8, h⟩ := bn_x h
            obtain ⟨r16, q9, h⟩ := bn_x h
            obtain ⟨r19, C20, q10, h⟩ := bp_x h
            have a11 : ag fLay C C20 := ag_tr ag_rf (gl_X11_lookAndAdd q10)
            exact ag_tr a11 (bl70 hk10 ih h)
  have bl10 : ∀ (fu : Nat), ∀ {y1 : Int32} {y2 : Int32} {y3 : Int32} {y4 : Int32} {C : Mm} (_ : fX11_goLeft_h10 n fu y1 y2 y3 y4 C = some C0), ag fLay C C0 := by
    intro fu
    induction fu with
    | zero =>
      intro y1 y2 y3 y4 C h
      rw [fX11_goLeft_h10.eq_1] at h
      cases h
    | succ fu ih =>
      intro y1 y2 y3 y4 C h
      rw [fX11_goLeft_h10.eq_2] at h
      by_cases c12 : y4 < 0
      · replace h := it_t c12 h
        rw [← Option.some.inj h]
        exact ag_rf
      · replace h := it_f c12 h
        obtain ⟨r24, q13, h⟩ := bn_x h
        obtain ⟨x26, e14, h⟩ := lt_z h
        exact ag_tr ag_rf (bl23 ih _ h)
  unfold fX11_goLeft at h
  obtain ⟨r28, q15, h⟩ := bn_x h
  obtain ⟨x30, e16, h⟩ := lt_z h
  exact ag_tr ag_rf (bl10 _ h)
theorem gl_X11_goRight {n : Nat} {p1 : Int32} {p2 : Int32} {C : Mm} {C0 : Mm} (h : fX11_goRight n p1 p2 C = some C0) : ag fLay C C0 := by
  have bl98 : ∀ (fu : Nat), ∀ {y3 : Int32} {y4 : Int32} {C : Mm} (_ : fX11_goRight_h98 n fu y3 y4 C = some C0), ag fLay C C0 := by
    intro fu
    induction fu with
    | zero =>
      intro y3 y4 C h
      rw [fX11_goRight_h98.eq_1] at h
      cases h
    | succ fu ih =>
      intro y3 y4 C h
      rw [fX11_goRight_h98.eq_2] at h
      by_cases c1 : y3 ≤ y4
      · replace h := it_t c1 h
        rw [← Option.some.inj h]
        exact ag_rf
      · replace h := it_f c1 h
        by_cases c2 : y4 < (0 : Int32) ∨ 4 ≤ Int32.toNatClampNeg y4
        · cases it_t c2 h
        replace h := it_f c2 h
        obtain ⟨C3, e3, h⟩ := lt_z h
        have a4 : ag fLay C C3 := ag_tr ag_rf (by rw [e3]; exact ag_wrI (by unfold fLay; omega))
        by_cases c5 : y4 < (0 : Int32) ∨ 4 ≤ Int32.toNatClampNeg y4
        · cases it_t c5 h
        replace h := it_f c5 h
        obtain ⟨r6, q6, h⟩ := bn_x h
        obtain ⟨C8, e7, h⟩ := lt_z h
        have a8 : ag fLay C C8 := ag_tr a4 (by rw [e7]; exact ag_wrI (by unfold fLay; omega))
        obtain ⟨C10, q9, h⟩ := bn_x h
        have a10 : ag fLay C C10 := ag_tr a8 (gl_X11_acts q9)
        obtain ⟨x11, e11, h⟩ := lt_z h
        exact ag_tr a10 (ih h)
  have bl57 : ∀ {k5 : Int32 → Int32 → Int32 → Int32 → Mm → Option Mm} (hk5 : ∀ {y1 : Int32} {y2 : Int32} {y3 : Int32} {y4 : Int32} {C : Mm} (_ : k5 y1 y2 y3 y4 C = some C0), ag fLay C C0), ∀ {y1 : Int32} {y2 : Int32} {y3 : Int32} {y4 : Int32} {C : Mm} (_ : fX11_goRight_b57 n k5 y1 y2 y3 y4 C = some C0), ag fLay C C0 := by
    intro k5 hk5 y1 y2 y3 y4 C h
    unfold fX11_goRight_b57 at h
    obtain ⟨x12, e12, h⟩ := lt_z h
    exact ag_tr ag_rf (hk5 h)
  have bl5 : ∀ (fu : Nat), ∀ {y1 : Int32} {y2 : Int32} {y3 : Int32} {y4 : Int32} {C : Mm} (_ : fX11_goRight_h5 n fu y1 y2 y3 y4 C = some C0), ag fLay C C0 := by
    intro fu
    induction fu with
    | zero =>
      intro y1 y2 y3 y4 C h
      rw [fX11_goRight_h5.eq_1] at h
      cases h
    | succ fu ih =>
      intro y1 y2 y3 y4 C h
      rw [fX11_goRight_h5.eq_2] at h
      obtain ⟨r14, q13, h⟩ := bn_x h
      by_cases c14 : r14 ≤ y4
      · replace h := it_t c14 h
        by_cases c15 : 2 ≤ y3
        · replace h := it_t c15 h
          by_cases c16 : 0 < (0 : Int32) ∨ 4 ≤ Int32.toNatClampNeg 0
          · cases it_t c16 h
          replace h := it_f c16 h
          obtain ⟨C19, e17, h⟩ := lt_z h
          have a18 : ag fLay C C19 := ag_tr ag_rf (by rw [e17]; exact ag_wrI (by unfold fLay; omega))
          obtain ⟨r21, q19, h⟩ := bn_x h
          obtain ⟨C23, e20, h⟩ := lt_z h
          have a21 : ag fLay C C23 := ag_tr a18 (by rw [e20]; exact ag_wrI (by unfold fLay; omega))
          exact ag_tr a21 (bl98 _ h)
        · replace h := it_f c15 h
          rw [← Option.some.inj h]
          exact ag_rf
      · replace h := it_f c14 h
        obtain ⟨r25, q22, h⟩ := bn_x h
        by_cases c23 : r25 ≤ 0
        · replace h := it_t c23 h
          exact ag_tr ag_rf (bl57 ih h)
        · replace h := it_f c23 h
          obtain ⟨r29, q24, h⟩ := bn_x h
          obtain ⟨r32, q25, h⟩ := bn_x h
          obtain ⟨C35, q26, h⟩ := bn_x h
          have a27 : ag fLay C C35 := ag_tr ag_rf (gl_X11_goLeft q26)
          by_cases c28 : y3 < (0 : Int32) ∨ 4 ≤ Int32.toNatClampNeg y3
          · cases it_t c28 h
          replace h := it_f c28 h
          obtain ⟨C37, e29, h⟩ := lt_z h
          have a30 : ag fLay C C37 := ag_tr a27 (by rw [e29]; exact ag_wrI (by unfold fLay; omega))
          obtain ⟨x38, e31, h⟩ := lt_z h
          obtain ⟨C40, q32, h⟩ := bn_x h
          have a33 : ag fLay C C40 := ag_tr a30 (gl_X11_holds q32)
          exact ag_tr a33 (bl57 ih h)
  unfold fX11_goRight at h
  exact ag_tr ag_rf (bl5 _ h)
theorem gl_X11_goCrossed {n : Nat} {p1 : Int32} {p2 : Int32} {C : Mm} {C0 : Mm} (h : fX11_goCrossed n p1 p2 C = some C0) : ag fLay C C0 := by
  have bl166 : ∀ {k5 : Int32 → Int32 → Int32 → Int32 → Mm → Option Mm} (hk5 : ∀ {y1 : Int32} {y2 : Int32} {y3 : Int32} {y4 : Int32} {C : Mm} (_ : k5 y1 y2 y3 y4 C = some C0), ag fLay C C0) {k24 : Int32 → Int32 → Int32 → Int32 → Int32 → Mm → Option Mm} (hk24 : ∀ {y1 : Int32} {y2 : Int32} {y3 : Int32} {y4 : Int32} {y5 : Int32} {C : Mm} (_ : k24 y1 y2 y3 y4 y5 C = some C0), ag fLay C C0), ∀ {y1 : Int32} {y2 : Int32} {y3 : Int32} {y4 : Int32} {y5 : Int32} {C : Mm} (_ : fX11_goCrossed_b166 n k5 k24 y1 y2 y3 y4 y5 C = some C0), ag fLay C C0 := by
    intro k5 hk5 k24 hk24 y1 y2 y3 y4 y5 C h
    unfold fX11_goCrossed_b166 at h
    obtain ⟨x1, e1, h⟩ := lt_z h
    exact ag_tr ag_rf (hk24 h)
  have bl164 : ∀ {k5 : Int32 → Int32 → Int32 → Int32 → Mm → Option Mm} (hk5 : ∀ {y1 : Int32} {y2 : Int32} {y3 : Int32} {y4 : Int32} {C : Mm} (_ : k5 y1 y2 y3 y4 C = some C0), ag fLay C C0) {k24 : Int32 → Int32 → Int32 → Int32 → Int32 → Mm → Option Mm} (hk24 : ∀ {y1 : Int32} {y2 : Int32} {y3 : Int32} {y4 : Int32} {y5 : Int32} {C : Mm} (_ : k24 y1 y2 y3 y4 y5 C = some C0), ag fLay C C0), ∀ {y1 : Int32} {y2 : Int32} {y4 : Int32} {y5 : Int32} {C : Mm} (_ : fX11_goCrossed_b164 n k5 k24 y1 y2 y4 y5 C = some C0), ag fLay C C0 := by
    intro k5 hk5 k24 hk24 y1 y2 y4 y5 C h
    unfold fX11_goCrossed_b164 at h
    exact ag_tr ag_rf (bl166 hk5 hk24 h)
  have bl121 : ∀ {k5 : Int32 → Int32 → Int32 → Int32 → Mm → Option Mm} (hk5 : ∀ {y1 : Int32} {y2 : Int32} {y3 : Int32} {y4 : Int32} {C : Mm} (_ : k5 y1 y2 y3 y4 C = some C0), ag fLay C C0) {k24 : Int32 → Int32 → Int32 → Int32 → Int32 → Mm → Option Mm} (hk24 : ∀ {y1 : Int32} {y2 : Int32} {y3 : Int32} {y4 : Int32} {y5 : Int32} {C : Mm} (_ : k24 y1 y2 y3 y4 y5 C = some C0), ag fLay C C0), ∀ {y1 : Int32} {y2 : Int32} {y3 : Int32} {y4 : Int32} {y5 : Int32} {y6 : Int32} {y7 : Int32} {C : Mm} (_ : fX11_goCrossed_b121 n k5 k24 y1 y2 y3 y4 y5 y6 y7 C = some C0), ag fLay C C0 := by
    intro k5 hk5 k24 hk24 y1 y2 y3 y4 y5 y6 y7 C h
    unfold fX11_goCrossed_b121 at h
    obtain ⟨r3, q2, h⟩ := bn_x h
    obtain ⟨C6, q3, h⟩ := bn_x h
    have a4 : ag fLay C C6 := ag_tr ag_rf (gl_X11_acts q3)
    by_cases c5 : y3 = 0
    · replace h := it_t c5 h
      obtain ⟨C8, e6, h⟩ := lt_z h
      have a7 : ag fLay C C8 := ag_tr a4 (by rw [e6]; exact ag_wrI (by unfold fLay; omega))
      obtain ⟨C10, q8, h⟩ := bn_x h
      have a9 : ag fLay C C10 := ag_tr a7 (gl_X11_acts q8)
      exact ag_tr a9 (bl164 hk5 hk24 h)
    · replace h := it_f c5 h
      exact ag_tr a4 (bl164 hk5 hk24 h)
  have bl109 : ∀ {k5 : Int32 → Int32 → Int32 → Int32 → Mm → Option Mm} (hk5 : ∀ {y1 : Int32} {y2 : Int32} {y3 : Int32} {y4 : Int32} {C : Mm} (_ : k5 y1 y2 y3 y4 C = some C0), ag fLay C C0) {k24 : Int32 → Int32 → Int32 → Int32 → Int32 → Mm → Option Mm} (hk24 : ∀ {y1 : Int32} {y2 : Int32} {y3 : Int32} {y4 : Int32} {y5 : Int32} {C : Mm} (_ : k24 y1 y2 y3 y4 y5 C = some C0), ag fLay C C0), ∀ {y1 : Int32} {y2 : Int32} {y3 : Int32} {y4 : Int32} {y5 : Int32} {y6 : Int32} {s0 : Int32} {C : Mm} (_ : fX11_goCrossed_b109 n k5 k24 y1 y2 y3 y4 y5 y6 s0 C = some C0), ag fLay C C0 := by
    intro k5 hk5 k24 hk24 y1 y2 y3 y4 y5 y6 s0 C h
    unfold fX11_goCrossed_b109 at h
    by_cases c10 : y3 = 0
    · replace h := it_t c10 h
      exact ag_tr ag_rf (bl121 hk5 hk24 h)
    · replace h := it_f c10 h
      obtain ⟨C12, e11, h⟩ := lt_z h
      have a12 : ag fLay C C12 := ag_tr ag_rf (by rw [e11]; exact ag_wrI (by unfold fLay; omega))
      exact ag_tr a12 (bl121 hk5 hk24 h)
  have bl24 : ∀ {k5 : Int32 → Int32 → Int32 → Int32 → Mm → Option Mm} (hk5 : ∀ {y1 : Int32} {y2 : Int32} {y3 : Int32} {y4 : Int32} {C : Mm} (_ : k5 y1 y2 y3 y4 C = some C0), ag fLay C C0) (fu : Nat), ∀ {y1 : Int32} {y2 : Int32} {y3 : Int32} {y4 : Int32} {y5 : Int32} {C : Mm} (_ : fX11_goCrossed_h24 n k5 fu y1 y2 y3 y4 y5 C = some C0), ag fLay C C0 := by
    intro k5 hk5
    intro fu
    induction fu with
    | zero =>
      intro y1 y2 y3 y4 y5 C h
      rw [fX11_goCrossed_h24.eq_1] at h
      cases h
    | succ fu ih =>
      intro y1 y2 y3 y4 y5 C h
      rw [fX11_goCrossed_h24.eq_2] at h
      by_cases c13 : y4 < y5
      · replace h := it_t c13 h
        obtain ⟨x14, e14, h⟩ := lt_z h
        obtain ⟨C15, e15, h⟩ := lt_z h
        have a16 : ag fLay C C15 := ag_tr ag_rf (by rw [e15]; exact ag_wrI (by unfold fLay; omega))
        obtain ⟨C16, e17, h⟩ := lt_z h
        have a18 : ag fLay C C16 := ag_tr a16 (by rw [e17]; exact ag_wrI (by unfold fLay; omega))
        obtain ⟨C18, q19, h⟩ := bn_x h
        have a20 : ag fLay C C18 := ag_tr a18 (gl_X11_acts q19)
        obtain ⟨x19, e21, h⟩ := lt_z h
        exact ag_tr a20 (hk5 h)
      · replace h := it_f c13 h
        obtain ⟨r21, q22, h⟩ := bn_x h
        by_cases c23 : r21 = 0
        · replace h := it_t c23 h
          exact ag_tr ag_rf (bl166 hk5 ih h)
        · replace h := it_f c23 h
          obtain ⟨r25, q24, h⟩ := bn_x h
          by_cases c25 : r25 = 0
          · replace h := it_t c25 h
            exact ag_tr ag_rf (bl166 hk5 ih h)
          · replace h := it_f c25 h
            obtain ⟨r29, q26, h⟩ := bn_x h
            obtain ⟨r32, q27, h⟩ := bn_x h
            obtain ⟨x34, e28, h⟩ := lt_z h
            obtain ⟨r36, q29, h⟩ := bn_x h
            obtain ⟨r39, q30, h⟩ := bn_x h
            by_cases c31 : r39 ≤ r36
            · replace h := it_t c31 h
              obtain ⟨r43, q32, h⟩ := bn_x h
              exact ag_tr ag_rf (bl109 hk5 ih h)
            · replace h := it_f c31 h
              obtain ⟨r46, q33, h⟩ := bn_x h
              exact ag_tr ag_rf (bl109 hk5 ih h)
  have bl5 : ∀ (fu : Nat), ∀ {y1 : Int32} {y2 : Int32} {y3 : Int32} {y4 : Int32} {C : Mm} (_ : fX11_goCrossed_h5 n fu y1 y2 y3 y4 C = some C0), ag fLay C C0 := by
    intro fu
    induction fu with
    | zero =>
      intro y1 y2 y3 y4 C h
      rw [fX11_goCrossed_h5.eq_1] at h
      cases h
    | succ fu ih =>
      intro y1 y2 y3 y4 C h
      rw [fX11_goCrossed_h5.eq_2] at h
      obtain ⟨r49, q34, h⟩ := bn_x h
      obtain ⟨r52, q35, h⟩ := bn_x h
      by_cases c36 : ((r49 + r52) - 2) < y4
      · replace h := it_t c36 h
        rw [← Option.some.inj h]
        exact ag_rf
      · replace h := it_f c36 h
        exact ag_tr ag_rf (bl24 ih _ h)
  unfold fX11_goCrossed at h
  exact ag_tr ag_rf (bl5 _ h)
theorem gl_X11_goSquared {n : Nat} {p1 : Int32} {p2 : Int32} {C : Mm} {r0 : Int32} {C0 : Mm} (h : fX11_goSquared n p1 p2 C = some (r0, C0)) : ag fLay C C0 := by
  unfold fX11_goSquared at h
  by_cases c1 : (irm (p1 + p2) 2) = 1
  · replace h := it_t c1 h
    rw [← pr_2 h]
    exact ag_rf
  · replace h := it_f c1 h
    obtain ⟨x2, e2, h⟩ := lt_z h
    obtain ⟨x5, e3, h⟩ := lt_z h
    obtain ⟨C7, q4, h⟩ := bn_x h
    have a5 : ag fLay C C7 := ag_tr ag_rf (gl_X11_goLeft q4)
    obtain ⟨C9, q6, h⟩ := bn_x h
    have a7 : ag fLay C C9 := ag_tr a5 (gl_X11_holds q6)
    obtain ⟨C11, q8, h⟩ := bn_x h
    have a9 : ag fLay C C11 := ag_tr a7 (gl_X11_goLeft q8)
    obtain ⟨C12, e10, h⟩ := lt_z h
    have a11 : ag fLay C C12 := ag_tr a9 (by rw [e10]; exact ag_wrI (by unfold fLay; omega))
    obtain ⟨C13, e12, h⟩ := lt_z h
    have a13 : ag fLay C C13 := ag_tr a11 (by rw [e12]; exact ag_wrI (by unfold fLay; omega))
    obtain ⟨C15, q14, h⟩ := bn_x h
    have a15 : ag fLay C C15 := ag_tr a13 (gl_X11_acts q14)
    rw [← pr_2 h]
    exact a15
theorem gl_X11_goSplit {n : Nat} {p1 : Int32} {p2 : Int32} {C : Mm} {r0 : Int32} {C0 : Mm} (h : fX11_goSplit n p1 p2 C = some (r0, C0)) : ag fLay C C0 := by
  have bl45 : ∀ {k5 : Int32 → Int32 → Int32 → Mm → Option (Int32 × Mm)} (hk5 : ∀ {y1 : Int32} {y2 : Int32} {y3 : Int32} {C : Mm} (_ : k5 y1 y2 y3 C = some (r0, C0)), ag fLay C C0), ∀ {y1 : Int32} {y2 : Int32} {y3 : Int32} {C : Mm} (_ : fX11_goSplit_b45 n k5 y1 y2 y3 C = some (r0, C0)), ag fLay C C0 := by
    intro k5 hk5 y1 y2 y3 C h
    unfold fX11_goSplit_b45 at h
    obtain ⟨x1, e1, h⟩ := lt_z h
    exact ag_tr ag_rf (hk5 h)
  have bl5 : ∀ (fu : Nat), ∀ {y1 : Int32} {y2 : Int32} {y3 : Int32} {C : Mm} (_ : fX11_goSplit_h5 n fu y1 y2 y3 C = some (r0, C0)), ag fLay C C0 := by
    intro fu
    induction fu with
    | zero =>
      intro y1 y2 y3 C h
      rw [fX11_goSplit_h5.eq_1] at h
      cases h
    | succ fu ih =>
      intro y1 y2 y3 C h
      rw [fX11_goSplit_h5.eq_2] at h
      by_cases c2 : y3 < 2
      · replace h := it_t c2 h
        rw [← pr_2 h]
        exact ag_rf
      · replace h := it_f c2 h
        by_cases c3 : y3 = 0
        · cases it_t c3 h
        replace h := it_f c3 h
        by_cases c4 : (irm y2 y3) = 0
        · replace h := it_t c4 h
          by_cases c5 : y3 = 0
          · cases it_t c5 h
          replace h := it_f c5 h
          by_cases c6 : (y2 / y3) ≤ 1
          · replace h := it_t c6 h
            exact ag_tr ag_rf (bl45 ih h)
          · replace h := it_f c6 h
            obtain ⟨C8, q7, h⟩ := bn_x h
            have a8 : ag fLay C C8 := ag_tr ag_rf (gl_X11_goLeft q7)
            obtain ⟨C10, q9, h⟩ := bn_x h
            have a10 : ag fLay C C10 := ag_tr a8 (gl_X11_holds q9)
            by_cases c11 : y3 = 0
            · cases it_t c11 h
            replace h := it_f c11 h
            obtain ⟨C13, q12, h⟩ := bn_x h
            have a13 : ag fLay C C13 := ag_tr a10 (gl_X11_goLeft q12)
            rw [← pr_2 h]
            exact a13
        · replace h := it_f c4 h
          exact ag_tr ag_rf (bl45 ih h)
  unfold fX11_goSplit at h
  obtain ⟨x14, e14, h⟩ := lt_z h
  exact ag_tr ag_rf (bl5 _ h)
theorem gl_X11_layOut {n : Nat} {p1 : Int32} {p2 : Int32} {p3 : Int32} {p4 : Int32} {C : Mm} {r0 : Int32} {C0 : Mm} (h : fX11_layOut n p1 p2 p3 p4 C = some (r0, C0)) : ag fLay C C0 := by
  have bl138 : ∀ {s0 : Int32} {s1 : Int32} {s2 : Int32} {C : Mm} (_ : fX11_layOut_b138 n s0 s1 s2 C = some (r0, C0)), ag fLay C C0 := by
    intro s0 s1 s2 C h
    unfold fX11_layOut_b138 at h
    obtain ⟨C2, q1, h⟩ := bn_x h
    have a2 : ag fLay C C2 := ag_tr ag_rf (gl_X11_acts q1)
    rw [← pr_2 h]
    exact a2
  have bl26 : ∀ {y2 : Int32} {y3 : Int32} {s0 : Int32} {C : Mm} (_ : fX11_layOut_b26 n y2 y3 s0 C = some (r0, C0)), ag fLay C C0 := by
    intro y2 y3 s0 C h
    unfold fX11_layOut_b26 at h
    obtain ⟨C3, e3, h⟩ := lt_z h
    have a4 : ag fLay C C3 := ag_tr ag_rf (by rw [e3]; exact ag_wrI (by unfold fLay; omega))
    obtain ⟨C4, e5, h⟩ := lt_z h
    have a6 : ag fLay C C4 := ag_tr a4 (by rw [e5]; exact ag_wrI (by unfold fLay; omega))
    obtain ⟨C5, e7, h⟩ := lt_z h
    have a8 : ag fLay C C5 := ag_tr a6 (by rw [e7]; exact ag_wrI (by unfold fLay; omega))
    obtain ⟨C6, e9, h⟩ := lt_z h
    have a10 : ag fLay C C6 := ag_tr a8 (by rw [e9]; exact ag_wrI (by unfold fLay; omega))
    obtain ⟨x7, e11, h⟩ := lt_z h
    obtain ⟨x8, e12, h⟩ := lt_z h
    by_cases c13 : y2 = 0
    · replace h := it_t c13 h
      obtain ⟨r11, q14, h⟩ := bn_x h
      by_cases c15 : r11 = 0
      · replace h := it_t c15 h
        rw [← pr_2 h]
        exact a10
      · replace h := it_f c15 h
        obtain ⟨C14, e16, h⟩ := lt_z h
        have a17 : ag fLay C C14 := ag_tr a10 (by rw [e16]; exact ag_wrI (by unfold fLay; omega))
        by_cases c18 : x8 ≤ x7
        · replace h := it_t c18 h
          exact ag_tr a17 (bl138 h)
        · replace h := it_f c18 h
          exact ag_tr a17 (bl138 h)
    · replace h := it_f c13 h
      by_cases c19 : y2 = 1
      · replace h := it_t c19 h
        obtain ⟨C18, q20, h⟩ := bn_x h
        have a21 : ag fLay C C18 := ag_tr a10 (gl_X11_goLeft q20)
        rw [← pr_2 h]
        exact a21
      · replace h := it_f c19 h
        by_cases c22 : y2 = 2
        · replace h := it_t c22 h
          obtain ⟨C21, q23, h⟩ := bn_x h
          have a24 : ag fLay C C21 := ag_tr a10 (gl_X11_goRight q23)
          rw [← pr_2 h]
          exact a24
        · replace h := it_f c22 h
          by_cases c25 : y2 = 3
          · replace h := it_t c25 h
            obtain ⟨C24, q26, h⟩ := bn_x h
            have a27 : ag fLay C C24 := ag_tr a10 (gl_X11_goCrossed q26)
            rw [← pr_2 h]
            exact a27
          · replace h := it_f c25 h
            by_cases c28 : y2 = 4
            · replace h := it_t c28 h
              obtain ⟨r27, C28, q29, h⟩ := bp_x h
              have a30 : ag fLay C C28 := ag_tr a10 (gl_X11_goSquared q29)
              rw [← pr_2 h]
              exact a30
            · replace h := it_f c28 h
              by_cases c31 : y2 = 5
              · replace h := it_t c31 h
                obtain ⟨r32, C33, q32, h⟩ := bp_x h
                have a33 : ag fLay C C33 := ag_tr a10 (gl_X11_goSplit q32)
                rw [← pr_2 h]
                exact a33
              · replace h := it_f c31 h
                obtain ⟨C36, q34, h⟩ := bn_x h
                have a35 : ag fLay C C36 := ag_tr a10 (gl_X11_goRight q34)
                rw [← pr_2 h]
                exact a35
  unfold fX11_layOut at h
  obtain ⟨C37, e36, h⟩ := lt_z h
  have a37 : ag fLay C C37 := ag_tr ag_rf (by rw [e36]; exact ag_wrI (by unfold fLay; omega))
  by_cases c38 : p4 ≤ 0
  · replace h := it_t c38 h
    by_cases c39 : ((5 * p1) + 3) < (0 : Int32) ∨ 30 ≤ Int32.toNatClampNeg ((5 * p1) + 3)
    · cases it_t c39 h
    replace h := it_f c39 h
    exact ag_tr a37 (bl26 h)
  · replace h := it_f c38 h
    exact ag_tr a37 (bl26 h)
def fWrk (q i : Nat) : Prop := (q = 72 ∧ 10 ≤ i ∧ i ≤ 14)
theorem gw_X11_wrong {C : Mm} {r0 : Int32} {C0 : Mm} (h : fX11_wrong C = some (r0, C0)) : ag fWrk C C0 := by
  have bl19 : ∀ {s0 : Int32} {C : Mm} (_ : fX11_wrong_b19 s0 C = some (r0, C0)), ag fWrk C C0 := by
    intro s0 C h
    unfold fX11_wrong_b19 at h
    obtain ⟨C1, e1, h⟩ := lt_z h
    have a2 : ag fWrk C C1 := ag_tr ag_rf (by rw [e1]; exact ag_wrI (by unfold fWrk; omega))
    rw [← pr_2 h]
    exact a2
  unfold fX11_wrong at h
  by_cases c3 : 0 ≤ (C.1 72 13)
  · replace h := it_t c3 h
    exact ag_tr ag_rf (bl19 h)
  · replace h := it_f c3 h
    exact ag_tr ag_rf (bl19 h)
theorem gw_X11_takes {p1 : Int32} {C : Mm} {r0 : Int32} {C0 : Mm} (h : fX11_takes p1 C = some (r0, C0)) : ag fWrk C C0 := by
  unfold fX11_takes at h
  by_cases c1 : 0 ≤ (C.1 72 13)
  · replace h := it_t c1 h
    rw [← pr_2 h]
    exact ag_rf
  · replace h := it_f c1 h
    obtain ⟨r3, q2, h⟩ := bn_x h
    by_cases c3 : r3 = p1
    · replace h := it_t c3 h
      obtain ⟨C6, e4, h⟩ := lt_z h
      have a5 : ag fWrk C C6 := ag_tr ag_rf (by rw [e4]; exact ag_wrI (by unfold fWrk; omega))
      rw [← pr_2 h]
      exact a5
    · replace h := it_f c3 h
      rw [← pr_2 h]
      exact ag_rf
theorem gw_X11_product {n : Nat} {z : Mm → Option (Int32 × Mm)} (hz : ∀ {C : Mm} {r0 : Int32} {C0 : Mm} (_ : z C = some (r0, C0)), ag fWrk C C0) {C : Mm} {r0 : Int32} {C0 : Mm} (h : fX11_product n z C = some (r0, C0)) : ag fWrk C C0 := by
  have bl85 : ∀ {k10 : Int32 → Int32 → Mm → Option (Int32 × Mm)} (hk10 : ∀ {y1 : Int32} {y2 : Int32} {C : Mm} (_ : k10 y1 y2 C = some (r0, C0)), ag fWrk C C0), ∀ {s0 : Int32} {C : Mm} (_ : fX11_product_b85 n z k10 s0 C = some (r0, C0)), ag fWrk C C0 := by
    intro k10 hk10 s0 C h
    unfold fX11_product_b85 at h
    obtain ⟨r2, q1, h⟩ := bn_x h
    exact ag_tr ag_rf (hk10 h)
  have bl35 : ∀ {k10 : Int32 → Int32 → Mm → Option (Int32 × Mm)} (hk10 : ∀ {y1 : Int32} {y2 : Int32} {C : Mm} (_ : k10 y1 y2 C = some (r0, C0)), ag fWrk C C0), ∀ {y1 : Int32} {y2 : Int32} {C : Mm} (_ : fX11_product_b35 n z k10 y1 y2 C = some (r0, C0)), ag fWrk C C0 := by
    intro k10 hk10 y1 y2 C h
    unfold fX11_product_b35 at h
    obtain ⟨C4, e2, h⟩ := lt_z h
    have a3 : ag fWrk C C4 := ag_tr ag_rf (by rw [e2]; exact ag_wrI (by unfold fWrk; omega))
    obtain ⟨r6, C7, q4, h⟩ := bp_x h
    have a5 : ag fWrk C C7 := ag_tr a3 (hz q4)
    by_cases c6 : y2 = 42
    · replace h := it_t c6 h
      exact ag_tr a5 (bl85 hk10 h)
    · replace h := it_f c6 h
      by_cases c7 : r6 = 0
      · replace h := it_t c7 h
        exact ag_tr a5 (bl85 hk10 h)
      · replace h := it_f c7 h
        by_cases c8 : y2 = 47
        · replace h := it_t c8 h
          by_cases c9 : r6 = 0
          · cases it_t c9 h
          replace h := it_f c9 h
          exact ag_tr a5 (bl85 hk10 h)
        · replace h := it_f c8 h
          by_cases c10 : r6 = 0
          · cases it_t c10 h
          replace h := it_f c10 h
          exact ag_tr a5 (bl85 hk10 h)
  have bl10 : ∀ (fu : Nat), ∀ {y1 : Int32} {y2 : Int32} {C : Mm} (_ : fX11_product_h10 n z fu y1 y2 C = some (r0, C0)), ag fWrk C C0 := by
    intro fu
    induction fu with
    | zero =>
      intro y1 y2 C h
      rw [fX11_product_h10.eq_1] at h
      cases h
    | succ fu ih =>
      intro y1 y2 C h
      rw [fX11_product_h10.eq_2] at h
      by_cases c11 : 0 ≤ (C.1 72 13)
      · replace h := it_t c11 h
        rw [← pr_2 h]
        exact ag_rf
      · replace h := it_f c11 h
        by_cases c12 : y2 = 42
        · replace h := it_t c12 h
          exact ag_tr ag_rf (bl35 ih h)
        · replace h := it_f c12 h
          by_cases c13 : y2 = 47
          · replace h := it_t c13 h
            exact ag_tr ag_rf (bl35 ih h)
          · replace h := it_f c13 h
            by_cases c14 : y2 = 37
            · replace h := it_t c14 h
              exact ag_tr ag_rf (bl35 ih h)
            · replace h := it_f c14 h
              rw [← pr_2 h]
              exact ag_rf
  unfold fX11_product at h
  obtain ⟨r19, C20, q15, h⟩ := bp_x h
  have a16 : ag fWrk C C20 := ag_tr ag_rf (hz q15)
  obtain ⟨r23, q17, h⟩ := bn_x h
  exact ag_tr a16 (bl10 _ h)
theorem gw_X11_sums {n : Nat} {z : Mm → Option (Int32 × Mm)} (hz : ∀ {C : Mm} {r0 : Int32} {C0 : Mm} (_ : z C = some (r0, C0)), ag fWrk C C0) {C : Mm} {r0 : Int32} {C0 : Mm} (h : fX11_sums n z C = some (r0, C0)) : ag fWrk C C0 := by
  have bl73 : ∀ {k5 : Int32 → Mm → Option (Int32 × Mm)} (hk5 : ∀ {y1 : Int32} {C : Mm} (_ : k5 y1 C = some (r0, C0)), ag fWrk C C0), ∀ {s0 : Int32} {C : Mm} (_ : fX11_sums_b73 n z k5 s0 C = some (r0, C0)), ag fWrk C C0 := by
    intro k5 hk5 s0 C h
    unfold fX11_sums_b73 at h
    exact ag_tr ag_rf (hk5 h)
  have bl44 : ∀ {k5 : Int32 → Mm → Option (Int32 × Mm)} (hk5 : ∀ {y1 : Int32} {C : Mm} (_ : k5 y1 C = some (r0, C0)), ag fWrk C C0), ∀ {y1 : Int32} {s0 : Int32} {C : Mm} (_ : fX11_sums_b44 n z k5 y1 s0 C = some (r0, C0)), ag fWrk C C0 := by
    intro k5 hk5 y1 s0 C h
    unfold fX11_sums_b44 at h
    obtain ⟨C1, e1, h⟩ := lt_z h
    have a2 : ag fWrk C C1 := ag_tr ag_rf (by rw [e1]; exact ag_wrI (by unfold fWrk; omega))
    obtain ⟨r3, C4, q3, h⟩ := bp_x h
    have a4 : ag fWrk C C4 := ag_tr a2 (gw_X11_product hz q3)
    by_cases c5 : s0 = 0
    · replace h := it_t c5 h
      exact ag_tr a4 (bl73 hk5 h)
    · replace h := it_f c5 h
      exact ag_tr a4 (bl73 hk5 h)
  have bl30 : ∀ {k5 : Int32 → Mm → Option (Int32 × Mm)} (hk5 : ∀ {y1 : Int32} {C : Mm} (_ : k5 y1 C = some (r0, C0)), ag fWrk C C0), ∀ {y1 : Int32} {C : Mm} (_ : fX11_sums_b30 n z k5 y1 C = some (r0, C0)), ag fWrk C C0 := by
    intro k5 hk5 y1 C h
    unfold fX11_sums_b30 at h
    obtain ⟨r8, q6, h⟩ := bn_x h
    by_cases c7 : r8 = 43
    · replace h := it_t c7 h
      exact ag_tr ag_rf (bl44 hk5 h)
    · replace h := it_f c7 h
      exact ag_tr ag_rf (bl44 hk5 h)
  have bl5 : ∀ (fu : Nat), ∀ {y1 : Int32} {C : Mm} (_ : fX11_sums_h5 n z fu y1 C = some (r0, C0)), ag fWrk C C0 := by
    intro fu
    induction fu with
    | zero =>
      intro y1 C h
      rw [fX11_sums_h5.eq_1] at h
      cases h
    | succ fu ih =>
      intro y1 C h
      rw [fX11_sums_h5.eq_2] at h
      by_cases c8 : 0 ≤ (C.1 72 13)
      · replace h := it_t c8 h
        rw [← pr_2 h]
        exact ag_rf
      · replace h := it_f c8 h
        obtain ⟨r13, q9, h⟩ := bn_x h
        by_cases c10 : r13 = 43
        · replace h := it_t c10 h
          exact ag_tr ag_rf (bl30 ih h)
        · replace h := it_f c10 h
          obtain ⟨r17, q11, h⟩ := bn_x h
          by_cases c12 : r17 = 45
          · replace h := it_t c12 h
            exact ag_tr ag_rf (bl30 ih h)
          · replace h := it_f c12 h
            rw [← pr_2 h]
            exact ag_rf
  unfold fX11_sums at h
  obtain ⟨r21, C22, q13, h⟩ := bp_x h
  have a14 : ag fWrk C C22 := ag_tr ag_rf (gw_X11_product hz q13)
  exact ag_tr a14 (bl5 _ h)
theorem gw_X11_compared {n : Nat} {z : Mm → Option (Int32 × Mm)} (hz : ∀ {C : Mm} {r0 : Int32} {C0 : Mm} (_ : z C = some (r0, C0)), ag fWrk C C0) {C : Mm} {r0 : Int32} {C0 : Mm} (h : fX11_compared n z C = some (r0, C0)) : ag fWrk C C0 := by
  have bl37 : ∀ {y1 : Int32} {y2 : Int32} {C : Mm} (_ : fX11_compared_b37 n z y1 y2 C = some (r0, C0)), ag fWrk C C0 := by
    intro y1 y2 C h
    unfold fX11_compared_b37 at h
    obtain ⟨C1, e1, h⟩ := lt_z h
    have a2 : ag fWrk C C1 := ag_tr ag_rf (by rw [e1]; exact ag_wrI (by unfold fWrk; omega))
    obtain ⟨r3, C4, q3, h⟩ := bp_x h
    have a4 : ag fWrk C C4 := ag_tr a2 (gw_X11_sums hz q3)
    by_cases c5 : y2 = 60
    · replace h := it_t c5 h
      by_cases c6 : r3 ≤ y1
      · replace h := it_t c6 h
        rw [← pr_2 h]
        exact a4
      · replace h := it_f c6 h
        rw [← pr_2 h]
        exact a4
    · replace h := it_f c5 h
      by_cases c7 : y2 = 61
      · replace h := it_t c7 h
        by_cases c8 : y1 = r3
        · replace h := it_t c8 h
          rw [← pr_2 h]
          exact a4
        · replace h := it_f c8 h
          rw [← pr_2 h]
          exact a4
      · replace h := it_f c7 h
        by_cases c9 : y1 ≤ r3
        · replace h := it_t c9 h
          rw [← pr_2 h]
          exact a4
        · replace h := it_f c9 h
          rw [← pr_2 h]
          exact a4
  unfold fX11_compared at h
  obtain ⟨r12, C13, q10, h⟩ := bp_x h
  have a11 : ag fWrk C C13 := ag_tr ag_rf (gw_X11_sums hz q10)
  obtain ⟨r16, q12, h⟩ := bn_x h
  by_cases c13 : 0 ≤ (C13.1 72 13)
  · replace h := it_t c13 h
    rw [← pr_2 h]
    exact a11
  · replace h := it_f c13 h
    by_cases c14 : r16 = 60
    · replace h := it_t c14 h
      exact ag_tr a11 (bl37 h)
    · replace h := it_f c14 h
      by_cases c15 : r16 = 61
      · replace h := it_t c15 h
        exact ag_tr a11 (bl37 h)
      · replace h := it_f c15 h
        by_cases c16 : r16 = 62
        · replace h := it_t c16 h
          exact ag_tr a11 (bl37 h)
        · replace h := it_f c16 h
          rw [← pr_2 h]
          exact a11
theorem gw_X11_both {n : Nat} {z : Mm → Option (Int32 × Mm)} (hz : ∀ {C : Mm} {r0 : Int32} {C0 : Mm} (_ : z C = some (r0, C0)), ag fWrk C C0) {C : Mm} {r0 : Int32} {C0 : Mm} (h : fX11_both n z C = some (r0, C0)) : ag fWrk C C0 := by
  have bl32 : ∀ {k5 : Int32 → Mm → Option (Int32 × Mm)} (hk5 : ∀ {y1 : Int32} {C : Mm} (_ : k5 y1 C = some (r0, C0)), ag fWrk C C0), ∀ {s0 : Int32} {C : Mm} (_ : fX11_both_b32 n z k5 s0 C = some (r0, C0)), ag fWrk C C0 := by
    intro k5 hk5 s0 C h
    unfold fX11_both_b32 at h
    exact ag_tr ag_rf (hk5 h)
  have bl31 : ∀ {k5 : Int32 → Mm → Option (Int32 × Mm)} (hk5 : ∀ {y1 : Int32} {C : Mm} (_ : k5 y1 C = some (r0, C0)), ag fWrk C C0), ∀ {C : Mm} (_ : fX11_both_b31 n z k5 C = some (r0, C0)), ag fWrk C C0 := by
    intro k5 hk5 C h
    unfold fX11_both_b31 at h
    exact ag_tr ag_rf (bl32 hk5 h)
  have bl5 : ∀ (fu : Nat), ∀ {y1 : Int32} {C : Mm} (_ : fX11_both_h5 n z fu y1 C = some (r0, C0)), ag fWrk C C0 := by
    intro fu
    induction fu with
    | zero =>
      intro y1 C h
      rw [fX11_both_h5.eq_1] at h
      cases h
    | succ fu ih =>
      intro y1 C h
      rw [fX11_both_h5.eq_2] at h
      obtain ⟨r2, C3, q1, h⟩ := bp_x h
      have a2 : ag fWrk C C3 := ag_tr ag_rf (gw_X11_takes q1)
      by_cases c3 : r2 = 0
      · replace h := it_t c3 h
        rw [← pr_2 h]
        exact a2
      · replace h := it_f c3 h
        obtain ⟨r7, C8, q4, h⟩ := bp_x h
        have a5 : ag fWrk C C8 := ag_tr a2 (gw_X11_compared hz q4)
        by_cases c6 : y1 = 0
        · replace h := it_t c6 h
          exact ag_tr a5 (bl31 ih h)
        · replace h := it_f c6 h
          by_cases c7 : r7 = 0
          · replace h := it_t c7 h
            exact ag_tr a5 (bl31 ih h)
          · replace h := it_f c7 h
            exact ag_tr a5 (bl32 ih h)
  unfold fX11_both at h
  obtain ⟨r13, C14, q8, h⟩ := bp_x h
  have a9 : ag fWrk C C14 := ag_tr ag_rf (gw_X11_compared hz q8)
  exact ag_tr a9 (bl5 _ h)
theorem gw_X11_either {n : Nat} {z : Mm → Option (Int32 × Mm)} (hz : ∀ {C : Mm} {r0 : Int32} {C0 : Mm} (_ : z C = some (r0, C0)), ag fWrk C C0) {C : Mm} {r0 : Int32} {C0 : Mm} (h : fX11_either n z C = some (r0, C0)) : ag fWrk C C0 := by
  have bl32 : ∀ {k5 : Int32 → Mm → Option (Int32 × Mm)} (hk5 : ∀ {y1 : Int32} {C : Mm} (_ : k5 y1 C = some (r0, C0)), ag fWrk C C0), ∀ {s0 : Int32} {C : Mm} (_ : fX11_either_b32 n z k5 s0 C = some (r0, C0)), ag fWrk C C0 := by
    intro k5 hk5 s0 C h
    unfold fX11_either_b32 at h
    exact ag_tr ag_rf (hk5 h)
  have bl27 : ∀ {k5 : Int32 → Mm → Option (Int32 × Mm)} (hk5 : ∀ {y1 : Int32} {C : Mm} (_ : k5 y1 C = some (r0, C0)), ag fWrk C C0), ∀ {C : Mm} (_ : fX11_either_b27 n z k5 C = some (r0, C0)), ag fWrk C C0 := by
    intro k5 hk5 C h
    unfold fX11_either_b27 at h
    exact ag_tr ag_rf (bl32 hk5 h)
  have bl5 : ∀ (fu : Nat), ∀ {y1 : Int32} {C : Mm} (_ : fX11_either_h5 n z fu y1 C = some (r0, C0)), ag fWrk C C0 := by
    intro fu
    induction fu with
    | zero =>
      intro y1 C h
      rw [fX11_either_h5.eq_1] at h
      cases h
    | succ fu ih =>
      intro y1 C h
      rw [fX11_either_h5.eq_2] at h
      obtain ⟨r2, C3, q1, h⟩ := bp_x h
      have a2 : ag fWrk C C3 := ag_tr ag_rf (gw_X11_takes q1)
      by_cases c3 : r2 = 0
      · replace h := it_t c3 h
        rw [← pr_2 h]
        exact a2
      · replace h := it_f c3 h
        obtain ⟨r7, C8, q4, h⟩ := bp_x h
        have a5 : ag fWrk C C8 := ag_tr a2 (gw_X11_both hz q4)
        by_cases c6 : y1 = 0
        · replace h := it_t c6 h
          by_cases c7 : r7 = 0
          · replace h := it_t c7 h
            exact ag_tr a5 (bl32 ih h)
          · replace h := it_f c7 h
            exact ag_tr a5 (bl27 ih h)
        · replace h := it_f c6 h
          exact ag_tr a5 (bl27 ih h)
  unfold fX11_either at h
  obtain ⟨r13, C14, q8, h⟩ := bp_x h
  have a9 : ag fWrk C C14 := ag_tr ag_rf (gw_X11_both hz q8)
  exact ag_tr a9 (bl5 _ h)
theorem gw_X11_one_w {n : Nat} {z : Mm → Option (Int32 × Mm)} (hz : ∀ {C : Mm} {r0 : Int32} {C0 : Mm} (_ : z C = some (r0, C0)), ag fWrk C C0) {C : Mm} {r0 : Int32} {C0 : Mm} (h : fX11_one_w n z C = some (r0, C0)) : ag fWrk C C0 := by
  have bl229 : ∀ {y3 : Int32} {y4 : Int32} {C : Mm} (_ : fX11_one_b229 n z y3 y4 C = some (r0, C0)), ag fWrk C C0 := by
    intro y3 y4 C h
    unfold fX11_one_b229 at h
    by_cases c1 : y4 = 0
    · replace h := it_t c1 h
      obtain ⟨r3, C4, q2, h⟩ := bp_x h
      have a3 : ag fWrk C C4 := ag_tr ag_rf (gw_X11_wrong q2)
      rw [← pr_2 h]
      exact a3
    · replace h := it_f c1 h
      rw [← pr_2 h]
      exact ag_rf
  have bl176 : ∀ (fu : Nat), ∀ {y3 : Int32} {y4 : Int32} {C : Mm} (_ : fX11_one_h176 n z fu y3 y4 C = some (r0, C0)), ag fWrk C C0 := by
    intro fu
    induction fu with
    | zero =>
      intro y3 y4 C h
      rw [fX11_one_h176.eq_1] at h
      cases h
    | succ fu ih =>
      intro y3 y4 C h
      rw [fX11_one_h176.eq_2] at h
      by_cases c4 : 4 ≤ y4
      · replace h := it_t c4 h
        exact ag_tr ag_rf (bl229 h)
      · replace h := it_f c4 h
        obtain ⟨r8, q5, h⟩ := bn_x h
        by_cases c6 : r8 < 48
        · replace h := it_t c6 h
          exact ag_tr ag_rf (bl229 h)
        · replace h := it_f c6 h
          obtain ⟨r12, q7, h⟩ := bn_x h
          by_cases c8 : 57 < r12
          · replace h := it_t c8 h
            exact ag_tr ag_rf (bl229 h)
          · replace h := it_f c8 h
            obtain ⟨r16, q9, h⟩ := bn_x h
            obtain ⟨x18, e10, h⟩ := lt_z h
            obtain ⟨x19, e11, h⟩ := lt_z h
            obtain ⟨C20, e12, h⟩ := lt_z h
            have a13 : ag fWrk C C20 := ag_tr ag_rf (by rw [e12]; exact ag_wrI (by unfold fWrk; omega))
            exact ag_tr a13 (ih h)
  have bl104 : ∀ {y1 : Int32} {y2 : Int32} {C : Mm} (_ : fX11_one_b104 n z y1 y2 C = some (r0, C0)), ag fWrk C C0 := by
    intro y1 y2 C h
    unfold fX11_one_b104 at h
    obtain ⟨C21, e14, h⟩ := lt_z h
    have a15 : ag fWrk C C21 := ag_tr ag_rf (by rw [e14]; exact ag_wrI (by unfold fWrk; omega))
    by_cases c16 : y1 = 40
    · replace h := it_t c16 h
      rw [← pr_2 h]
      exact a15
    · replace h := it_f c16 h
      by_cases c17 : y1 = 45
      · replace h := it_t c17 h
        rw [← pr_2 h]
        exact a15
      · replace h := it_f c17 h
        by_cases c18 : y2 = 0
        · replace h := it_t c18 h
          rw [← pr_2 h]
          exact a15
        · replace h := it_f c18 h
          rw [← pr_2 h]
          exact a15
  have bl83 : ∀ {y1 : Int32} {s0 : Int32} {C : Mm} (_ : fX11_one_b83 n z y1 s0 C = some (r0, C0)), ag fWrk C C0 := by
    intro y1 s0 C h
    unfold fX11_one_b83 at h
    by_cases c19 : y1 = 40
    · replace h := it_t c19 h
      obtain ⟨r27, C28, q20, h⟩ := bp_x h
      have a21 : ag fWrk C C28 := ag_tr ag_rf (gw_X11_takes q20)
      by_cases c22 : r27 = 0
      · replace h := it_t c22 h
        obtain ⟨r32, C33, q23, h⟩ := bp_x h
        have a24 : ag fWrk C C33 := ag_tr a21 (gw_X11_wrong q23)
        rw [← pr_2 h]
        exact a24
      · replace h := it_f c22 h
        exact ag_tr a21 (bl104 h)
    · replace h := it_f c19 h
      exact ag_tr ag_rf (bl104 h)
  have bl32 : ∀ {y1 : Int32} {C : Mm} (_ : fX11_one_b32 n z y1 C = some (r0, C0)), ag fWrk C C0 := by
    intro y1 C h
    unfold fX11_one_b32 at h
    by_cases c25 : (C.1 72 14) = 6
    · replace h := it_t c25 h
      obtain ⟨r48, C49, q26, h⟩ := bp_x h
      have a27 : ag fWrk C C49 := ag_tr ag_rf (gw_X11_wrong q26)
      rw [← pr_2 h]
      exact a27
    · replace h := it_f c25 h
      obtain ⟨C36, e28, h⟩ := lt_z h
      have a29 : ag fWrk C C36 := ag_tr ag_rf (by rw [e28]; exact ag_wrI (by unfold fWrk; omega))
      obtain ⟨C37, e30, h⟩ := lt_z h
      have a31 : ag fWrk C C37 := ag_tr a29 (by rw [e30]; exact ag_wrI (by unfold fWrk; omega))
      by_cases c32 : y1 = 40
      · replace h := it_t c32 h
        obtain ⟨r44, C45, q33, h⟩ := bp_x h
        have a34 : ag fWrk C C45 := ag_tr a31 (gw_X11_either hz q33)
        exact ag_tr a34 (bl83 h)
      · replace h := it_f c32 h
        obtain ⟨r40, C41, q35, h⟩ := bp_x h
        have a36 : ag fWrk C C41 := ag_tr a31 (hz q35)
        exact ag_tr a36 (bl83 h)
  unfold fX11_one_w at h
  by_cases c37 : (C.1 72 13) < 0
  · replace h := it_t c37 h
    obtain ⟨r53, q38, h⟩ := bn_x h
    by_cases c39 : r53 = 33
    · replace h := it_t c39 h
      exact ag_tr ag_rf (bl32 h)
    · replace h := it_f c39 h
      by_cases c40 : r53 = 45
      · replace h := it_t c40 h
        exact ag_tr ag_rf (bl32 h)
      · replace h := it_f c40 h
        by_cases c41 : r53 = 40
        · replace h := it_t c41 h
          exact ag_tr ag_rf (bl32 h)
        · replace h := it_f c41 h
          obtain ⟨x60, e42, h⟩ := lt_z h
          by_cases c43 : x60 < 0
          · replace h := it_t c43 h
            exact ag_tr ag_rf (bl176 _ h)
          · replace h := it_f c43 h
            obtain ⟨C62, e44, h⟩ := lt_z h
            have a45 : ag fWrk C C62 := ag_tr ag_rf (by rw [e44]; exact ag_wrI (by unfold fWrk; omega))
            by_cases c46 : x60 < (0 : Int32) ∨ 8 ≤ Int32.toNatClampNeg x60
            · cases it_t c46 h
            replace h := it_f c46 h
            rw [← pr_2 h]
            exact a45
  · replace h := it_f c37 h
    rw [← pr_2 h]
    exact ag_rf
theorem gw_X11_one {n : Nat} : ∀ (d : Nat), ∀ {C : Mm} {r0 : Int32} {C0 : Mm} (_ : fX11_one n d C = some (r0, C0)), ag fWrk C C0 := by
  intro d
  induction d with
  | zero =>
    intro C r0 C0 h
    rw [fX11_one.eq_1] at h
    cases h
  | succ d ih =>
    intro C r0 C0 h
    rw [fX11_one.eq_2] at h
    exact gw_X11_one_w ih h
theorem gw_X11_workOut {n : Nat} {p1 : Int32} {p2 : Int32} {C : Mm} {r0 : Int32} {C0 : Mm} (h : fX11_workOut n p1 p2 C = some (r0, C0)) : ag fWrk C C0 := by
  have bl96 : ∀ {k33 : Int32 → Int32 → Int32 → Mm → Option (Int32 × Mm)} (hk33 : ∀ {y3 : Int32} {y4 : Int32} {y5 : Int32} {C : Mm} (_ : k33 y3 y4 y5 C = some (r0, C0)), ag fWrk C C0), ∀ {y3 : Int32} {y4 : Int32} {C : Mm} (_ : fX11_workOut_b96 n k33 y3 y4 C = some (r0, C0)), ag fWrk C C0 := by
    intro k33 hk33 y3 y4 C h
    unfold fX11_workOut_b96 at h
    obtain ⟨r2, C3, q1, h⟩ := bp_x h
    have a2 : ag fWrk C C3 := ag_tr ag_rf (gw_X11_takes q1)
    exact ag_tr a2 (hk33 h)
  have bl74 : ∀ {k33 : Int32 → Int32 → Int32 → Mm → Option (Int32 × Mm)} (hk33 : ∀ {y3 : Int32} {y4 : Int32} {y5 : Int32} {C : Mm} (_ : k33 y3 y4 y5 C = some (r0, C0)), ag fWrk C C0), ∀ {y3 : Int32} {y4 : Int32} {y6 : Int32} {y7 : Int32} {C : Mm} (_ : fX11_workOut_b74 n k33 y3 y4 y6 y7 C = some (r0, C0)), ag fWrk C C0 := by
    intro k33 hk33 y3 y4 y6 y7 C h
    unfold fX11_workOut_b74 at h
    by_cases c3 : 0 ≤ (C.1 72 13)
    · replace h := it_t c3 h
      exact ag_tr ag_rf (bl96 hk33 h)
    · replace h := it_f c3 h
      by_cases c4 : y7 = 0
      · replace h := it_t c4 h
        exact ag_tr ag_rf (bl96 hk33 h)
      · replace h := it_f c4 h
        by_cases c5 : y3 = 0
        · replace h := it_t c5 h
          exact ag_tr ag_rf (bl96 hk33 h)
        · replace h := it_f c5 h
          exact ag_tr ag_rf (bl96 hk33 h)
  have bl66 : ∀ {k33 : Int32 → Int32 → Int32 → Mm → Option (Int32 × Mm)} (hk33 : ∀ {y3 : Int32} {y4 : Int32} {y5 : Int32} {C : Mm} (_ : k33 y3 y4 y5 C = some (r0, C0)), ag fWrk C C0), ∀ {y3 : Int32} {y4 : Int32} {s0 : Int32} {C : Mm} (_ : fX11_workOut_b66 n k33 y3 y4 s0 C = some (r0, C0)), ag fWrk C C0 := by
    intro k33 hk33 y3 y4 s0 C h
    unfold fX11_workOut_b66 at h
    obtain ⟨r9, C10, q6, h⟩ := bp_x h
    have a7 : ag fWrk C C10 := ag_tr ag_rf (gw_X11_either (gw_X11_one 12) q6)
    exact ag_tr a7 (bl74 hk33 h)
  have bl33 : ∀ (fu : Nat), ∀ {y3 : Int32} {y4 : Int32} {y5 : Int32} {C : Mm} (_ : fX11_workOut_h33 n fu y3 y4 y5 C = some (r0, C0)), ag fWrk C C0 := by
    intro fu
    induction fu with
    | zero =>
      intro y3 y4 y5 C h
      rw [fX11_workOut_h33.eq_1] at h
      cases h
    | succ fu ih =>
      intro y3 y4 y5 C h
      rw [fX11_workOut_h33.eq_2] at h
      by_cases c8 : y5 = 0
      · replace h := it_t c8 h
        by_cases c9 : 0 ≤ (C.1 72 13)
        · replace h := it_t c9 h
          rw [← pr_2 h]
          exact ag_rf
        · replace h := it_f c9 h
          by_cases c10 : (C.1 72 12) ≤ (C.1 72 11)
          · replace h := it_t c10 h
            rw [← pr_2 h]
            exact ag_rf
          · replace h := it_f c10 h
            obtain ⟨r16, C17, q11, h⟩ := bp_x h
            have a12 : ag fWrk C C17 := ag_tr ag_rf (gw_X11_wrong q11)
            rw [← pr_2 h]
            exact a12
      · replace h := it_f c8 h
        obtain ⟨r20, C21, q13, h⟩ := bp_x h
        have a14 : ag fWrk C C21 := ag_tr ag_rf (gw_X11_either (gw_X11_one 12) q13)
        obtain ⟨r24, C25, q15, h⟩ := bp_x h
        have a16 : ag fWrk C C25 := ag_tr a14 (gw_X11_takes q15)
        by_cases c17 : r24 = 0
        · replace h := it_t c17 h
          exact ag_tr a16 (bl74 ih h)
        · replace h := it_f c17 h
          by_cases c18 : r20 = 0
          · replace h := it_t c18 h
            exact ag_tr a16 (bl66 ih h)
          · replace h := it_f c18 h
            exact ag_tr a16 (bl66 ih h)
  unfold fX11_workOut at h
  obtain ⟨C29, e19, h⟩ := lt_z h
  have a20 : ag fWrk C C29 := ag_tr ag_rf (by rw [e19]; exact ag_wrI (by unfold fWrk; omega))
  obtain ⟨C30, e21, h⟩ := lt_z h
  have a22 : ag fWrk C C30 := ag_tr a20 (by rw [e21]; exact ag_wrI (by unfold fWrk; omega))
  obtain ⟨C31, e23, h⟩ := lt_z h
  have a24 : ag fWrk C C31 := ag_tr a22 (by rw [e23]; exact ag_wrI (by unfold fWrk; omega))
  obtain ⟨C32, e25, h⟩ := lt_z h
  have a26 : ag fWrk C C32 := ag_tr a24 (by rw [e25]; exact ag_wrI (by unfold fWrk; omega))
  obtain ⟨C33, e27, h⟩ := lt_z h
  have a28 : ag fWrk C C33 := ag_tr a26 (by rw [e27]; exact ag_wrI (by unfold fWrk; omega))
  exact ag_tr a28 (bl33 _ h)
